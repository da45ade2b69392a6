/-! the reference's readings of a day -/
section RK
variable {n m sh aw : Nat} {ki op fa K G T kw kn : Nat → Nat} {M : Nat → Option Nat}
theorem rk_w (h : ROK (n, m, sh, aw, ki, op, fa, K, G, T) kw kn M) {p : Nat} (hp : p < n) : kw p = DR (n, m, sh, aw, ki, op, fa, K, G, T) 24 p := h.1 p hp
theorem rk_n (h : ROK (n, m, sh, aw, ki, op, fa, K, G, T) kw kn M) {j p : Nat} (hj : j ≤ 24) (hp : p < n) : kn (7 * j + p) = DR (n, m, sh, aw, ki, op, fa, K, G, T) j p := h.2.1 j hj p hp
theorem rk_m (h : ROK (n, m, sh, aw, ki, op, fa, K, G, T) kw kn M) {j e : Nat} (hj : j < 24) (he : e < m) : M (6 * j + e) = DM (n, m, sh, aw, ki, op, fa, K, G, T) j e := h.2.2.1 j hj e he
theorem rk_lt (h : ROK (n, m, sh, aw, ki, op, fa, K, G, T) kw kn M) {j e v : Nat} (hj : j < 24) (he : e < m) (q : DM (n, m, sh, aw, ki, op, fa, K, G, T) j e = some v) : v < 2 ^ 31 := by
  have := h.2.2.2.2.2 _ v ((rk_m h hj he).trans q)
  omega
theorem rk_b (h : ROK (n, m, sh, aw, ki, op, fa, K, G, T) kw kn M) {j p : Nat} (hj : j ≤ 24) (hp : p < n) : DR (n, m, sh, aw, ki, op, fa, K, G, T) j p < 1024 := by
  rw [← rk_n h hj hp]
  exact h.2.2.2.2.1 _
theorem kbh_le (h : ROK (n, m, sh, aw, ki, op, fa, K, G, T) kw kn M) (hn : n ≤ 7) {j : Nat} (hj : j ≤ 24) : KBH (n, m, sh, aw, ki, op, fa, K, G, T) j ≤ 70 := by
  have h1 : KBH (n, m, sh, aw, ki, op, fa, K, G, T) j = sm (fun p => pcn (kn (7 * j + p))) n := sm_c (fun p hp => by rw [rk_n h hj hp])
  rw [h1]
  have h2 : sm (fun p => pcn (kn (7 * j + p))) n ≤ n * 10 := sm_le (fun p => pcn_k 10 _ (h.2.2.2.2.1 _)) n
  omega
end RK
theorem kbh_24 {s : SG} : KBH s 24 = ALL s := rfl
theorem ob_n {x : Option Nat} {p : Nat} (h : x.isSome = false) : (x == some p) = false := by
  cases x with
  | none => rfl
  | some _ => cases h
def SAY (s : SG) (p h : Nat) : Nat := orn (fun d => if (DM s h d == some p) = true then 2 ^ g_T s d else 0) (g_m s)
theorem qh_eq {s : SG} {h : Nat} : pcn (SPK s h &&& KS s 3) = ctn (fun d => decide (g_K s d = 3) && (DM s h d).isSome) (g_m s) := by
  have e : SPK s h &&& KS s 3 < 2 ^ g_m s := and_ltl (mkn_lt _ _)
  rw [pcn_ctn (g_m s) _ e]
  refine ctn_c (fun d hd => ?_)
  rw [Nat.testBit_and]
  unfold SPK KS
  rw [mkn_bit, mkn_bit, decide_eq_true hd, Bool.true_and, Bool.true_and, Bool.and_comm]
def QHC (s : SG) (h : Nat) : Nat := ctn (fun d => decide (g_K s d = 3) && (DM s h d).isSome) (g_m s)
theorem quah_e {s : SG} : QUAH s = ctn (fun h => decide (1 < QHC s h)) 24 := ctn_c (fun h _ => by
  rw [qh_eq]
  rfl)
theorem tlr_o {r : Nat → Nat} {n s t z : Nat} (h : n ≤ z) : tlr r n s t z = r z := if_neg (fun q => by omega)
theorem hsd_o {n od h : Nat} {F K G T r : Nat → Nat} {z : Nat} (hz : n ≤ z) : ∀ d, (hsD n od h F K G T r d).2.2 z = r z
  | 0 => rfl
  | d + 1 => by
    have ih := hsd_o (od := od) (h := h) (F := F) (K := K) (G := G) (T := T) (r := r) hz d
    show (stD n od h F K G T r d _).2.2 z = _
    unfold stD
    split
    · exact ih
    · dsimp only
      rw [tlr_o hz]
      exact ih
theorem dr_o {n m sh aw : Nat} {ki op fa K G T : Nat → Nat} {z : Nat} (hz : n ≤ z) : ∀ j, drD n m sh aw ki op fa K G T j z = fa z
  | 0 => rfl
  | j + 1 => (hsd_o hz m).trans (dr_o hz j)
theorem pasr {n m sh aw : Nat} {ki op fa K G T kw kn : Nat → Nat} {M : Nat → Option Nat} (h : ROK (n, m, sh, aw, ki, op, fa, K, G, T) kw kn M) (hn : n ≤ 7) (hv : VZ 7 fa) : (fun z => if z < n then kw z else fa z) = PASF (n, m, sh, aw, ki, op, fa, K, G, T) := by
  funext z
  unfold PASF
  by_cases c : z < n
  · rw [if_pos c, if_pos (by omega), rk_w h c]
  · rw [if_neg c]
    by_cases c2 : z < 7
    · rw [if_pos c2]
      exact (dr_o (n := n) (show n ≤ z by omega) 24).symm
    · rw [if_neg c2]
      exact hv z (by omega)
theorem pasr_b {n m sh aw : Nat} {ki op fa K G T kw kn : Nat → Nat} {M : Nat → Option Nat} (h : ROK (n, m, sh, aw, ki, op, fa, K, G, T) kw kn M) (hf : ∀ z, fa z < 1024) : ∀ z, PASF (n, m, sh, aw, ki, op, fa, K, G, T) z < 1024 := by
  intro z
  unfold PASF
  split
  · by_cases c : z < n
    · exact rk_b h (Nat.le_refl _) c
    · rw [show DR (n, m, sh, aw, ki, op, fa, K, G, T) 24 z = fa z from dr_o (n := n) (Nat.not_lt.mp c) 24]
      exact hf z
  · decide
theorem mkn_id {s : Nat} : ∀ {n : Nat}, s < 2 ^ n → mkn (fun p => Nat.testBit s p) n = s := by
  intro n h
  apply Nat.eq_of_testBit_eq
  intro i
  rw [mkn_bit]
  by_cases c : i < n
  · rw [decide_eq_true c, Bool.true_and]
  · rw [decide_eq_false c, Bool.false_and, Nat.testBit_lt_two_pow (Nat.lt_of_lt_of_le h (Nat.pow_le_pow_right (by decide) (by omega)))]
theorem shf_z {s n z : Nat} (h : s < 2 ^ n) (hz : n ≤ z) : shF s z = 0 := by
  unfold shF
  rw [Nat.testBit_lt_two_pow (Nat.lt_of_lt_of_le h (Nat.pow_le_pow_right (by decide) hz))]
  rfl
theorem shf_all {s sh n : Nat} {V : Nat → Nat} (hV : ∀ z, V z = if z < n then shF s z else shF sh z) (h1 : s < 2 ^ n) (h2 : sh < 2 ^ n) : V = shF s := by
  funext z
  rw [hV z]
  split
  · rfl
  · rw [shf_z h1 (by omega), shf_z h2 (by omega)]
theorem shb_s {sh p x : Nat} (h : x = mkn (fun p => Nat.testBit sh p) p) : x ||| shF sh p * 2 ^ p = mkn (fun p => Nat.testBit sh p) (p + 1) := by
  unfold shF
  cases c : Nat.testBit sh p with
  | true => rw [if_pos rfl, Nat.one_mul, mkn_1 (P := fun p => Nat.testBit sh p) c, h]
  | false => rw [if_neg (by decide), Nat.zero_mul, Nat.or_zero, mkn_0 (P := fun p => Nat.testBit sh p) c, h]
theorem shm_l {sh p : Nat} (hp : p < 7) : shF sh p * 2 ^ p < 2 ^ 32 := by
  have h1 := shf_l sh p
  have h2 : 2 ^ p ≤ 2 ^ 7 := Nat.pow_le_pow_right (by decide) (by omega)
  have h3 : shF sh p * 2 ^ p ≤ 1 * 2 ^ 7 := Nat.mul_le_mul h1 h2
  omega
theorem shf_sw {sh a b : Nat} : shF (if Nat.testBit sh a = Nat.testBit sh b then sh else sh ^^^ (2 ^ a ||| 2 ^ b)) = sw (shF sh) a b := by
  funext z
  unfold sw
  by_cases e : Nat.testBit sh a = Nat.testBit sh b
  · rw [if_pos e]
    have e2 : shF sh a = shF sh b := by unfold shF; rw [e]
    by_cases c1 : z = b
    · subst c1; rw [un_s, e2]
    · rw [un_n c1]
      by_cases c2 : z = a
      · subst c2; rw [un_s, e2]
      · rw [un_n c2]
  · rw [if_neg e]
    have key : ∀ q, Nat.testBit (sh ^^^ (2 ^ a ||| 2 ^ b)) q = (Nat.testBit sh q ^^ (decide (a = q) || decide (b = q))) := fun q => by rw [Nat.testBit_xor, Nat.testBit_or, Nat.testBit_two_pow, Nat.testBit_two_pow]
    by_cases c1 : z = b
    · subst c1
      rw [un_s]
      unfold shF
      rw [key, decide_eq_true (Eq.refl z), Bool.or_true]
      cases h1 : Nat.testBit sh a <;> cases h2 : Nat.testBit sh z <;> simp [h1, h2] at e ⊢
    · rw [un_n c1]
      by_cases c2 : z = a
      · subst c2
        rw [un_s]
        unfold shF
        rw [key, decide_eq_true (Eq.refl z), Bool.true_or]
        cases h1 : Nat.testBit sh z <;> cases h2 : Nat.testBit sh b <;> simp [h1, h2] at e ⊢
      · rw [un_n c2]
        unfold shF
        rw [key, decide_eq_false (fun q => c2 q.symm), decide_eq_false (fun q => c1 q.symm)]
        simp
theorem un_id {f : Nat → Nat} {p : Nat} : un f p (f p) = f := by
  funext z
  unfold un
  split
  · rename_i h; rw [h]
  · rfl
def HRV (o : Bool) (v f h : Nat) : Nat := if o = true then v ||| (2 ^ h - 2 ^ f) else andn v (2 ^ h - 2 ^ f)
theorem hrv_0 {o : Bool} {v f : Nat} : HRV o v f f = v := by
  unfold HRV
  rw [Nat.sub_self]
  split
  · exact Nat.or_zero v
  · unfold andn
    rw [Nat.and_zero, Nat.xor_zero]
theorem hr_s {f h : Nat} (hf : f ≤ h) (hh : h < 24) : (2 ^ h - 2 ^ f) ||| 2 ^ h = 2 ^ (h + 1) - 2 ^ f := by
  have g : ∀ k, k < 24 → ∀ x, x ≤ k → (2 ^ k - 2 ^ x) ||| 2 ^ k = 2 ^ (k + 1) - 2 ^ x := by decide +kernel
  exact g h hh f hf
theorem andn_andn {a b c : Nat} : andn (andn a b) c = andn a (b ||| c) := by
  apply Nat.eq_of_testBit_eq
  intro i
  rw [andn_bit, andn_bit, andn_bit, Nat.testBit_or]
  cases Nat.testBit a i <;> cases Nat.testBit b i <;> cases Nat.testBit c i <;> rfl
theorem hrv_t {v f h : Nat} (hf : f ≤ h) (hh : h < 24) : HRV true v f h ||| 2 ^ h = HRV true v f (h + 1) := by
  unfold HRV
  rw [if_pos rfl, if_pos rfl, Nat.or_assoc, hr_s hf hh]
theorem hrv_f {v f h : Nat} (hf : f ≤ h) (hh : h < 24) : andn (HRV false v f h) (2 ^ h) = HRV false v f (h + 1) := by
  unfold HRV
  rw [if_neg (by decide), if_neg (by decide), andn_andn, hr_s hf hh]
theorem ix_nn {n p : Nat} (h : IX n (nI p) = none) (hn : n ≤ 7) (hp : p < 2 ^ 31) : n ≤ p := by
  rcases Nat.lt_or_ge p n with c | c
  · rw [IX_nI (by omega) c] at h; cases h
  · exact c
theorem ix_ns {n p j : Nat} (h : nI p = nI j) (hj : j < n) (hn : n ≤ 7) (hp : p < 2 ^ 31) : p < n := by
  have := (nI_eq hp (show j < 2 ^ 31 by omega)).mp h
  omega
theorem dh_i (z : Int32) : DH z (z.toBitVec.toNat % 2 ^ 31 / 65536 % 24) := rfl

set_option maxRecDepth 100000 in
set_option maxHeartbeats 4000000 in
theorem c_X5_speakers__A (l : Launch) (D : va_G) (cI : ClassId) (r0 k1 k2 k3 k4 k6 k7 k8 k10 k12 k13 k14 k15 k16 k21 k22 k23 k24 k25 k30 k31 k33 : Nat) (n m aw ls ap sq pl tz rs : Nat) (bd pd tk : Bool) (kv : Value) (sd : Int32) (ki op fa K G T : Nat → Nat) (sh : Nat) (kw kn : Nat → Nat) (M : Nat → Option Nat) (h : Nat) (hn : n ≤ 7) (hm : m ≤ 6) (hR : ROK (n, m, sh, aw, ki, op, fa, K, G, T) kw kn M) (hh : h < 24) : CT l yX5_speakers cX5_speakers 6 (some .int) { frames := 0, cells := 0, slots := 0, locals := 0 } D cI [.ref r0, .int (-1), .int (nI h)] [(r0, .inr (5, [.int (nI n), .ref k1, .ref k2, .ref k3, .ref k4, .int (nI m), .ref k6, .ref k7, .ref k8, .int (nI 0), .ref k10, .int (nI aw), .ref k12, .ref k13, .ref k14, .ref k15, .ref k16, .int (nI ls), .int (nI ap), .int (bz bd), .int (nI sq), .ref k21, .ref k22, .ref k23, .ref k24, .ref k25, .int (bz pd), .int (nI pl), .int (bz tk), kv, .ref k30, .ref k31, .int (nI tz), .ref k33, .int (nI rs), .int sd])), (k14, .inl (cI, 144, .inl (mIf M)))] (fun zr zw => (zr = some (.int (nI (SPK (n, m, sh, aw, ki, op, fa, K, G, T) h))) ∧ zw = [(r0, .inr (5, [.int (nI n), .ref k1, .ref k2, .ref k3, .ref k4, .int (nI m), .ref k6, .ref k7, .ref k8, .int (nI 0), .ref k10, .int (nI aw), .ref k12, .ref k13, .ref k14, .ref k15, .ref k16, .int (nI ls), .int (nI ap), .int (bz bd), .int (nI sq), .ref k21, .ref k22, .ref k23, .ref k24, .ref k25, .int (bz pd), .int (nI pl), .int (bz tk), kv, .ref k30, .ref k31, .int (nI tz), .ref k33, .int (nI rs), .int sd])), (k14, .inl (cI, 144, .inl (mIf M)))])) := by
  refine CT_of RX5 rfl (by decide +kernel) (Nat.le_of_ble_eq_true rfl) (fun E hnE zC zT => ?_)
  have hA : ∀ q, (ev_s E).heap.size ≤ q → ev_A E q := fun q h => by rw [zT.2]; exact Or.inr h
  show VV E 0 0 0 [(0, .ref r0), (1, .int (-1)), (2, .int (nI h))] [] [(r0, .inr (5, [.int (nI n), .ref k1, .ref k2, .ref k3, .ref k4, .int (nI m), .ref k6, .ref k7, .ref k8, .int (nI 0), .ref k10, .int (nI aw), .ref k12, .ref k13, .ref k14, .ref k15, .ref k16, .int (nI ls), .int (nI ap), .int (bz bd), .int (nI sq), .ref k21, .ref k22, .ref k23, .ref k24, .ref k25, .int (bz pd), .int (nI pl), .int (bz tk), kv, .ref k30, .ref k31, .int (nI tz), .ref k33, .int (nI rs), .int sd])), (k14, .inl (cI, 144, .inl (mIf M)))]
  refine v_ic (v := (nI 0)) 1 zC dX5_speakers_0 (by decide +kernel) ?_
  refine v_is_n (lv2 := [(3, .int (nI 0)), (0, .ref r0), (1, .int (-1)), (2, .int (nI h))]) 2 zC dX5_speakers_1 (by rw [hnE]; decide) rfl ?_
  refine v_ic (v := (nI 0)) 3 zC dX5_speakers_2 (by decide +kernel) ?_
  refine v_is (lv2 := [(4, .int (nI 0)), (3, .int (nI 0)), (0, .ref r0), (1, .int (-1)), (2, .int (nI h))]) 5 zC dX5_speakers_3 (by rw [hnE]; decide) rfl ?_
  have lp5 : ∀ (mz : Nat) (x : Nat) (d : Nat), (x = mkn (fun d => (DM (n, m, sh, aw, ki, op, fa, K, G, T) h d).isSome) d) → (d ≤ m) → m - d = mz → VV E 0 0 5 [(4, .int (nI d)), (3, .int (nI x)), (0, .ref r0), (1, .int (-1)), (2, .int (nI h))] [] [(r0, .inr (5, [.int (nI n), .ref k1, .ref k2, .ref k3, .ref k4, .int (nI m), .ref k6, .ref k7, .ref k8, .int (nI 0), .ref k10, .int (nI aw), .ref k12, .ref k13, .ref k14, .ref k15, .ref k16, .int (nI ls), .int (nI ap), .int (bz bd), .int (nI sq), .ref k21, .ref k22, .ref k23, .ref k24, .ref k25, .int (bz pd), .int (nI pl), .int (bz tk), kv, .ref k30, .ref k31, .int (nI tz), .ref k33, .int (nI rs), .int sd])), (k14, .inl (cI, 144, .inl (mIf M)))] := by
    intro mz
    induction mz using Nat.strongRecOn with
    | _ mz ih5 =>
    intro x d hx hd hm5
    refine v_il 7 zC dX5_speakers_5 0 rfl ?_
    refine v_al_n 8 zC dX5_speakers_7 2 rfl ?_
    refine v_gf 11 0 zC dX5_speakers_8 gf_X5_84 rfl rfl ?_
    refine v_icmpn_ge 60 14 zC dX5_speakers_11 (fun h_1 => ?_) (fun h_1 => ?_)
    ·
      refine v_il_n 61 zC dX5_speakers_60 1 rfl ?_
      refine v_iret zC zT dX5_speakers_61  ?_
      exact ⟨sn (by rw [hx, show d = m by omega]; rfl), rfl⟩
    ·
      refine v_al_n 15 zC dX5_speakers_14 2 rfl ?_
      refine v_gf 18 0 zC dX5_speakers_15 gf_X5_40 rfl rfl ?_
      refine v_bp (v := (nI 6)) 20 zC dX5_speakers_18 (by decide +kernel) ?_
      refine v_il_n 21 zC dX5_speakers_20 4 rfl ?_
      refine v_imul (v := (nI (6 * h))) 22 zC dX5_speakers_21 (pk_mul _ _) ?_
      refine v_il 24 zC dX5_speakers_22 0 rfl ?_
      refine v_iadd (v := (nI ((6 * h) + d))) 25 zC dX5_speakers_24 (nI_add _ _) ?_
      refine v_ialn (v := (mI (DM (n, m, sh, aw, ki, op, fa, K, G, T) h d))) 26 1 zC dX5_speakers_25 rfl (by omega) (congrArg mI (rk_m hR (by omega) (by omega))) ?_
      refine v_is (lv2 := [(5, .int (mI (DM (n, m, sh, aw, ki, op, fa, K, G, T) h d))), (4, .int (nI d)), (3, .int (nI x)), (0, .ref r0), (1, .int (-1)), (2, .int (nI h))]) 28 zC dX5_speakers_26 (by rw [hnE]; decide) rfl ?_
      refine v_il_n 29 zC dX5_speakers_28 2 rfl ?_
      refine v_il 31 zC dX5_speakers_29 0 rfl ?_
      refine v_ifo_lt 51 34 zC dX5_speakers_31 (fun v e => rk_lt hR (by omega) (by omega) e) (fun h_2 => ?_) (fun h_2 => ?_)
      ·
        refine v_ic (v := (nI 0)) 52 zC dX5_speakers_51 (by decide +kernel) ?_
        refine v_ior (v := (nI x)) 53 zC dX5_speakers_52 (by rw [fa_or, Nat.or_zero]) ?_
        refine v_is_n (lv2 := [(3, .int (nI x)), (5, .int (mI (DM (n, m, sh, aw, ki, op, fa, K, G, T) h d))), (4, .int (nI d)), (0, .ref r0), (1, .int (-1)), (2, .int (nI h))]) 54 zC dX5_speakers_53 (by rw [hnE]; decide) rfl ?_
        refine v_inc (v := (nI (d + 1))) (lv2 := [(4, .int (nI (d + 1))), (3, .int (nI x)), (5, .int (mI (DM (n, m, sh, aw, ki, op, fa, K, G, T) h d))), (0, .ref r0), (1, .int (-1)), (2, .int (nI h))]) 57 zC dX5_speakers_54 (j := 2) rfl (nI_add _ 1) (by rw [hnE]; decide) rfl ?_
        refine v_goto 5 zC dX5_speakers_57 ?_
        refine v_lvs (lv2 := [(4, .int (nI (d + 1))), (3, .int (nI x)), (0, .ref r0), (1, .int (-1)), (2, .int (nI h))]) [0, 1, 3, 4, 5] rfl ?_
        exact ih5 _ (by omega) x (d + 1) (by first | exact (by rw [hx]; exact (mkn_1 (by first | assumption | simp [*])).symm) | exact (by rw [hx]; exact (mkn_0 (by first | assumption | simp [*])).symm)) (by first | omega | assumption | rfl | (simp only []; omega) | decide) rfl
      ·
        refine v_il_n 35 zC dX5_speakers_34 4 rfl ?_
        refine v_if_lt 44 38 zC dX5_speakers_35 (fun _ => ?_) (fun z => absurd (by decide +kernel) z)
        refine v_ic (v := (nI 1)) 45 zC dX5_speakers_44 (by decide +kernel) ?_
        refine v_il 47 zC dX5_speakers_45 1 rfl ?_
        refine v_ishl (v := (nI (2 ^ d))) 48 zC dX5_speakers_47 (b1n (by omega)) ?_
        refine v_goto 52 zC dX5_speakers_48 ?_
        refine v_ior (v := (nI (x ||| (2 ^ d)))) 53 zC dX5_speakers_52 (fa_or _ _) ?_
        refine v_is_n (lv2 := [(3, .int (nI (x ||| (2 ^ d)))), (5, .int (mI (DM (n, m, sh, aw, ki, op, fa, K, G, T) h d))), (4, .int (nI d)), (0, .ref r0), (1, .int (-1)), (2, .int (nI h))]) 54 zC dX5_speakers_53 (by rw [hnE]; decide) rfl ?_
        refine v_inc (v := (nI (d + 1))) (lv2 := [(4, .int (nI (d + 1))), (3, .int (nI (x ||| (2 ^ d)))), (5, .int (mI (DM (n, m, sh, aw, ki, op, fa, K, G, T) h d))), (0, .ref r0), (1, .int (-1)), (2, .int (nI h))]) 57 zC dX5_speakers_54 (j := 2) rfl (nI_add _ 1) (by rw [hnE]; decide) rfl ?_
        refine v_goto 5 zC dX5_speakers_57 ?_
        refine v_lvs (lv2 := [(4, .int (nI (d + 1))), (3, .int (nI (x ||| (2 ^ d)))), (0, .ref r0), (1, .int (-1)), (2, .int (nI h))]) [0, 1, 3, 4, 5] rfl ?_
        exact ih5 _ (by omega) (x ||| (2 ^ d)) (d + 1) (by first | exact (by rw [hx]; exact (mkn_1 (by first | assumption | simp [*])).symm) | exact (by rw [hx]; exact (mkn_0 (by first | assumption | simp [*])).symm)) (by first | omega | assumption | rfl | (simp only []; omega) | decide) rfl
  refine v_lvs (lv2 := [(4, .int (nI 0)), (3, .int (nI 0)), (0, .ref r0), (1, .int (-1)), (2, .int (nI h))]) [0, 1, 2, 3, 4] rfl ?_
  exact lp5 _ 0 0 rfl (by first | omega | assumption | rfl | (simp only []; omega) | decide) rfl
set_option maxRecDepth 100000 in
set_option maxHeartbeats 4000000 in
theorem c_X5_speakers__B (l : Launch) (D : va_G) (cI : ClassId) (r0 k1 k2 k3 k4 k6 k7 k8 k10 k12 k13 k14 k15 k16 k21 k22 k23 k24 k25 k30 k31 k33 : Nat) (n m aw ls ap sq pl tz rs : Nat) (bd pd tk : Bool) (kv : Value) (sd : Int32) (ki op fa K G T : Nat → Nat) (sh : Nat) (kw kn : Nat → Nat) (M : Nat → Option Nat) (p h : Nat) (hn : n ≤ 7) (hm : m ≤ 6) (hR : ROK (n, m, sh, aw, ki, op, fa, K, G, T) kw kn M) (hp : p < 7) (hh : h < 24) : CT l yX5_speakers cX5_speakers 6 (some .int) { frames := 0, cells := 0, slots := 0, locals := 0 } D cI [.ref r0, .int (nI p), .int (nI h)] [(r0, .inr (5, [.int (nI n), .ref k1, .ref k2, .ref k3, .ref k4, .int (nI m), .ref k6, .ref k7, .ref k8, .int (nI 0), .ref k10, .int (nI aw), .ref k12, .ref k13, .ref k14, .ref k15, .ref k16, .int (nI ls), .int (nI ap), .int (bz bd), .int (nI sq), .ref k21, .ref k22, .ref k23, .ref k24, .ref k25, .int (bz pd), .int (nI pl), .int (bz tk), kv, .ref k30, .ref k31, .int (nI tz), .ref k33, .int (nI rs), .int sd])), (k14, .inl (cI, 144, .inl (mIf M)))] (fun zr zw => (zr = some (.int (nI (SPT (n, m, sh, aw, ki, op, fa, K, G, T) p h))) ∧ zw = [(r0, .inr (5, [.int (nI n), .ref k1, .ref k2, .ref k3, .ref k4, .int (nI m), .ref k6, .ref k7, .ref k8, .int (nI 0), .ref k10, .int (nI aw), .ref k12, .ref k13, .ref k14, .ref k15, .ref k16, .int (nI ls), .int (nI ap), .int (bz bd), .int (nI sq), .ref k21, .ref k22, .ref k23, .ref k24, .ref k25, .int (bz pd), .int (nI pl), .int (bz tk), kv, .ref k30, .ref k31, .int (nI tz), .ref k33, .int (nI rs), .int sd])), (k14, .inl (cI, 144, .inl (mIf M)))])) := by
  refine CT_of RX5 rfl (by decide +kernel) (Nat.le_of_ble_eq_true rfl) (fun E hnE zC zT => ?_)
  have hA : ∀ q, (ev_s E).heap.size ≤ q → ev_A E q := fun q h => by rw [zT.2]; exact Or.inr h
  show VV E 0 0 0 [(0, .ref r0), (1, .int (nI p)), (2, .int (nI h))] [] [(r0, .inr (5, [.int (nI n), .ref k1, .ref k2, .ref k3, .ref k4, .int (nI m), .ref k6, .ref k7, .ref k8, .int (nI 0), .ref k10, .int (nI aw), .ref k12, .ref k13, .ref k14, .ref k15, .ref k16, .int (nI ls), .int (nI ap), .int (bz bd), .int (nI sq), .ref k21, .ref k22, .ref k23, .ref k24, .ref k25, .int (bz pd), .int (nI pl), .int (bz tk), kv, .ref k30, .ref k31, .int (nI tz), .ref k33, .int (nI rs), .int sd])), (k14, .inl (cI, 144, .inl (mIf M)))]
  refine v_ic (v := (nI 0)) 1 zC dX5_speakers_0 (by decide +kernel) ?_
  refine v_is_n (lv2 := [(3, .int (nI 0)), (0, .ref r0), (1, .int (nI p)), (2, .int (nI h))]) 2 zC dX5_speakers_1 (by rw [hnE]; decide) rfl ?_
  refine v_ic (v := (nI 0)) 3 zC dX5_speakers_2 (by decide +kernel) ?_
  refine v_is (lv2 := [(4, .int (nI 0)), (3, .int (nI 0)), (0, .ref r0), (1, .int (nI p)), (2, .int (nI h))]) 5 zC dX5_speakers_3 (by rw [hnE]; decide) rfl ?_
  have lp5 : ∀ (mz : Nat) (x : Nat) (d : Nat), (x = mkn (fun d => DM (n, m, sh, aw, ki, op, fa, K, G, T) h d == some p) d) → (d ≤ m) → m - d = mz → VV E 0 0 5 [(4, .int (nI d)), (3, .int (nI x)), (0, .ref r0), (1, .int (nI p)), (2, .int (nI h))] [] [(r0, .inr (5, [.int (nI n), .ref k1, .ref k2, .ref k3, .ref k4, .int (nI m), .ref k6, .ref k7, .ref k8, .int (nI 0), .ref k10, .int (nI aw), .ref k12, .ref k13, .ref k14, .ref k15, .ref k16, .int (nI ls), .int (nI ap), .int (bz bd), .int (nI sq), .ref k21, .ref k22, .ref k23, .ref k24, .ref k25, .int (bz pd), .int (nI pl), .int (bz tk), kv, .ref k30, .ref k31, .int (nI tz), .ref k33, .int (nI rs), .int sd])), (k14, .inl (cI, 144, .inl (mIf M)))] := by
    intro mz
    induction mz using Nat.strongRecOn with
    | _ mz ih5 =>
    intro x d hx hd hm5
    refine v_il 7 zC dX5_speakers_5 0 rfl ?_
    refine v_al_n 8 zC dX5_speakers_7 2 rfl ?_
    refine v_gf 11 0 zC dX5_speakers_8 gf_X5_84 rfl rfl ?_
    refine v_icmpn_ge 60 14 zC dX5_speakers_11 (fun h_1 => ?_) (fun h_1 => ?_)
    ·
      refine v_il_n 61 zC dX5_speakers_60 1 rfl ?_
      refine v_iret zC zT dX5_speakers_61  ?_
      exact ⟨sn (by rw [hx, show d = m by omega]; rfl), rfl⟩
    ·
      refine v_al_n 15 zC dX5_speakers_14 2 rfl ?_
      refine v_gf 18 0 zC dX5_speakers_15 gf_X5_40 rfl rfl ?_
      refine v_bp (v := (nI 6)) 20 zC dX5_speakers_18 (by decide +kernel) ?_
      refine v_il_n 21 zC dX5_speakers_20 4 rfl ?_
      refine v_imul (v := (nI (6 * h))) 22 zC dX5_speakers_21 (pk_mul _ _) ?_
      refine v_il 24 zC dX5_speakers_22 0 rfl ?_
      refine v_iadd (v := (nI ((6 * h) + d))) 25 zC dX5_speakers_24 (nI_add _ _) ?_
      refine v_ialn (v := (mI (DM (n, m, sh, aw, ki, op, fa, K, G, T) h d))) 26 1 zC dX5_speakers_25 rfl (by omega) (congrArg mI (rk_m hR (by omega) (by omega))) ?_
      refine v_is (lv2 := [(5, .int (mI (DM (n, m, sh, aw, ki, op, fa, K, G, T) h d))), (4, .int (nI d)), (3, .int (nI x)), (0, .ref r0), (1, .int (nI p)), (2, .int (nI h))]) 28 zC dX5_speakers_26 (by rw [hnE]; decide) rfl ?_
      refine v_il_n 29 zC dX5_speakers_28 2 rfl ?_
      refine v_il 31 zC dX5_speakers_29 0 rfl ?_
      refine v_ifo_lt 51 34 zC dX5_speakers_31 (fun v e => rk_lt hR (by omega) (by omega) e) (fun h_2 => ?_) (fun h_2 => ?_)
      ·
        have hb9 : (DM (n, m, sh, aw, ki, op, fa, K, G, T) h d == some p) = false := ob_n h_2
        refine v_ic (v := (nI 0)) 52 zC dX5_speakers_51 (by decide +kernel) ?_
        refine v_ior (v := (nI x)) 53 zC dX5_speakers_52 (by rw [fa_or, Nat.or_zero]) ?_
        refine v_is_n (lv2 := [(3, .int (nI x)), (5, .int (mI (DM (n, m, sh, aw, ki, op, fa, K, G, T) h d))), (4, .int (nI d)), (0, .ref r0), (1, .int (nI p)), (2, .int (nI h))]) 54 zC dX5_speakers_53 (by rw [hnE]; decide) rfl ?_
        refine v_inc (v := (nI (d + 1))) (lv2 := [(4, .int (nI (d + 1))), (3, .int (nI x)), (5, .int (mI (DM (n, m, sh, aw, ki, op, fa, K, G, T) h d))), (0, .ref r0), (1, .int (nI p)), (2, .int (nI h))]) 57 zC dX5_speakers_54 (j := 2) rfl (nI_add _ 1) (by rw [hnE]; decide) rfl ?_
        refine v_goto 5 zC dX5_speakers_57 ?_
        refine v_lvs (lv2 := [(4, .int (nI (d + 1))), (3, .int (nI x)), (0, .ref r0), (1, .int (nI p)), (2, .int (nI h))]) [0, 1, 3, 4, 5] rfl ?_
        exact ih5 _ (by omega) x (d + 1) (by first | exact (by rw [hx]; exact (mkn_1 (by first | assumption | simp [*])).symm) | exact (by rw [hx]; exact (mkn_0 (by first | assumption | simp [*])).symm)) (by first | omega | assumption | rfl | (simp only []; omega) | decide) rfl
      ·
        refine v_il_n 35 zC dX5_speakers_34 4 rfl ?_
        refine v_ifn_lt 44 38 zC dX5_speakers_35 (fun z => absurd z (Nat.not_lt_zero _)) (fun _ => ?_)
        refine v_il 40 zC dX5_speakers_38 0 rfl ?_
        refine v_il_n 41 zC dX5_speakers_40 4 rfl ?_
        refine v_icmpo_ne 51 44 zC dX5_speakers_41 (fun v e => rk_lt hR (by omega) (by omega) e) (fun h_4 => ?_) (fun h_4 => ?_)
        ·
          refine v_ic (v := (nI 0)) 52 zC dX5_speakers_51 (by decide +kernel) ?_
          refine v_ior (v := (nI x)) 53 zC dX5_speakers_52 (by rw [fa_or, Nat.or_zero]) ?_
          refine v_is_n (lv2 := [(3, .int (nI x)), (5, .int (mI (DM (n, m, sh, aw, ki, op, fa, K, G, T) h d))), (4, .int (nI d)), (0, .ref r0), (1, .int (nI p)), (2, .int (nI h))]) 54 zC dX5_speakers_53 (by rw [hnE]; decide) rfl ?_
          refine v_inc (v := (nI (d + 1))) (lv2 := [(4, .int (nI (d + 1))), (3, .int (nI x)), (5, .int (mI (DM (n, m, sh, aw, ki, op, fa, K, G, T) h d))), (0, .ref r0), (1, .int (nI p)), (2, .int (nI h))]) 57 zC dX5_speakers_54 (j := 2) rfl (nI_add _ 1) (by rw [hnE]; decide) rfl ?_
          refine v_goto 5 zC dX5_speakers_57 ?_
          refine v_lvs (lv2 := [(4, .int (nI (d + 1))), (3, .int (nI x)), (0, .ref r0), (1, .int (nI p)), (2, .int (nI h))]) [0, 1, 3, 4, 5] rfl ?_
          exact ih5 _ (by omega) x (d + 1) (by first | exact (by rw [hx]; exact (mkn_1 (by first | assumption | simp [*])).symm) | exact (by rw [hx]; exact (mkn_0 (by first | assumption | simp [*])).symm)) (by first | omega | assumption | rfl | (simp only []; omega) | decide) rfl
        ·
          refine v_ic (v := (nI 1)) 45 zC dX5_speakers_44 (by decide +kernel) ?_
          refine v_il 47 zC dX5_speakers_45 1 rfl ?_
          refine v_ishl (v := (nI (2 ^ d))) 48 zC dX5_speakers_47 (b1n (by omega)) ?_
          refine v_goto 52 zC dX5_speakers_48 ?_
          refine v_ior (v := (nI (x ||| (2 ^ d)))) 53 zC dX5_speakers_52 (fa_or _ _) ?_
          refine v_is_n (lv2 := [(3, .int (nI (x ||| (2 ^ d)))), (5, .int (mI (DM (n, m, sh, aw, ki, op, fa, K, G, T) h d))), (4, .int (nI d)), (0, .ref r0), (1, .int (nI p)), (2, .int (nI h))]) 54 zC dX5_speakers_53 (by rw [hnE]; decide) rfl ?_
          refine v_inc (v := (nI (d + 1))) (lv2 := [(4, .int (nI (d + 1))), (3, .int (nI (x ||| (2 ^ d)))), (5, .int (mI (DM (n, m, sh, aw, ki, op, fa, K, G, T) h d))), (0, .ref r0), (1, .int (nI p)), (2, .int (nI h))]) 57 zC dX5_speakers_54 (j := 2) rfl (nI_add _ 1) (by rw [hnE]; decide) rfl ?_
          refine v_goto 5 zC dX5_speakers_57 ?_
          refine v_lvs (lv2 := [(4, .int (nI (d + 1))), (3, .int (nI (x ||| (2 ^ d)))), (0, .ref r0), (1, .int (nI p)), (2, .int (nI h))]) [0, 1, 3, 4, 5] rfl ?_
          exact ih5 _ (by omega) (x ||| (2 ^ d)) (d + 1) (by first | exact (by rw [hx]; exact (mkn_1 (by first | assumption | simp [*])).symm) | exact (by rw [hx]; exact (mkn_0 (by first | assumption | simp [*])).symm)) (by first | omega | assumption | rfl | (simp only []; omega) | decide) rfl
  refine v_lvs (lv2 := [(4, .int (nI 0)), (3, .int (nI 0)), (0, .ref r0), (1, .int (nI p)), (2, .int (nI h))]) [0, 1, 2, 3, 4] rfl ?_
  exact lp5 _ 0 0 rfl (by first | omega | assumption | rfl | (simp only []; omega) | decide) rfl
set_option maxRecDepth 100000 in
set_option maxHeartbeats 4000000 in
theorem c_X5_heardAt (l : Launch) (D : va_G) (cI : ClassId) (r0 k1 k2 k3 k4 k6 k7 k8 k10 k12 k13 k14 k15 k16 k21 k22 k23 k24 k25 k30 k31 k33 : Nat) (n m aw ls ap sq pl tz rs : Nat) (bd pd tk : Bool) (kv : Value) (sd : Int32) (ki op fa K G T : Nat → Nat) (sh : Nat) (kw kn : Nat → Nat) (M : Nat → Option Nat) (p f : Nat) (hn : n ≤ 7) (hm : m ≤ 6) (hR : ROK (n, m, sh, aw, ki, op, fa, K, G, T) kw kn M) (hp : p < n) (hf : f < 10) : CT l yX5_heardAt cX5_heardAt 4 (some .int) { frames := 1, cells := 0, slots := 0, locals := 21 } D cI [.ref r0, .int (nI p), .int (nI f)] [(r0, .inr (5, [.int (nI n), .ref k1, .ref k2, .ref k3, .ref k4, .int (nI m), .ref k6, .ref k7, .ref k8, .int (nI 0), .ref k10, .int (nI aw), .ref k12, .ref k13, .ref k14, .ref k15, .ref k16, .int (nI ls), .int (nI ap), .int (bz bd), .int (nI sq), .ref k21, .ref k22, .ref k23, .ref k24, .ref k25, .int (bz pd), .int (nI pl), .int (bz tk), kv, .ref k30, .ref k31, .int (nI tz), .ref k33, .int (nI rs), .int sd])), (k13, .inl (cI, 175, .inl (nIf kn)))] (fun zr zw => (zr = some (.int (mI (HEARD (n, m, sh, aw, ki, op, fa, K, G, T) p f))) ∧ zw = [(r0, .inr (5, [.int (nI n), .ref k1, .ref k2, .ref k3, .ref k4, .int (nI m), .ref k6, .ref k7, .ref k8, .int (nI 0), .ref k10, .int (nI aw), .ref k12, .ref k13, .ref k14, .ref k15, .ref k16, .int (nI ls), .int (nI ap), .int (bz bd), .int (nI sq), .ref k21, .ref k22, .ref k23, .ref k24, .ref k25, .int (bz pd), .int (nI pl), .int (bz tk), kv, .ref k30, .ref k31, .int (nI tz), .ref k33, .int (nI rs), .int sd])), (k13, .inl (cI, 175, .inl (nIf kn)))])) := by
  refine CT_of RX5 rfl (by decide +kernel) (Nat.le_of_ble_eq_true rfl) (fun E hnE zC zT => ?_)
  have hA : ∀ q, (ev_s E).heap.size ≤ q → ev_A E q := fun q h => by rw [zT.2]; exact Or.inr h
  show VV E 0 0 0 [(0, .ref r0), (1, .int (nI p)), (2, .int (nI f))] [] [(r0, .inr (5, [.int (nI n), .ref k1, .ref k2, .ref k3, .ref k4, .int (nI m), .ref k6, .ref k7, .ref k8, .int (nI 0), .ref k10, .int (nI aw), .ref k12, .ref k13, .ref k14, .ref k15, .ref k16, .int (nI ls), .int (nI ap), .int (bz bd), .int (nI sq), .ref k21, .ref k22, .ref k23, .ref k24, .ref k25, .int (bz pd), .int (nI pl), .int (bz tk), kv, .ref k30, .ref k31, .int (nI tz), .ref k33, .int (nI rs), .int sd])), (k13, .inl (cI, 175, .inl (nIf kn)))]
  refine v_ic (v := (nI 0)) 1 zC dX5_heardAt_0 (by decide +kernel) ?_
  refine v_is_n (lv2 := [(3, .int (nI 0)), (0, .ref r0), (1, .int (nI p)), (2, .int (nI f))]) 2 zC dX5_heardAt_1 (by rw [hnE]; decide) rfl ?_
  have lp2 : ∀ (mz : Nat) (j : Nat), (fs (fun j => Nat.testBit (DR (n, m, sh, aw, ki, op, fa, K, G, T) j p) f) j = none) → (j ≤ 25) → 25 - j = mz → VV E 0 0 2 [(3, .int (nI j)), (0, .ref r0), (1, .int (nI p)), (2, .int (nI f))] [] [(r0, .inr (5, [.int (nI n), .ref k1, .ref k2, .ref k3, .ref k4, .int (nI m), .ref k6, .ref k7, .ref k8, .int (nI 0), .ref k10, .int (nI aw), .ref k12, .ref k13, .ref k14, .ref k15, .ref k16, .int (nI ls), .int (nI ap), .int (bz bd), .int (nI sq), .ref k21, .ref k22, .ref k23, .ref k24, .ref k25, .int (bz pd), .int (nI pl), .int (bz tk), kv, .ref k30, .ref k31, .int (nI tz), .ref k33, .int (nI rs), .int sd])), (k13, .inl (cI, 175, .inl (nIf kn)))] := by
    intro mz
    induction mz using Nat.strongRecOn with
    | _ mz ih2 =>
    intro j hq hj hm2
    refine v_il_n 3 zC dX5_heardAt_2 0 rfl ?_
    refine v_bp (v := (nI 24)) 5 zC dX5_heardAt_3 (by decide +kernel) ?_
    refine v_icmpn_gt 34 8 zC dX5_heardAt_5 (fun h_1 => ?_) (fun h_1 => ?_)
    ·
      refine v_bp (v := (-9)) 36 zC dX5_heardAt_34 (by decide +kernel) ?_
      refine v_iret zC zT dX5_heardAt_36  ?_
      exact ⟨by rw [show HEARD (n, m, sh, aw, ki, op, fa, K, G, T) p f = none from (congrArg (fs _) (show 25 = j by omega)).trans hq]; rfl, rfl⟩
    ·
      refine v_al_n 9 zC dX5_heardAt_8 1 rfl ?_
      refine v_gf 12 0 zC dX5_heardAt_9 gf_X5_37 rfl rfl ?_
      refine v_bp (v := (nI 7)) 14 zC dX5_heardAt_12 (by decide +kernel) ?_
      refine v_il_n 15 zC dX5_heardAt_14 0 rfl ?_
      refine v_imul (v := (nI (7 * j))) 16 zC dX5_heardAt_15 (pk_mul _ _) ?_
      refine v_il_n 17 zC dX5_heardAt_16 2 rfl ?_
      refine v_iadd (v := (nI ((7 * j) + p))) 18 zC dX5_heardAt_17 (nI_add _ _) ?_
      refine v_ialn (v := (nI (DR (n, m, sh, aw, ki, op, fa, K, G, T) j p))) 19 1 zC dX5_heardAt_18 rfl (by omega) (congrArg nI (rk_n hR (by omega) (by omega))) ?_
      refine v_il_n 20 zC dX5_heardAt_19 3 rfl ?_
      refine v_cS (As := [.int (nI (DR (n, m, sh, aw, ki, op, fa, K, G, T) j p)), .int (nI f)]) (st := []) 23 [] zC dX5_heardAt_20 hA (c_X5_hasBit (ev_l E) (ev_D E) cI (x := (DR (n, m, sh, aw, ki, op, fa, K, G, T) j p)) (k := f) (hk := (by first | omega | assumption | rfl | (simp only []; omega) | decide))) cf_X5_hasBit lk_X5_95 rfl rfl rfl (by decide +kernel) (Nat.le_of_ble_eq_true rfl) (fun rv_2 wv_3 hp_4 hm_5 => ?_)
      clear hm_5
      obtain ⟨rfl, rfl⟩ := hp_4
      show VV E 0 0 23 [(3, .int (nI j)), (0, .ref r0), (1, .int (nI p)), (2, .int (nI f))] [.int (bz (Nat.testBit (DR (n, m, sh, aw, ki, op, fa, K, G, T) j p) f))] [(r0, .inr (5, [.int (nI n), .ref k1, .ref k2, .ref k3, .ref k4, .int (nI m), .ref k6, .ref k7, .ref k8, .int (nI 0), .ref k10, .int (nI aw), .ref k12, .ref k13, .ref k14, .ref k15, .ref k16, .int (nI ls), .int (nI ap), .int (bz bd), .int (nI sq), .ref k21, .ref k22, .ref k23, .ref k24, .ref k25, .int (bz pd), .int (nI pl), .int (bz tk), kv, .ref k30, .ref k31, .int (nI tz), .ref k33, .int (nI rs), .int sd])), (k13, .inl (cI, 175, .inl (nIf kn)))]
      refine v_ifb_eq 28 26 zC dX5_heardAt_23 (fun h_6 => ?_) (fun h_6 => ?_)
      ·
        have hv9 := h_6
        refine v_inc (v := (nI (j + 1))) (lv2 := [(3, .int (nI (j + 1))), (0, .ref r0), (1, .int (nI p)), (2, .int (nI f))]) 31 zC dX5_heardAt_28 (j := 0) rfl (nI_add _ 1) (by rw [hnE]; decide) rfl ?_
        refine v_goto 2 zC dX5_heardAt_31 ?_
        refine v_lvs (lv2 := [(3, .int (nI (j + 1))), (0, .ref r0), (1, .int (nI p)), (2, .int (nI f))]) [0, 1, 2, 3] rfl ?_
        exact ih2 _ (by omega) (j + 1) (fs_0 hq hv9) (by first | omega | assumption | rfl | (simp only []; omega) | decide) rfl
      ·
        have hu9 := h_6
        refine v_il_n 27 zC dX5_heardAt_26 0 rfl ?_
        refine v_iret zC zT dX5_heardAt_27  ?_
        exact ⟨by rw [show HEARD (n, m, sh, aw, ki, op, fa, K, G, T) p f = some j from fs_m (by omega) (fs_1 hq hu9)]; rfl, rfl⟩
  refine v_lvs (lv2 := [(3, .int (nI 0)), (0, .ref r0), (1, .int (nI p)), (2, .int (nI f))]) [0, 1, 2, 3] rfl ?_
  exact lp2 _ 0 rfl (by first | omega | assumption | rfl | (simp only []; omega) | decide) rfl
set_option maxRecDepth 100000 in
set_option maxHeartbeats 4000000 in
theorem c_X5_spokeOf (l : Launch) (D : va_G) (cI : ClassId) (r0 k1 k2 k3 k4 k6 k7 k8 k10 k12 k13 k14 k15 k16 k21 k22 k23 k24 k25 k30 k31 k33 : Nat) (n m aw ls ap sq pl tz rs : Nat) (bd pd tk : Bool) (kv : Value) (sd : Int32) (ki op fa K G T : Nat → Nat) (sh : Nat) (kw kn : Nat → Nat) (M : Nat → Option Nat) (d : Nat) (hn : n ≤ 7) (hm : m ≤ 6) (hR : ROK (n, m, sh, aw, ki, op, fa, K, G, T) kw kn M) (hd : d < m) : CT l yX5_spokeOf cX5_spokeOf 4 (some .int) { frames := 0, cells := 0, slots := 0, locals := 0 } D cI [.ref r0, .int (nI d)] [(r0, .inr (5, [.int (nI n), .ref k1, .ref k2, .ref k3, .ref k4, .int (nI m), .ref k6, .ref k7, .ref k8, .int (nI 0), .ref k10, .int (nI aw), .ref k12, .ref k13, .ref k14, .ref k15, .ref k16, .int (nI ls), .int (nI ap), .int (bz bd), .int (nI sq), .ref k21, .ref k22, .ref k23, .ref k24, .ref k25, .int (bz pd), .int (nI pl), .int (bz tk), kv, .ref k30, .ref k31, .int (nI tz), .ref k33, .int (nI rs), .int sd])), (k14, .inl (cI, 144, .inl (mIf M)))] (fun zr zw => (zr = some (.int (nI (SPOKE (n, m, sh, aw, ki, op, fa, K, G, T) d))) ∧ zw = [(r0, .inr (5, [.int (nI n), .ref k1, .ref k2, .ref k3, .ref k4, .int (nI m), .ref k6, .ref k7, .ref k8, .int (nI 0), .ref k10, .int (nI aw), .ref k12, .ref k13, .ref k14, .ref k15, .ref k16, .int (nI ls), .int (nI ap), .int (bz bd), .int (nI sq), .ref k21, .ref k22, .ref k23, .ref k24, .ref k25, .int (bz pd), .int (nI pl), .int (bz tk), kv, .ref k30, .ref k31, .int (nI tz), .ref k33, .int (nI rs), .int sd])), (k14, .inl (cI, 144, .inl (mIf M)))])) := by
  refine CT_of RX5 rfl (by decide +kernel) (Nat.le_of_ble_eq_true rfl) (fun E hnE zC zT => ?_)
  have hA : ∀ q, (ev_s E).heap.size ≤ q → ev_A E q := fun q h => by rw [zT.2]; exact Or.inr h
  show VV E 0 0 0 [(0, .ref r0), (1, .int (nI d))] [] [(r0, .inr (5, [.int (nI n), .ref k1, .ref k2, .ref k3, .ref k4, .int (nI m), .ref k6, .ref k7, .ref k8, .int (nI 0), .ref k10, .int (nI aw), .ref k12, .ref k13, .ref k14, .ref k15, .ref k16, .int (nI ls), .int (nI ap), .int (bz bd), .int (nI sq), .ref k21, .ref k22, .ref k23, .ref k24, .ref k25, .int (bz pd), .int (nI pl), .int (bz tk), kv, .ref k30, .ref k31, .int (nI tz), .ref k33, .int (nI rs), .int sd])), (k14, .inl (cI, 144, .inl (mIf M)))]
  refine v_ic (v := (nI 0)) 1 zC dX5_spokeOf_0 (by decide +kernel) ?_
  refine v_is_n (lv2 := [(2, .int (nI 0)), (0, .ref r0), (1, .int (nI d))]) 2 zC dX5_spokeOf_1 (by rw [hnE]; decide) rfl ?_
  refine v_ic (v := (nI 0)) 3 zC dX5_spokeOf_2 (by decide +kernel) ?_
  refine v_is_n (lv2 := [(3, .int (nI 0)), (2, .int (nI 0)), (0, .ref r0), (1, .int (nI d))]) 4 zC dX5_spokeOf_3 (by rw [hnE]; decide) rfl ?_
  have lp4 : ∀ (mz : Nat) (x : Nat) (h : Nat), (x = ctn (fun h => (DM (n, m, sh, aw, ki, op, fa, K, G, T) h d).isSome) h) → (h ≤ 24) → 24 - h = mz → VV E 0 0 4 [(3, .int (nI h)), (2, .int (nI x)), (0, .ref r0), (1, .int (nI d))] [] [(r0, .inr (5, [.int (nI n), .ref k1, .ref k2, .ref k3, .ref k4, .int (nI m), .ref k6, .ref k7, .ref k8, .int (nI 0), .ref k10, .int (nI aw), .ref k12, .ref k13, .ref k14, .ref k15, .ref k16, .int (nI ls), .int (nI ap), .int (bz bd), .int (nI sq), .ref k21, .ref k22, .ref k23, .ref k24, .ref k25, .int (bz pd), .int (nI pl), .int (bz tk), kv, .ref k30, .ref k31, .int (nI tz), .ref k33, .int (nI rs), .int sd])), (k14, .inl (cI, 144, .inl (mIf M)))] := by
    intro mz
    induction mz using Nat.strongRecOn with
    | _ mz ih4 =>
    intro x h hx hh hm4
    refine v_il_n 5 zC dX5_spokeOf_4 0 rfl ?_
    refine v_bp (v := (nI 24)) 7 zC dX5_spokeOf_5 (by decide +kernel) ?_
    refine v_icmpn_ge 38 10 zC dX5_spokeOf_7 (fun h_1 => ?_) (fun h_1 => ?_)
    ·
      refine v_il_n 39 zC dX5_spokeOf_38 1 rfl ?_
      refine v_iret zC zT dX5_spokeOf_39  ?_
      exact ⟨sn (by rw [hx, show h = 24 by omega]; rfl), rfl⟩
    ·
      refine v_il_n 11 zC dX5_spokeOf_10 1 rfl ?_
      refine v_al_n 12 zC dX5_spokeOf_11 2 rfl ?_
      refine v_gf 15 0 zC dX5_spokeOf_12 gf_X5_40 rfl rfl ?_
      refine v_bp (v := (nI 6)) 17 zC dX5_spokeOf_15 (by decide +kernel) ?_
      refine v_il_n 18 zC dX5_spokeOf_17 0 rfl ?_
      refine v_imul (v := (nI (6 * h))) 19 zC dX5_spokeOf_18 (pk_mul _ _) ?_
      refine v_il_n 20 zC dX5_spokeOf_19 3 rfl ?_
      refine v_iadd (v := (nI ((6 * h) + d))) 21 zC dX5_spokeOf_20 (nI_add _ _) ?_
      refine v_ialn (v := (mI (DM (n, m, sh, aw, ki, op, fa, K, G, T) h d))) 22 1 zC dX5_spokeOf_21 rfl (by omega) (congrArg mI (rk_m hR (by omega) (by omega))) ?_
      refine v_ifo_lt 29 25 zC dX5_spokeOf_22 (fun v e => rk_lt hR (by omega) (by omega) e) (fun h_2 => ?_) (fun h_2 => ?_)
      ·
        refine v_ic (v := (nI 0)) 30 zC dX5_spokeOf_29 (by decide +kernel) ?_
        refine v_iadd (v := (nI x)) 31 zC dX5_spokeOf_30 (nI_add _ 0) ?_
        refine v_is_n (lv2 := [(2, .int (nI x)), (3, .int (nI h)), (0, .ref r0), (1, .int (nI d))]) 32 zC dX5_spokeOf_31 (by rw [hnE]; decide) rfl ?_
        refine v_inc (v := (nI (h + 1))) (lv2 := [(3, .int (nI (h + 1))), (2, .int (nI x)), (0, .ref r0), (1, .int (nI d))]) 35 zC dX5_spokeOf_32 (j := 1) rfl (nI_add _ 1) (by rw [hnE]; decide) rfl ?_
        refine v_goto 4 zC dX5_spokeOf_35 ?_
        refine v_lvs (lv2 := [(3, .int (nI (h + 1))), (2, .int (nI x)), (0, .ref r0), (1, .int (nI d))]) [0, 1, 2, 3] rfl ?_
        exact ih4 _ (by omega) x (h + 1) (by first | exact (by rw [hx]; exact (ctn_1 (by first | assumption | simp [*])).symm) | exact (by rw [hx]; exact (ctn_0 (by first | assumption | simp [*])).symm)) (by first | omega | assumption | rfl | (simp only []; omega) | decide) rfl
      ·
        refine v_ic (v := (nI 1)) 26 zC dX5_spokeOf_25 (by decide +kernel) ?_
        refine v_goto 30 zC dX5_spokeOf_26 ?_
        refine v_iadd (v := (nI (x + 1))) 31 zC dX5_spokeOf_30 (nI_add _ _) ?_
        refine v_is_n (lv2 := [(2, .int (nI (x + 1))), (3, .int (nI h)), (0, .ref r0), (1, .int (nI d))]) 32 zC dX5_spokeOf_31 (by rw [hnE]; decide) rfl ?_
        refine v_inc (v := (nI (h + 1))) (lv2 := [(3, .int (nI (h + 1))), (2, .int (nI (x + 1))), (0, .ref r0), (1, .int (nI d))]) 35 zC dX5_spokeOf_32 (j := 1) rfl (nI_add _ 1) (by rw [hnE]; decide) rfl ?_
        refine v_goto 4 zC dX5_spokeOf_35 ?_
        refine v_lvs (lv2 := [(3, .int (nI (h + 1))), (2, .int (nI (x + 1))), (0, .ref r0), (1, .int (nI d))]) [0, 1, 2, 3] rfl ?_
        exact ih4 _ (by omega) (x + 1) (h + 1) (by first | exact (by rw [hx]; exact (ctn_1 (by first | assumption | simp [*])).symm) | exact (by rw [hx]; exact (ctn_0 (by first | assumption | simp [*])).symm)) (by first | omega | assumption | rfl | (simp only []; omega) | decide) rfl
  refine v_lvs (lv2 := [(3, .int (nI 0)), (2, .int (nI 0)), (0, .ref r0), (1, .int (nI d))]) [0, 1, 2, 3] rfl ?_
  exact lp4 _ 0 0 rfl (by first | omega | assumption | rfl | (simp only []; omega) | decide) rfl
set_option maxRecDepth 100000 in
set_option maxHeartbeats 4000000 in
theorem c_X5_knowing (l : Launch) (D : va_G) (cI : ClassId) (r0 k1 k2 k3 k4 k6 k7 k8 k10 k12 k13 k14 k15 k16 k21 k22 k23 k24 k25 k30 k31 k33 : Nat) (n m aw ls ap sq pl tz rs : Nat) (bd pd tk : Bool) (kv : Value) (sd : Int32) (ki op fa K G T : Nat → Nat) (sh : Nat) (kw kn : Nat → Nat) (M : Nat → Option Nat) (f : Nat) (hn : n ≤ 7) (hm : m ≤ 6) (hR : ROK (n, m, sh, aw, ki, op, fa, K, G, T) kw kn M) (hf : f < 10) : CT l yX5_knowing cX5_knowing 4 (some .int) { frames := 1, cells := 0, slots := 0, locals := 21 } D cI [.ref r0, .int (nI f)] [(r0, .inr (5, [.int (nI n), .ref k1, .ref k2, .ref k3, .ref k4, .int (nI m), .ref k6, .ref k7, .ref k8, .int (nI 0), .ref k10, .int (nI aw), .ref k12, .ref k13, .ref k14, .ref k15, .ref k16, .int (nI ls), .int (nI ap), .int (bz bd), .int (nI sq), .ref k21, .ref k22, .ref k23, .ref k24, .ref k25, .int (bz pd), .int (nI pl), .int (bz tk), kv, .ref k30, .ref k31, .int (nI tz), .ref k33, .int (nI rs), .int sd])), (k12, .inl (cI, 7, .inl (nIf kw)))] (fun zr zw => (zr = some (.int (nI (KNW (n, m, sh, aw, ki, op, fa, K, G, T) f))) ∧ zw = [(r0, .inr (5, [.int (nI n), .ref k1, .ref k2, .ref k3, .ref k4, .int (nI m), .ref k6, .ref k7, .ref k8, .int (nI 0), .ref k10, .int (nI aw), .ref k12, .ref k13, .ref k14, .ref k15, .ref k16, .int (nI ls), .int (nI ap), .int (bz bd), .int (nI sq), .ref k21, .ref k22, .ref k23, .ref k24, .ref k25, .int (bz pd), .int (nI pl), .int (bz tk), kv, .ref k30, .ref k31, .int (nI tz), .ref k33, .int (nI rs), .int sd])), (k12, .inl (cI, 7, .inl (nIf kw)))])) := by
  refine CT_of RX5 rfl (by decide +kernel) (Nat.le_of_ble_eq_true rfl) (fun E hnE zC zT => ?_)
  have hA : ∀ q, (ev_s E).heap.size ≤ q → ev_A E q := fun q h => by rw [zT.2]; exact Or.inr h
  show VV E 0 0 0 [(0, .ref r0), (1, .int (nI f))] [] [(r0, .inr (5, [.int (nI n), .ref k1, .ref k2, .ref k3, .ref k4, .int (nI m), .ref k6, .ref k7, .ref k8, .int (nI 0), .ref k10, .int (nI aw), .ref k12, .ref k13, .ref k14, .ref k15, .ref k16, .int (nI ls), .int (nI ap), .int (bz bd), .int (nI sq), .ref k21, .ref k22, .ref k23, .ref k24, .ref k25, .int (bz pd), .int (nI pl), .int (bz tk), kv, .ref k30, .ref k31, .int (nI tz), .ref k33, .int (nI rs), .int sd])), (k12, .inl (cI, 7, .inl (nIf kw)))]
  refine v_ic (v := (nI 0)) 1 zC dX5_knowing_0 (by decide +kernel) ?_
  refine v_is_n (lv2 := [(2, .int (nI 0)), (0, .ref r0), (1, .int (nI f))]) 2 zC dX5_knowing_1 (by rw [hnE]; decide) rfl ?_
  refine v_ic (v := (nI 0)) 3 zC dX5_knowing_2 (by decide +kernel) ?_
  refine v_is_n (lv2 := [(3, .int (nI 0)), (2, .int (nI 0)), (0, .ref r0), (1, .int (nI f))]) 4 zC dX5_knowing_3 (by rw [hnE]; decide) rfl ?_
  have lp4 : ∀ (mz : Nat) (x : Nat) (p : Nat), (x = mkn (fun p => Nat.testBit (DR (n, m, sh, aw, ki, op, fa, K, G, T) 24 p) f) p) → (p ≤ n) → n - p = mz → VV E 0 0 4 [(3, .int (nI p)), (2, .int (nI x)), (0, .ref r0), (1, .int (nI f))] [] [(r0, .inr (5, [.int (nI n), .ref k1, .ref k2, .ref k3, .ref k4, .int (nI m), .ref k6, .ref k7, .ref k8, .int (nI 0), .ref k10, .int (nI aw), .ref k12, .ref k13, .ref k14, .ref k15, .ref k16, .int (nI ls), .int (nI ap), .int (bz bd), .int (nI sq), .ref k21, .ref k22, .ref k23, .ref k24, .ref k25, .int (bz pd), .int (nI pl), .int (bz tk), kv, .ref k30, .ref k31, .int (nI tz), .ref k33, .int (nI rs), .int sd])), (k12, .inl (cI, 7, .inl (nIf kw)))] := by
    intro mz
    induction mz using Nat.strongRecOn with
    | _ mz ih4 =>
    intro x p hx hp hm4
    refine v_il_n 5 zC dX5_knowing_4 0 rfl ?_
    refine v_al_n 6 zC dX5_knowing_5 2 rfl ?_
    refine v_gf 9 0 zC dX5_knowing_6 gf_X5_77 rfl rfl ?_
    refine v_icmpn_ge 41 12 zC dX5_knowing_9 (fun h_1 => ?_) (fun h_1 => ?_)
    ·
      refine v_il_n 42 zC dX5_knowing_41 1 rfl ?_
      refine v_iret zC zT dX5_knowing_42  ?_
      exact ⟨sn (by rw [hx, show p = n by omega]; rfl), rfl⟩
    ·
      refine v_il_n 13 zC dX5_knowing_12 1 rfl ?_
      refine v_al_n 14 zC dX5_knowing_13 2 rfl ?_
      refine v_gf 17 0 zC dX5_knowing_14 gf_X5_34 rfl rfl ?_
      refine v_il_n 18 zC dX5_knowing_17 0 rfl ?_
      refine v_ialn (v := (nI (DR (n, m, sh, aw, ki, op, fa, K, G, T) 24 p))) 19 1 zC dX5_knowing_18 rfl (by omega) (congrArg nI (rk_w hR (by omega))) ?_
      refine v_il_n 20 zC dX5_knowing_19 3 rfl ?_
      refine v_cS (As := [.int (nI (DR (n, m, sh, aw, ki, op, fa, K, G, T) 24 p)), .int (nI f)]) (st := [.int (nI x)]) 23 [] zC dX5_knowing_20 hA (c_X5_hasBit (ev_l E) (ev_D E) cI (x := (DR (n, m, sh, aw, ki, op, fa, K, G, T) 24 p)) (k := f) (hk := (by first | omega | assumption | rfl | (simp only []; omega) | decide))) cf_X5_hasBit lk_X5_95 rfl rfl rfl (by decide +kernel) (Nat.le_of_ble_eq_true rfl) (fun rv_2 wv_3 hp_4 hm_5 => ?_)
      clear hm_5
      obtain ⟨rfl, rfl⟩ := hp_4
      show VV E 0 0 23 [(3, .int (nI p)), (2, .int (nI x)), (0, .ref r0), (1, .int (nI f))] [.int (bz (Nat.testBit (DR (n, m, sh, aw, ki, op, fa, K, G, T) 24 p) f)), .int (nI x)] [(r0, .inr (5, [.int (nI n), .ref k1, .ref k2, .ref k3, .ref k4, .int (nI m), .ref k6, .ref k7, .ref k8, .int (nI 0), .ref k10, .int (nI aw), .ref k12, .ref k13, .ref k14, .ref k15, .ref k16, .int (nI ls), .int (nI ap), .int (bz bd), .int (nI sq), .ref k21, .ref k22, .ref k23, .ref k24, .ref k25, .int (bz pd), .int (nI pl), .int (bz tk), kv, .ref k30, .ref k31, .int (nI tz), .ref k33, .int (nI rs), .int sd])), (k12, .inl (cI, 7, .inl (nIf kw)))]
      refine v_ifb_eq 32 26 zC dX5_knowing_23 (fun h_6 => ?_) (fun h_6 => ?_)
      ·
        refine v_ic (v := (nI 0)) 33 zC dX5_knowing_32 (by decide +kernel) ?_
        refine v_ior (v := (nI x)) 34 zC dX5_knowing_33 (by rw [fa_or, Nat.or_zero]) ?_
        refine v_is_n (lv2 := [(2, .int (nI x)), (3, .int (nI p)), (0, .ref r0), (1, .int (nI f))]) 35 zC dX5_knowing_34 (by rw [hnE]; decide) rfl ?_
        refine v_inc (v := (nI (p + 1))) (lv2 := [(3, .int (nI (p + 1))), (2, .int (nI x)), (0, .ref r0), (1, .int (nI f))]) 38 zC dX5_knowing_35 (j := 1) rfl (nI_add _ 1) (by rw [hnE]; decide) rfl ?_
        refine v_goto 4 zC dX5_knowing_38 ?_
        refine v_lvs (lv2 := [(3, .int (nI (p + 1))), (2, .int (nI x)), (0, .ref r0), (1, .int (nI f))]) [0, 1, 2, 3] rfl ?_
        exact ih4 _ (by omega) x (p + 1) (by first | exact (by rw [hx]; exact (mkn_1 (by first | assumption | simp [*])).symm) | exact (by rw [hx]; exact (mkn_0 (by first | assumption | simp [*])).symm)) (by first | omega | assumption | rfl | (simp only []; omega) | decide) rfl
      ·
        refine v_ic (v := (nI 1)) 27 zC dX5_knowing_26 (by decide +kernel) ?_
        refine v_il_n 28 zC dX5_knowing_27 0 rfl ?_
        refine v_ishl (v := (nI (2 ^ p))) 29 zC dX5_knowing_28 (b1n (by omega)) ?_
        refine v_goto 33 zC dX5_knowing_29 ?_
        refine v_ior (v := (nI (x ||| (2 ^ p)))) 34 zC dX5_knowing_33 (fa_or _ _) ?_
        refine v_is_n (lv2 := [(2, .int (nI (x ||| (2 ^ p)))), (3, .int (nI p)), (0, .ref r0), (1, .int (nI f))]) 35 zC dX5_knowing_34 (by rw [hnE]; decide) rfl ?_
        refine v_inc (v := (nI (p + 1))) (lv2 := [(3, .int (nI (p + 1))), (2, .int (nI (x ||| (2 ^ p)))), (0, .ref r0), (1, .int (nI f))]) 38 zC dX5_knowing_35 (j := 1) rfl (nI_add _ 1) (by rw [hnE]; decide) rfl ?_
        refine v_goto 4 zC dX5_knowing_38 ?_
        refine v_lvs (lv2 := [(3, .int (nI (p + 1))), (2, .int (nI (x ||| (2 ^ p)))), (0, .ref r0), (1, .int (nI f))]) [0, 1, 2, 3] rfl ?_
        exact ih4 _ (by omega) (x ||| (2 ^ p)) (p + 1) (by first | exact (by rw [hx]; exact (mkn_1 (by first | assumption | simp [*])).symm) | exact (by rw [hx]; exact (mkn_0 (by first | assumption | simp [*])).symm)) (by first | omega | assumption | rfl | (simp only []; omega) | decide) rfl
  refine v_lvs (lv2 := [(3, .int (nI 0)), (2, .int (nI 0)), (0, .ref r0), (1, .int (nI f))]) [0, 1, 2, 3] rfl ?_
  exact lp4 _ 0 0 rfl (by first | omega | assumption | rfl | (simp only []; omega) | decide) rfl
set_option maxRecDepth 100000 in
set_option maxHeartbeats 4000000 in
theorem c_X5_knownBehind (l : Launch) (D : va_G) (cI : ClassId) (r0 k1 k2 k3 k4 k6 k7 k8 k10 k12 k13 k14 k15 k16 k21 k22 k23 k24 k25 k30 k31 k33 : Nat) (n m aw ls ap sq pl tz rs : Nat) (bd pd tk : Bool) (kv : Value) (sd : Int32) (ki op fa K G T : Nat → Nat) (sh : Nat) (kw kn : Nat → Nat) (M : Nat → Option Nat) (j : Nat) (hn : n ≤ 7) (hm : m ≤ 6) (hR : ROK (n, m, sh, aw, ki, op, fa, K, G, T) kw kn M) (hj : j ≤ 24) : CT l yX5_knownBehind cX5_knownBehind 4 (some .int) { frames := 1, cells := 0, slots := 0, locals := 22 } D cI [.ref r0, .int (nI j)] [(r0, .inr (5, [.int (nI n), .ref k1, .ref k2, .ref k3, .ref k4, .int (nI m), .ref k6, .ref k7, .ref k8, .int (nI 0), .ref k10, .int (nI aw), .ref k12, .ref k13, .ref k14, .ref k15, .ref k16, .int (nI ls), .int (nI ap), .int (bz bd), .int (nI sq), .ref k21, .ref k22, .ref k23, .ref k24, .ref k25, .int (bz pd), .int (nI pl), .int (bz tk), kv, .ref k30, .ref k31, .int (nI tz), .ref k33, .int (nI rs), .int sd])), (k13, .inl (cI, 175, .inl (nIf kn)))] (fun zr zw => (zr = some (.int (nI (KBH (n, m, sh, aw, ki, op, fa, K, G, T) j))) ∧ zw = [(r0, .inr (5, [.int (nI n), .ref k1, .ref k2, .ref k3, .ref k4, .int (nI m), .ref k6, .ref k7, .ref k8, .int (nI 0), .ref k10, .int (nI aw), .ref k12, .ref k13, .ref k14, .ref k15, .ref k16, .int (nI ls), .int (nI ap), .int (bz bd), .int (nI sq), .ref k21, .ref k22, .ref k23, .ref k24, .ref k25, .int (bz pd), .int (nI pl), .int (bz tk), kv, .ref k30, .ref k31, .int (nI tz), .ref k33, .int (nI rs), .int sd])), (k13, .inl (cI, 175, .inl (nIf kn)))])) := by
  refine CT_of RX5 rfl (by decide +kernel) (Nat.le_of_ble_eq_true rfl) (fun E hnE zC zT => ?_)
  have hA : ∀ q, (ev_s E).heap.size ≤ q → ev_A E q := fun q h => by rw [zT.2]; exact Or.inr h
  show VV E 0 0 0 [(0, .ref r0), (1, .int (nI j))] [] [(r0, .inr (5, [.int (nI n), .ref k1, .ref k2, .ref k3, .ref k4, .int (nI m), .ref k6, .ref k7, .ref k8, .int (nI 0), .ref k10, .int (nI aw), .ref k12, .ref k13, .ref k14, .ref k15, .ref k16, .int (nI ls), .int (nI ap), .int (bz bd), .int (nI sq), .ref k21, .ref k22, .ref k23, .ref k24, .ref k25, .int (bz pd), .int (nI pl), .int (bz tk), kv, .ref k30, .ref k31, .int (nI tz), .ref k33, .int (nI rs), .int sd])), (k13, .inl (cI, 175, .inl (nIf kn)))]
  refine v_ic (v := (nI 0)) 1 zC dX5_knownBehind_0 (by decide +kernel) ?_
  refine v_is_n (lv2 := [(2, .int (nI 0)), (0, .ref r0), (1, .int (nI j))]) 2 zC dX5_knownBehind_1 (by rw [hnE]; decide) rfl ?_
  refine v_ic (v := (nI 0)) 3 zC dX5_knownBehind_2 (by decide +kernel) ?_
  refine v_is_n (lv2 := [(3, .int (nI 0)), (2, .int (nI 0)), (0, .ref r0), (1, .int (nI j))]) 4 zC dX5_knownBehind_3 (by rw [hnE]; decide) rfl ?_
  have lp4 : ∀ (mz : Nat) (x : Nat) (p : Nat), (x = sm (fun p => pcn (DR (n, m, sh, aw, ki, op, fa, K, G, T) j p)) p) → (p ≤ n) → n - p = mz → VV E 0 0 4 [(3, .int (nI p)), (2, .int (nI x)), (0, .ref r0), (1, .int (nI j))] [] [(r0, .inr (5, [.int (nI n), .ref k1, .ref k2, .ref k3, .ref k4, .int (nI m), .ref k6, .ref k7, .ref k8, .int (nI 0), .ref k10, .int (nI aw), .ref k12, .ref k13, .ref k14, .ref k15, .ref k16, .int (nI ls), .int (nI ap), .int (bz bd), .int (nI sq), .ref k21, .ref k22, .ref k23, .ref k24, .ref k25, .int (bz pd), .int (nI pl), .int (bz tk), kv, .ref k30, .ref k31, .int (nI tz), .ref k33, .int (nI rs), .int sd])), (k13, .inl (cI, 175, .inl (nIf kn)))] := by
    intro mz
    induction mz using Nat.strongRecOn with
    | _ mz ih4 =>
    intro x p hx hp hm4
    refine v_il_n 5 zC dX5_knownBehind_4 0 rfl ?_
    refine v_al_n 6 zC dX5_knownBehind_5 2 rfl ?_
    refine v_gf 9 0 zC dX5_knownBehind_6 gf_X5_77 rfl rfl ?_
    refine v_icmpn_ge 35 12 zC dX5_knownBehind_9 (fun h_1 => ?_) (fun h_1 => ?_)
    ·
      refine v_il_n 36 zC dX5_knownBehind_35 1 rfl ?_
      refine v_iret zC zT dX5_knownBehind_36  ?_
      exact ⟨sn (by rw [hx, show p = n by omega]; rfl), rfl⟩
    ·
      refine v_il_n 13 zC dX5_knownBehind_12 1 rfl ?_
      refine v_al_n 14 zC dX5_knownBehind_13 2 rfl ?_
      refine v_gf 17 0 zC dX5_knownBehind_14 gf_X5_37 rfl rfl ?_
      refine v_bp (v := (nI 7)) 19 zC dX5_knownBehind_17 (by decide +kernel) ?_
      refine v_il_n 20 zC dX5_knownBehind_19 3 rfl ?_
      refine v_imul (v := (nI (7 * j))) 21 zC dX5_knownBehind_20 (pk_mul _ _) ?_
      refine v_il_n 22 zC dX5_knownBehind_21 0 rfl ?_
      refine v_iadd (v := (nI ((7 * j) + p))) 23 zC dX5_knownBehind_22 (nI_add _ _) ?_
      refine v_ialn (v := (nI (DR (n, m, sh, aw, ki, op, fa, K, G, T) j p))) 24 1 zC dX5_knownBehind_23 rfl (by omega) (congrArg nI (rk_n hR (by omega) (by omega))) ?_
      refine v_cS (As := [.int (nI (DR (n, m, sh, aw, ki, op, fa, K, G, T) j p))]) (st := [.int (nI x)]) 27 [] zC dX5_knownBehind_24 hA (c_X5_onesOf (ev_l E) (ev_D E) cI (x := (DR (n, m, sh, aw, ki, op, fa, K, G, T) j p)) (hx := (Nat.lt_trans (rk_b hR hj (by omega)) (by decide)))) cf_X5_onesOf lk_X5_120 rfl rfl rfl (by decide +kernel) (Nat.le_of_ble_eq_true rfl) (fun rv_2 wv_3 hp_4 hm_5 => ?_)
      clear hm_5
      obtain ⟨rfl, rfl⟩ := hp_4
      show VV E 0 0 27 [(3, .int (nI p)), (2, .int (nI x)), (0, .ref r0), (1, .int (nI j))] [.int (nI (pcn (DR (n, m, sh, aw, ki, op, fa, K, G, T) j p))), .int (nI x)] [(r0, .inr (5, [.int (nI n), .ref k1, .ref k2, .ref k3, .ref k4, .int (nI m), .ref k6, .ref k7, .ref k8, .int (nI 0), .ref k10, .int (nI aw), .ref k12, .ref k13, .ref k14, .ref k15, .ref k16, .int (nI ls), .int (nI ap), .int (bz bd), .int (nI sq), .ref k21, .ref k22, .ref k23, .ref k24, .ref k25, .int (bz pd), .int (nI pl), .int (bz tk), kv, .ref k30, .ref k31, .int (nI tz), .ref k33, .int (nI rs), .int sd])), (k13, .inl (cI, 175, .inl (nIf kn)))]
      refine v_iadd (v := (nI (x + (pcn (DR (n, m, sh, aw, ki, op, fa, K, G, T) j p))))) 28 zC dX5_knownBehind_27 (nI_add _ _) ?_
      refine v_is_n (lv2 := [(2, .int (nI (x + (pcn (DR (n, m, sh, aw, ki, op, fa, K, G, T) j p))))), (3, .int (nI p)), (0, .ref r0), (1, .int (nI j))]) 29 zC dX5_knownBehind_28 (by rw [hnE]; decide) rfl ?_
      refine v_inc (v := (nI (p + 1))) (lv2 := [(3, .int (nI (p + 1))), (2, .int (nI (x + (pcn (DR (n, m, sh, aw, ki, op, fa, K, G, T) j p))))), (0, .ref r0), (1, .int (nI j))]) 32 zC dX5_knownBehind_29 (j := 1) rfl (nI_add _ 1) (by rw [hnE]; decide) rfl ?_
      refine v_goto 4 zC dX5_knownBehind_32 ?_
      refine v_lvs (lv2 := [(3, .int (nI (p + 1))), (2, .int (nI (x + (pcn (DR (n, m, sh, aw, ki, op, fa, K, G, T) j p))))), (0, .ref r0), (1, .int (nI j))]) [0, 1, 2, 3] rfl ?_
      exact ih4 _ (by omega) (x + (pcn (DR (n, m, sh, aw, ki, op, fa, K, G, T) j p))) (p + 1) (by rw [hx]; rfl) (by first | omega | assumption | rfl | (simp only []; omega) | decide) rfl
  refine v_lvs (lv2 := [(3, .int (nI 0)), (2, .int (nI 0)), (0, .ref r0), (1, .int (nI j))]) [0, 1, 2, 3] rfl ?_
  exact lp4 _ 0 0 rfl (by first | omega | assumption | rfl | (simp only []; omega) | decide) rfl
set_option maxRecDepth 100000 in
set_option maxHeartbeats 4000000 in
theorem c_X5_allNow (l : Launch) (D : va_G) (cI : ClassId) (r0 k1 k2 k3 k4 k6 k7 k8 k10 k12 k13 k14 k15 k16 k21 k22 k23 k24 k25 k30 k31 k33 : Nat) (n m aw ls ap sq pl tz rs : Nat) (bd pd tk : Bool) (kv : Value) (sd : Int32) (ki op fa K G T : Nat → Nat) (sh : Nat) (kw kn : Nat → Nat) (M : Nat → Option Nat) (mw : Nat → Nat) (hw : FW n m sh ki op fa K G T) (hkw : ∀ z, kw z < 1024) (hkn : ∀ z, kn z < 1024) (hM : ∀ z v, M z = some v → v < 7) : CT l yX5_allNow cX5_allNow 1 (some .int) { frames := 6, cells := 0, slots := 0, locals := 138 } D cI [.ref r0] [(r0, .inr (5, [.int (nI n), .ref k1, .ref k2, .ref k3, .ref k4, .int (nI m), .ref k6, .ref k7, .ref k8, .int (nI 0), .ref k10, .int (nI aw), .ref k12, .ref k13, .ref k14, .ref k15, .ref k16, .int (nI ls), .int (nI ap), .int (bz bd), .int (nI sq), .ref k21, .ref k22, .ref k23, .ref k24, .ref k25, .int (bz pd), .int (nI pl), .int (bz tk), kv, .ref k30, .ref k31, .int (nI tz), .ref k33, .int (nI rs), .int sd])), (k1, .inl (cI, 7, .inl (nIf ki))), (k2, .inl (cI, 7, .inl (nIf op))), (k3, .inl (cI, 7, .inl (nIf (shF sh)))), (k4, .inl (cI, 7, .inl (nIf fa))), (k6, .inl (cI, 6, .inl (nIf K))), (k7, .inl (cI, 6, .inl (nIf G))), (k8, .inl (cI, 6, .inl (nIf T))), (k12, .inl (cI, 7, .inl (nIf kw))), (k13, .inl (cI, 175, .inl (nIf kn))), (k14, .inl (cI, 144, .inl (mIf M))), (k15, .inl (cI, 7, .inl (nIf mw)))] (fun zr zw => (∃ kw1 : Nat → Nat, ∃ kn1 : Nat → Nat, ∃ M1 : Nat → Option Nat, ∃ mw1 : Nat → Nat, (ROK (n, m, sh, aw, ki, op, fa, K, G, T) kw1 kn1 M1) ∧ (ALL (n, m, sh, aw, ki, op, fa, K, G, T) ≤ 70) ∧ zr = some (.int (nI (ALL (n, m, sh, aw, ki, op, fa, K, G, T)))) ∧ zw = [(r0, .inr (5, [.int (nI n), .ref k1, .ref k2, .ref k3, .ref k4, .int (nI m), .ref k6, .ref k7, .ref k8, .int (nI 0), .ref k10, .int (nI aw), .ref k12, .ref k13, .ref k14, .ref k15, .ref k16, .int (nI ls), .int (nI ap), .int (bz bd), .int (nI sq), .ref k21, .ref k22, .ref k23, .ref k24, .ref k25, .int (bz pd), .int (nI pl), .int (bz tk), kv, .ref k30, .ref k31, .int (nI tz), .ref k33, .int (nI rs), .int sd])), (k1, .inl (cI, 7, .inl (nIf ki))), (k2, .inl (cI, 7, .inl (nIf op))), (k3, .inl (cI, 7, .inl (nIf (shF sh)))), (k4, .inl (cI, 7, .inl (nIf fa))), (k6, .inl (cI, 6, .inl (nIf K))), (k7, .inl (cI, 6, .inl (nIf G))), (k8, .inl (cI, 6, .inl (nIf T))), (k12, .inl (cI, 7, .inl (nIf kw1))), (k13, .inl (cI, 175, .inl (nIf kn1))), (k14, .inl (cI, 144, .inl (mIf M1))), (k15, .inl (cI, 7, .inl (nIf mw1)))])) := by
  refine CT_of RX5 rfl (by decide +kernel) (Nat.le_of_ble_eq_true rfl) (fun E hnE zC zT => ?_)
  have hA : ∀ q, (ev_s E).heap.size ≤ q → ev_A E q := fun q h => by rw [zT.2]; exact Or.inr h
  obtain ⟨hn, hm, hsh, hki, hop, hfa, hK, hG, hT, vki, vop, vfa, vK, vG, vT⟩ := id hw
  show VV E 0 0 0 [(0, .ref r0)] [] [(r0, .inr (5, [.int (nI n), .ref k1, .ref k2, .ref k3, .ref k4, .int (nI m), .ref k6, .ref k7, .ref k8, .int (nI 0), .ref k10, .int (nI aw), .ref k12, .ref k13, .ref k14, .ref k15, .ref k16, .int (nI ls), .int (nI ap), .int (bz bd), .int (nI sq), .ref k21, .ref k22, .ref k23, .ref k24, .ref k25, .int (bz pd), .int (nI pl), .int (bz tk), kv, .ref k30, .ref k31, .int (nI tz), .ref k33, .int (nI rs), .int sd])), (k1, .inl (cI, 7, .inl (nIf ki))), (k2, .inl (cI, 7, .inl (nIf op))), (k3, .inl (cI, 7, .inl (nIf (shF sh)))), (k4, .inl (cI, 7, .inl (nIf fa))), (k6, .inl (cI, 6, .inl (nIf K))), (k7, .inl (cI, 6, .inl (nIf G))), (k8, .inl (cI, 6, .inl (nIf T))), (k12, .inl (cI, 7, .inl (nIf kw))), (k13, .inl (cI, 175, .inl (nIf kn))), (k14, .inl (cI, 144, .inl (mIf M))), (k15, .inl (cI, 7, .inl (nIf mw)))]
  refine v_al_n 1 zC dX5_allNow_0 0 rfl ?_
  refine v_cV (As := []) (st := []) 4 0 [0, 1, 2, 3, 4, 5, 6, 7, 8, 9, 10, 11] zC dX5_allNow_1 hA (c_X5_day (ev_l E) (ev_D E) cI (r0 := r0) (k1 := k1) (k2 := k2) (k3 := k3) (k4 := k4) (k6 := k6) (k7 := k7) (k8 := k8) (k10 := k10) (k12 := k12) (k13 := k13) (k14 := k14) (k15 := k15) (k16 := k16) (k21 := k21) (k22 := k22) (k23 := k23) (k24 := k24) (k25 := k25) (k30 := k30) (k31 := k31) (k33 := k33) (n := n) (m := m) (aw := aw) (ls := ls) (ap := ap) (sq := sq) (pl := pl) (tz := tz) (rs := rs) (bd := bd) (pd := pd) (tk := tk) (kv := kv) (sd := sd) (ki := ki) (op := op) (fa := fa) (K := K) (G := G) (T := T) (sh := sh) (kw := kw) (kn := kn) (M := M) (mw := mw) (hw := (by first | omega | assumption | rfl | (simp only []; omega) | decide)) (hkw := (by first | omega | assumption | rfl | (simp only []; omega) | decide)) (hkn := (by first | omega | assumption | rfl | (simp only []; omega) | decide)) (hM := (by first | omega | assumption | rfl | (simp only []; omega) | decide))) cf_X5_day lk_X5_123 rfl rfl rfl rfl rfl (by decide +kernel) (Nat.le_of_ble_eq_true rfl) (fun rv_1 wv_2 hp_3 hm_4 => ?_)
  clear hm_4
  obtain ⟨kw1_5, kn1_6, M1_7, mw1_8, hR_9, rfl, rfl⟩ := hp_3
  show VV E 0 0 4 [(0, .ref r0)] [] [(r0, .inr (5, [.int (nI n), .ref k1, .ref k2, .ref k3, .ref k4, .int (nI m), .ref k6, .ref k7, .ref k8, .int (nI 0), .ref k10, .int (nI aw), .ref k12, .ref k13, .ref k14, .ref k15, .ref k16, .int (nI ls), .int (nI ap), .int (bz bd), .int (nI sq), .ref k21, .ref k22, .ref k23, .ref k24, .ref k25, .int (bz pd), .int (nI pl), .int (bz tk), kv, .ref k30, .ref k31, .int (nI tz), .ref k33, .int (nI rs), .int sd])), (k1, .inl (cI, 7, .inl (nIf ki))), (k2, .inl (cI, 7, .inl (nIf op))), (k3, .inl (cI, 7, .inl (nIf (shF sh)))), (k4, .inl (cI, 7, .inl (nIf fa))), (k6, .inl (cI, 6, .inl (nIf K))), (k7, .inl (cI, 6, .inl (nIf G))), (k8, .inl (cI, 6, .inl (nIf T))), (k12, .inl (cI, 7, .inl (nIf kw1_5))), (k13, .inl (cI, 175, .inl (nIf kn1_6))), (k14, .inl (cI, 144, .inl (mIf M1_7))), (k15, .inl (cI, 7, .inl (nIf mw1_8)))]
  have hR9 := hR_9
  refine v_al_n 5 zC dX5_allNow_4 0 rfl ?_
  refine v_bp (v := (nI 24)) 7 zC dX5_allNow_5 (by decide +kernel) ?_
  refine v_cV (As := [.int (nI 24)]) (st := []) 10 0 [0, 9] zC dX5_allNow_7 hA (c_X5_knownBehind (ev_l E) (ev_D E) cI (r0 := r0) (k1 := k1) (k2 := k2) (k3 := k3) (k4 := k4) (k6 := k6) (k7 := k7) (k8 := k8) (k10 := k10) (k12 := k12) (k13 := k13) (k14 := k14) (k15 := k15) (k16 := k16) (k21 := k21) (k22 := k22) (k23 := k23) (k24 := k24) (k25 := k25) (k30 := k30) (k31 := k31) (k33 := k33) (n := n) (m := m) (aw := aw) (ls := ls) (ap := ap) (sq := sq) (pl := pl) (tz := tz) (rs := rs) (bd := bd) (pd := pd) (tk := tk) (kv := kv) (sd := sd) (ki := ki) (op := op) (fa := fa) (K := K) (G := G) (T := T) (sh := sh) (kw := kw1_5) (kn := kn1_6) (M := M1_7) (j := 24) (hn := (by first | omega | assumption | rfl | (simp only []; omega) | decide)) (hm := (by first | omega | assumption | rfl | (simp only []; omega) | decide)) (hR := hR9) (hj := (by first | omega | assumption | rfl | (simp only []; omega) | decide))) cf_X5_knownBehind lk_X5_126 rfl rfl rfl rfl rfl (by decide +kernel) (Nat.le_of_ble_eq_true rfl) (fun rv_10 wv_11 hp_12 hm_13 => ?_)
  clear hm_13
  obtain ⟨rfl, rfl⟩ := hp_12
  show VV E 0 0 10 [(0, .ref r0)] [.int (nI (KBH (n, m, sh, aw, ki, op, fa, K, G, T) 24))] [(r0, .inr (5, [.int (nI n), .ref k1, .ref k2, .ref k3, .ref k4, .int (nI m), .ref k6, .ref k7, .ref k8, .int (nI 0), .ref k10, .int (nI aw), .ref k12, .ref k13, .ref k14, .ref k15, .ref k16, .int (nI ls), .int (nI ap), .int (bz bd), .int (nI sq), .ref k21, .ref k22, .ref k23, .ref k24, .ref k25, .int (bz pd), .int (nI pl), .int (bz tk), kv, .ref k30, .ref k31, .int (nI tz), .ref k33, .int (nI rs), .int sd])), (k1, .inl (cI, 7, .inl (nIf ki))), (k2, .inl (cI, 7, .inl (nIf op))), (k3, .inl (cI, 7, .inl (nIf (shF sh)))), (k4, .inl (cI, 7, .inl (nIf fa))), (k6, .inl (cI, 6, .inl (nIf K))), (k7, .inl (cI, 6, .inl (nIf G))), (k8, .inl (cI, 6, .inl (nIf T))), (k12, .inl (cI, 7, .inl (nIf kw1_5))), (k13, .inl (cI, 175, .inl (nIf kn1_6))), (k14, .inl (cI, 144, .inl (mIf M1_7))), (k15, .inl (cI, 7, .inl (nIf mw1_8)))]
  refine v_iret zC zT dX5_allNow_10  ?_
  exact ⟨_, _, _, _, hR9, kbh_le hR9 hn (Nat.le_refl _), rfl, rfl⟩
set_option maxRecDepth 100000 in
set_option maxHeartbeats 4000000 in
theorem c_X5_saidBy (l : Launch) (D : va_G) (cI : ClassId) (r0 k1 k2 k3 k4 k6 k7 k8 k10 k12 k13 k14 k15 k16 k21 k22 k23 k24 k25 k30 k31 k33 : Nat) (n m aw ls ap sq pl tz rs : Nat) (bd pd tk : Bool) (kv : Value) (sd : Int32) (ki op fa K G T : Nat → Nat) (sh : Nat) (kw kn : Nat → Nat) (M : Nat → Option Nat) (p h : Nat) (hn : n ≤ 7) (hm : m ≤ 6) (hR : ROK (n, m, sh, aw, ki, op, fa, K, G, T) kw kn M) (hp : p < 7) (hh : h < 24) (hT : ∀ z, T z < 10) : CT l yX5_saidBy cX5_saidBy 5 (some .int) { frames := 0, cells := 0, slots := 0, locals := 0 } D cI [.ref r0, .int (nI p), .int (nI h)] [(r0, .inr (5, [.int (nI n), .ref k1, .ref k2, .ref k3, .ref k4, .int (nI m), .ref k6, .ref k7, .ref k8, .int (nI 0), .ref k10, .int (nI aw), .ref k12, .ref k13, .ref k14, .ref k15, .ref k16, .int (nI ls), .int (nI ap), .int (bz bd), .int (nI sq), .ref k21, .ref k22, .ref k23, .ref k24, .ref k25, .int (bz pd), .int (nI pl), .int (bz tk), kv, .ref k30, .ref k31, .int (nI tz), .ref k33, .int (nI rs), .int sd])), (k8, .inl (cI, 6, .inl (nIf T))), (k14, .inl (cI, 144, .inl (mIf M)))] (fun zr zw => (zr = some (.int (nI (SAY (n, m, sh, aw, ki, op, fa, K, G, T) p h))) ∧ zw = [(r0, .inr (5, [.int (nI n), .ref k1, .ref k2, .ref k3, .ref k4, .int (nI m), .ref k6, .ref k7, .ref k8, .int (nI 0), .ref k10, .int (nI aw), .ref k12, .ref k13, .ref k14, .ref k15, .ref k16, .int (nI ls), .int (nI ap), .int (bz bd), .int (nI sq), .ref k21, .ref k22, .ref k23, .ref k24, .ref k25, .int (bz pd), .int (nI pl), .int (bz tk), kv, .ref k30, .ref k31, .int (nI tz), .ref k33, .int (nI rs), .int sd])), (k8, .inl (cI, 6, .inl (nIf T))), (k14, .inl (cI, 144, .inl (mIf M)))])) := by
  refine CT_of RX5 rfl (by decide +kernel) (Nat.le_of_ble_eq_true rfl) (fun E hnE zC zT => ?_)
  have hA : ∀ q, (ev_s E).heap.size ≤ q → ev_A E q := fun q h => by rw [zT.2]; exact Or.inr h
  show VV E 0 0 0 [(0, .ref r0), (1, .int (nI p)), (2, .int (nI h))] [] [(r0, .inr (5, [.int (nI n), .ref k1, .ref k2, .ref k3, .ref k4, .int (nI m), .ref k6, .ref k7, .ref k8, .int (nI 0), .ref k10, .int (nI aw), .ref k12, .ref k13, .ref k14, .ref k15, .ref k16, .int (nI ls), .int (nI ap), .int (bz bd), .int (nI sq), .ref k21, .ref k22, .ref k23, .ref k24, .ref k25, .int (bz pd), .int (nI pl), .int (bz tk), kv, .ref k30, .ref k31, .int (nI tz), .ref k33, .int (nI rs), .int sd])), (k8, .inl (cI, 6, .inl (nIf T))), (k14, .inl (cI, 144, .inl (mIf M)))]
  refine v_ic (v := (nI 0)) 1 zC dX5_saidBy_0 (by decide +kernel) ?_
  refine v_is_n (lv2 := [(3, .int (nI 0)), (0, .ref r0), (1, .int (nI p)), (2, .int (nI h))]) 2 zC dX5_saidBy_1 (by rw [hnE]; decide) rfl ?_
  refine v_ic (v := (nI 0)) 3 zC dX5_saidBy_2 (by decide +kernel) ?_
  refine v_is (lv2 := [(4, .int (nI 0)), (3, .int (nI 0)), (0, .ref r0), (1, .int (nI p)), (2, .int (nI h))]) 5 zC dX5_saidBy_3 (by rw [hnE]; decide) rfl ?_
  have lp5 : ∀ (mz : Nat) (x : Nat) (d : Nat), (x = orn (fun d => if (DM (n, m, sh, aw, ki, op, fa, K, G, T) h d == some p) = true then 2 ^ T d else 0) d) → (d ≤ m) → m - d = mz → VV E 0 0 5 [(4, .int (nI d)), (3, .int (nI x)), (0, .ref r0), (1, .int (nI p)), (2, .int (nI h))] [] [(r0, .inr (5, [.int (nI n), .ref k1, .ref k2, .ref k3, .ref k4, .int (nI m), .ref k6, .ref k7, .ref k8, .int (nI 0), .ref k10, .int (nI aw), .ref k12, .ref k13, .ref k14, .ref k15, .ref k16, .int (nI ls), .int (nI ap), .int (bz bd), .int (nI sq), .ref k21, .ref k22, .ref k23, .ref k24, .ref k25, .int (bz pd), .int (nI pl), .int (bz tk), kv, .ref k30, .ref k31, .int (nI tz), .ref k33, .int (nI rs), .int sd])), (k8, .inl (cI, 6, .inl (nIf T))), (k14, .inl (cI, 144, .inl (mIf M)))] := by
    intro mz
    induction mz using Nat.strongRecOn with
    | _ mz ih5 =>
    intro x d hx hd hm5
    refine v_il 7 zC dX5_saidBy_5 0 rfl ?_
    refine v_al_n 8 zC dX5_saidBy_7 2 rfl ?_
    refine v_gf 11 0 zC dX5_saidBy_8 gf_X5_84 rfl rfl ?_
    refine v_icmpn_ge 52 14 zC dX5_saidBy_11 (fun h_1 => ?_) (fun h_1 => ?_)
    ·
      refine v_il_n 53 zC dX5_saidBy_52 1 rfl ?_
      refine v_iret zC zT dX5_saidBy_53  ?_
      exact ⟨sn (by rw [hx, show d = m by omega]; rfl), rfl⟩
    ·
      refine v_il_n 15 zC dX5_saidBy_14 1 rfl ?_
      refine v_al_n 16 zC dX5_saidBy_15 2 rfl ?_
      refine v_gf 19 0 zC dX5_saidBy_16 gf_X5_40 rfl rfl ?_
      refine v_bp (v := (nI 6)) 21 zC dX5_saidBy_19 (by decide +kernel) ?_
      refine v_il_n 22 zC dX5_saidBy_21 4 rfl ?_
      refine v_imul (v := (nI (6 * h))) 23 zC dX5_saidBy_22 (pk_mul _ _) ?_
      refine v_il 25 zC dX5_saidBy_23 0 rfl ?_
      refine v_iadd (v := (nI ((6 * h) + d))) 26 zC dX5_saidBy_25 (nI_add _ _) ?_
      refine v_ialn (v := (mI (DM (n, m, sh, aw, ki, op, fa, K, G, T) h d))) 27 2 zC dX5_saidBy_26 rfl (by omega) (congrArg mI (rk_m hR (by omega) (by omega))) ?_
      refine v_il_n 28 zC dX5_saidBy_27 3 rfl ?_
      refine v_icmpo_ne 43 31 zC dX5_saidBy_28 (fun v e => rk_lt hR (by omega) (by omega) e) (fun h_2 => ?_) (fun h_2 => ?_)
      ·
        have hv9 := h_2
        refine v_ic (v := (nI 0)) 44 zC dX5_saidBy_43 (by decide +kernel) ?_
        refine v_ior (v := (nI x)) 45 zC dX5_saidBy_44 (by rw [fa_or, Nat.or_zero]) ?_
        refine v_is_n (lv2 := [(3, .int (nI x)), (4, .int (nI d)), (0, .ref r0), (1, .int (nI p)), (2, .int (nI h))]) 46 zC dX5_saidBy_45 (by rw [hnE]; decide) rfl ?_
        refine v_inc (v := (nI (d + 1))) (lv2 := [(4, .int (nI (d + 1))), (3, .int (nI x)), (0, .ref r0), (1, .int (nI p)), (2, .int (nI h))]) 49 zC dX5_saidBy_46 (j := 1) rfl (nI_add _ 1) (by rw [hnE]; decide) rfl ?_
        refine v_goto 5 zC dX5_saidBy_49 ?_
        refine v_lvs (lv2 := [(4, .int (nI (d + 1))), (3, .int (nI x)), (0, .ref r0), (1, .int (nI p)), (2, .int (nI h))]) [0, 1, 2, 3, 4] rfl ?_
        exact ih5 _ (by omega) x (d + 1) (by first | (rw [hx]; simp [orn, hv9]; done) | (rw [hx]; simp [orn, hu9]; done)) (by first | omega | assumption | rfl | (simp only []; omega) | decide) rfl
      ·
        have hu9 := h_2
        refine v_ic (v := (nI 1)) 32 zC dX5_saidBy_31 (by decide +kernel) ?_
        refine v_al_n 33 zC dX5_saidBy_32 2 rfl ?_
        refine v_gf 36 0 zC dX5_saidBy_33 gf_X5_28 rfl rfl ?_
        refine v_il 38 zC dX5_saidBy_36 0 rfl ?_
        refine v_ialn (v := (nI (T d))) 39 1 zC dX5_saidBy_38 rfl (by omega) rfl ?_
        have hb_3 := hT d
        refine v_ishl (v := (nI (2 ^ (T d)))) 40 zC dX5_saidBy_39 (b1n (by omega)) ?_
        refine v_goto 44 zC dX5_saidBy_40 ?_
        refine v_ior (v := (nI (x ||| (2 ^ (T d))))) 45 zC dX5_saidBy_44 (fa_or _ _) ?_
        refine v_is_n (lv2 := [(3, .int (nI (x ||| (2 ^ (T d))))), (4, .int (nI d)), (0, .ref r0), (1, .int (nI p)), (2, .int (nI h))]) 46 zC dX5_saidBy_45 (by rw [hnE]; decide) rfl ?_
        refine v_inc (v := (nI (d + 1))) (lv2 := [(4, .int (nI (d + 1))), (3, .int (nI (x ||| (2 ^ (T d))))), (0, .ref r0), (1, .int (nI p)), (2, .int (nI h))]) 49 zC dX5_saidBy_46 (j := 1) rfl (nI_add _ 1) (by rw [hnE]; decide) rfl ?_
        refine v_goto 5 zC dX5_saidBy_49 ?_
        refine v_lvs (lv2 := [(4, .int (nI (d + 1))), (3, .int (nI (x ||| (2 ^ (T d))))), (0, .ref r0), (1, .int (nI p)), (2, .int (nI h))]) [0, 1, 2, 3, 4] rfl ?_
        exact ih5 _ (by omega) (x ||| (2 ^ (T d))) (d + 1) (by first | (rw [hx]; simp [orn, hv9]; done) | (rw [hx]; simp [orn, hu9]; done)) (by first | omega | assumption | rfl | (simp only []; omega) | decide) rfl
  refine v_lvs (lv2 := [(4, .int (nI 0)), (3, .int (nI 0)), (0, .ref r0), (1, .int (nI p)), (2, .int (nI h))]) [0, 1, 2, 3, 4] rfl ?_
  exact lp5 _ 0 0 rfl (by first | omega | assumption | rfl | (simp only []; omega) | decide) rfl
set_option maxRecDepth 100000 in
set_option maxHeartbeats 4000000 in
theorem c_X5_quarrelHours (l : Launch) (D : va_G) (cI : ClassId) (r0 k1 k2 k3 k4 k6 k7 k8 k10 k12 k13 k14 k15 k16 k21 k22 k23 k24 k25 k30 k31 k33 : Nat) (n m aw ls ap sq pl tz rs : Nat) (bd pd tk : Bool) (kv : Value) (sd : Int32) (ki op fa K G T : Nat → Nat) (sh : Nat) (kw kn : Nat → Nat) (M : Nat → Option Nat) (mw : Nat → Nat) (hw : FW n m sh ki op fa K G T) (hkw : ∀ z, kw z < 1024) (hkn : ∀ z, kn z < 1024) (hM : ∀ z v, M z = some v → v < 7) : CT l yX5_quarrelHours cX5_quarrelHours 5 (some .int) { frames := 6, cells := 0, slots := 0, locals := 138 } D cI [.ref r0] [(r0, .inr (5, [.int (nI n), .ref k1, .ref k2, .ref k3, .ref k4, .int (nI m), .ref k6, .ref k7, .ref k8, .int (nI 0), .ref k10, .int (nI aw), .ref k12, .ref k13, .ref k14, .ref k15, .ref k16, .int (nI ls), .int (nI ap), .int (bz bd), .int (nI sq), .ref k21, .ref k22, .ref k23, .ref k24, .ref k25, .int (bz pd), .int (nI pl), .int (bz tk), kv, .ref k30, .ref k31, .int (nI tz), .ref k33, .int (nI rs), .int sd])), (k1, .inl (cI, 7, .inl (nIf ki))), (k2, .inl (cI, 7, .inl (nIf op))), (k3, .inl (cI, 7, .inl (nIf (shF sh)))), (k4, .inl (cI, 7, .inl (nIf fa))), (k6, .inl (cI, 6, .inl (nIf K))), (k7, .inl (cI, 6, .inl (nIf G))), (k8, .inl (cI, 6, .inl (nIf T))), (k12, .inl (cI, 7, .inl (nIf kw))), (k13, .inl (cI, 175, .inl (nIf kn))), (k14, .inl (cI, 144, .inl (mIf M))), (k15, .inl (cI, 7, .inl (nIf mw)))] (fun zr zw => (∃ kw1 : Nat → Nat, ∃ kn1 : Nat → Nat, ∃ M1 : Nat → Option Nat, ∃ mw1 : Nat → Nat, (∀ z, kw1 z < 1024) ∧ (∀ z, kn1 z < 1024) ∧ (∀ z v, M1 z = some v → v < 7) ∧ (QUAH (n, m, sh, aw, ki, op, fa, K, G, T) ≤ 24) ∧ zr = some (.int (nI (QUAH (n, m, sh, aw, ki, op, fa, K, G, T)))) ∧ zw = [(r0, .inr (5, [.int (nI n), .ref k1, .ref k2, .ref k3, .ref k4, .int (nI m), .ref k6, .ref k7, .ref k8, .int (nI 0), .ref k10, .int (nI aw), .ref k12, .ref k13, .ref k14, .ref k15, .ref k16, .int (nI ls), .int (nI ap), .int (bz bd), .int (nI sq), .ref k21, .ref k22, .ref k23, .ref k24, .ref k25, .int (bz pd), .int (nI pl), .int (bz tk), kv, .ref k30, .ref k31, .int (nI tz), .ref k33, .int (nI rs), .int sd])), (k1, .inl (cI, 7, .inl (nIf ki))), (k2, .inl (cI, 7, .inl (nIf op))), (k3, .inl (cI, 7, .inl (nIf (shF sh)))), (k4, .inl (cI, 7, .inl (nIf fa))), (k6, .inl (cI, 6, .inl (nIf K))), (k7, .inl (cI, 6, .inl (nIf G))), (k8, .inl (cI, 6, .inl (nIf T))), (k12, .inl (cI, 7, .inl (nIf kw1))), (k13, .inl (cI, 175, .inl (nIf kn1))), (k14, .inl (cI, 144, .inl (mIf M1))), (k15, .inl (cI, 7, .inl (nIf mw1)))])) := by
  refine CT_of RX5 rfl (by decide +kernel) (Nat.le_of_ble_eq_true rfl) (fun E hnE zC zT => ?_)
  have hA : ∀ q, (ev_s E).heap.size ≤ q → ev_A E q := fun q h => by rw [zT.2]; exact Or.inr h
  obtain ⟨hn, hm, hsh, hki, hop, hfa, hK, hG, hT, vki, vop, vfa, vK, vG, vT⟩ := id hw
  show VV E 0 0 0 [(0, .ref r0)] [] [(r0, .inr (5, [.int (nI n), .ref k1, .ref k2, .ref k3, .ref k4, .int (nI m), .ref k6, .ref k7, .ref k8, .int (nI 0), .ref k10, .int (nI aw), .ref k12, .ref k13, .ref k14, .ref k15, .ref k16, .int (nI ls), .int (nI ap), .int (bz bd), .int (nI sq), .ref k21, .ref k22, .ref k23, .ref k24, .ref k25, .int (bz pd), .int (nI pl), .int (bz tk), kv, .ref k30, .ref k31, .int (nI tz), .ref k33, .int (nI rs), .int sd])), (k1, .inl (cI, 7, .inl (nIf ki))), (k2, .inl (cI, 7, .inl (nIf op))), (k3, .inl (cI, 7, .inl (nIf (shF sh)))), (k4, .inl (cI, 7, .inl (nIf fa))), (k6, .inl (cI, 6, .inl (nIf K))), (k7, .inl (cI, 6, .inl (nIf G))), (k8, .inl (cI, 6, .inl (nIf T))), (k12, .inl (cI, 7, .inl (nIf kw))), (k13, .inl (cI, 175, .inl (nIf kn))), (k14, .inl (cI, 144, .inl (mIf M))), (k15, .inl (cI, 7, .inl (nIf mw)))]
  refine v_al_n 1 zC dX5_quarrelHours_0 0 rfl ?_
  refine v_cV (As := []) (st := []) 4 0 [0, 1, 2, 3, 4, 5, 6, 7, 8, 9, 10, 11] zC dX5_quarrelHours_1 hA (c_X5_day (ev_l E) (ev_D E) cI (r0 := r0) (k1 := k1) (k2 := k2) (k3 := k3) (k4 := k4) (k6 := k6) (k7 := k7) (k8 := k8) (k10 := k10) (k12 := k12) (k13 := k13) (k14 := k14) (k15 := k15) (k16 := k16) (k21 := k21) (k22 := k22) (k23 := k23) (k24 := k24) (k25 := k25) (k30 := k30) (k31 := k31) (k33 := k33) (n := n) (m := m) (aw := aw) (ls := ls) (ap := ap) (sq := sq) (pl := pl) (tz := tz) (rs := rs) (bd := bd) (pd := pd) (tk := tk) (kv := kv) (sd := sd) (ki := ki) (op := op) (fa := fa) (K := K) (G := G) (T := T) (sh := sh) (kw := kw) (kn := kn) (M := M) (mw := mw) (hw := (by first | omega | assumption | rfl | (simp only []; omega) | decide)) (hkw := (by first | omega | assumption | rfl | (simp only []; omega) | decide)) (hkn := (by first | omega | assumption | rfl | (simp only []; omega) | decide)) (hM := (by first | omega | assumption | rfl | (simp only []; omega) | decide))) cf_X5_day lk_X5_123 rfl rfl rfl rfl rfl (by decide +kernel) (Nat.le_of_ble_eq_true rfl) (fun rv_1 wv_2 hp_3 hm_4 => ?_)
  clear hm_4
  obtain ⟨kw1_5, kn1_6, M1_7, mw1_8, hR_9, rfl, rfl⟩ := hp_3
  show VV E 0 0 4 [(0, .ref r0)] [] [(r0, .inr (5, [.int (nI n), .ref k1, .ref k2, .ref k3, .ref k4, .int (nI m), .ref k6, .ref k7, .ref k8, .int (nI 0), .ref k10, .int (nI aw), .ref k12, .ref k13, .ref k14, .ref k15, .ref k16, .int (nI ls), .int (nI ap), .int (bz bd), .int (nI sq), .ref k21, .ref k22, .ref k23, .ref k24, .ref k25, .int (bz pd), .int (nI pl), .int (bz tk), kv, .ref k30, .ref k31, .int (nI tz), .ref k33, .int (nI rs), .int sd])), (k1, .inl (cI, 7, .inl (nIf ki))), (k2, .inl (cI, 7, .inl (nIf op))), (k3, .inl (cI, 7, .inl (nIf (shF sh)))), (k4, .inl (cI, 7, .inl (nIf fa))), (k6, .inl (cI, 6, .inl (nIf K))), (k7, .inl (cI, 6, .inl (nIf G))), (k8, .inl (cI, 6, .inl (nIf T))), (k12, .inl (cI, 7, .inl (nIf kw1_5))), (k13, .inl (cI, 175, .inl (nIf kn1_6))), (k14, .inl (cI, 144, .inl (mIf M1_7))), (k15, .inl (cI, 7, .inl (nIf mw1_8)))]
  have hR := hR_9
  refine v_ic (v := (nI 0)) 5 zC dX5_quarrelHours_4 (by decide +kernel) ?_
  refine v_is_n (lv2 := [(1, .int (nI 0)), (0, .ref r0)]) 6 zC dX5_quarrelHours_5 (by rw [hnE]; decide) rfl ?_
  refine v_ic (v := (nI 0)) 7 zC dX5_quarrelHours_6 (by decide +kernel) ?_
  refine v_is_n (lv2 := [(2, .int (nI 0)), (1, .int (nI 0)), (0, .ref r0)]) 8 zC dX5_quarrelHours_7 (by rw [hnE]; decide) rfl ?_
  have lp8 : ∀ (mz : Nat) (x : Nat) (h : Nat), (x = ctn (fun h => decide (1 < QHC (n, m, sh, aw, ki, op, fa, K, G, T) h)) h) → (h ≤ 24) → 24 - h = mz → VV E 0 0 8 [(2, .int (nI h)), (1, .int (nI x)), (0, .ref r0)] [] [(r0, .inr (5, [.int (nI n), .ref k1, .ref k2, .ref k3, .ref k4, .int (nI m), .ref k6, .ref k7, .ref k8, .int (nI 0), .ref k10, .int (nI aw), .ref k12, .ref k13, .ref k14, .ref k15, .ref k16, .int (nI ls), .int (nI ap), .int (bz bd), .int (nI sq), .ref k21, .ref k22, .ref k23, .ref k24, .ref k25, .int (bz pd), .int (nI pl), .int (bz tk), kv, .ref k30, .ref k31, .int (nI tz), .ref k33, .int (nI rs), .int sd])), (k1, .inl (cI, 7, .inl (nIf ki))), (k2, .inl (cI, 7, .inl (nIf op))), (k3, .inl (cI, 7, .inl (nIf (shF sh)))), (k4, .inl (cI, 7, .inl (nIf fa))), (k6, .inl (cI, 6, .inl (nIf K))), (k7, .inl (cI, 6, .inl (nIf G))), (k8, .inl (cI, 6, .inl (nIf T))), (k12, .inl (cI, 7, .inl (nIf kw1_5))), (k13, .inl (cI, 175, .inl (nIf kn1_6))), (k14, .inl (cI, 144, .inl (mIf M1_7))), (k15, .inl (cI, 7, .inl (nIf mw1_8)))] := by
    intro mz
    induction mz using Nat.strongRecOn with
    | _ mz ih8 =>
    intro x h hx hh hm8
    refine v_il_n 9 zC dX5_quarrelHours_8 0 rfl ?_
    refine v_bp (v := (nI 24)) 11 zC dX5_quarrelHours_9 (by decide +kernel) ?_
    refine v_icmpn_ge 87 14 zC dX5_quarrelHours_11 (fun h_10 => ?_) (fun h_10 => ?_)
    ·
      refine v_il_n 88 zC dX5_quarrelHours_87 1 rfl ?_
      refine v_iret zC zT dX5_quarrelHours_88  ?_
      exact ⟨_, _, _, _, hR.2.2.2.1, hR.2.2.2.2.1, hR.2.2.2.2.2, ctn_le _ _, sn (by rw [hx, show h = 24 by omega]; exact quah_e.symm), rfl⟩
    ·
      refine v_ic (v := (nI 0)) 15 zC dX5_quarrelHours_14 (by decide +kernel) ?_
      refine v_is_n (lv2 := [(3, .int (nI 0)), (2, .int (nI h)), (1, .int (nI x)), (0, .ref r0)]) 16 zC dX5_quarrelHours_15 (by rw [hnE]; decide) rfl ?_
      refine v_ic (v := (nI 0)) 17 zC dX5_quarrelHours_16 (by decide +kernel) ?_
      refine v_is (lv2 := [(4, .int (nI 0)), (3, .int (nI 0)), (2, .int (nI h)), (1, .int (nI x)), (0, .ref r0)]) 19 zC dX5_quarrelHours_17 (by rw [hnE]; decide) rfl ?_
      have lp19 : ∀ (mz : Nat) (y : Nat) (d : Nat), (y = ctn (fun d => decide (K d = 3) && (DM (n, m, sh, aw, ki, op, fa, K, G, T) h d).isSome) d) → (d ≤ m) → (y ≤ d) → m - d = mz → VV E 0 0 19 [(4, .int (nI d)), (3, .int (nI y)), (2, .int (nI h)), (1, .int (nI x)), (0, .ref r0)] [] [(r0, .inr (5, [.int (nI n), .ref k1, .ref k2, .ref k3, .ref k4, .int (nI m), .ref k6, .ref k7, .ref k8, .int (nI 0), .ref k10, .int (nI aw), .ref k12, .ref k13, .ref k14, .ref k15, .ref k16, .int (nI ls), .int (nI ap), .int (bz bd), .int (nI sq), .ref k21, .ref k22, .ref k23, .ref k24, .ref k25, .int (bz pd), .int (nI pl), .int (bz tk), kv, .ref k30, .ref k31, .int (nI tz), .ref k33, .int (nI rs), .int sd])), (k1, .inl (cI, 7, .inl (nIf ki))), (k2, .inl (cI, 7, .inl (nIf op))), (k3, .inl (cI, 7, .inl (nIf (shF sh)))), (k4, .inl (cI, 7, .inl (nIf fa))), (k6, .inl (cI, 6, .inl (nIf K))), (k7, .inl (cI, 6, .inl (nIf G))), (k8, .inl (cI, 6, .inl (nIf T))), (k12, .inl (cI, 7, .inl (nIf kw1_5))), (k13, .inl (cI, 175, .inl (nIf kn1_6))), (k14, .inl (cI, 144, .inl (mIf M1_7))), (k15, .inl (cI, 7, .inl (nIf mw1_8)))] := by
        intro mz
        induction mz using Nat.strongRecOn with
        | _ mz ih19 =>
        intro y d hy hd hyl hm19
        refine v_il 21 zC dX5_quarrelHours_19 0 rfl ?_
        refine v_al_n 22 zC dX5_quarrelHours_21 4 rfl ?_
        refine v_gf 25 0 zC dX5_quarrelHours_22 gf_X5_84 rfl rfl ?_
        refine v_icmpn_ge 68 28 zC dX5_quarrelHours_25 (fun h_11 => ?_) (fun h_11 => ?_)
        ·
          refine v_il_n 69 zC dX5_quarrelHours_68 3 rfl ?_
          refine v_il_n 70 zC dX5_quarrelHours_69 1 rfl ?_
          refine v_ic (v := (nI 1)) 71 zC dX5_quarrelHours_70 (by decide +kernel) ?_
          have hy8 : y = QHC (n, m, sh, aw, ki, op, fa, K, G, T) h := by rw [hy, show d = m by omega]; rfl
          refine v_icmpn_le 78 74 zC dX5_quarrelHours_71 (fun h_12 => ?_) (fun h_12 => ?_)
          ·
            have hv9 : ¬ 1 < QHC (n, m, sh, aw, ki, op, fa, K, G, T) h := by rw [← hy8]; omega
            refine v_ic (v := (nI 0)) 79 zC dX5_quarrelHours_78 (by decide +kernel) ?_
            refine v_iadd (v := (nI x)) 80 zC dX5_quarrelHours_79 (nI_add _ 0) ?_
            refine v_is_n (lv2 := [(1, .int (nI x)), (4, .int (nI d)), (3, .int (nI y)), (2, .int (nI h)), (0, .ref r0)]) 81 zC dX5_quarrelHours_80 (by rw [hnE]; decide) rfl ?_
            refine v_inc (v := (nI (h + 1))) (lv2 := [(2, .int (nI (h + 1))), (1, .int (nI x)), (4, .int (nI d)), (3, .int (nI y)), (0, .ref r0)]) 84 zC dX5_quarrelHours_81 (j := 3) rfl (nI_add _ 1) (by rw [hnE]; decide) rfl ?_
            refine v_goto 8 zC dX5_quarrelHours_84 ?_
            refine v_lvs (lv2 := [(2, .int (nI (h + 1))), (1, .int (nI x)), (0, .ref r0)]) [0, 1, 4] rfl ?_
            exact ih8 _ (by omega) x (h + 1) (by first | exact (by rw [hx]; exact (ctn_1 (P := fun h => decide (1 < QHC (n, m, sh, aw, ki, op, fa, K, G, T) h)) (decide_eq_true hu9)).symm) | exact (by rw [hx]; exact (ctn_0 (P := fun h => decide (1 < QHC (n, m, sh, aw, ki, op, fa, K, G, T) h)) (decide_eq_false hv9)).symm)) (by first | omega | assumption | rfl | (simp only []; omega) | decide) rfl
          ·
            have hu9 : 1 < QHC (n, m, sh, aw, ki, op, fa, K, G, T) h := by rw [← hy8]; omega
            refine v_ic (v := (nI 1)) 75 zC dX5_quarrelHours_74 (by decide +kernel) ?_
            refine v_goto 79 zC dX5_quarrelHours_75 ?_
            refine v_iadd (v := (nI (x + 1))) 80 zC dX5_quarrelHours_79 (nI_add _ _) ?_
            refine v_is_n (lv2 := [(1, .int (nI (x + 1))), (4, .int (nI d)), (3, .int (nI y)), (2, .int (nI h)), (0, .ref r0)]) 81 zC dX5_quarrelHours_80 (by rw [hnE]; decide) rfl ?_
            refine v_inc (v := (nI (h + 1))) (lv2 := [(2, .int (nI (h + 1))), (1, .int (nI (x + 1))), (4, .int (nI d)), (3, .int (nI y)), (0, .ref r0)]) 84 zC dX5_quarrelHours_81 (j := 3) rfl (nI_add _ 1) (by rw [hnE]; decide) rfl ?_
            refine v_goto 8 zC dX5_quarrelHours_84 ?_
            refine v_lvs (lv2 := [(2, .int (nI (h + 1))), (1, .int (nI (x + 1))), (0, .ref r0)]) [0, 1, 4] rfl ?_
            exact ih8 _ (by omega) (x + 1) (h + 1) (by first | exact (by rw [hx]; exact (ctn_1 (P := fun h => decide (1 < QHC (n, m, sh, aw, ki, op, fa, K, G, T) h)) (decide_eq_true hu9)).symm) | exact (by rw [hx]; exact (ctn_0 (P := fun h => decide (1 < QHC (n, m, sh, aw, ki, op, fa, K, G, T) h)) (decide_eq_false hv9)).symm)) (by first | omega | assumption | rfl | (simp only []; omega) | decide) rfl
        ·
          refine v_il_n 29 zC dX5_quarrelHours_28 1 rfl ?_
          refine v_al_n 30 zC dX5_quarrelHours_29 4 rfl ?_
          refine v_gf 33 0 zC dX5_quarrelHours_30 gf_X5_22 rfl rfl ?_
          refine v_il 35 zC dX5_quarrelHours_33 0 rfl ?_
          refine v_ialn (v := (nI (K d))) 36 5 zC dX5_quarrelHours_35 rfl (by omega) rfl ?_
          have hb_13 := hK d
          refine v_ic (v := (nI 3)) 37 zC dX5_quarrelHours_36 (by decide +kernel) ?_
          refine v_icmpn_ne 59 40 zC dX5_quarrelHours_37 (fun h_14 => ?_) (fun h_14 => ?_)
          ·
            refine v_ic (v := (nI 0)) 60 zC dX5_quarrelHours_59 (by decide +kernel) ?_
            refine v_iadd (v := (nI y)) 61 zC dX5_quarrelHours_60 (nI_add _ 0) ?_
            refine v_is_n (lv2 := [(3, .int (nI y)), (4, .int (nI d)), (2, .int (nI h)), (1, .int (nI x)), (0, .ref r0)]) 62 zC dX5_quarrelHours_61 (by rw [hnE]; decide) rfl ?_
            refine v_inc (v := (nI (d + 1))) (lv2 := [(4, .int (nI (d + 1))), (3, .int (nI y)), (2, .int (nI h)), (1, .int (nI x)), (0, .ref r0)]) 65 zC dX5_quarrelHours_62 (j := 1) rfl (nI_add _ 1) (by rw [hnE]; decide) rfl ?_
            refine v_goto 19 zC dX5_quarrelHours_65 ?_
            refine v_lvs (lv2 := [(4, .int (nI (d + 1))), (3, .int (nI y)), (2, .int (nI h)), (1, .int (nI x)), (0, .ref r0)]) [0, 1, 2, 3, 4] rfl ?_
            exact ih19 _ (by omega) y (d + 1) (by first | exact (by rw [hy]; exact (ctn_1 (by first | assumption | simp [*])).symm) | exact (by rw [hy]; exact (ctn_0 (by first | assumption | simp [*])).symm)) (by first | omega | assumption | rfl | (simp only []; omega) | decide) (by first | omega | assumption | rfl | (simp only []; omega) | decide) rfl
          ·
            refine v_al_n 41 zC dX5_quarrelHours_40 4 rfl ?_
            refine v_gf 44 0 zC dX5_quarrelHours_41 gf_X5_40 rfl rfl ?_
            refine v_bp (v := (nI 6)) 46 zC dX5_quarrelHours_44 (by decide +kernel) ?_
            refine v_il_n 47 zC dX5_quarrelHours_46 2 rfl ?_
            refine v_imul (v := (nI (6 * h))) 48 zC dX5_quarrelHours_47 (pk_mul _ _) ?_
            refine v_il 50 zC dX5_quarrelHours_48 0 rfl ?_
            refine v_iadd (v := (nI ((6 * h) + d))) 51 zC dX5_quarrelHours_50 (nI_add _ _) ?_
            refine v_ialn (v := (mI (DM (n, m, sh, aw, ki, op, fa, K, G, T) h d))) 52 10 zC dX5_quarrelHours_51 rfl (by omega) (congrArg mI (rk_m hR (by omega) (by omega))) ?_
            refine v_ifo_lt 59 55 zC dX5_quarrelHours_52 (fun v e => rk_lt hR (by omega) (by omega) e) (fun h_15 => ?_) (fun h_15 => ?_)
            ·
              refine v_ic (v := (nI 0)) 60 zC dX5_quarrelHours_59 (by decide +kernel) ?_
              refine v_iadd (v := (nI y)) 61 zC dX5_quarrelHours_60 (nI_add _ 0) ?_
              refine v_is_n (lv2 := [(3, .int (nI y)), (4, .int (nI d)), (2, .int (nI h)), (1, .int (nI x)), (0, .ref r0)]) 62 zC dX5_quarrelHours_61 (by rw [hnE]; decide) rfl ?_
              refine v_inc (v := (nI (d + 1))) (lv2 := [(4, .int (nI (d + 1))), (3, .int (nI y)), (2, .int (nI h)), (1, .int (nI x)), (0, .ref r0)]) 65 zC dX5_quarrelHours_62 (j := 1) rfl (nI_add _ 1) (by rw [hnE]; decide) rfl ?_
              refine v_goto 19 zC dX5_quarrelHours_65 ?_
              refine v_lvs (lv2 := [(4, .int (nI (d + 1))), (3, .int (nI y)), (2, .int (nI h)), (1, .int (nI x)), (0, .ref r0)]) [0, 1, 2, 3, 4] rfl ?_
              exact ih19 _ (by omega) y (d + 1) (by first | exact (by rw [hy]; exact (ctn_1 (by first | assumption | simp [*])).symm) | exact (by rw [hy]; exact (ctn_0 (by first | assumption | simp [*])).symm)) (by first | omega | assumption | rfl | (simp only []; omega) | decide) (by first | omega | assumption | rfl | (simp only []; omega) | decide) rfl
            ·
              refine v_ic (v := (nI 1)) 56 zC dX5_quarrelHours_55 (by decide +kernel) ?_
              refine v_goto 60 zC dX5_quarrelHours_56 ?_
              refine v_iadd (v := (nI (y + 1))) 61 zC dX5_quarrelHours_60 (nI_add _ _) ?_
              refine v_is_n (lv2 := [(3, .int (nI (y + 1))), (4, .int (nI d)), (2, .int (nI h)), (1, .int (nI x)), (0, .ref r0)]) 62 zC dX5_quarrelHours_61 (by rw [hnE]; decide) rfl ?_
              refine v_inc (v := (nI (d + 1))) (lv2 := [(4, .int (nI (d + 1))), (3, .int (nI (y + 1))), (2, .int (nI h)), (1, .int (nI x)), (0, .ref r0)]) 65 zC dX5_quarrelHours_62 (j := 1) rfl (nI_add _ 1) (by rw [hnE]; decide) rfl ?_
              refine v_goto 19 zC dX5_quarrelHours_65 ?_
              refine v_lvs (lv2 := [(4, .int (nI (d + 1))), (3, .int (nI (y + 1))), (2, .int (nI h)), (1, .int (nI x)), (0, .ref r0)]) [0, 1, 2, 3, 4] rfl ?_
              exact ih19 _ (by omega) (y + 1) (d + 1) (by first | exact (by rw [hy]; exact (ctn_1 (by first | assumption | simp [*])).symm) | exact (by rw [hy]; exact (ctn_0 (by first | assumption | simp [*])).symm)) (by first | omega | assumption | rfl | (simp only []; omega) | decide) (by first | omega | assumption | rfl | (simp only []; omega) | decide) rfl
      refine v_lvs (lv2 := [(4, .int (nI 0)), (3, .int (nI 0)), (2, .int (nI h)), (1, .int (nI x)), (0, .ref r0)]) [0, 1, 2, 3, 4] rfl ?_
      exact lp19 _ 0 0 rfl (by first | omega | assumption | rfl | (simp only []; omega) | decide) (by first | omega | assumption | rfl | (simp only []; omega) | decide) rfl
  refine v_lvs (lv2 := [(2, .int (nI 0)), (1, .int (nI 0)), (0, .ref r0)]) [0, 1, 2] rfl ?_
  exact lp8 _ 0 0 rfl (by first | omega | assumption | rfl | (simp only []; omega) | decide) rfl
set_option maxRecDepth 100000 in
set_option maxHeartbeats 4000000 in
theorem c_X5_dayPasses (l : Launch) (D : va_G) (cI : ClassId) (r0 k1 k2 k3 k4 k6 k7 k8 k10 k12 k13 k14 k15 k16 k21 k22 k23 k24 k25 k30 k31 k33 : Nat) (n m aw ls ap sq pl tz rs : Nat) (bd pd tk : Bool) (kv : Value) (sd : Int32) (ki op fa K G T : Nat → Nat) (sh : Nat) (kw kn : Nat → Nat) (M : Nat → Option Nat) (mw : Nat → Nat) (hw : FW n m sh ki op fa K G T) (hkw : ∀ z, kw z < 1024) (hkn : ∀ z, kn z < 1024) (hM : ∀ z v, M z = some v → v < 7) : CT l yX5_dayPasses cX5_dayPasses 3 (some .int) { frames := 6, cells := 0, slots := 0, locals := 138 } D cI [.ref r0] [(r0, .inr (5, [.int (nI n), .ref k1, .ref k2, .ref k3, .ref k4, .int (nI m), .ref k6, .ref k7, .ref k8, .int (nI 0), .ref k10, .int (nI aw), .ref k12, .ref k13, .ref k14, .ref k15, .ref k16, .int (nI ls), .int (nI ap), .int (bz bd), .int (nI sq), .ref k21, .ref k22, .ref k23, .ref k24, .ref k25, .int (bz pd), .int (nI pl), .int (bz tk), kv, .ref k30, .ref k31, .int (nI tz), .ref k33, .int (nI rs), .int sd])), (k1, .inl (cI, 7, .inl (nIf ki))), (k2, .inl (cI, 7, .inl (nIf op))), (k3, .inl (cI, 7, .inl (nIf (shF sh)))), (k4, .inl (cI, 7, .inl (nIf fa))), (k6, .inl (cI, 6, .inl (nIf K))), (k7, .inl (cI, 6, .inl (nIf G))), (k8, .inl (cI, 6, .inl (nIf T))), (k12, .inl (cI, 7, .inl (nIf kw))), (k13, .inl (cI, 175, .inl (nIf kn))), (k14, .inl (cI, 144, .inl (mIf M))), (k15, .inl (cI, 7, .inl (nIf mw)))] (fun zr zw => (∃ kw1 : Nat → Nat, ∃ kn1 : Nat → Nat, ∃ M1 : Nat → Option Nat, ∃ mw1 : Nat → Nat, (∀ z, kw1 z < 1024) ∧ (∀ z, kn1 z < 1024) ∧ (∀ z v, M1 z = some v → v < 7) ∧ (∀ z, PASF (n, m, sh, aw, ki, op, fa, K, G, T) z < 1024) ∧ (ALL (n, m, sh, aw, ki, op, fa, K, G, T) ≤ 70) ∧ (KBH (n, m, sh, aw, ki, op, fa, K, G, T) 0 ≤ 70) ∧ zr = some (.int (nI (ALL (n, m, sh, aw, ki, op, fa, K, G, T)) - nI (KBH (n, m, sh, aw, ki, op, fa, K, G, T) 0))) ∧ zw = [(r0, .inr (5, [.int (nI n), .ref k1, .ref k2, .ref k3, .ref k4, .int (nI m), .ref k6, .ref k7, .ref k8, .int (nI 0), .ref k10, .int (nI aw), .ref k12, .ref k13, .ref k14, .ref k15, .ref k16, .int (nI ls), .int (nI ap), .int (bz bd), .int (nI sq), .ref k21, .ref k22, .ref k23, .ref k24, .ref k25, .int (bz pd), .int (nI pl), .int (bz tk), kv, .ref k30, .ref k31, .int (nI tz), .ref k33, .int (nI rs), .int sd])), (k1, .inl (cI, 7, .inl (nIf ki))), (k2, .inl (cI, 7, .inl (nIf op))), (k3, .inl (cI, 7, .inl (nIf (shF sh)))), (k4, .inl (cI, 7, .inl (nIf (PASF (n, m, sh, aw, ki, op, fa, K, G, T))))), (k6, .inl (cI, 6, .inl (nIf K))), (k7, .inl (cI, 6, .inl (nIf G))), (k8, .inl (cI, 6, .inl (nIf T))), (k12, .inl (cI, 7, .inl (nIf kw1))), (k13, .inl (cI, 175, .inl (nIf kn1))), (k14, .inl (cI, 144, .inl (mIf M1))), (k15, .inl (cI, 7, .inl (nIf mw1)))])) := by
  refine CT_of RX5 rfl (by decide +kernel) (Nat.le_of_ble_eq_true rfl) (fun E hnE zC zT => ?_)
  have hA : ∀ q, (ev_s E).heap.size ≤ q → ev_A E q := fun q h => by rw [zT.2]; exact Or.inr h
  obtain ⟨hn, hm, hsh, hki, hop, hfa, hK, hG, hT, vki, vop, vfa, vK, vG, vT⟩ := id hw
  show VV E 0 0 0 [(0, .ref r0)] [] [(r0, .inr (5, [.int (nI n), .ref k1, .ref k2, .ref k3, .ref k4, .int (nI m), .ref k6, .ref k7, .ref k8, .int (nI 0), .ref k10, .int (nI aw), .ref k12, .ref k13, .ref k14, .ref k15, .ref k16, .int (nI ls), .int (nI ap), .int (bz bd), .int (nI sq), .ref k21, .ref k22, .ref k23, .ref k24, .ref k25, .int (bz pd), .int (nI pl), .int (bz tk), kv, .ref k30, .ref k31, .int (nI tz), .ref k33, .int (nI rs), .int sd])), (k1, .inl (cI, 7, .inl (nIf ki))), (k2, .inl (cI, 7, .inl (nIf op))), (k3, .inl (cI, 7, .inl (nIf (shF sh)))), (k4, .inl (cI, 7, .inl (nIf fa))), (k6, .inl (cI, 6, .inl (nIf K))), (k7, .inl (cI, 6, .inl (nIf G))), (k8, .inl (cI, 6, .inl (nIf T))), (k12, .inl (cI, 7, .inl (nIf kw))), (k13, .inl (cI, 175, .inl (nIf kn))), (k14, .inl (cI, 144, .inl (mIf M))), (k15, .inl (cI, 7, .inl (nIf mw)))]
  refine v_al_n 1 zC dX5_dayPasses_0 0 rfl ?_
  refine v_cV (As := []) (st := []) 4 0 [0, 1, 2, 3, 4, 5, 6, 7, 8, 9, 10, 11] zC dX5_dayPasses_1 hA (c_X5_day (ev_l E) (ev_D E) cI (r0 := r0) (k1 := k1) (k2 := k2) (k3 := k3) (k4 := k4) (k6 := k6) (k7 := k7) (k8 := k8) (k10 := k10) (k12 := k12) (k13 := k13) (k14 := k14) (k15 := k15) (k16 := k16) (k21 := k21) (k22 := k22) (k23 := k23) (k24 := k24) (k25 := k25) (k30 := k30) (k31 := k31) (k33 := k33) (n := n) (m := m) (aw := aw) (ls := ls) (ap := ap) (sq := sq) (pl := pl) (tz := tz) (rs := rs) (bd := bd) (pd := pd) (tk := tk) (kv := kv) (sd := sd) (ki := ki) (op := op) (fa := fa) (K := K) (G := G) (T := T) (sh := sh) (kw := kw) (kn := kn) (M := M) (mw := mw) (hw := (by first | omega | assumption | rfl | (simp only []; omega) | decide)) (hkw := (by first | omega | assumption | rfl | (simp only []; omega) | decide)) (hkn := (by first | omega | assumption | rfl | (simp only []; omega) | decide)) (hM := (by first | omega | assumption | rfl | (simp only []; omega) | decide))) cf_X5_day lk_X5_123 rfl rfl rfl rfl rfl (by decide +kernel) (Nat.le_of_ble_eq_true rfl) (fun rv_1 wv_2 hp_3 hm_4 => ?_)
  clear hm_4
  obtain ⟨kw1_5, kn1_6, M1_7, mw1_8, hR_9, rfl, rfl⟩ := hp_3
  show VV E 0 0 4 [(0, .ref r0)] [] [(r0, .inr (5, [.int (nI n), .ref k1, .ref k2, .ref k3, .ref k4, .int (nI m), .ref k6, .ref k7, .ref k8, .int (nI 0), .ref k10, .int (nI aw), .ref k12, .ref k13, .ref k14, .ref k15, .ref k16, .int (nI ls), .int (nI ap), .int (bz bd), .int (nI sq), .ref k21, .ref k22, .ref k23, .ref k24, .ref k25, .int (bz pd), .int (nI pl), .int (bz tk), kv, .ref k30, .ref k31, .int (nI tz), .ref k33, .int (nI rs), .int sd])), (k1, .inl (cI, 7, .inl (nIf ki))), (k2, .inl (cI, 7, .inl (nIf op))), (k3, .inl (cI, 7, .inl (nIf (shF sh)))), (k4, .inl (cI, 7, .inl (nIf fa))), (k6, .inl (cI, 6, .inl (nIf K))), (k7, .inl (cI, 6, .inl (nIf G))), (k8, .inl (cI, 6, .inl (nIf T))), (k12, .inl (cI, 7, .inl (nIf kw1_5))), (k13, .inl (cI, 175, .inl (nIf kn1_6))), (k14, .inl (cI, 144, .inl (mIf M1_7))), (k15, .inl (cI, 7, .inl (nIf mw1_8)))]
  have hR9 := hR_9
  obtain ⟨KWN, he_K⟩ : ∃ z, z = kw1_5 := ⟨_, rfl⟩
  subst he_K
  refine v_al_n 5 zC dX5_dayPasses_4 0 rfl ?_
  refine v_bp (v := (nI 24)) 7 zC dX5_dayPasses_5 (by decide +kernel) ?_
  refine v_cV (As := [.int (nI 24)]) (st := []) 10 0 [0, 9] zC dX5_dayPasses_7 hA (c_X5_knownBehind (ev_l E) (ev_D E) cI (r0 := r0) (k1 := k1) (k2 := k2) (k3 := k3) (k4 := k4) (k6 := k6) (k7 := k7) (k8 := k8) (k10 := k10) (k12 := k12) (k13 := k13) (k14 := k14) (k15 := k15) (k16 := k16) (k21 := k21) (k22 := k22) (k23 := k23) (k24 := k24) (k25 := k25) (k30 := k30) (k31 := k31) (k33 := k33) (n := n) (m := m) (aw := aw) (ls := ls) (ap := ap) (sq := sq) (pl := pl) (tz := tz) (rs := rs) (bd := bd) (pd := pd) (tk := tk) (kv := kv) (sd := sd) (ki := ki) (op := op) (fa := fa) (K := K) (G := G) (T := T) (sh := sh) (kw := KWN) (kn := kn1_6) (M := M1_7) (j := 24) (hn := (by first | omega | assumption | rfl | (simp only []; omega) | decide)) (hm := (by first | omega | assumption | rfl | (simp only []; omega) | decide)) (hR := hR9) (hj := (by first | omega | assumption | rfl | (simp only []; omega) | decide))) cf_X5_knownBehind lk_X5_126 rfl rfl rfl rfl rfl (by decide +kernel) (Nat.le_of_ble_eq_true rfl) (fun rv_10 wv_11 hp_12 hm_13 => ?_)
  clear hm_13
  obtain ⟨rfl, rfl⟩ := hp_12
  show VV E 0 0 10 [(0, .ref r0)] [.int (nI (KBH (n, m, sh, aw, ki, op, fa, K, G, T) 24))] [(r0, .inr (5, [.int (nI n), .ref k1, .ref k2, .ref k3, .ref k4, .int (nI m), .ref k6, .ref k7, .ref k8, .int (nI 0), .ref k10, .int (nI aw), .ref k12, .ref k13, .ref k14, .ref k15, .ref k16, .int (nI ls), .int (nI ap), .int (bz bd), .int (nI sq), .ref k21, .ref k22, .ref k23, .ref k24, .ref k25, .int (bz pd), .int (nI pl), .int (bz tk), kv, .ref k30, .ref k31, .int (nI tz), .ref k33, .int (nI rs), .int sd])), (k1, .inl (cI, 7, .inl (nIf ki))), (k2, .inl (cI, 7, .inl (nIf op))), (k3, .inl (cI, 7, .inl (nIf (shF sh)))), (k4, .inl (cI, 7, .inl (nIf fa))), (k6, .inl (cI, 6, .inl (nIf K))), (k7, .inl (cI, 6, .inl (nIf G))), (k8, .inl (cI, 6, .inl (nIf T))), (k12, .inl (cI, 7, .inl (nIf KWN))), (k13, .inl (cI, 175, .inl (nIf kn1_6))), (k14, .inl (cI, 144, .inl (mIf M1_7))), (k15, .inl (cI, 7, .inl (nIf mw1_8)))]
  refine v_al_n 11 zC dX5_dayPasses_10 0 rfl ?_
  refine v_ic (v := (nI 0)) 12 zC dX5_dayPasses_11 (by decide +kernel) ?_
  refine v_cV (As := [.int (nI 0)]) (st := [.int (nI (KBH (n, m, sh, aw, ki, op, fa, K, G, T) 24))]) 15 0 [0, 9] zC dX5_dayPasses_12 hA (c_X5_knownBehind (ev_l E) (ev_D E) cI (r0 := r0) (k1 := k1) (k2 := k2) (k3 := k3) (k4 := k4) (k6 := k6) (k7 := k7) (k8 := k8) (k10 := k10) (k12 := k12) (k13 := k13) (k14 := k14) (k15 := k15) (k16 := k16) (k21 := k21) (k22 := k22) (k23 := k23) (k24 := k24) (k25 := k25) (k30 := k30) (k31 := k31) (k33 := k33) (n := n) (m := m) (aw := aw) (ls := ls) (ap := ap) (sq := sq) (pl := pl) (tz := tz) (rs := rs) (bd := bd) (pd := pd) (tk := tk) (kv := kv) (sd := sd) (ki := ki) (op := op) (fa := fa) (K := K) (G := G) (T := T) (sh := sh) (kw := KWN) (kn := kn1_6) (M := M1_7) (j := 0) (hn := (by first | omega | assumption | rfl | (simp only []; omega) | decide)) (hm := (by first | omega | assumption | rfl | (simp only []; omega) | decide)) (hR := hR9) (hj := (by first | omega | assumption | rfl | (simp only []; omega) | decide))) cf_X5_knownBehind lk_X5_126 rfl rfl rfl rfl rfl (by decide +kernel) (Nat.le_of_ble_eq_true rfl) (fun rv_14 wv_15 hp_16 hm_17 => ?_)
  clear hm_17
  obtain ⟨rfl, rfl⟩ := hp_16
  show VV E 0 0 15 [(0, .ref r0)] [.int (nI (KBH (n, m, sh, aw, ki, op, fa, K, G, T) 0)), .int (nI (KBH (n, m, sh, aw, ki, op, fa, K, G, T) 24))] [(r0, .inr (5, [.int (nI n), .ref k1, .ref k2, .ref k3, .ref k4, .int (nI m), .ref k6, .ref k7, .ref k8, .int (nI 0), .ref k10, .int (nI aw), .ref k12, .ref k13, .ref k14, .ref k15, .ref k16, .int (nI ls), .int (nI ap), .int (bz bd), .int (nI sq), .ref k21, .ref k22, .ref k23, .ref k24, .ref k25, .int (bz pd), .int (nI pl), .int (bz tk), kv, .ref k30, .ref k31, .int (nI tz), .ref k33, .int (nI rs), .int sd])), (k1, .inl (cI, 7, .inl (nIf ki))), (k2, .inl (cI, 7, .inl (nIf op))), (k3, .inl (cI, 7, .inl (nIf (shF sh)))), (k4, .inl (cI, 7, .inl (nIf fa))), (k6, .inl (cI, 6, .inl (nIf K))), (k7, .inl (cI, 6, .inl (nIf G))), (k8, .inl (cI, 6, .inl (nIf T))), (k12, .inl (cI, 7, .inl (nIf KWN))), (k13, .inl (cI, 175, .inl (nIf kn1_6))), (k14, .inl (cI, 144, .inl (mIf M1_7))), (k15, .inl (cI, 7, .inl (nIf mw1_8)))]
  refine v_isub (v := (nI (ALL (n, m, sh, aw, ki, op, fa, K, G, T)) - nI (KBH (n, m, sh, aw, ki, op, fa, K, G, T) 0))) 16 zC dX5_dayPasses_15 rfl ?_
  refine v_is_n (lv2 := [(1, .int (nI (ALL (n, m, sh, aw, ki, op, fa, K, G, T)) - nI (KBH (n, m, sh, aw, ki, op, fa, K, G, T) 0))), (0, .ref r0)]) 17 zC dX5_dayPasses_16 (by rw [hnE]; decide) rfl ?_
  refine v_ic (v := (nI 0)) 18 zC dX5_dayPasses_17 (by decide +kernel) ?_
  refine v_is_n (lv2 := [(2, .int (nI 0)), (1, .int (nI (ALL (n, m, sh, aw, ki, op, fa, K, G, T)) - nI (KBH (n, m, sh, aw, ki, op, fa, K, G, T) 0))), (0, .ref r0)]) 19 zC dX5_dayPasses_18 (by rw [hnE]; decide) rfl ?_
  have lp19 : ∀ (mz : Nat) (A : Nat → Nat) (p : Nat), (∀ z, A z = if z < p then KWN z else fa z) → (p ≤ n) → n - p = mz → VV E 0 0 19 [(2, .int (nI p)), (1, .int (nI (ALL (n, m, sh, aw, ki, op, fa, K, G, T)) - nI (KBH (n, m, sh, aw, ki, op, fa, K, G, T) 0))), (0, .ref r0)] [] [(r0, .inr (5, [.int (nI n), .ref k1, .ref k2, .ref k3, .ref k4, .int (nI m), .ref k6, .ref k7, .ref k8, .int (nI 0), .ref k10, .int (nI aw), .ref k12, .ref k13, .ref k14, .ref k15, .ref k16, .int (nI ls), .int (nI ap), .int (bz bd), .int (nI sq), .ref k21, .ref k22, .ref k23, .ref k24, .ref k25, .int (bz pd), .int (nI pl), .int (bz tk), kv, .ref k30, .ref k31, .int (nI tz), .ref k33, .int (nI rs), .int sd])), (k1, .inl (cI, 7, .inl (nIf ki))), (k2, .inl (cI, 7, .inl (nIf op))), (k3, .inl (cI, 7, .inl (nIf (shF sh)))), (k4, .inl (cI, 7, .inl (nIf A))), (k6, .inl (cI, 6, .inl (nIf K))), (k7, .inl (cI, 6, .inl (nIf G))), (k8, .inl (cI, 6, .inl (nIf T))), (k12, .inl (cI, 7, .inl (nIf KWN))), (k13, .inl (cI, 175, .inl (nIf kn1_6))), (k14, .inl (cI, 144, .inl (mIf M1_7))), (k15, .inl (cI, 7, .inl (nIf mw1_8)))] := by
    intro mz
    induction mz using Nat.strongRecOn with
    | _ mz ih19 =>
    intro A p hAx hp hm19
    refine v_il_n 20 zC dX5_dayPasses_19 0 rfl ?_
    refine v_al_n 21 zC dX5_dayPasses_20 2 rfl ?_
    refine v_gf 24 0 zC dX5_dayPasses_21 gf_X5_77 rfl rfl ?_
    refine v_icmpn_ge 45 27 zC dX5_dayPasses_24 (fun h_18 => ?_) (fun h_18 => ?_)
    ·
      refine v_il_n 46 zC dX5_dayPasses_45 1 rfl ?_
      refine v_iret zC zT dX5_dayPasses_46  ?_
      have e9 : A = PASF (n, m, sh, aw, ki, op, fa, K, G, T) := (tf_n hAx (show p = n by omega)).trans (pasr hR9 hn vfa)
      subst e9
      exact ⟨_, _, _, _, hR9.2.2.2.1, hR9.2.2.2.2.1, hR9.2.2.2.2.2, pasr_b hR9 hfa, kbh_le hR9 hn (Nat.le_refl _), kbh_le hR9 hn (Nat.zero_le _), rfl, rfl⟩
    ·
      refine v_al_n 28 zC dX5_dayPasses_27 2 rfl ?_
      refine v_gf 31 0 zC dX5_dayPasses_28 gf_X5_19 rfl rfl ?_
      refine v_il_n 32 zC dX5_dayPasses_31 0 rfl ?_
      refine v_al_n 33 zC dX5_dayPasses_32 2 rfl ?_
      refine v_gf 36 0 zC dX5_dayPasses_33 gf_X5_34 rfl rfl ?_
      refine v_il_n 37 zC dX5_dayPasses_36 0 rfl ?_
      refine v_ialn (v := (nI (KWN p))) 38 8 zC dX5_dayPasses_37 rfl (by omega) rfl ?_
      refine v_iasn (ws2 := [(r0, .inr (5, [.int (nI n), .ref k1, .ref k2, .ref k3, .ref k4, .int (nI m), .ref k6, .ref k7, .ref k8, .int (nI 0), .ref k10, .int (nI aw), .ref k12, .ref k13, .ref k14, .ref k15, .ref k16, .int (nI ls), .int (nI ap), .int (bz bd), .int (nI sq), .ref k21, .ref k22, .ref k23, .ref k24, .ref k25, .int (bz pd), .int (nI pl), .int (bz tk), kv, .ref k30, .ref k31, .int (nI tz), .ref k33, .int (nI rs), .int sd])), (k1, .inl (cI, 7, .inl (nIf ki))), (k2, .inl (cI, 7, .inl (nIf op))), (k3, .inl (cI, 7, .inl (nIf (shF sh)))), (k4, .inl (cI, 7, .inl (nIf (un A p (KWN p))))), (k6, .inl (cI, 6, .inl (nIf K))), (k7, .inl (cI, 6, .inl (nIf G))), (k8, .inl (cI, 6, .inl (nIf T))), (k12, .inl (cI, 7, .inl (nIf KWN))), (k13, .inl (cI, 175, .inl (nIf kn1_6))), (k14, .inl (cI, 144, .inl (mIf M1_7))), (k15, .inl (cI, 7, .inl (nIf mw1_8)))]) 39 4 zC dX5_dayPasses_38 rfl (by omega) (by rw [upd_nIf]; first | done | rfl) ?_
      refine v_inc (v := (nI (p + 1))) (lv2 := [(2, .int (nI (p + 1))), (1, .int (nI (ALL (n, m, sh, aw, ki, op, fa, K, G, T)) - nI (KBH (n, m, sh, aw, ki, op, fa, K, G, T) 0))), (0, .ref r0)]) 42 zC dX5_dayPasses_39 (j := 0) rfl (nI_add _ 1) (by rw [hnE]; decide) rfl ?_
      refine v_goto 19 zC dX5_dayPasses_42 ?_
      refine v_lvs (lv2 := [(2, .int (nI (p + 1))), (1, .int (nI (ALL (n, m, sh, aw, ki, op, fa, K, G, T)) - nI (KBH (n, m, sh, aw, ki, op, fa, K, G, T) 0))), (0, .ref r0)]) [0, 1, 2] rfl ?_
      exact ih19 _ (by omega) (un A p (KWN p)) (p + 1) (tf_s hAx rfl) (by first | omega | assumption | rfl | (simp only []; omega) | decide) rfl
  refine v_lvs (lv2 := [(2, .int (nI 0)), (1, .int (nI (ALL (n, m, sh, aw, ki, op, fa, K, G, T)) - nI (KBH (n, m, sh, aw, ki, op, fa, K, G, T) 0))), (0, .ref r0)]) [0, 1, 2] rfl ?_
  exact lp19 _ fa 0 (fun z => by rw [if_neg (Nat.not_lt_zero _)]) (by first | omega | assumption | rfl | (simp only []; omega) | decide) rfl
set_option maxRecDepth 100000 in
set_option maxHeartbeats 4000000 in
theorem c_X5_shutAll (l : Launch) (D : va_G) (cI : ClassId) (r0 k1 k2 k3 k4 k6 k7 k8 k10 k12 k13 k14 k15 k16 k21 k22 k23 k24 k25 k30 k31 k33 : Nat) (n m aw ls ap sq pl tz rs : Nat) (bd pd tk : Bool) (kv : Value) (sd : Int32) (sh s : Nat) (hn : n ≤ 7) (hs : s < 2 ^ n) (hsh : sh < 2 ^ n) : CT l yX5_shutAll cX5_shutAll 3 none { frames := 1, cells := 0, slots := 0, locals := 21 } D cI [.ref r0, .int (nI s)] [(r0, .inr (5, [.int (nI n), .ref k1, .ref k2, .ref k3, .ref k4, .int (nI m), .ref k6, .ref k7, .ref k8, .int (nI 0), .ref k10, .int (nI aw), .ref k12, .ref k13, .ref k14, .ref k15, .ref k16, .int (nI ls), .int (nI ap), .int (bz bd), .int (nI sq), .ref k21, .ref k22, .ref k23, .ref k24, .ref k25, .int (bz pd), .int (nI pl), .int (bz tk), kv, .ref k30, .ref k31, .int (nI tz), .ref k33, .int (nI rs), .int sd])), (k3, .inl (cI, 7, .inl (nIf (shF sh))))] (fun zr zw => (zr = none ∧ zw = [(r0, .inr (5, [.int (nI n), .ref k1, .ref k2, .ref k3, .ref k4, .int (nI m), .ref k6, .ref k7, .ref k8, .int (nI 0), .ref k10, .int (nI aw), .ref k12, .ref k13, .ref k14, .ref k15, .ref k16, .int (nI ls), .int (nI ap), .int (bz bd), .int (nI sq), .ref k21, .ref k22, .ref k23, .ref k24, .ref k25, .int (bz pd), .int (nI pl), .int (bz tk), kv, .ref k30, .ref k31, .int (nI tz), .ref k33, .int (nI rs), .int sd])), (k3, .inl (cI, 7, .inl (nIf (shF s))))])) := by
  refine CT_of RX5 rfl (by decide +kernel) (Nat.le_of_ble_eq_true rfl) (fun E hnE zC zT => ?_)
  have hA : ∀ q, (ev_s E).heap.size ≤ q → ev_A E q := fun q h => by rw [zT.2]; exact Or.inr h
  show VV E 0 0 0 [(0, .ref r0), (1, .int (nI s))] [] [(r0, .inr (5, [.int (nI n), .ref k1, .ref k2, .ref k3, .ref k4, .int (nI m), .ref k6, .ref k7, .ref k8, .int (nI 0), .ref k10, .int (nI aw), .ref k12, .ref k13, .ref k14, .ref k15, .ref k16, .int (nI ls), .int (nI ap), .int (bz bd), .int (nI sq), .ref k21, .ref k22, .ref k23, .ref k24, .ref k25, .int (bz pd), .int (nI pl), .int (bz tk), kv, .ref k30, .ref k31, .int (nI tz), .ref k33, .int (nI rs), .int sd])), (k3, .inl (cI, 7, .inl (nIf (shF sh))))]
  refine v_ic (v := (nI 0)) 1 zC dX5_shutAll_0 (by decide +kernel) ?_
  refine v_is_n (lv2 := [(2, .int (nI 0)), (0, .ref r0), (1, .int (nI s))]) 2 zC dX5_shutAll_1 (by rw [hnE]; decide) rfl ?_
  have lp2 : ∀ (mz : Nat) (V : Nat → Nat) (p : Nat), (∀ z, V z = if z < p then shF s z else shF sh z) → (p ≤ n) → n - p = mz → VV E 0 0 2 [(2, .int (nI p)), (0, .ref r0), (1, .int (nI s))] [] [(r0, .inr (5, [.int (nI n), .ref k1, .ref k2, .ref k3, .ref k4, .int (nI m), .ref k6, .ref k7, .ref k8, .int (nI 0), .ref k10, .int (nI aw), .ref k12, .ref k13, .ref k14, .ref k15, .ref k16, .int (nI ls), .int (nI ap), .int (bz bd), .int (nI sq), .ref k21, .ref k22, .ref k23, .ref k24, .ref k25, .int (bz pd), .int (nI pl), .int (bz tk), kv, .ref k30, .ref k31, .int (nI tz), .ref k33, .int (nI rs), .int sd])), (k3, .inl (cI, 7, .inl (nIf V)))] := by
    intro mz
    induction mz using Nat.strongRecOn with
    | _ mz ih2 =>
    intro V p hV hp hm2
    refine v_il_n 3 zC dX5_shutAll_2 0 rfl ?_
    refine v_al_n 4 zC dX5_shutAll_3 1 rfl ?_
    refine v_gf 7 0 zC dX5_shutAll_4 gf_X5_77 rfl rfl ?_
    refine v_icmpn_ge 35 10 zC dX5_shutAll_7 (fun h_1 => ?_) (fun h_1 => ?_)
    ·
      refine v_vret zC zT dX5_shutAll_35  ?_
      have e9 : V = shF s := shf_all (fun z => by rw [hV z, show p = n by omega]) hs hsh
      subst e9
      exact ⟨rfl, rfl⟩
    ·
      refine v_al_n 11 zC dX5_shutAll_10 1 rfl ?_
      refine v_gf 14 0 zC dX5_shutAll_11 gf_X5_16 rfl rfl ?_
      refine v_il_n 15 zC dX5_shutAll_14 0 rfl ?_
      refine v_il_n 16 zC dX5_shutAll_15 2 rfl ?_
      refine v_il_n 17 zC dX5_shutAll_16 0 rfl ?_
      refine v_cS (As := [.int (nI s), .int (nI p)]) (st := [.int (nI p), .ref k3]) 20 [] zC dX5_shutAll_17 hA (c_X5_hasBit (ev_l E) (ev_D E) cI (x := s) (k := p) (hk := (by first | omega | assumption | rfl | (simp only []; omega) | decide))) cf_X5_hasBit lk_X5_95 rfl rfl rfl (by decide +kernel) (Nat.le_of_ble_eq_true rfl) (fun rv_2 wv_3 hp_4 hm_5 => ?_)
      clear hm_5
      obtain ⟨rfl, rfl⟩ := hp_4
      show VV E 0 0 20 [(2, .int (nI p)), (0, .ref r0), (1, .int (nI s))] [.int (bz (Nat.testBit s p)), .int (nI p), .ref k3] [(r0, .inr (5, [.int (nI n), .ref k1, .ref k2, .ref k3, .ref k4, .int (nI m), .ref k6, .ref k7, .ref k8, .int (nI 0), .ref k10, .int (nI aw), .ref k12, .ref k13, .ref k14, .ref k15, .ref k16, .int (nI ls), .int (nI ap), .int (bz bd), .int (nI sq), .ref k21, .ref k22, .ref k23, .ref k24, .ref k25, .int (bz pd), .int (nI pl), .int (bz tk), kv, .ref k30, .ref k31, .int (nI tz), .ref k33, .int (nI rs), .int sd])), (k3, .inl (cI, 7, .inl (nIf V)))]
      refine v_ifb_eq 27 23 zC dX5_shutAll_20 (fun h_6 => ?_) (fun h_6 => ?_)
      ·
        refine v_ic (v := (nI 0)) 28 zC dX5_shutAll_27 (by decide +kernel) ?_
        refine v_iasn (ws2 := [(r0, .inr (5, [.int (nI n), .ref k1, .ref k2, .ref k3, .ref k4, .int (nI m), .ref k6, .ref k7, .ref k8, .int (nI 0), .ref k10, .int (nI aw), .ref k12, .ref k13, .ref k14, .ref k15, .ref k16, .int (nI ls), .int (nI ap), .int (bz bd), .int (nI sq), .ref k21, .ref k22, .ref k23, .ref k24, .ref k25, .int (bz pd), .int (nI pl), .int (bz tk), kv, .ref k30, .ref k31, .int (nI tz), .ref k33, .int (nI rs), .int sd])), (k3, .inl (cI, 7, .inl (nIf (un V p 0))))]) 29 1 zC dX5_shutAll_28 rfl (by omega) (by rw [upd_nIf]; first | done | rfl) ?_
        refine v_inc (v := (nI (p + 1))) (lv2 := [(2, .int (nI (p + 1))), (0, .ref r0), (1, .int (nI s))]) 32 zC dX5_shutAll_29 (j := 0) rfl (nI_add _ 1) (by rw [hnE]; decide) rfl ?_
        refine v_goto 2 zC dX5_shutAll_32 ?_
        refine v_lvs (lv2 := [(2, .int (nI (p + 1))), (0, .ref r0), (1, .int (nI s))]) [0, 1, 2] rfl ?_
        exact ih2 _ (by omega) (un V p 0) (p + 1) (tf_s hV (by simp [shF, *])) (by first | omega | assumption | rfl | (simp only []; omega) | decide) rfl
      ·
        refine v_ic (v := (nI 1)) 24 zC dX5_shutAll_23 (by decide +kernel) ?_
        refine v_goto 28 zC dX5_shutAll_24 ?_
        refine v_iasn (ws2 := [(r0, .inr (5, [.int (nI n), .ref k1, .ref k2, .ref k3, .ref k4, .int (nI m), .ref k6, .ref k7, .ref k8, .int (nI 0), .ref k10, .int (nI aw), .ref k12, .ref k13, .ref k14, .ref k15, .ref k16, .int (nI ls), .int (nI ap), .int (bz bd), .int (nI sq), .ref k21, .ref k22, .ref k23, .ref k24, .ref k25, .int (bz pd), .int (nI pl), .int (bz tk), kv, .ref k30, .ref k31, .int (nI tz), .ref k33, .int (nI rs), .int sd])), (k3, .inl (cI, 7, .inl (nIf (un V p 1))))]) 29 1 zC dX5_shutAll_28 rfl (by omega) (by rw [upd_nIf]; first | done | rfl) ?_
        refine v_inc (v := (nI (p + 1))) (lv2 := [(2, .int (nI (p + 1))), (0, .ref r0), (1, .int (nI s))]) 32 zC dX5_shutAll_29 (j := 0) rfl (nI_add _ 1) (by rw [hnE]; decide) rfl ?_
        refine v_goto 2 zC dX5_shutAll_32 ?_
        refine v_lvs (lv2 := [(2, .int (nI (p + 1))), (0, .ref r0), (1, .int (nI s))]) [0, 1, 2] rfl ?_
        exact ih2 _ (by omega) (un V p 1) (p + 1) (tf_s hV (by simp [shF, *])) (by first | omega | assumption | rfl | (simp only []; omega) | decide) rfl
  refine v_lvs (lv2 := [(2, .int (nI 0)), (0, .ref r0), (1, .int (nI s))]) [0, 1, 2] rfl ?_
  exact lp2 _ (shF sh) 0 (fun z => by rw [if_neg (Nat.not_lt_zero _)]) (by first | omega | assumption | rfl | (simp only []; omega) | decide) rfl
set_option maxRecDepth 100000 in
set_option maxHeartbeats 4000000 in
theorem c_X5_shutBits (l : Launch) (D : va_G) (cI : ClassId) (r0 k1 k2 k3 k4 k6 k7 k8 k10 k12 k13 k14 k15 k16 k21 k22 k23 k24 k25 k30 k31 k33 : Nat) (n m aw ls ap sq pl tz rs : Nat) (bd pd tk : Bool) (kv : Value) (sd : Int32) (sh : Nat) (hn : n ≤ 7) (hsh : sh < 2 ^ n) : CT l yX5_shutBits cX5_shutBits 3 (some .int) { frames := 0, cells := 0, slots := 0, locals := 0 } D cI [.ref r0] [(r0, .inr (5, [.int (nI n), .ref k1, .ref k2, .ref k3, .ref k4, .int (nI m), .ref k6, .ref k7, .ref k8, .int (nI 0), .ref k10, .int (nI aw), .ref k12, .ref k13, .ref k14, .ref k15, .ref k16, .int (nI ls), .int (nI ap), .int (bz bd), .int (nI sq), .ref k21, .ref k22, .ref k23, .ref k24, .ref k25, .int (bz pd), .int (nI pl), .int (bz tk), kv, .ref k30, .ref k31, .int (nI tz), .ref k33, .int (nI rs), .int sd])), (k3, .inl (cI, 7, .inl (nIf (shF sh))))] (fun zr zw => (zr = some (.int (nI sh)) ∧ zw = [(r0, .inr (5, [.int (nI n), .ref k1, .ref k2, .ref k3, .ref k4, .int (nI m), .ref k6, .ref k7, .ref k8, .int (nI 0), .ref k10, .int (nI aw), .ref k12, .ref k13, .ref k14, .ref k15, .ref k16, .int (nI ls), .int (nI ap), .int (bz bd), .int (nI sq), .ref k21, .ref k22, .ref k23, .ref k24, .ref k25, .int (bz pd), .int (nI pl), .int (bz tk), kv, .ref k30, .ref k31, .int (nI tz), .ref k33, .int (nI rs), .int sd])), (k3, .inl (cI, 7, .inl (nIf (shF sh))))])) := by
  refine CT_of RX5 rfl (by decide +kernel) (Nat.le_of_ble_eq_true rfl) (fun E hnE zC zT => ?_)
  have hA : ∀ q, (ev_s E).heap.size ≤ q → ev_A E q := fun q h => by rw [zT.2]; exact Or.inr h
  show VV E 0 0 0 [(0, .ref r0)] [] [(r0, .inr (5, [.int (nI n), .ref k1, .ref k2, .ref k3, .ref k4, .int (nI m), .ref k6, .ref k7, .ref k8, .int (nI 0), .ref k10, .int (nI aw), .ref k12, .ref k13, .ref k14, .ref k15, .ref k16, .int (nI ls), .int (nI ap), .int (bz bd), .int (nI sq), .ref k21, .ref k22, .ref k23, .ref k24, .ref k25, .int (bz pd), .int (nI pl), .int (bz tk), kv, .ref k30, .ref k31, .int (nI tz), .ref k33, .int (nI rs), .int sd])), (k3, .inl (cI, 7, .inl (nIf (shF sh))))]
  refine v_ic (v := (nI 0)) 1 zC dX5_shutBits_0 (by decide +kernel) ?_
  refine v_is_n (lv2 := [(1, .int (nI 0)), (0, .ref r0)]) 2 zC dX5_shutBits_1 (by rw [hnE]; decide) rfl ?_
  refine v_ic (v := (nI 0)) 3 zC dX5_shutBits_2 (by decide +kernel) ?_
  refine v_is_n (lv2 := [(2, .int (nI 0)), (1, .int (nI 0)), (0, .ref r0)]) 4 zC dX5_shutBits_3 (by rw [hnE]; decide) rfl ?_
  have lp4 : ∀ (mz : Nat) (x : Nat) (p : Nat), (x = mkn (fun p => Nat.testBit sh p) p) → (p ≤ n) → n - p = mz → VV E 0 0 4 [(2, .int (nI p)), (1, .int (nI x)), (0, .ref r0)] [] [(r0, .inr (5, [.int (nI n), .ref k1, .ref k2, .ref k3, .ref k4, .int (nI m), .ref k6, .ref k7, .ref k8, .int (nI 0), .ref k10, .int (nI aw), .ref k12, .ref k13, .ref k14, .ref k15, .ref k16, .int (nI ls), .int (nI ap), .int (bz bd), .int (nI sq), .ref k21, .ref k22, .ref k23, .ref k24, .ref k25, .int (bz pd), .int (nI pl), .int (bz tk), kv, .ref k30, .ref k31, .int (nI tz), .ref k33, .int (nI rs), .int sd])), (k3, .inl (cI, 7, .inl (nIf (shF sh))))] := by
    intro mz
    induction mz using Nat.strongRecOn with
    | _ mz ih4 =>
    intro x p hx hp hm4
    refine v_il_n 5 zC dX5_shutBits_4 0 rfl ?_
    refine v_al_n 6 zC dX5_shutBits_5 2 rfl ?_
    refine v_gf 9 0 zC dX5_shutBits_6 gf_X5_77 rfl rfl ?_
    refine v_icmpn_ge 29 12 zC dX5_shutBits_9 (fun h_1 => ?_) (fun h_1 => ?_)
    ·
      refine v_il_n 30 zC dX5_shutBits_29 1 rfl ?_
      refine v_iret zC zT dX5_shutBits_30  ?_
      exact ⟨sn (by rw [hx, show p = n by omega]; exact mkn_id hsh), rfl⟩
    ·
      refine v_il_n 13 zC dX5_shutBits_12 1 rfl ?_
      refine v_al_n 14 zC dX5_shutBits_13 2 rfl ?_
      refine v_gf 17 0 zC dX5_shutBits_14 gf_X5_16 rfl rfl ?_
      refine v_il_n 18 zC dX5_shutBits_17 0 rfl ?_
      refine v_ialn (v := (nI ((shF sh) p))) 19 1 zC dX5_shutBits_18 rfl (by omega) rfl ?_
      refine v_il_n 20 zC dX5_shutBits_19 0 rfl ?_
      have hb9 := shm_l (sh := sh) (show p < 7 by omega)
      refine v_ishl (v := (nI (((shF sh) p) * 2 ^ p))) 21 zC dX5_shutBits_20 (shln (by omega) (by omega)) ?_
      refine v_ior (v := (nI (x ||| (((shF sh) p) * 2 ^ p)))) 22 zC dX5_shutBits_21 (fa_or _ _) ?_
      refine v_is_n (lv2 := [(1, .int (nI (x ||| (((shF sh) p) * 2 ^ p)))), (2, .int (nI p)), (0, .ref r0)]) 23 zC dX5_shutBits_22 (by rw [hnE]; decide) rfl ?_
      refine v_inc (v := (nI (p + 1))) (lv2 := [(2, .int (nI (p + 1))), (1, .int (nI (x ||| (((shF sh) p) * 2 ^ p)))), (0, .ref r0)]) 26 zC dX5_shutBits_23 (j := 1) rfl (nI_add _ 1) (by rw [hnE]; decide) rfl ?_
      refine v_goto 4 zC dX5_shutBits_26 ?_
      refine v_lvs (lv2 := [(2, .int (nI (p + 1))), (1, .int (nI (x ||| (((shF sh) p) * 2 ^ p)))), (0, .ref r0)]) [0, 1, 2] rfl ?_
      exact ih4 _ (by omega) (x ||| (((shF sh) p) * 2 ^ p)) (p + 1) (shb_s hx) (by first | omega | assumption | rfl | (simp only []; omega) | decide) rfl
  refine v_lvs (lv2 := [(2, .int (nI 0)), (1, .int (nI 0)), (0, .ref r0)]) [0, 1, 2] rfl ?_
  exact lp4 _ 0 0 rfl (by first | omega | assumption | rfl | (simp only []; omega) | decide) rfl
set_option maxRecDepth 100000 in
set_option maxHeartbeats 4000000 in
theorem c_X5_change (l : Launch) (D : va_G) (cI : ClassId) (r0 k1 k2 k3 k4 k6 k7 k8 k10 k12 k13 k14 k15 k16 k21 k22 k23 k24 k25 k30 k31 k33 : Nat) (n m aw ls ap sq pl tz rs : Nat) (bd pd tk : Bool) (kv : Value) (sd : Int32) (ki op fa : Nat → Nat) (sh a b : Nat) (ha : a < 7) (hb : b < 7) : CT l yX5_change cX5_change 7 none { frames := 0, cells := 0, slots := 0, locals := 0 } D cI [.ref r0, .int (nI a), .int (nI b)] [(r0, .inr (5, [.int (nI n), .ref k1, .ref k2, .ref k3, .ref k4, .int (nI m), .ref k6, .ref k7, .ref k8, .int (nI 0), .ref k10, .int (nI aw), .ref k12, .ref k13, .ref k14, .ref k15, .ref k16, .int (nI ls), .int (nI ap), .int (bz bd), .int (nI sq), .ref k21, .ref k22, .ref k23, .ref k24, .ref k25, .int (bz pd), .int (nI pl), .int (bz tk), kv, .ref k30, .ref k31, .int (nI tz), .ref k33, .int (nI rs), .int sd])), (k1, .inl (cI, 7, .inl (nIf ki))), (k2, .inl (cI, 7, .inl (nIf op))), (k3, .inl (cI, 7, .inl (nIf (shF sh)))), (k4, .inl (cI, 7, .inl (nIf fa)))] (fun zr zw => (zr = none ∧ zw = [(r0, .inr (5, [.int (nI n), .ref k1, .ref k2, .ref k3, .ref k4, .int (nI m), .ref k6, .ref k7, .ref k8, .int (nI 0), .ref k10, .int (nI aw), .ref k12, .ref k13, .ref k14, .ref k15, .ref k16, .int (nI ls), .int (nI ap), .int (bz bd), .int (nI sq), .ref k21, .ref k22, .ref k23, .ref k24, .ref k25, .int (bz pd), .int (nI pl), .int (bz tk), kv, .ref k30, .ref k31, .int (nI tz), .ref k33, .int (nI rs), .int sd])), (k1, .inl (cI, 7, .inl (nIf (sw ki a b)))), (k2, .inl (cI, 7, .inl (nIf (sw op a b)))), (k3, .inl (cI, 7, .inl (nIf (shF (if Nat.testBit sh a = Nat.testBit sh b then sh else sh ^^^ (2 ^ a ||| 2 ^ b)))))), (k4, .inl (cI, 7, .inl (nIf (sw fa a b))))])) := by
  refine CT_of RX5 rfl (by decide +kernel) (Nat.le_of_ble_eq_true rfl) (fun E hnE zC zT => ?_)
  have hA : ∀ q, (ev_s E).heap.size ≤ q → ev_A E q := fun q h => by rw [zT.2]; exact Or.inr h
  show VV E 0 0 0 [(0, .ref r0), (1, .int (nI a)), (2, .int (nI b))] [] [(r0, .inr (5, [.int (nI n), .ref k1, .ref k2, .ref k3, .ref k4, .int (nI m), .ref k6, .ref k7, .ref k8, .int (nI 0), .ref k10, .int (nI aw), .ref k12, .ref k13, .ref k14, .ref k15, .ref k16, .int (nI ls), .int (nI ap), .int (bz bd), .int (nI sq), .ref k21, .ref k22, .ref k23, .ref k24, .ref k25, .int (bz pd), .int (nI pl), .int (bz tk), kv, .ref k30, .ref k31, .int (nI tz), .ref k33, .int (nI rs), .int sd])), (k1, .inl (cI, 7, .inl (nIf ki))), (k2, .inl (cI, 7, .inl (nIf op))), (k3, .inl (cI, 7, .inl (nIf (shF sh)))), (k4, .inl (cI, 7, .inl (nIf fa)))]
  refine v_al_n 1 zC dX5_change_0 0 rfl ?_
  refine v_gf 4 0 zC dX5_change_1 gf_X5_7 rfl rfl ?_
  refine v_il_n 5 zC dX5_change_4 1 rfl ?_
  refine v_ialn (v := (nI (ki a))) 6 1 zC dX5_change_5 rfl (by omega) rfl ?_
  refine v_is_n (lv2 := [(3, .int (nI (ki a))), (0, .ref r0), (1, .int (nI a)), (2, .int (nI b))]) 7 zC dX5_change_6 (by rw [hnE]; decide) rfl ?_
  refine v_al_n 8 zC dX5_change_7 1 rfl ?_
  refine v_gf 11 0 zC dX5_change_8 gf_X5_13 rfl rfl ?_
  refine v_il_n 12 zC dX5_change_11 2 rfl ?_
  refine v_ialn (v := (nI (op a))) 13 2 zC dX5_change_12 rfl (by omega) rfl ?_
  refine v_is (lv2 := [(4, .int (nI (op a))), (3, .int (nI (ki a))), (0, .ref r0), (1, .int (nI a)), (2, .int (nI b))]) 15 zC dX5_change_13 (by rw [hnE]; decide) rfl ?_
  refine v_al_n 16 zC dX5_change_15 2 rfl ?_
  refine v_gf 19 0 zC dX5_change_16 gf_X5_16 rfl rfl ?_
  refine v_il_n 20 zC dX5_change_19 3 rfl ?_
  refine v_ialn (v := (nI ((shF sh) a))) 21 3 zC dX5_change_20 rfl (by omega) rfl ?_
  refine v_is (lv2 := [(5, .int (nI ((shF sh) a))), (4, .int (nI (op a))), (3, .int (nI (ki a))), (0, .ref r0), (1, .int (nI a)), (2, .int (nI b))]) 23 zC dX5_change_21 (by rw [hnE]; decide) rfl ?_
  refine v_al_n 24 zC dX5_change_23 3 rfl ?_
  refine v_gf 27 0 zC dX5_change_24 gf_X5_19 rfl rfl ?_
  refine v_il_n 28 zC dX5_change_27 4 rfl ?_
  refine v_ialn (v := (nI (fa a))) 29 4 zC dX5_change_28 rfl (by omega) rfl ?_
  refine v_is (lv2 := [(6, .int (nI (fa a))), (5, .int (nI ((shF sh) a))), (4, .int (nI (op a))), (3, .int (nI (ki a))), (0, .ref r0), (1, .int (nI a)), (2, .int (nI b))]) 31 zC dX5_change_29 (by rw [hnE]; decide) rfl ?_
  refine v_al_n 32 zC dX5_change_31 4 rfl ?_
  refine v_gf 35 0 zC dX5_change_32 gf_X5_7 rfl rfl ?_
  refine v_il_n 36 zC dX5_change_35 5 rfl ?_
  refine v_al_n 37 zC dX5_change_36 4 rfl ?_
  refine v_gf 40 0 zC dX5_change_37 gf_X5_7 rfl rfl ?_
  refine v_il_n 41 zC dX5_change_40 6 rfl ?_
  refine v_ialn (v := (nI (ki b))) 42 1 zC dX5_change_41 rfl (by omega) rfl ?_
  refine v_iasn (ws2 := [(r0, .inr (5, [.int (nI n), .ref k1, .ref k2, .ref k3, .ref k4, .int (nI m), .ref k6, .ref k7, .ref k8, .int (nI 0), .ref k10, .int (nI aw), .ref k12, .ref k13, .ref k14, .ref k15, .ref k16, .int (nI ls), .int (nI ap), .int (bz bd), .int (nI sq), .ref k21, .ref k22, .ref k23, .ref k24, .ref k25, .int (bz pd), .int (nI pl), .int (bz tk), kv, .ref k30, .ref k31, .int (nI tz), .ref k33, .int (nI rs), .int sd])), (k1, .inl (cI, 7, .inl (nIf (un ki a (ki b))))), (k2, .inl (cI, 7, .inl (nIf op))), (k3, .inl (cI, 7, .inl (nIf (shF sh)))), (k4, .inl (cI, 7, .inl (nIf fa)))]) 43 1 zC dX5_change_42 rfl (by omega) (by rw [upd_nIf]; first | done | rfl) ?_
  refine v_al_n 44 zC dX5_change_43 4 rfl ?_
  refine v_gf 47 0 zC dX5_change_44 gf_X5_13 rfl rfl ?_
  refine v_il_n 48 zC dX5_change_47 5 rfl ?_
  refine v_al_n 49 zC dX5_change_48 4 rfl ?_
  refine v_gf 52 0 zC dX5_change_49 gf_X5_13 rfl rfl ?_
  refine v_il_n 53 zC dX5_change_52 6 rfl ?_
  refine v_ialn (v := (nI (op b))) 54 2 zC dX5_change_53 rfl (by omega) rfl ?_
  refine v_iasn (ws2 := [(r0, .inr (5, [.int (nI n), .ref k1, .ref k2, .ref k3, .ref k4, .int (nI m), .ref k6, .ref k7, .ref k8, .int (nI 0), .ref k10, .int (nI aw), .ref k12, .ref k13, .ref k14, .ref k15, .ref k16, .int (nI ls), .int (nI ap), .int (bz bd), .int (nI sq), .ref k21, .ref k22, .ref k23, .ref k24, .ref k25, .int (bz pd), .int (nI pl), .int (bz tk), kv, .ref k30, .ref k31, .int (nI tz), .ref k33, .int (nI rs), .int sd])), (k1, .inl (cI, 7, .inl (nIf (un ki a (ki b))))), (k2, .inl (cI, 7, .inl (nIf (un op a (op b))))), (k3, .inl (cI, 7, .inl (nIf (shF sh)))), (k4, .inl (cI, 7, .inl (nIf fa)))]) 55 2 zC dX5_change_54 rfl (by omega) (by rw [upd_nIf]; first | done | rfl) ?_
  refine v_al_n 56 zC dX5_change_55 4 rfl ?_
  refine v_gf 59 0 zC dX5_change_56 gf_X5_16 rfl rfl ?_
  refine v_il_n 60 zC dX5_change_59 5 rfl ?_
  refine v_al_n 61 zC dX5_change_60 4 rfl ?_
  refine v_gf 64 0 zC dX5_change_61 gf_X5_16 rfl rfl ?_
  refine v_il_n 65 zC dX5_change_64 6 rfl ?_
  refine v_ialn (v := (nI ((shF sh) b))) 66 3 zC dX5_change_65 rfl (by omega) rfl ?_
  refine v_iasn (ws2 := [(r0, .inr (5, [.int (nI n), .ref k1, .ref k2, .ref k3, .ref k4, .int (nI m), .ref k6, .ref k7, .ref k8, .int (nI 0), .ref k10, .int (nI aw), .ref k12, .ref k13, .ref k14, .ref k15, .ref k16, .int (nI ls), .int (nI ap), .int (bz bd), .int (nI sq), .ref k21, .ref k22, .ref k23, .ref k24, .ref k25, .int (bz pd), .int (nI pl), .int (bz tk), kv, .ref k30, .ref k31, .int (nI tz), .ref k33, .int (nI rs), .int sd])), (k1, .inl (cI, 7, .inl (nIf (un ki a (ki b))))), (k2, .inl (cI, 7, .inl (nIf (un op a (op b))))), (k3, .inl (cI, 7, .inl (nIf (un (shF sh) a ((shF sh) b))))), (k4, .inl (cI, 7, .inl (nIf fa)))]) 67 3 zC dX5_change_66 rfl (by omega) (by rw [upd_nIf]; first | done | rfl) ?_
  refine v_al_n 68 zC dX5_change_67 4 rfl ?_
  refine v_gf 71 0 zC dX5_change_68 gf_X5_19 rfl rfl ?_
  refine v_il_n 72 zC dX5_change_71 5 rfl ?_
  refine v_al_n 73 zC dX5_change_72 4 rfl ?_
  refine v_gf 76 0 zC dX5_change_73 gf_X5_19 rfl rfl ?_
  refine v_il_n 77 zC dX5_change_76 6 rfl ?_
  refine v_ialn (v := (nI (fa b))) 78 4 zC dX5_change_77 rfl (by omega) rfl ?_
  refine v_iasn (ws2 := [(r0, .inr (5, [.int (nI n), .ref k1, .ref k2, .ref k3, .ref k4, .int (nI m), .ref k6, .ref k7, .ref k8, .int (nI 0), .ref k10, .int (nI aw), .ref k12, .ref k13, .ref k14, .ref k15, .ref k16, .int (nI ls), .int (nI ap), .int (bz bd), .int (nI sq), .ref k21, .ref k22, .ref k23, .ref k24, .ref k25, .int (bz pd), .int (nI pl), .int (bz tk), kv, .ref k30, .ref k31, .int (nI tz), .ref k33, .int (nI rs), .int sd])), (k1, .inl (cI, 7, .inl (nIf (un ki a (ki b))))), (k2, .inl (cI, 7, .inl (nIf (un op a (op b))))), (k3, .inl (cI, 7, .inl (nIf (un (shF sh) a ((shF sh) b))))), (k4, .inl (cI, 7, .inl (nIf (un fa a (fa b)))))]) 79 4 zC dX5_change_78 rfl (by omega) (by rw [upd_nIf]; first | done | rfl) ?_
  refine v_al_n 80 zC dX5_change_79 4 rfl ?_
  refine v_gf 83 0 zC dX5_change_80 gf_X5_7 rfl rfl ?_
  refine v_il_n 84 zC dX5_change_83 6 rfl ?_
  refine v_il_n 85 zC dX5_change_84 3 rfl ?_
  refine v_iasn (ws2 := [(r0, .inr (5, [.int (nI n), .ref k1, .ref k2, .ref k3, .ref k4, .int (nI m), .ref k6, .ref k7, .ref k8, .int (nI 0), .ref k10, .int (nI aw), .ref k12, .ref k13, .ref k14, .ref k15, .ref k16, .int (nI ls), .int (nI ap), .int (bz bd), .int (nI sq), .ref k21, .ref k22, .ref k23, .ref k24, .ref k25, .int (bz pd), .int (nI pl), .int (bz tk), kv, .ref k30, .ref k31, .int (nI tz), .ref k33, .int (nI rs), .int sd])), (k1, .inl (cI, 7, .inl (nIf (un (un ki a (ki b)) b (ki a))))), (k2, .inl (cI, 7, .inl (nIf (un op a (op b))))), (k3, .inl (cI, 7, .inl (nIf (un (shF sh) a ((shF sh) b))))), (k4, .inl (cI, 7, .inl (nIf (un fa a (fa b)))))]) 86 1 zC dX5_change_85 rfl (by omega) (by rw [upd_nIf]; first | done | rfl) ?_
  refine v_al_n 87 zC dX5_change_86 4 rfl ?_
  refine v_gf 90 0 zC dX5_change_87 gf_X5_13 rfl rfl ?_
  refine v_il_n 91 zC dX5_change_90 6 rfl ?_
  refine v_il 93 zC dX5_change_91 2 rfl ?_
  refine v_iasn (ws2 := [(r0, .inr (5, [.int (nI n), .ref k1, .ref k2, .ref k3, .ref k4, .int (nI m), .ref k6, .ref k7, .ref k8, .int (nI 0), .ref k10, .int (nI aw), .ref k12, .ref k13, .ref k14, .ref k15, .ref k16, .int (nI ls), .int (nI ap), .int (bz bd), .int (nI sq), .ref k21, .ref k22, .ref k23, .ref k24, .ref k25, .int (bz pd), .int (nI pl), .int (bz tk), kv, .ref k30, .ref k31, .int (nI tz), .ref k33, .int (nI rs), .int sd])), (k1, .inl (cI, 7, .inl (nIf (un (un ki a (ki b)) b (ki a))))), (k2, .inl (cI, 7, .inl (nIf (un (un op a (op b)) b (op a))))), (k3, .inl (cI, 7, .inl (nIf (un (shF sh) a ((shF sh) b))))), (k4, .inl (cI, 7, .inl (nIf (un fa a (fa b)))))]) 94 2 zC dX5_change_93 rfl (by omega) (by rw [upd_nIf]; first | done | rfl) ?_
  refine v_al_n 95 zC dX5_change_94 4 rfl ?_
  refine v_gf 98 0 zC dX5_change_95 gf_X5_16 rfl rfl ?_
  refine v_il_n 99 zC dX5_change_98 6 rfl ?_
  refine v_il 101 zC dX5_change_99 1 rfl ?_
  refine v_iasn (ws2 := [(r0, .inr (5, [.int (nI n), .ref k1, .ref k2, .ref k3, .ref k4, .int (nI m), .ref k6, .ref k7, .ref k8, .int (nI 0), .ref k10, .int (nI aw), .ref k12, .ref k13, .ref k14, .ref k15, .ref k16, .int (nI ls), .int (nI ap), .int (bz bd), .int (nI sq), .ref k21, .ref k22, .ref k23, .ref k24, .ref k25, .int (bz pd), .int (nI pl), .int (bz tk), kv, .ref k30, .ref k31, .int (nI tz), .ref k33, .int (nI rs), .int sd])), (k1, .inl (cI, 7, .inl (nIf (un (un ki a (ki b)) b (ki a))))), (k2, .inl (cI, 7, .inl (nIf (un (un op a (op b)) b (op a))))), (k3, .inl (cI, 7, .inl (nIf (un (un (shF sh) a ((shF sh) b)) b ((shF sh) a))))), (k4, .inl (cI, 7, .inl (nIf (un fa a (fa b)))))]) 102 3 zC dX5_change_101 rfl (by omega) (by rw [upd_nIf]; first | done | rfl) ?_
  refine v_al_n 103 zC dX5_change_102 4 rfl ?_
  refine v_gf 106 0 zC dX5_change_103 gf_X5_19 rfl rfl ?_
  refine v_il_n 107 zC dX5_change_106 6 rfl ?_
  refine v_il 109 zC dX5_change_107 0 rfl ?_
  refine v_iasn (ws2 := [(r0, .inr (5, [.int (nI n), .ref k1, .ref k2, .ref k3, .ref k4, .int (nI m), .ref k6, .ref k7, .ref k8, .int (nI 0), .ref k10, .int (nI aw), .ref k12, .ref k13, .ref k14, .ref k15, .ref k16, .int (nI ls), .int (nI ap), .int (bz bd), .int (nI sq), .ref k21, .ref k22, .ref k23, .ref k24, .ref k25, .int (bz pd), .int (nI pl), .int (bz tk), kv, .ref k30, .ref k31, .int (nI tz), .ref k33, .int (nI rs), .int sd])), (k1, .inl (cI, 7, .inl (nIf (un (un ki a (ki b)) b (ki a))))), (k2, .inl (cI, 7, .inl (nIf (un (un op a (op b)) b (op a))))), (k3, .inl (cI, 7, .inl (nIf (un (un (shF sh) a ((shF sh) b)) b ((shF sh) a))))), (k4, .inl (cI, 7, .inl (nIf (un (un fa a (fa b)) b (fa a)))))]) 110 4 zC dX5_change_109 rfl (by omega) (by rw [upd_nIf]; first | done | rfl) ?_
  refine v_vret zC zT dX5_change_110  ?_
  exact ⟨rfl, by rw [shf_sw]; rfl⟩
set_option maxRecDepth 100000 in
set_option maxHeartbeats 4000000 in
theorem c_X5_divisor (l : Launch) (D : va_G) (cI : ClassId) (a b : Nat) (ha : a < 2 ^ 62) (hb : b < 2 ^ 62) : CT l yX5_divisor cX5_divisor 10 (some .long) { frames := 0, cells := 0, slots := 0, locals := 0 } D cI [.long (lN a), .long (lN b)] [] (fun zr zw => (zr = some (.long (lN (Nat.gcd a b))) ∧ zw = [])) := by
  refine CT_of RX5 rfl (by decide +kernel) (Nat.le_of_ble_eq_true rfl) (fun E hnE zC zT => ?_)
  have hA : ∀ q, (ev_s E).heap.size ≤ q → ev_A E q := fun q h => by rw [zT.2]; exact Or.inr h
  show VV E 0 0 0 [(0, .long (lN a)), (2, .long (lN b))] [] []
  refine v_ll_n 1 zC dX5_divisor_0 0 rfl ?_
  refine v_ls (lv2 := [(4, .long (lN a)), (0, .long (lN a)), (2, .long (lN b))]) 3 zC dX5_divisor_1 (by rw [hnE]; decide) rfl ?_
  refine v_ll_n 4 zC dX5_divisor_3 2 rfl ?_
  refine v_ls (lv2 := [(6, .long (lN b)), (4, .long (lN a)), (0, .long (lN a)), (2, .long (lN b))]) 6 zC dX5_divisor_4 (by rw [hnE]; decide) rfl ?_
  have lp6 : ∀ (mz : Nat) (x : Nat) (y : Nat), (Nat.gcd x y = Nat.gcd a b) → (x < 2 ^ 62) → (y < 2 ^ 62) → y = mz → VV E 0 0 6 [(6, .long (lN y)), (4, .long (lN x)), (0, .long (lN a)), (2, .long (lN b))] [] [] := by
    intro mz
    induction mz using Nat.strongRecOn with
    | _ mz ih6 =>
    intro x y hg hx hy hm6
    refine v_ll 8 zC dX5_divisor_6 0 rfl ?_
    refine v_lc (v := lN 0) 9 zC dX5_divisor_8 (by decide +kernel) ?_
    refine v_lcmp 10 zC dX5_divisor_9 ?_
    refine v_ifl_eq 31 13 zC dX5_divisor_10 (fun h_1 => ?_) (fun h_1 => ?_)
    ·
      have hz9 : y = 0 := (pk_lEQ (by omega) (show 0 < 2 ^ 63 by decide)).mp h_1
      refine v_ll 33 zC dX5_divisor_31 1 rfl ?_
      refine v_lret zC zT dX5_divisor_33  ?_
      exact ⟨sl (by rw [← hg, hz9, Nat.gcd_zero_right]), rfl⟩
    ·
      have hy0 : 0 < y := Nat.pos_of_ne_zero (fun z => h_1 (by rw [z]))
      refine v_ll 15 zC dX5_divisor_13 1 rfl ?_
      refine v_ll 17 zC dX5_divisor_15 0 rfl ?_
      refine v_lrem (v := (lN (x % y))) 18 zC dX5_divisor_17 (lN_ne0 hy0 (by omega)) (pk_lRem (by omega) hy0 (by omega)) ?_
      refine v_ls (lv2 := [(8, .long (lN (x % y))), (6, .long (lN y)), (4, .long (lN x)), (0, .long (lN a)), (2, .long (lN b))]) 20 zC dX5_divisor_18 (by rw [hnE]; decide) rfl ?_
      refine v_ll 22 zC dX5_divisor_20 1 rfl ?_
      refine v_ls (lv2 := [(4, .long (lN y)), (8, .long (lN (x % y))), (6, .long (lN y)), (0, .long (lN a)), (2, .long (lN b))]) 24 zC dX5_divisor_22 (by rw [hnE]; decide) rfl ?_
      refine v_ll 26 zC dX5_divisor_24 1 rfl ?_
      refine v_ls (lv2 := [(6, .long (lN (x % y))), (4, .long (lN y)), (8, .long (lN (x % y))), (0, .long (lN a)), (2, .long (lN b))]) 28 zC dX5_divisor_26 (by rw [hnE]; decide) rfl ?_
      refine v_goto 6 zC dX5_divisor_28 ?_
      refine v_lvs (lv2 := [(6, .long (lN (x % y))), (4, .long (lN y)), (0, .long (lN a)), (2, .long (lN b))]) [0, 1, 3, 4] rfl ?_
      exact ih6 _ (by have := Nat.mod_lt x hy0; omega) y (x % y) (gd_g hg) hy (Nat.lt_trans (Nat.mod_lt _ hy0) hy) rfl
  refine v_lvs (lv2 := [(6, .long (lN b)), (4, .long (lN a)), (0, .long (lN a)), (2, .long (lN b))]) [0, 1, 2, 3] rfl ?_
  exact lp6 _ a b rfl ha hb rfl
set_option maxRecDepth 100000 in
set_option maxHeartbeats 4000000 in
theorem c_X5_drawBelow (l : Launch) (D : va_G) (cI : ClassId) (r0 k1 k2 k3 k4 k6 k7 k8 k10 k12 k13 k14 k15 k16 k21 k22 k23 k24 k25 k30 k31 k33 : Nat) (n m aw ls ap sq pl tz rs : Nat) (bd pd tk : Bool) (kv : Value) (sd : Int32)  : CT l yX5_drawBelow cX5_drawBelow 2 (some .int) { frames := 0, cells := 0, slots := 0, locals := 0 } D cI [.ref r0, .int (nI 24)] [(r0, .inr (5, [.int (nI n), .ref k1, .ref k2, .ref k3, .ref k4, .int (nI m), .ref k6, .ref k7, .ref k8, .int (nI 0), .ref k10, .int (nI aw), .ref k12, .ref k13, .ref k14, .ref k15, .ref k16, .int (nI ls), .int (nI ap), .int (bz bd), .int (nI sq), .ref k21, .ref k22, .ref k23, .ref k24, .ref k25, .int (bz pd), .int (nI pl), .int (bz tk), kv, .ref k30, .ref k31, .int (nI tz), .ref k33, .int (nI rs), .int sd]))] (fun zr zw => (∃ d : Nat, (d < 24) ∧ (DH (nxS sd) d) ∧ zr = some (.int (nI d)) ∧ zw = [(r0, .inr (5, [.int (nI n), .ref k1, .ref k2, .ref k3, .ref k4, .int (nI m), .ref k6, .ref k7, .ref k8, .int (nI 0), .ref k10, .int (nI aw), .ref k12, .ref k13, .ref k14, .ref k15, .ref k16, .int (nI ls), .int (nI ap), .int (bz bd), .int (nI sq), .ref k21, .ref k22, .ref k23, .ref k24, .ref k25, .int (bz pd), .int (nI pl), .int (bz tk), kv, .ref k30, .ref k31, .int (nI tz), .ref k33, .int (nI rs), .int (nxS sd)]))])) := by
  refine CT_of RX5 rfl (by decide +kernel) (Nat.le_of_ble_eq_true rfl) (fun E hnE zC zT => ?_)
  have hA : ∀ q, (ev_s E).heap.size ≤ q → ev_A E q := fun q h => by rw [zT.2]; exact Or.inr h
  show VV E 0 0 0 [(0, .ref r0), (1, .int (nI 24))] [] [(r0, .inr (5, [.int (nI n), .ref k1, .ref k2, .ref k3, .ref k4, .int (nI m), .ref k6, .ref k7, .ref k8, .int (nI 0), .ref k10, .int (nI aw), .ref k12, .ref k13, .ref k14, .ref k15, .ref k16, .int (nI ls), .int (nI ap), .int (bz bd), .int (nI sq), .ref k21, .ref k22, .ref k23, .ref k24, .ref k25, .int (bz pd), .int (nI pl), .int (bz tk), kv, .ref k30, .ref k31, .int (nI tz), .ref k33, .int (nI rs), .int sd]))]
  refine v_al_n 1 zC dX5_drawBelow_0 0 rfl ?_
  refine v_al_n 2 zC dX5_drawBelow_1 0 rfl ?_
  refine v_gf 5 0 zC dX5_drawBelow_2 gf_X5_282 rfl rfl ?_
  refine v_ldcw (v := (nI 1103515245)) 8 zC dX5_drawBelow_5 kc_X5_285 ?_
  refine v_imul (v := (sd * (nI 1103515245))) 9 zC dX5_drawBelow_8 rfl ?_
  refine v_sp (v := (nI 12345)) 12 zC dX5_drawBelow_9 (by decide +kernel) ?_
  refine v_iadd (v := (nxS sd)) 13 zC dX5_drawBelow_12 rfl ?_
  refine v_pf (ws2 := [(r0, .inr (5, [.int (nI n), .ref k1, .ref k2, .ref k3, .ref k4, .int (nI m), .ref k6, .ref k7, .ref k8, .int (nI 0), .ref k10, .int (nI aw), .ref k12, .ref k13, .ref k14, .ref k15, .ref k16, .int (nI ls), .int (nI ap), .int (bz bd), .int (nI sq), .ref k21, .ref k22, .ref k23, .ref k24, .ref k25, .int (bz pd), .int (nI pl), .int (bz tk), kv, .ref k30, .ref k31, .int (nI tz), .ref k33, .int (nI rs), .int (nxS sd)]))]) 16 0 zC dX5_drawBelow_13 pf_X5_282 rfl (Nat.le_of_ble_eq_true rfl) rfl rfl rfl ?_
  obtain ⟨sn2, hs2⟩ : ∃ z, z = nxS sd := ⟨_, rfl⟩
  rw [← hs2]
  refine v_al_n 17 zC dX5_drawBelow_16 0 rfl ?_
  refine v_gf 20 0 zC dX5_drawBelow_17 gf_X5_282 rfl rfl ?_
  refine v_ldcw (v := (nI 2147483647)) 23 zC dX5_drawBelow_20 kc_X5_286 ?_
  refine v_iand (v := (nI (sn2.toBitVec.toNat % 2 ^ 31))) 24 zC dX5_drawBelow_23 (pk_and sn2 31 (by decide +kernel)) ?_
  refine v_ldcw (v := (nI 65536)) 27 zC dX5_drawBelow_24 kc_X5_287 ?_
  refine v_idiv (v := (nI ((sn2.toBitVec.toNat % 2 ^ 31) / 65536))) 28 zC dX5_drawBelow_27 (nI_ne0 (by omega) (by omega)) (pk_div (by omega) (by omega) (by omega)) ?_
  refine v_il_n 29 zC dX5_drawBelow_28 1 rfl ?_
  refine v_irem (v := (nI (((sn2.toBitVec.toNat % 2 ^ 31) / 65536) % 24))) 30 zC dX5_drawBelow_29 (nI_ne0 (by omega) (by omega)) (pk_rem (by omega) (by omega) (by omega)) ?_
  refine v_iret zC zT dX5_drawBelow_30  ?_
  subst hs2
  exact ⟨_, Nat.mod_lt _ (by decide), dh_i _, rfl, rfl⟩
set_option maxRecDepth 100000 in
set_option maxHeartbeats 4000000 in
theorem c_X5_hoursCome (l : Launch) (D : va_G) (cI : ClassId) (r0 k1 k2 k3 k4 k6 k7 k8 k10 k12 k13 k14 k15 k16 k21 k22 k23 k24 k25 k30 k31 k33 : Nat) (n m aw ls ap sq pl tz rs : Nat) (bd pd tk : Bool) (kv : Value) (sd : Int32) (op : Nat → Nat) (p f e : Nat) (o : Bool) (hn : n ≤ 7) (hp : p < 2 ^ 30) (hf : f < 2 ^ 30) (he : e < 2 ^ 30) : CT l yX5_hoursCome cX5_hoursCome 7 (some .boolean) { frames := 2, cells := 0, slots := 0, locals := 46 } D cI [.ref r0, .int (nI p), .int (nI f), .int (nI e), .int (bz o)] [(r0, .inr (5, [.int (nI n), .ref k1, .ref k2, .ref k3, .ref k4, .int (nI m), .ref k6, .ref k7, .ref k8, .int (nI 0), .ref k10, .int (nI aw), .ref k12, .ref k13, .ref k14, .ref k15, .ref k16, .int (nI ls), .int (nI ap), .int (bz bd), .int (nI sq), .ref k21, .ref k22, .ref k23, .ref k24, .ref k25, .int (bz pd), .int (nI pl), .int (bz tk), kv, .ref k30, .ref k31, .int (nI tz), .ref k33, .int (nI rs), .int sd])), (k2, .inl (cI, 7, .inl (nIf op)))] (fun zr zw => ((n ≤ p ∨ e < f ∨ 24 ≤ e) ∧ zr = some (.int (nI 0)) ∧ zw = [(r0, .inr (5, [.int (nI n), .ref k1, .ref k2, .ref k3, .ref k4, .int (nI m), .ref k6, .ref k7, .ref k8, .int (nI 0), .ref k10, .int (nI aw), .ref k12, .ref k13, .ref k14, .ref k15, .ref k16, .int (nI ls), .int (nI ap), .int (bz bd), .int (nI sq), .ref k21, .ref k22, .ref k23, .ref k24, .ref k25, .int (bz pd), .int (nI pl), .int (bz tk), kv, .ref k30, .ref k31, .int (nI tz), .ref k33, .int (nI rs), .int sd])), (k2, .inl (cI, 7, .inl (nIf op)))]) ∨ ((p < n) ∧ (f ≤ e) ∧ (e < 24) ∧ zr = some (.int (nI 1)) ∧ zw = [(r0, .inr (5, [.int (nI n), .ref k1, .ref k2, .ref k3, .ref k4, .int (nI m), .ref k6, .ref k7, .ref k8, .int (nI 0), .ref k10, .int (nI aw), .ref k12, .ref k13, .ref k14, .ref k15, .ref k16, .int (nI ls), .int (nI ap), .int (bz bd), .int (nI sq), .ref k21, .ref k22, .ref k23, .ref k24, .ref k25, .int (bz pd), .int (nI pl), .int (bz tk), kv, .ref k30, .ref k31, .int (nI tz), .ref k33, .int (nI rs), .int sd])), (k2, .inl (cI, 7, .inl (nIf (un op p (if o = true then (op p) ||| HR f e else andn (op p) (HR f e))))))])) := by
  refine CT_of RX5 rfl (by decide +kernel) (Nat.le_of_ble_eq_true rfl) (fun E hnE zC zT => ?_)
  have hA : ∀ q, (ev_s E).heap.size ≤ q → ev_A E q := fun q h => by rw [zT.2]; exact Or.inr h
  show VV E 0 0 0 [(0, .ref r0), (1, .int (nI p)), (2, .int (nI f)), (3, .int (nI e)), (4, .int (bz o))] [] [(r0, .inr (5, [.int (nI n), .ref k1, .ref k2, .ref k3, .ref k4, .int (nI m), .ref k6, .ref k7, .ref k8, .int (nI 0), .ref k10, .int (nI aw), .ref k12, .ref k13, .ref k14, .ref k15, .ref k16, .int (nI ls), .int (nI ap), .int (bz bd), .int (nI sq), .ref k21, .ref k22, .ref k23, .ref k24, .ref k25, .int (bz pd), .int (nI pl), .int (bz tk), kv, .ref k30, .ref k31, .int (nI tz), .ref k33, .int (nI rs), .int sd])), (k2, .inl (cI, 7, .inl (nIf op)))]
  refine v_al_n 1 zC dX5_hoursCome_0 0 rfl ?_
  refine v_il_n 2 zC dX5_hoursCome_1 1 rfl ?_
  refine v_cV (As := [.int (nI p)]) (st := []) 5 0 [0] zC dX5_hoursCome_2 hA (c_X5_isOne (ev_l E) (ev_D E) cI (r0 := r0) (k1 := k1) (k2 := k2) (k3 := k3) (k4 := k4) (k6 := k6) (k7 := k7) (k8 := k8) (k10 := k10) (k12 := k12) (k13 := k13) (k14 := k14) (k15 := k15) (k16 := k16) (k21 := k21) (k22 := k22) (k23 := k23) (k24 := k24) (k25 := k25) (k30 := k30) (k31 := k31) (k33 := k33) (n := n) (m := m) (aw := aw) (ls := ls) (ap := ap) (sq := sq) (pl := pl) (tz := tz) (rs := rs) (bd := bd) (pd := pd) (tk := tk) (kv := kv) (sd := sd) (p := (nI p)) (hn := (by first | omega | assumption | rfl | (simp only []; omega) | decide))) cf_X5_isOne lk_X5_164 rfl rfl rfl rfl rfl (by decide +kernel) (Nat.le_of_ble_eq_true rfl) (fun rv_1 wv_2 hp_3 hm_4 => ?_)
  clear hm_4
  rcases hp_3 with ⟨hi_5, rfl, rfl⟩ | ⟨j_6, he_7, hi_8, hj_9, rfl, rfl⟩
  ·
    show VV E 0 0 5 [(0, .ref r0), (1, .int (nI p)), (2, .int (nI f)), (3, .int (nI e)), (4, .int (bz o))] [.int (nI 0)] [(r0, .inr (5, [.int (nI n), .ref k1, .ref k2, .ref k3, .ref k4, .int (nI m), .ref k6, .ref k7, .ref k8, .int (nI 0), .ref k10, .int (nI aw), .ref k12, .ref k13, .ref k14, .ref k15, .ref k16, .int (nI ls), .int (nI ap), .int (bz bd), .int (nI sq), .ref k21, .ref k22, .ref k23, .ref k24, .ref k25, .int (bz pd), .int (nI pl), .int (bz tk), kv, .ref k30, .ref k31, .int (nI tz), .ref k33, .int (nI rs), .int sd])), (k2, .inl (cI, 7, .inl (nIf op)))]
    have hp9 : n ≤ p := ix_nn hi_5 hn (by omega)
    refine v_if_eq 23 8 zC dX5_hoursCome_5 (fun _ => ?_) (fun z => absurd (by decide +kernel) z)
    refine v_ic (v := (nI 0)) 24 zC dX5_hoursCome_23 (by decide +kernel) ?_
    refine v_is (lv2 := [(5, .int (nI 0)), (0, .ref r0), (1, .int (nI p)), (2, .int (nI f)), (3, .int (nI e)), (4, .int (bz o))]) 26 zC dX5_hoursCome_24 (by rw [hnE]; decide) rfl ?_
    refine v_il_n 27 zC dX5_hoursCome_26 3 rfl ?_
    refine v_is (lv2 := [(6, .int (nI f)), (5, .int (nI 0)), (0, .ref r0), (1, .int (nI p)), (2, .int (nI f)), (3, .int (nI e)), (4, .int (bz o))]) 29 zC dX5_hoursCome_27 (by rw [hnE]; decide) rfl ?_
    have lp29 : ∀ (mz : Nat) (gd : Bool) (O : Nat → Nat) (h : Nat), (gd = true → p < n ∧ f ≤ e ∧ e < 24) → (gd = false → (n ≤ p ∨ e < f ∨ 24 ≤ e) ∧ h = f) → (O = un op p (HRV o (op p) f h)) → (f ≤ h) → (gd = true → h ≤ e + 1) → (h ≤ f + e + 1) → e + 1 - h = mz → VV E 0 0 29 [(6, .int (nI h)), (5, .int (bz gd)), (0, .ref r0), (1, .int (nI p)), (2, .int (nI f)), (3, .int (nI e)), (4, .int (bz o))] [] [(r0, .inr (5, [.int (nI n), .ref k1, .ref k2, .ref k3, .ref k4, .int (nI m), .ref k6, .ref k7, .ref k8, .int (nI 0), .ref k10, .int (nI aw), .ref k12, .ref k13, .ref k14, .ref k15, .ref k16, .int (nI ls), .int (nI ap), .int (bz bd), .int (nI sq), .ref k21, .ref k22, .ref k23, .ref k24, .ref k25, .int (bz pd), .int (nI pl), .int (bz tk), kv, .ref k30, .ref k31, .int (nI tz), .ref k33, .int (nI rs), .int sd])), (k2, .inl (cI, 7, .inl (nIf O)))] := by
      intro mz
      induction mz using Nat.strongRecOn with
      | _ mz ih29 =>
      intro gd O h hg1 hg0 hO hfh hhe hhb hm29
      refine v_il 31 zC dX5_hoursCome_29 0 rfl ?_
      refine v_il_n 32 zC dX5_hoursCome_31 5 rfl ?_
      refine v_icmpn_gt 84 35 zC dX5_hoursCome_32 (fun h_11 => ?_) (fun h_11 => ?_)
      ·
        refine v_il 86 zC dX5_hoursCome_84 1 rfl ?_
        refine v_zret zC zT dX5_hoursCome_86 (bz_01 _) ?_
        cases gd with
        | false => exact Or.inl ⟨(hg0 rfl).1, rfl, by rw [hO, (hg0 rfl).2, hrv_0, un_id]⟩
        | true => first | exact Or.inr ⟨(hg1 rfl).1, (hg1 rfl).2.1, (hg1 rfl).2.2, rfl, by have := hhe rfl; rw [hO, show h = e + 1 by omega]; rfl⟩ | cases hg8
      ·
        refine v_il 37 zC dX5_hoursCome_35 1 rfl ?_
        refine v_ifb_eq 84 40 zC dX5_hoursCome_37 (fun h_12 => ?_) (fun h_12 => ?_)
        ·
          have hg8 := h_12
          refine v_il 86 zC dX5_hoursCome_84 1 rfl ?_
          refine v_zret zC zT dX5_hoursCome_86 (bz_01 _) ?_
          cases gd with
          | false => exact Or.inl ⟨(hg0 rfl).1, rfl, by rw [hO, (hg0 rfl).2, hrv_0, un_id]⟩
          | true => first | exact Or.inr ⟨(hg1 rfl).1, (hg1 rfl).2.1, (hg1 rfl).2.2, rfl, by have := hhe rfl; rw [hO, show h = e + 1 by omega]; rfl⟩ | cases hg8
        ·
          have hg9 := h_12
          have hk9 := hg1 hg9
          have hO9t : o = true → un O p (O p ||| 2 ^ h) = un op p (HRV o (op p) f (h + 1)) := fun ho => by rw [hO, un_s, un_un, ho, hrv_t (by omega) (by omega)]
          have hO9f : o = false → un O p (andn (O p) (2 ^ h)) = un op p (HRV o (op p) f (h + 1)) := fun ho => by rw [hO, un_s, un_un, ho, hrv_f (by omega) (by omega)]
          refine v_al_n 41 zC dX5_hoursCome_40 2 rfl ?_
          refine v_gf 44 0 zC dX5_hoursCome_41 gf_X5_13 rfl rfl ?_
          refine v_il_n 45 zC dX5_hoursCome_44 3 rfl ?_
          refine v_il 47 zC dX5_hoursCome_45 6 rfl ?_
          refine v_ifb_eq 64 50 zC dX5_hoursCome_47 (fun h_13 => ?_) (fun h_13 => ?_)
          ·
            have ho9 := h_13
            refine v_al_n 65 zC dX5_hoursCome_64 2 rfl ?_
            refine v_gf 68 0 zC dX5_hoursCome_65 gf_X5_13 rfl rfl ?_
            refine v_il_n 69 zC dX5_hoursCome_68 3 rfl ?_
            refine v_ialn (v := (nI (O p))) 70 1 zC dX5_hoursCome_69 rfl (by omega) rfl ?_
            refine v_ic (v := (nI 1)) 71 zC dX5_hoursCome_70 (by decide +kernel) ?_
            refine v_il 73 zC dX5_hoursCome_71 0 rfl ?_
            refine v_ishl (v := (nI (2 ^ h))) 74 zC dX5_hoursCome_73 (b1n (by omega)) ?_
            refine v_ic (v := (-1)) 75 zC dX5_hoursCome_74 (by decide +kernel) ?_
            refine v_ixor (v := ((nI (2 ^ h)) ^^^ (-1))) 76 zC dX5_hoursCome_75 rfl ?_
            refine v_iand (v := (nI (andn (O p) (2 ^ h)))) 77 zC dX5_hoursCome_76 (andn_of _ _) ?_
            refine v_iasn (ws2 := [(r0, .inr (5, [.int (nI n), .ref k1, .ref k2, .ref k3, .ref k4, .int (nI m), .ref k6, .ref k7, .ref k8, .int (nI 0), .ref k10, .int (nI aw), .ref k12, .ref k13, .ref k14, .ref k15, .ref k16, .int (nI ls), .int (nI ap), .int (bz bd), .int (nI sq), .ref k21, .ref k22, .ref k23, .ref k24, .ref k25, .int (bz pd), .int (nI pl), .int (bz tk), kv, .ref k30, .ref k31, .int (nI tz), .ref k33, .int (nI rs), .int sd])), (k2, .inl (cI, 7, .inl (nIf (un O p (andn (O p) (2 ^ h))))))]) 78 1 zC dX5_hoursCome_77 rfl (by omega) (by rw [upd_nIf]; first | done | rfl) ?_
            refine v_inc (v := (nI (h + 1))) (lv2 := [(6, .int (nI (h + 1))), (5, .int (bz gd)), (0, .ref r0), (1, .int (nI p)), (2, .int (nI f)), (3, .int (nI e)), (4, .int (bz o))]) 81 zC dX5_hoursCome_78 (j := 0) rfl (nI_add _ 1) (by rw [hnE]; decide) rfl ?_
            refine v_goto 29 zC dX5_hoursCome_81 ?_
            refine v_lvs (lv2 := [(6, .int (nI (h + 1))), (5, .int (bz gd)), (0, .ref r0), (1, .int (nI p)), (2, .int (nI f)), (3, .int (nI e)), (4, .int (bz o))]) [0, 1, 2, 3, 4, 5, 6] rfl ?_
            exact ih29 _ (by omega) gd (un O p (andn (O p) (2 ^ h))) (h + 1) hg1 (fun z => by rw [z] at hg9; cases hg9) (by first | exact hO9t ho9 | exact hO9f ho9) (by omega) (fun _ => by omega) (by omega) rfl
          ·
            have ho9 := h_13
            refine v_al_n 51 zC dX5_hoursCome_50 2 rfl ?_
            refine v_gf 54 0 zC dX5_hoursCome_51 gf_X5_13 rfl rfl ?_
            refine v_il_n 55 zC dX5_hoursCome_54 3 rfl ?_
            refine v_ialn (v := (nI (O p))) 56 1 zC dX5_hoursCome_55 rfl (by omega) rfl ?_
            refine v_ic (v := (nI 1)) 57 zC dX5_hoursCome_56 (by decide +kernel) ?_
            refine v_il 59 zC dX5_hoursCome_57 0 rfl ?_
            refine v_ishl (v := (nI (2 ^ h))) 60 zC dX5_hoursCome_59 (b1n (by omega)) ?_
            refine v_ior (v := (nI ((O p) ||| (2 ^ h)))) 61 zC dX5_hoursCome_60 (fa_or _ _) ?_
            refine v_goto 77 zC dX5_hoursCome_61 ?_
            refine v_iasn (ws2 := [(r0, .inr (5, [.int (nI n), .ref k1, .ref k2, .ref k3, .ref k4, .int (nI m), .ref k6, .ref k7, .ref k8, .int (nI 0), .ref k10, .int (nI aw), .ref k12, .ref k13, .ref k14, .ref k15, .ref k16, .int (nI ls), .int (nI ap), .int (bz bd), .int (nI sq), .ref k21, .ref k22, .ref k23, .ref k24, .ref k25, .int (bz pd), .int (nI pl), .int (bz tk), kv, .ref k30, .ref k31, .int (nI tz), .ref k33, .int (nI rs), .int sd])), (k2, .inl (cI, 7, .inl (nIf (un O p ((O p) ||| (2 ^ h))))))]) 78 1 zC dX5_hoursCome_77 rfl (by omega) (by rw [upd_nIf]; first | done | rfl) ?_
            refine v_inc (v := (nI (h + 1))) (lv2 := [(6, .int (nI (h + 1))), (5, .int (bz gd)), (0, .ref r0), (1, .int (nI p)), (2, .int (nI f)), (3, .int (nI e)), (4, .int (bz o))]) 81 zC dX5_hoursCome_78 (j := 0) rfl (nI_add _ 1) (by rw [hnE]; decide) rfl ?_
            refine v_goto 29 zC dX5_hoursCome_81 ?_
            refine v_lvs (lv2 := [(6, .int (nI (h + 1))), (5, .int (bz gd)), (0, .ref r0), (1, .int (nI p)), (2, .int (nI f)), (3, .int (nI e)), (4, .int (bz o))]) [0, 1, 2, 3, 4, 5, 6] rfl ?_
            exact ih29 _ (by omega) gd (un O p ((O p) ||| (2 ^ h))) (h + 1) hg1 (fun z => by rw [z] at hg9; cases hg9) (by first | exact hO9t ho9 | exact hO9f ho9) (by omega) (fun _ => by omega) (by omega) rfl
    refine v_lvs (lv2 := [(6, .int (nI f)), (5, .int (bz false)), (0, .ref r0), (1, .int (nI p)), (2, .int (nI f)), (3, .int (nI e)), (4, .int (bz o))]) [0, 1, 2, 3, 4, 5, 6] rfl ?_
    exact lp29 _ false op f (fun z => by first | (cases z; done) | omega) (fun z => by first | (cases z; done) | exact ⟨by omega, rfl⟩) (by rw [hrv_0, un_id]) (Nat.le_refl _) (fun z => by first | (cases z; done) | omega) (by omega) rfl
  ·
    show VV E 0 0 5 [(0, .ref r0), (1, .int (nI p)), (2, .int (nI f)), (3, .int (nI e)), (4, .int (bz o))] [.int (nI 1)] [(r0, .inr (5, [.int (nI n), .ref k1, .ref k2, .ref k3, .ref k4, .int (nI m), .ref k6, .ref k7, .ref k8, .int (nI 0), .ref k10, .int (nI aw), .ref k12, .ref k13, .ref k14, .ref k15, .ref k16, .int (nI ls), .int (nI ap), .int (bz bd), .int (nI sq), .ref k21, .ref k22, .ref k23, .ref k24, .ref k25, .int (bz pd), .int (nI pl), .int (bz tk), kv, .ref k30, .ref k31, .int (nI tz), .ref k33, .int (nI rs), .int sd])), (k2, .inl (cI, 7, .inl (nIf op)))]
    have hp9 : p < n := ix_ns he_7 hj_9 hn (by omega)
    refine v_if_eq 23 8 zC dX5_hoursCome_5 (fun z => absurd z (by decide +kernel)) (fun _ => ?_)
    refine v_il_n 9 zC dX5_hoursCome_8 2 rfl ?_
    refine v_il_n 10 zC dX5_hoursCome_9 3 rfl ?_
    refine v_icmpn_gt 23 13 zC dX5_hoursCome_10 (fun h_15 => ?_) (fun h_15 => ?_)
    ·
      refine v_ic (v := (nI 0)) 24 zC dX5_hoursCome_23 (by decide +kernel) ?_
      refine v_is (lv2 := [(5, .int (nI 0)), (0, .ref r0), (1, .int (nI p)), (2, .int (nI f)), (3, .int (nI e)), (4, .int (bz o))]) 26 zC dX5_hoursCome_24 (by rw [hnE]; decide) rfl ?_
      refine v_il_n 27 zC dX5_hoursCome_26 3 rfl ?_
      refine v_is (lv2 := [(6, .int (nI f)), (5, .int (nI 0)), (0, .ref r0), (1, .int (nI p)), (2, .int (nI f)), (3, .int (nI e)), (4, .int (bz o))]) 29 zC dX5_hoursCome_27 (by rw [hnE]; decide) rfl ?_
      have lp29 : ∀ (mz : Nat) (gd : Bool) (O : Nat → Nat) (h : Nat), (gd = true → p < n ∧ f ≤ e ∧ e < 24) → (gd = false → (n ≤ p ∨ e < f ∨ 24 ≤ e) ∧ h = f) → (O = un op p (HRV o (op p) f h)) → (f ≤ h) → (gd = true → h ≤ e + 1) → (h ≤ f + e + 1) → e + 1 - h = mz → VV E 0 0 29 [(6, .int (nI h)), (5, .int (bz gd)), (0, .ref r0), (1, .int (nI p)), (2, .int (nI f)), (3, .int (nI e)), (4, .int (bz o))] [] [(r0, .inr (5, [.int (nI n), .ref k1, .ref k2, .ref k3, .ref k4, .int (nI m), .ref k6, .ref k7, .ref k8, .int (nI 0), .ref k10, .int (nI aw), .ref k12, .ref k13, .ref k14, .ref k15, .ref k16, .int (nI ls), .int (nI ap), .int (bz bd), .int (nI sq), .ref k21, .ref k22, .ref k23, .ref k24, .ref k25, .int (bz pd), .int (nI pl), .int (bz tk), kv, .ref k30, .ref k31, .int (nI tz), .ref k33, .int (nI rs), .int sd])), (k2, .inl (cI, 7, .inl (nIf O)))] := by
        intro mz
        induction mz using Nat.strongRecOn with
        | _ mz ih29 =>
        intro gd O h hg1 hg0 hO hfh hhe hhb hm29
        refine v_il 31 zC dX5_hoursCome_29 0 rfl ?_
        refine v_il_n 32 zC dX5_hoursCome_31 5 rfl ?_
        refine v_icmpn_gt 84 35 zC dX5_hoursCome_32 (fun h_16 => ?_) (fun h_16 => ?_)
        ·
          refine v_il 86 zC dX5_hoursCome_84 1 rfl ?_
          refine v_zret zC zT dX5_hoursCome_86 (bz_01 _) ?_
          cases gd with
          | false => exact Or.inl ⟨(hg0 rfl).1, rfl, by rw [hO, (hg0 rfl).2, hrv_0, un_id]⟩
          | true => first | exact Or.inr ⟨(hg1 rfl).1, (hg1 rfl).2.1, (hg1 rfl).2.2, rfl, by have := hhe rfl; rw [hO, show h = e + 1 by omega]; rfl⟩ | cases hg8
        ·
          refine v_il 37 zC dX5_hoursCome_35 1 rfl ?_
          refine v_ifb_eq 84 40 zC dX5_hoursCome_37 (fun h_17 => ?_) (fun h_17 => ?_)
          ·
            have hg8 := h_17
            refine v_il 86 zC dX5_hoursCome_84 1 rfl ?_
            refine v_zret zC zT dX5_hoursCome_86 (bz_01 _) ?_
            cases gd with
            | false => exact Or.inl ⟨(hg0 rfl).1, rfl, by rw [hO, (hg0 rfl).2, hrv_0, un_id]⟩
            | true => first | exact Or.inr ⟨(hg1 rfl).1, (hg1 rfl).2.1, (hg1 rfl).2.2, rfl, by have := hhe rfl; rw [hO, show h = e + 1 by omega]; rfl⟩ | cases hg8
          ·
            have hg9 := h_17
            have hk9 := hg1 hg9
            have hO9t : o = true → un O p (O p ||| 2 ^ h) = un op p (HRV o (op p) f (h + 1)) := fun ho => by rw [hO, un_s, un_un, ho, hrv_t (by omega) (by omega)]
            have hO9f : o = false → un O p (andn (O p) (2 ^ h)) = un op p (HRV o (op p) f (h + 1)) := fun ho => by rw [hO, un_s, un_un, ho, hrv_f (by omega) (by omega)]
            refine v_al_n 41 zC dX5_hoursCome_40 2 rfl ?_
            refine v_gf 44 0 zC dX5_hoursCome_41 gf_X5_13 rfl rfl ?_
            refine v_il_n 45 zC dX5_hoursCome_44 3 rfl ?_
            refine v_il 47 zC dX5_hoursCome_45 6 rfl ?_
            refine v_ifb_eq 64 50 zC dX5_hoursCome_47 (fun h_18 => ?_) (fun h_18 => ?_)
            ·
              have ho9 := h_18
              refine v_al_n 65 zC dX5_hoursCome_64 2 rfl ?_
              refine v_gf 68 0 zC dX5_hoursCome_65 gf_X5_13 rfl rfl ?_
              refine v_il_n 69 zC dX5_hoursCome_68 3 rfl ?_
              refine v_ialn (v := (nI (O p))) 70 1 zC dX5_hoursCome_69 rfl (by omega) rfl ?_
              refine v_ic (v := (nI 1)) 71 zC dX5_hoursCome_70 (by decide +kernel) ?_
              refine v_il 73 zC dX5_hoursCome_71 0 rfl ?_
              refine v_ishl (v := (nI (2 ^ h))) 74 zC dX5_hoursCome_73 (b1n (by omega)) ?_
              refine v_ic (v := (-1)) 75 zC dX5_hoursCome_74 (by decide +kernel) ?_
              refine v_ixor (v := ((nI (2 ^ h)) ^^^ (-1))) 76 zC dX5_hoursCome_75 rfl ?_
              refine v_iand (v := (nI (andn (O p) (2 ^ h)))) 77 zC dX5_hoursCome_76 (andn_of _ _) ?_
              refine v_iasn (ws2 := [(r0, .inr (5, [.int (nI n), .ref k1, .ref k2, .ref k3, .ref k4, .int (nI m), .ref k6, .ref k7, .ref k8, .int (nI 0), .ref k10, .int (nI aw), .ref k12, .ref k13, .ref k14, .ref k15, .ref k16, .int (nI ls), .int (nI ap), .int (bz bd), .int (nI sq), .ref k21, .ref k22, .ref k23, .ref k24, .ref k25, .int (bz pd), .int (nI pl), .int (bz tk), kv, .ref k30, .ref k31, .int (nI tz), .ref k33, .int (nI rs), .int sd])), (k2, .inl (cI, 7, .inl (nIf (un O p (andn (O p) (2 ^ h))))))]) 78 1 zC dX5_hoursCome_77 rfl (by omega) (by rw [upd_nIf]; first | done | rfl) ?_
              refine v_inc (v := (nI (h + 1))) (lv2 := [(6, .int (nI (h + 1))), (5, .int (bz gd)), (0, .ref r0), (1, .int (nI p)), (2, .int (nI f)), (3, .int (nI e)), (4, .int (bz o))]) 81 zC dX5_hoursCome_78 (j := 0) rfl (nI_add _ 1) (by rw [hnE]; decide) rfl ?_
              refine v_goto 29 zC dX5_hoursCome_81 ?_
              refine v_lvs (lv2 := [(6, .int (nI (h + 1))), (5, .int (bz gd)), (0, .ref r0), (1, .int (nI p)), (2, .int (nI f)), (3, .int (nI e)), (4, .int (bz o))]) [0, 1, 2, 3, 4, 5, 6] rfl ?_
              exact ih29 _ (by omega) gd (un O p (andn (O p) (2 ^ h))) (h + 1) hg1 (fun z => by rw [z] at hg9; cases hg9) (by first | exact hO9t ho9 | exact hO9f ho9) (by omega) (fun _ => by omega) (by omega) rfl
            ·
              have ho9 := h_18
              refine v_al_n 51 zC dX5_hoursCome_50 2 rfl ?_
              refine v_gf 54 0 zC dX5_hoursCome_51 gf_X5_13 rfl rfl ?_
              refine v_il_n 55 zC dX5_hoursCome_54 3 rfl ?_
              refine v_ialn (v := (nI (O p))) 56 1 zC dX5_hoursCome_55 rfl (by omega) rfl ?_
              refine v_ic (v := (nI 1)) 57 zC dX5_hoursCome_56 (by decide +kernel) ?_
              refine v_il 59 zC dX5_hoursCome_57 0 rfl ?_
              refine v_ishl (v := (nI (2 ^ h))) 60 zC dX5_hoursCome_59 (b1n (by omega)) ?_
              refine v_ior (v := (nI ((O p) ||| (2 ^ h)))) 61 zC dX5_hoursCome_60 (fa_or _ _) ?_
              refine v_goto 77 zC dX5_hoursCome_61 ?_
              refine v_iasn (ws2 := [(r0, .inr (5, [.int (nI n), .ref k1, .ref k2, .ref k3, .ref k4, .int (nI m), .ref k6, .ref k7, .ref k8, .int (nI 0), .ref k10, .int (nI aw), .ref k12, .ref k13, .ref k14, .ref k15, .ref k16, .int (nI ls), .int (nI ap), .int (bz bd), .int (nI sq), .ref k21, .ref k22, .ref k23, .ref k24, .ref k25, .int (bz pd), .int (nI pl), .int (bz tk), kv, .ref k30, .ref k31, .int (nI tz), .ref k33, .int (nI rs), .int sd])), (k2, .inl (cI, 7, .inl (nIf (un O p ((O p) ||| (2 ^ h))))))]) 78 1 zC dX5_hoursCome_77 rfl (by omega) (by rw [upd_nIf]; first | done | rfl) ?_
              refine v_inc (v := (nI (h + 1))) (lv2 := [(6, .int (nI (h + 1))), (5, .int (bz gd)), (0, .ref r0), (1, .int (nI p)), (2, .int (nI f)), (3, .int (nI e)), (4, .int (bz o))]) 81 zC dX5_hoursCome_78 (j := 0) rfl (nI_add _ 1) (by rw [hnE]; decide) rfl ?_
              refine v_goto 29 zC dX5_hoursCome_81 ?_
              refine v_lvs (lv2 := [(6, .int (nI (h + 1))), (5, .int (bz gd)), (0, .ref r0), (1, .int (nI p)), (2, .int (nI f)), (3, .int (nI e)), (4, .int (bz o))]) [0, 1, 2, 3, 4, 5, 6] rfl ?_
              exact ih29 _ (by omega) gd (un O p ((O p) ||| (2 ^ h))) (h + 1) hg1 (fun z => by rw [z] at hg9; cases hg9) (by first | exact hO9t ho9 | exact hO9f ho9) (by omega) (fun _ => by omega) (by omega) rfl
      refine v_lvs (lv2 := [(6, .int (nI f)), (5, .int (bz false)), (0, .ref r0), (1, .int (nI p)), (2, .int (nI f)), (3, .int (nI e)), (4, .int (bz o))]) [0, 1, 2, 3, 4, 5, 6] rfl ?_
      exact lp29 _ false op f (fun z => by first | (cases z; done) | omega) (fun z => by first | (cases z; done) | exact ⟨by omega, rfl⟩) (by rw [hrv_0, un_id]) (Nat.le_refl _) (fun z => by first | (cases z; done) | omega) (by omega) rfl
    ·
      refine v_il_n 14 zC dX5_hoursCome_13 3 rfl ?_
      refine v_bp (v := (nI 24)) 16 zC dX5_hoursCome_14 (by decide +kernel) ?_
      refine v_icmpn_ge 23 19 zC dX5_hoursCome_16 (fun h_19 => ?_) (fun h_19 => ?_)
      ·
        refine v_ic (v := (nI 0)) 24 zC dX5_hoursCome_23 (by decide +kernel) ?_
        refine v_is (lv2 := [(5, .int (nI 0)), (0, .ref r0), (1, .int (nI p)), (2, .int (nI f)), (3, .int (nI e)), (4, .int (bz o))]) 26 zC dX5_hoursCome_24 (by rw [hnE]; decide) rfl ?_
        refine v_il_n 27 zC dX5_hoursCome_26 3 rfl ?_
        refine v_is (lv2 := [(6, .int (nI f)), (5, .int (nI 0)), (0, .ref r0), (1, .int (nI p)), (2, .int (nI f)), (3, .int (nI e)), (4, .int (bz o))]) 29 zC dX5_hoursCome_27 (by rw [hnE]; decide) rfl ?_
        have lp29 : ∀ (mz : Nat) (gd : Bool) (O : Nat → Nat) (h : Nat), (gd = true → p < n ∧ f ≤ e ∧ e < 24) → (gd = false → (n ≤ p ∨ e < f ∨ 24 ≤ e) ∧ h = f) → (O = un op p (HRV o (op p) f h)) → (f ≤ h) → (gd = true → h ≤ e + 1) → (h ≤ f + e + 1) → e + 1 - h = mz → VV E 0 0 29 [(6, .int (nI h)), (5, .int (bz gd)), (0, .ref r0), (1, .int (nI p)), (2, .int (nI f)), (3, .int (nI e)), (4, .int (bz o))] [] [(r0, .inr (5, [.int (nI n), .ref k1, .ref k2, .ref k3, .ref k4, .int (nI m), .ref k6, .ref k7, .ref k8, .int (nI 0), .ref k10, .int (nI aw), .ref k12, .ref k13, .ref k14, .ref k15, .ref k16, .int (nI ls), .int (nI ap), .int (bz bd), .int (nI sq), .ref k21, .ref k22, .ref k23, .ref k24, .ref k25, .int (bz pd), .int (nI pl), .int (bz tk), kv, .ref k30, .ref k31, .int (nI tz), .ref k33, .int (nI rs), .int sd])), (k2, .inl (cI, 7, .inl (nIf O)))] := by
          intro mz
          induction mz using Nat.strongRecOn with
          | _ mz ih29 =>
          intro gd O h hg1 hg0 hO hfh hhe hhb hm29
          refine v_il 31 zC dX5_hoursCome_29 0 rfl ?_
          refine v_il_n 32 zC dX5_hoursCome_31 5 rfl ?_
          refine v_icmpn_gt 84 35 zC dX5_hoursCome_32 (fun h_20 => ?_) (fun h_20 => ?_)
          ·
            refine v_il 86 zC dX5_hoursCome_84 1 rfl ?_
            refine v_zret zC zT dX5_hoursCome_86 (bz_01 _) ?_
            cases gd with
            | false => exact Or.inl ⟨(hg0 rfl).1, rfl, by rw [hO, (hg0 rfl).2, hrv_0, un_id]⟩
            | true => first | exact Or.inr ⟨(hg1 rfl).1, (hg1 rfl).2.1, (hg1 rfl).2.2, rfl, by have := hhe rfl; rw [hO, show h = e + 1 by omega]; rfl⟩ | cases hg8
          ·
            refine v_il 37 zC dX5_hoursCome_35 1 rfl ?_
            refine v_ifb_eq 84 40 zC dX5_hoursCome_37 (fun h_21 => ?_) (fun h_21 => ?_)
            ·
              have hg8 := h_21
              refine v_il 86 zC dX5_hoursCome_84 1 rfl ?_
              refine v_zret zC zT dX5_hoursCome_86 (bz_01 _) ?_
              cases gd with
              | false => exact Or.inl ⟨(hg0 rfl).1, rfl, by rw [hO, (hg0 rfl).2, hrv_0, un_id]⟩
              | true => first | exact Or.inr ⟨(hg1 rfl).1, (hg1 rfl).2.1, (hg1 rfl).2.2, rfl, by have := hhe rfl; rw [hO, show h = e + 1 by omega]; rfl⟩ | cases hg8
            ·
              have hg9 := h_21
              have hk9 := hg1 hg9
              have hO9t : o = true → un O p (O p ||| 2 ^ h) = un op p (HRV o (op p) f (h + 1)) := fun ho => by rw [hO, un_s, un_un, ho, hrv_t (by omega) (by omega)]
              have hO9f : o = false → un O p (andn (O p) (2 ^ h)) = un op p (HRV o (op p) f (h + 1)) := fun ho => by rw [hO, un_s, un_un, ho, hrv_f (by omega) (by omega)]
              refine v_al_n 41 zC dX5_hoursCome_40 2 rfl ?_
              refine v_gf 44 0 zC dX5_hoursCome_41 gf_X5_13 rfl rfl ?_
              refine v_il_n 45 zC dX5_hoursCome_44 3 rfl ?_
              refine v_il 47 zC dX5_hoursCome_45 6 rfl ?_
              refine v_ifb_eq 64 50 zC dX5_hoursCome_47 (fun h_22 => ?_) (fun h_22 => ?_)
              ·
                have ho9 := h_22
                refine v_al_n 65 zC dX5_hoursCome_64 2 rfl ?_
                refine v_gf 68 0 zC dX5_hoursCome_65 gf_X5_13 rfl rfl ?_
                refine v_il_n 69 zC dX5_hoursCome_68 3 rfl ?_
                refine v_ialn (v := (nI (O p))) 70 1 zC dX5_hoursCome_69 rfl (by omega) rfl ?_
                refine v_ic (v := (nI 1)) 71 zC dX5_hoursCome_70 (by decide +kernel) ?_
                refine v_il 73 zC dX5_hoursCome_71 0 rfl ?_
                refine v_ishl (v := (nI (2 ^ h))) 74 zC dX5_hoursCome_73 (b1n (by omega)) ?_
                refine v_ic (v := (-1)) 75 zC dX5_hoursCome_74 (by decide +kernel) ?_
                refine v_ixor (v := ((nI (2 ^ h)) ^^^ (-1))) 76 zC dX5_hoursCome_75 rfl ?_
                refine v_iand (v := (nI (andn (O p) (2 ^ h)))) 77 zC dX5_hoursCome_76 (andn_of _ _) ?_
                refine v_iasn (ws2 := [(r0, .inr (5, [.int (nI n), .ref k1, .ref k2, .ref k3, .ref k4, .int (nI m), .ref k6, .ref k7, .ref k8, .int (nI 0), .ref k10, .int (nI aw), .ref k12, .ref k13, .ref k14, .ref k15, .ref k16, .int (nI ls), .int (nI ap), .int (bz bd), .int (nI sq), .ref k21, .ref k22, .ref k23, .ref k24, .ref k25, .int (bz pd), .int (nI pl), .int (bz tk), kv, .ref k30, .ref k31, .int (nI tz), .ref k33, .int (nI rs), .int sd])), (k2, .inl (cI, 7, .inl (nIf (un O p (andn (O p) (2 ^ h))))))]) 78 1 zC dX5_hoursCome_77 rfl (by omega) (by rw [upd_nIf]; first | done | rfl) ?_
                refine v_inc (v := (nI (h + 1))) (lv2 := [(6, .int (nI (h + 1))), (5, .int (bz gd)), (0, .ref r0), (1, .int (nI p)), (2, .int (nI f)), (3, .int (nI e)), (4, .int (bz o))]) 81 zC dX5_hoursCome_78 (j := 0) rfl (nI_add _ 1) (by rw [hnE]; decide) rfl ?_
                refine v_goto 29 zC dX5_hoursCome_81 ?_
                refine v_lvs (lv2 := [(6, .int (nI (h + 1))), (5, .int (bz gd)), (0, .ref r0), (1, .int (nI p)), (2, .int (nI f)), (3, .int (nI e)), (4, .int (bz o))]) [0, 1, 2, 3, 4, 5, 6] rfl ?_
                exact ih29 _ (by omega) gd (un O p (andn (O p) (2 ^ h))) (h + 1) hg1 (fun z => by rw [z] at hg9; cases hg9) (by first | exact hO9t ho9 | exact hO9f ho9) (by omega) (fun _ => by omega) (by omega) rfl
              ·
                have ho9 := h_22
                refine v_al_n 51 zC dX5_hoursCome_50 2 rfl ?_
                refine v_gf 54 0 zC dX5_hoursCome_51 gf_X5_13 rfl rfl ?_
                refine v_il_n 55 zC dX5_hoursCome_54 3 rfl ?_
                refine v_ialn (v := (nI (O p))) 56 1 zC dX5_hoursCome_55 rfl (by omega) rfl ?_
                refine v_ic (v := (nI 1)) 57 zC dX5_hoursCome_56 (by decide +kernel) ?_
                refine v_il 59 zC dX5_hoursCome_57 0 rfl ?_
                refine v_ishl (v := (nI (2 ^ h))) 60 zC dX5_hoursCome_59 (b1n (by omega)) ?_
                refine v_ior (v := (nI ((O p) ||| (2 ^ h)))) 61 zC dX5_hoursCome_60 (fa_or _ _) ?_
                refine v_goto 77 zC dX5_hoursCome_61 ?_
                refine v_iasn (ws2 := [(r0, .inr (5, [.int (nI n), .ref k1, .ref k2, .ref k3, .ref k4, .int (nI m), .ref k6, .ref k7, .ref k8, .int (nI 0), .ref k10, .int (nI aw), .ref k12, .ref k13, .ref k14, .ref k15, .ref k16, .int (nI ls), .int (nI ap), .int (bz bd), .int (nI sq), .ref k21, .ref k22, .ref k23, .ref k24, .ref k25, .int (bz pd), .int (nI pl), .int (bz tk), kv, .ref k30, .ref k31, .int (nI tz), .ref k33, .int (nI rs), .int sd])), (k2, .inl (cI, 7, .inl (nIf (un O p ((O p) ||| (2 ^ h))))))]) 78 1 zC dX5_hoursCome_77 rfl (by omega) (by rw [upd_nIf]; first | done | rfl) ?_
                refine v_inc (v := (nI (h + 1))) (lv2 := [(6, .int (nI (h + 1))), (5, .int (bz gd)), (0, .ref r0), (1, .int (nI p)), (2, .int (nI f)), (3, .int (nI e)), (4, .int (bz o))]) 81 zC dX5_hoursCome_78 (j := 0) rfl (nI_add _ 1) (by rw [hnE]; decide) rfl ?_
                refine v_goto 29 zC dX5_hoursCome_81 ?_
                refine v_lvs (lv2 := [(6, .int (nI (h + 1))), (5, .int (bz gd)), (0, .ref r0), (1, .int (nI p)), (2, .int (nI f)), (3, .int (nI e)), (4, .int (bz o))]) [0, 1, 2, 3, 4, 5, 6] rfl ?_
                exact ih29 _ (by omega) gd (un O p ((O p) ||| (2 ^ h))) (h + 1) hg1 (fun z => by rw [z] at hg9; cases hg9) (by first | exact hO9t ho9 | exact hO9f ho9) (by omega) (fun _ => by omega) (by omega) rfl
        refine v_lvs (lv2 := [(6, .int (nI f)), (5, .int (bz false)), (0, .ref r0), (1, .int (nI p)), (2, .int (nI f)), (3, .int (nI e)), (4, .int (bz o))]) [0, 1, 2, 3, 4, 5, 6] rfl ?_
        exact lp29 _ false op f (fun z => by first | (cases z; done) | omega) (fun z => by first | (cases z; done) | exact ⟨by omega, rfl⟩) (by rw [hrv_0, un_id]) (Nat.le_refl _) (fun z => by first | (cases z; done) | omega) (by omega) rfl
      ·
        refine v_ic (v := (nI 1)) 20 zC dX5_hoursCome_19 (by decide +kernel) ?_
        refine v_goto 24 zC dX5_hoursCome_20 ?_
        refine v_is (lv2 := [(5, .int (nI 1)), (0, .ref r0), (1, .int (nI p)), (2, .int (nI f)), (3, .int (nI e)), (4, .int (bz o))]) 26 zC dX5_hoursCome_24 (by rw [hnE]; decide) rfl ?_
        refine v_il_n 27 zC dX5_hoursCome_26 3 rfl ?_
        refine v_is (lv2 := [(6, .int (nI f)), (5, .int (nI 1)), (0, .ref r0), (1, .int (nI p)), (2, .int (nI f)), (3, .int (nI e)), (4, .int (bz o))]) 29 zC dX5_hoursCome_27 (by rw [hnE]; decide) rfl ?_
        have lp29 : ∀ (mz : Nat) (gd : Bool) (O : Nat → Nat) (h : Nat), (gd = true → p < n ∧ f ≤ e ∧ e < 24) → (gd = false → (n ≤ p ∨ e < f ∨ 24 ≤ e) ∧ h = f) → (O = un op p (HRV o (op p) f h)) → (f ≤ h) → (gd = true → h ≤ e + 1) → (h ≤ f + e + 1) → e + 1 - h = mz → VV E 0 0 29 [(6, .int (nI h)), (5, .int (bz gd)), (0, .ref r0), (1, .int (nI p)), (2, .int (nI f)), (3, .int (nI e)), (4, .int (bz o))] [] [(r0, .inr (5, [.int (nI n), .ref k1, .ref k2, .ref k3, .ref k4, .int (nI m), .ref k6, .ref k7, .ref k8, .int (nI 0), .ref k10, .int (nI aw), .ref k12, .ref k13, .ref k14, .ref k15, .ref k16, .int (nI ls), .int (nI ap), .int (bz bd), .int (nI sq), .ref k21, .ref k22, .ref k23, .ref k24, .ref k25, .int (bz pd), .int (nI pl), .int (bz tk), kv, .ref k30, .ref k31, .int (nI tz), .ref k33, .int (nI rs), .int sd])), (k2, .inl (cI, 7, .inl (nIf O)))] := by
          intro mz
          induction mz using Nat.strongRecOn with
          | _ mz ih29 =>
          intro gd O h hg1 hg0 hO hfh hhe hhb hm29
          refine v_il 31 zC dX5_hoursCome_29 0 rfl ?_
          refine v_il_n 32 zC dX5_hoursCome_31 5 rfl ?_
          refine v_icmpn_gt 84 35 zC dX5_hoursCome_32 (fun h_23 => ?_) (fun h_23 => ?_)
          ·
            refine v_il 86 zC dX5_hoursCome_84 1 rfl ?_
            refine v_zret zC zT dX5_hoursCome_86 (bz_01 _) ?_
            cases gd with
            | false => exact Or.inl ⟨(hg0 rfl).1, rfl, by rw [hO, (hg0 rfl).2, hrv_0, un_id]⟩
            | true => first | exact Or.inr ⟨(hg1 rfl).1, (hg1 rfl).2.1, (hg1 rfl).2.2, rfl, by have := hhe rfl; rw [hO, show h = e + 1 by omega]; rfl⟩ | cases hg8
          ·
            refine v_il 37 zC dX5_hoursCome_35 1 rfl ?_
            refine v_ifb_eq 84 40 zC dX5_hoursCome_37 (fun h_24 => ?_) (fun h_24 => ?_)
            ·
              have hg8 := h_24
              refine v_il 86 zC dX5_hoursCome_84 1 rfl ?_
              refine v_zret zC zT dX5_hoursCome_86 (bz_01 _) ?_
              cases gd with
              | false => exact Or.inl ⟨(hg0 rfl).1, rfl, by rw [hO, (hg0 rfl).2, hrv_0, un_id]⟩
              | true => first | exact Or.inr ⟨(hg1 rfl).1, (hg1 rfl).2.1, (hg1 rfl).2.2, rfl, by have := hhe rfl; rw [hO, show h = e + 1 by omega]; rfl⟩ | cases hg8
            ·
              have hg9 := h_24
              have hk9 := hg1 hg9
              have hO9t : o = true → un O p (O p ||| 2 ^ h) = un op p (HRV o (op p) f (h + 1)) := fun ho => by rw [hO, un_s, un_un, ho, hrv_t (by omega) (by omega)]
              have hO9f : o = false → un O p (andn (O p) (2 ^ h)) = un op p (HRV o (op p) f (h + 1)) := fun ho => by rw [hO, un_s, un_un, ho, hrv_f (by omega) (by omega)]
              refine v_al_n 41 zC dX5_hoursCome_40 2 rfl ?_
              refine v_gf 44 0 zC dX5_hoursCome_41 gf_X5_13 rfl rfl ?_
              refine v_il_n 45 zC dX5_hoursCome_44 3 rfl ?_
              refine v_il 47 zC dX5_hoursCome_45 6 rfl ?_
              refine v_ifb_eq 64 50 zC dX5_hoursCome_47 (fun h_25 => ?_) (fun h_25 => ?_)
              ·
                have ho9 := h_25
                refine v_al_n 65 zC dX5_hoursCome_64 2 rfl ?_
                refine v_gf 68 0 zC dX5_hoursCome_65 gf_X5_13 rfl rfl ?_
                refine v_il_n 69 zC dX5_hoursCome_68 3 rfl ?_
                refine v_ialn (v := (nI (O p))) 70 1 zC dX5_hoursCome_69 rfl (by omega) rfl ?_
                refine v_ic (v := (nI 1)) 71 zC dX5_hoursCome_70 (by decide +kernel) ?_
                refine v_il 73 zC dX5_hoursCome_71 0 rfl ?_
                refine v_ishl (v := (nI (2 ^ h))) 74 zC dX5_hoursCome_73 (b1n (by omega)) ?_
                refine v_ic (v := (-1)) 75 zC dX5_hoursCome_74 (by decide +kernel) ?_
                refine v_ixor (v := ((nI (2 ^ h)) ^^^ (-1))) 76 zC dX5_hoursCome_75 rfl ?_
                refine v_iand (v := (nI (andn (O p) (2 ^ h)))) 77 zC dX5_hoursCome_76 (andn_of _ _) ?_
                refine v_iasn (ws2 := [(r0, .inr (5, [.int (nI n), .ref k1, .ref k2, .ref k3, .ref k4, .int (nI m), .ref k6, .ref k7, .ref k8, .int (nI 0), .ref k10, .int (nI aw), .ref k12, .ref k13, .ref k14, .ref k15, .ref k16, .int (nI ls), .int (nI ap), .int (bz bd), .int (nI sq), .ref k21, .ref k22, .ref k23, .ref k24, .ref k25, .int (bz pd), .int (nI pl), .int (bz tk), kv, .ref k30, .ref k31, .int (nI tz), .ref k33, .int (nI rs), .int sd])), (k2, .inl (cI, 7, .inl (nIf (un O p (andn (O p) (2 ^ h))))))]) 78 1 zC dX5_hoursCome_77 rfl (by omega) (by rw [upd_nIf]; first | done | rfl) ?_
                refine v_inc (v := (nI (h + 1))) (lv2 := [(6, .int (nI (h + 1))), (5, .int (bz gd)), (0, .ref r0), (1, .int (nI p)), (2, .int (nI f)), (3, .int (nI e)), (4, .int (bz o))]) 81 zC dX5_hoursCome_78 (j := 0) rfl (nI_add _ 1) (by rw [hnE]; decide) rfl ?_
                refine v_goto 29 zC dX5_hoursCome_81 ?_
                refine v_lvs (lv2 := [(6, .int (nI (h + 1))), (5, .int (bz gd)), (0, .ref r0), (1, .int (nI p)), (2, .int (nI f)), (3, .int (nI e)), (4, .int (bz o))]) [0, 1, 2, 3, 4, 5, 6] rfl ?_
                exact ih29 _ (by omega) gd (un O p (andn (O p) (2 ^ h))) (h + 1) hg1 (fun z => by rw [z] at hg9; cases hg9) (by first | exact hO9t ho9 | exact hO9f ho9) (by omega) (fun _ => by omega) (by omega) rfl
              ·
                have ho9 := h_25
                refine v_al_n 51 zC dX5_hoursCome_50 2 rfl ?_
                refine v_gf 54 0 zC dX5_hoursCome_51 gf_X5_13 rfl rfl ?_
                refine v_il_n 55 zC dX5_hoursCome_54 3 rfl ?_
                refine v_ialn (v := (nI (O p))) 56 1 zC dX5_hoursCome_55 rfl (by omega) rfl ?_
                refine v_ic (v := (nI 1)) 57 zC dX5_hoursCome_56 (by decide +kernel) ?_
                refine v_il 59 zC dX5_hoursCome_57 0 rfl ?_
                refine v_ishl (v := (nI (2 ^ h))) 60 zC dX5_hoursCome_59 (b1n (by omega)) ?_
                refine v_ior (v := (nI ((O p) ||| (2 ^ h)))) 61 zC dX5_hoursCome_60 (fa_or _ _) ?_
                refine v_goto 77 zC dX5_hoursCome_61 ?_
                refine v_iasn (ws2 := [(r0, .inr (5, [.int (nI n), .ref k1, .ref k2, .ref k3, .ref k4, .int (nI m), .ref k6, .ref k7, .ref k8, .int (nI 0), .ref k10, .int (nI aw), .ref k12, .ref k13, .ref k14, .ref k15, .ref k16, .int (nI ls), .int (nI ap), .int (bz bd), .int (nI sq), .ref k21, .ref k22, .ref k23, .ref k24, .ref k25, .int (bz pd), .int (nI pl), .int (bz tk), kv, .ref k30, .ref k31, .int (nI tz), .ref k33, .int (nI rs), .int sd])), (k2, .inl (cI, 7, .inl (nIf (un O p ((O p) ||| (2 ^ h))))))]) 78 1 zC dX5_hoursCome_77 rfl (by omega) (by rw [upd_nIf]; first | done | rfl) ?_
                refine v_inc (v := (nI (h + 1))) (lv2 := [(6, .int (nI (h + 1))), (5, .int (bz gd)), (0, .ref r0), (1, .int (nI p)), (2, .int (nI f)), (3, .int (nI e)), (4, .int (bz o))]) 81 zC dX5_hoursCome_78 (j := 0) rfl (nI_add _ 1) (by rw [hnE]; decide) rfl ?_
                refine v_goto 29 zC dX5_hoursCome_81 ?_
                refine v_lvs (lv2 := [(6, .int (nI (h + 1))), (5, .int (bz gd)), (0, .ref r0), (1, .int (nI p)), (2, .int (nI f)), (3, .int (nI e)), (4, .int (bz o))]) [0, 1, 2, 3, 4, 5, 6] rfl ?_
                exact ih29 _ (by omega) gd (un O p ((O p) ||| (2 ^ h))) (h + 1) hg1 (fun z => by rw [z] at hg9; cases hg9) (by first | exact hO9t ho9 | exact hO9f ho9) (by omega) (fun _ => by omega) (by omega) rfl
        refine v_lvs (lv2 := [(6, .int (nI f)), (5, .int (bz true)), (0, .ref r0), (1, .int (nI p)), (2, .int (nI f)), (3, .int (nI e)), (4, .int (bz o))]) [0, 1, 2, 3, 4, 5, 6] rfl ?_
        exact lp29 _ true op f (fun z => by first | (cases z; done) | omega) (fun z => by first | (cases z; done) | exact ⟨by omega, rfl⟩) (by rw [hrv_0, un_id]) (Nat.le_refl _) (fun z => by first | (cases z; done) | omega) (by omega) rfl
