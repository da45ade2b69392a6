/-! what the reference thinks, and puts back -/
section VJ2
variable {E : EV} {cc : ByteArray} {own : String} {ret : Option FieldType} {cI : ClassId} {rm : Room} {k n pc : Nat} {lv : List (Nat × Value)} {st : List Value} {ws : va_W} {X : Option Nat} {off : Int}
theorem mJ_lt {x : Option Nat} (hb : ∀ v, x = some v → v < 2 ^ 31) : mJ x < 0 ↔ x.isSome = false := by
  cases x with
  | none => exact ⟨fun _ => rfl, fun _ => by decide +kernel⟩
  | some v => exact ⟨fun h => absurd h (nI_pos (hb v rfl)), fun h => by cases h⟩
theorem v_ifj_lt (t q : Nat) (C : CX E cc own ret cI rm) (hd : decode cc pc = .ok (.ifCond .lt off, 3)) (hb : ∀ v, X = some v → v < 2 ^ 31) (kt : X.isSome = false → VV E k n t lv st ws) (kf : X.isSome = true → VV E k n q lv st ws) (ht : (pc : Int) + off = (t : Int) := by rfl) (hq : pc + 3 = q := by rfl) : VV E k n pc lv (.int (mJ X) :: st) ws :=
  v_if_lt t q C hd (fun c => kt ((mJ_lt hb).mp c)) (fun c => kf (by
    have h := mt (mJ_lt hb).mpr c
    exact eq_true_of_ne_false h)) ht hq
end VJ2
theorem knw_bit {s : SG} {f p : Nat} (hp : p < g_n s) : Nat.testBit (KNW s f) p = Nat.testBit (DR s 24 p) f := by
  unfold KNW
  rw [mkn_bit, decide_eq_true hp, Bool.true_and]
/-- all shut: nobody speaks -/
theorem hsd_z {n od h : Nat} {F K G T r : Nat → Nat} (hF : ∀ d, F d = 0) : ∀ d, hsD n od h F K G T r d = (0, 0, r)
  | 0 => rfl
  | d + 1 => by
    have ih := hsd_z (n := n) (od := od) (h := h) (K := K) (G := G) (T := T) (r := r) hF d
    show stD n od h F K G T r d (hsD n od h F K G T r d) = _
    rw [ih]
    unfold stD hwD
    rw [hF d]
    have e1 : aN od 0 (K d) 0 0 = 0 := by
      unfold aN andn
      rw [Nat.and_zero, Nat.zero_and]
      rfl
    dsimp only
    rw [e1, ← bN_z rfl, ← cN_z rfl, ffO_z]
theorem dr_shut {n m sh aw : Nat} {ki op fa K G T : Nat → Nat} (h : ∀ d, mfS n sh aw ki K d = 0) : ∀ j, drD n m sh aw ki op fa K G T j = fa
  | 0 => rfl
  | j + 1 => by
    show (hsD n (odN op n j) j (mfS n sh aw ki K) K G T (drD n m sh aw ki op fa K G T j) m).2.2 = fa
    rw [hsd_z h, dr_shut h j]
theorem mkn_none {P : Nat → Bool} : ∀ {n : Nat}, (∀ k, k < n → P k = false) → mkn P n = 0
  | 0, _ => rfl
  | n + 1, h => by
    rw [mkn_0 (h n (Nat.lt_succ_self n)), mkn_none (fun k hk => h k (Nat.lt_succ_of_lt hk))]
theorem mfs_shut {n aw : Nat} {ki K : Nat → Nat} (d : Nat) : mfS n (2 ^ n - 1) aw ki K d = 0 := by
  unfold mfS mfN
  split
  · rfl
  · exact mkn_none (fun k hk => by rw [Nat.testBit_two_pow_sub_one, decide_eq_true hk]; rfl)
theorem or_full {n sh : Nat} (h : sh < 2 ^ n) : sh ||| andn (2 ^ n - 1) sh = 2 ^ n - 1 := by
  apply Nat.eq_of_testBit_eq
  intro i
  rw [Nat.testBit_or, andn_bit, Nat.testBit_two_pow_sub_one]
  by_cases c : i < n
  · rw [decide_eq_true c]
    cases Nat.testBit sh i <;> rfl
  · rw [decide_eq_false c, Nat.testBit_lt_two_pow (Nat.lt_of_lt_of_le h (Nat.pow_le_pow_right (by decide) (by omega)))]
    rfl
theorem andn_and {a b : Nat} : andn a b &&& b = 0 := by
  apply Nat.eq_of_testBit_eq
  intro i
  rw [Nat.testBit_and, andn_bit, Nat.zero_testBit]
  cases Nat.testBit a i <;> cases Nat.testBit b i <;> rfl
theorem it_some {f : Nat → Option Nat → Option Nat} (hf : ∀ z B, B.isSome = true → (f z B).isSome = true) {z : Nat} (hz : ∀ B, (f z B).isSome = true) : ∀ n, z < n → (it f none n).isSome = true
  | 0, h => by omega
  | n + 1, h => by
    show (f n (it f none n)).isSome = true
    by_cases e : z = n
    · subst e; exact hz _
    · exact hf _ _ (it_some hf hz n (by omega))
theorem sil_some {s : SG} {p f : Nat} (hsh : g_sh s < 2 ^ g_n s) (hk : Nat.testBit (g_fa s p) f = false) (hp : p < g_n s) : (it (silN s p f) none (2 ^ g_n s)).isSome = true := by
  have h0 : 0 < 2 ^ g_n s := Nat.pow_pos (by decide)
  refine it_some (z := andn (2 ^ g_n s - 1) (g_sh s)) (fun z B hB => ?_) (fun B => ?_) _ (andn_lt (by omega))
  · unfold silN
    split
    · split
      · exact hB
      · rfl
    · exact hB
  · unfold silN
    cases B with
    | none =>
      rw [if_pos ⟨andn_and, rfl⟩, if_neg]
      · rfl
      · have e : KNW (wsh s (g_sh s ||| andn (2 ^ g_n s - 1) (g_sh s))) f = KNW (wsh s (2 ^ g_n s - 1)) f := by rw [or_full hsh]
        rw [e, knw_bit (s := wsh s (2 ^ g_n s - 1)) hp]
        have e2 : DR (wsh s (2 ^ g_n s - 1)) 24 = g_fa s := dr_shut (fun d => mfs_shut d) 24
        rw [e2, hk]
        decide
    | some b =>
      split
      · split
        · rfl
        · rfl
      · rfl
/-- the soonest, with a least that may be beyond -/
def SN (s : SG) (j k p : Nat) (B : Option Nat) (L : Nat) : Prop := ∃ x, (B, x) = it (sooS s j k) (none, OB (HEARD s j k)) p ∧ ((x = 25 ∧ L = 99) ∨ (x < 25 ∧ L = x))
theorem sn_00 {s : SG} {j k : Nat} (h : (HEARD s j k).isSome = false) : SN s j k 0 none 99 := by
  refine ⟨25, ?_, Or.inl ⟨rfl, rfl⟩⟩
  cases e : HEARD s j k with
  | none => rfl
  | some v => rw [e] at h; cases h
theorem sn_01 {s : SG} {j k v : Nat} (h : HEARD s j k = some v) : SN s j k 0 none v := by
  refine ⟨v, ?_, Or.inr ⟨heard_25 v h, rfl⟩⟩
  show _ = (none, OB (HEARD s j k))
  rw [h]
  rfl
theorem sn_1 {s : SG} {j k p L v : Nat} {B : Option Nat} (h : SN s j k p B L) (e : HEARD (SOO s p) j k = some v) (c : v < L) : SN s j k (p + 1) (some p) v := by
  obtain ⟨x, h1, h2⟩ := h
  have hv := heard_25 v e
  refine ⟨v, it_s h1 ?_, Or.inr ⟨hv, rfl⟩⟩
  have e2 : OB (HEARD (SOO s p) j k) = v := by rw [e]; rfl
  exact (soo_1 (by rw [e2]; omega)).trans (by rw [e2])
theorem sn_2 {s : SG} {j k p L v : Nat} {B : Option Nat} (h : SN s j k p B L) (e : HEARD (SOO s p) j k = some v) (c : L ≤ v) : SN s j k (p + 1) B L := by
  obtain ⟨x, h1, h2⟩ := h
  have hv := heard_25 v e
  have e2 : OB (HEARD (SOO s p) j k) = v := by rw [e]; rfl
  exact ⟨x, it_s h1 (soo_0 (by rw [e2]; omega)), h2⟩
theorem sn_3 {s : SG} {j k p L : Nat} {B : Option Nat} (h : SN s j k p B L) (e : HEARD (SOO s p) j k = none) : SN s j k (p + 1) B L := by
  obtain ⟨x, h1, h2⟩ := h
  have e2 : OB (HEARD (SOO s p) j k) = 25 := by rw [e]; rfl
  exact ⟨x, it_s h1 (soo_0 (by rw [e2]; omega)), h2⟩
theorem shf_c {sh p : Nat} : un (shF sh) p 0 = shF (andn sh (2 ^ p)) := by
  funext z
  by_cases c : z = p
  · subst c
    rw [un_s]
    unfold shF
    rw [andn_bit, Nat.testBit_two_pow_self, Bool.not_true, Bool.and_false]
    rfl
  · rw [un_n c]
    unfold shF
    rw [andn_bit, Nat.testBit_two_pow, decide_eq_false (fun e => c e.symm), Bool.not_false, Bool.and_true]
theorem shf_o {sh p : Nat} : un (shF sh) p 1 = shF (sh ||| 2 ^ p) := by
  funext z
  by_cases c : z = p
  · subst c
    rw [un_s]
    unfold shF
    rw [Nat.testBit_or, Nat.testBit_two_pow_self, Bool.or_true]
    rfl
  · rw [un_n c]
    unfold shF
    rw [Nat.testBit_or, Nat.testBit_two_pow, decide_eq_false (fun e => c e.symm), Bool.or_false]
theorem shf_r {sh p : Nat} : un (shF (sh ||| 2 ^ p)) p (shF sh p) = shF sh := by rw [← shf_o, un_un, un_id]
theorem sw_sw {f : Nat → Nat} {a b : Nat} : sw (sw f a b) a b = f := by
  funext z
  unfold sw
  by_cases c1 : z = b
  · subst c1
    rw [un_s]
    by_cases c2 : a = z
    · subst c2; rw [un_s]
    · rw [un_n c2, un_s]
  · rw [un_n c1]
    by_cases c2 : z = a
    · subst c2
      rw [un_s, un_s]
    · rw [un_n c2, un_n c1, un_n c2]
theorem shw_shw {sh a b : Nat} : shF (if Nat.testBit (if Nat.testBit sh a = Nat.testBit sh b then sh else sh ^^^ (2 ^ a ||| 2 ^ b)) a = Nat.testBit (if Nat.testBit sh a = Nat.testBit sh b then sh else sh ^^^ (2 ^ a ||| 2 ^ b)) b then (if Nat.testBit sh a = Nat.testBit sh b then sh else sh ^^^ (2 ^ a ||| 2 ^ b)) else (if Nat.testBit sh a = Nat.testBit sh b then sh else sh ^^^ (2 ^ a ||| 2 ^ b)) ^^^ (2 ^ a ||| 2 ^ b)) = shF sh := by rw [shf_sw, shf_sw, sw_sw]
theorem it_stop {f : Nat → Option Nat → Option Nat} {a : Nat} (hf : ∀ z B, a ≤ z → f z B = B) : ∀ n, a ≤ n → it f none n = it f none a
  | 0, h => by rw [show a = 0 by omega]
  | n + 1, h => by
    by_cases e : a = n + 1
    · rw [e]
    · show f n (it f none n) = _
      rw [hf n _ (by omega)]
      exact it_stop hf n (by omega)
theorem andn_le {z k : Nat} (h : andn z k = 0) : z ≤ k := by
  have e : z ||| k = k := by
    apply Nat.eq_of_testBit_eq
    intro i
    have h2 : Nat.testBit (andn z k) i = false := by rw [h, Nat.zero_testBit]
    rw [andn_bit] at h2
    rw [Nat.testBit_or]
    cases h3 : Nat.testBit z i <;> cases h4 : Nat.testBit k i <;> rw [h3, h4] at h2 <;> first | rfl | cases h2
  rw [← e]
  exact Nat.left_le_or
theorem pea_e {s : SG} : PEAC s = it (quaS s (KS s 3)) none (KS s 3 + 1) := by
  refine it_stop (fun z B hz => ?_) _ (mkn_lt _ _)
  exact qua_1 (fun q => by have := andn_le q; omega)
theorem quah_0 {s : SG} : QUAH (waw s (KS s 3)) = 0 := by
  rw [quah_e]
  have h : ∀ h', QHC (waw s (KS s 3)) h' = 0 := by
    intro h'
    unfold QHC
    have g : ∀ n, n ≤ g_m s → ctn (fun d => decide (g_K (waw s (KS s 3)) d = 3) && (DM (waw s (KS s 3)) h' d).isSome) n = 0 := by
      intro n
      induction n with
      | zero => intro _; rfl
      | succ n ih =>
        intro hn
        refine (ctn_0 ?_).trans (ih (by omega))
        show (decide (g_K s n = 3) && (DM (waw s (KS s 3)) h' n).isSome) = false
        by_cases c : g_K s n = 3
        · have e : DM (waw s (KS s 3)) h' n = none := hour_aw (by
            show Nat.testBit (KS s 3) n = true
            unfold KS
            rw [mkn_bit, decide_eq_true (show n < g_m s by omega), decide_eq_true c]
            rfl)
          rw [e]
          exact Bool.and_false _
        · rw [decide_eq_false c]
          rfl
    exact g _ (Nat.le_refl _)
  have g2 : ∀ n, ctn (fun h' => decide (1 < QHC (waw s (KS s 3)) h')) n = 0 := by
    intro n
    induction n with
    | zero => rfl
    | succ n ih => exact (ctn_0 (by rw [h n]; rfl)).trans ih
  exact g2 24
theorem andn_self0 {a : Nat} : andn a a = 0 := by
  unfold andn
  rw [Nat.and_self, Nat.xor_self]
theorem pea_some {s : SG} : (it (quaS s (KS s 3)) none (KS s 3 + 1)).isSome = true := by
  refine it_some (z := KS s 3) (fun z B hB => ?_) (fun B => ?_) _ (Nat.lt_succ_self _)
  · unfold quaS
    split
    · split
      · rfl
      · exact hB
    · exact hB
  · cases B with
    | none =>
      unfold quaS
      rw [if_pos ⟨andn_self0, rfl⟩, if_pos quah_0]
      rfl
    | some b =>
      unfold quaS
      split
      · split
        · rfl
        · rfl
      · rfl
theorem dif_le {a b : Nat} (ha : a ≤ 70) (hb : b ≤ 70) : nI a - nI b ≤ 0 ↔ a ≤ b := by
  rw [Int32.le_iff_toInt_le, pk_sub_toInt (by omega) (by omega), show (0 : Int32).toInt = 0 from rfl]
  omega
/-- the two of dead, with a least that may be beyond -/
def BRD (y : Option Nat × Nat) (B : Option Nat) (L : Nat) : Prop := (y = (none, 0) ∧ B = none ∧ L = 999) ∨ (∃ b, B = some b ∧ y = (some b, L))
theorem brd_1 {s : SG} {a b L v : Nat} {B : Option Nat} {y : Option Nat × Nat} (h : BRD y B L) (hb : a + 1 ≤ b) (e : ALL (waw s (2 ^ a ||| 2 ^ b)) = v) (c : v < L) : BRD (briS s a (b - (a + 1)) y) (some (10 * a + b)) v := by
  refine Or.inr ⟨_, rfl, ?_⟩
  rcases h with ⟨rfl, _, _⟩ | ⟨b0, _, rfl⟩
  · exact (bri_1 hb rfl).trans (by rw [e])
  · exact (bri_2 hb (by rw [e]; exact c)).trans (by rw [e])
theorem brd_0 {s : SG} {a b L v : Nat} {B : Option Nat} {y : Option Nat × Nat} (h : BRD y B L) (hb : a + 1 ≤ b) (e : ALL (waw s (2 ^ a ||| 2 ^ b)) = v) (hv : v ≤ 70) (c : L ≤ v) : BRD (briS s a (b - (a + 1)) y) B L := by
  rcases h with ⟨rfl, _, rfl⟩ | ⟨b0, h1, rfl⟩
  · omega
  · refine Or.inr ⟨b0, h1, ?_⟩
    exact bri_0 hb rfl (by rw [e]; exact c)
theorem brd_e {y : Option Nat × Nat} {B : Option Nat} {L : Nat} (h : BRD y B L) : y.1 = B := by
  rcases h with ⟨rfl, rfl, _⟩ | ⟨b0, rfl, rfl⟩ <;> rfl
theorem ctn_not {P : Nat → Bool} : ∀ n, ctn (fun i => !P i) n + ctn P n = n
  | 0 => rfl
  | n + 1 => by
    have ih := ctn_not (P := P) n
    rcases Bool.eq_false_or_eq_true (P n) with h | h
    · have e1 := ctn_1 (P := P) h
      have e2 := ctn_0 (P := fun i => !P i) (k := n) (by show (!P n) = false; rw [h]; rfl)
      omega
    · have e1 := ctn_0 (P := P) h
      have e2 := ctn_1 (P := fun i => !P i) (k := n) (by show (!P n) = true; rw [h]; rfl)
      omega

set_option maxRecDepth 100000 in
set_option maxHeartbeats 4000000 in
theorem c_X5_never (l : Launch) (D : va_G) (cI : ClassId) (r0 k1 k2 k3 k4 k6 k7 k8 k10 k12 k13 k14 k15 k16 k21 k22 k23 k24 k25 k30 k31 k33 : Nat) (n m ls ap sq pl tz rs : Nat) (bd pd tk : Bool) (kv : Value) (sd : Int32) (ki op fa K G T : Nat → Nat) (sh : Nat) (kw kn : Nat → Nat) (M : Nat → Option Nat) (mw : Nat → Nat) (kp R : Nat → Nat) (p f w : Int32) (hw : FW n m sh ki op fa K G T) (hkw : ∀ z, kw z < 1024) (hkn : ∀ z, kn z < 1024) (hM : ∀ z v, M z = some v → v < 7) : CT l yX5_never cX5_never 8 (some .int) { frames := 6, cells := 0, slots := 0, locals := 138 } D cI [.ref r0, .int p, .int f, .int w] [(r0, .inr (5, [.int (nI n), .ref k1, .ref k2, .ref k3, .ref k4, .int (nI m), .ref k6, .ref k7, .ref k8, .int (nI 0), .ref k10, .int (nI 0), .ref k12, .ref k13, .ref k14, .ref k15, .ref k16, .int (nI ls), .int (nI ap), .int (bz bd), .int (nI sq), .ref k21, .ref k22, .ref k23, .ref k24, .ref k25, .int (bz pd), .int (nI pl), .int (bz tk), kv, .ref k30, .ref k31, .int (nI tz), .ref k33, .int (nI rs), .int sd])), (k1, .inl (cI, 7, .inl (nIf ki))), (k2, .inl (cI, 7, .inl (nIf op))), (k3, .inl (cI, 7, .inl (nIf (shF sh)))), (k4, .inl (cI, 7, .inl (nIf fa))), (k6, .inl (cI, 6, .inl (nIf K))), (k7, .inl (cI, 6, .inl (nIf G))), (k8, .inl (cI, 6, .inl (nIf T))), (k12, .inl (cI, 7, .inl (nIf kw))), (k13, .inl (cI, 175, .inl (nIf kn))), (k14, .inl (cI, 144, .inl (mIf M))), (k15, .inl (cI, 7, .inl (nIf mw))), (k24, .inl (cI, 48, .inl (nIf kp))), (k10, .inl (cI, 7, .inl (nIf R)))] (fun zr zw => (∃ kw1 : Nat → Nat, ∃ kn1 : Nat → Nat, ∃ M1 : Nat → Option Nat, ∃ mw1 : Nat → Nat, ∃ kp1 : Nat → Nat, ∃ pl1 : Nat, ∃ tk1 : Bool, ∃ kv1 : Value, ∃ rc : Nat, ∃ rv : Int32, (q_never (n, m, sh, 0, ki, op, fa, K, G, T) p f w = (rc, rv)) ∧ (∀ z, kw1 z < 1024) ∧ (∀ z, kn1 z < 1024) ∧ (∀ z v, M1 z = some v → v < 7) ∧ zr = some (.int rv) ∧ zw = [(r0, .inr (5, [.int (nI n), .ref k1, .ref k2, .ref k3, .ref k4, .int (nI m), .ref k6, .ref k7, .ref k8, .int (nI 0), .ref k10, .int (nI 0), .ref k12, .ref k13, .ref k14, .ref k15, .ref k16, .int (nI ls), .int (nI ap), .int (bz bd), .int (nI sq), .ref k21, .ref k22, .ref k23, .ref k24, .ref k25, .int (bz pd), .int (nI pl1), .int (bz tk1), kv1, .ref k30, .ref k31, .int (nI tz), .ref k33, .int (nI rs), .int sd])), (k1, .inl (cI, 7, .inl (nIf ki))), (k2, .inl (cI, 7, .inl (nIf op))), (k3, .inl (cI, 7, .inl (nIf (shF sh)))), (k4, .inl (cI, 7, .inl (nIf fa))), (k6, .inl (cI, 6, .inl (nIf K))), (k7, .inl (cI, 6, .inl (nIf G))), (k8, .inl (cI, 6, .inl (nIf T))), (k12, .inl (cI, 7, .inl (nIf kw1))), (k13, .inl (cI, 175, .inl (nIf kn1))), (k14, .inl (cI, 144, .inl (mIf M1))), (k15, .inl (cI, 7, .inl (nIf mw1))), (k24, .inl (cI, 48, .inl (nIf kp1))), (k10, .inl (cI, 7, .inl (nIf (rf R rc))))])) := by
  refine CT_of RX5 rfl (by decide +kernel) (Nat.le_of_ble_eq_true rfl) (fun E hnE zC zT => ?_)
  have hA : ∀ q, (ev_s E).heap.size ≤ q → ev_A E q := fun q h => by rw [zT.2]; exact Or.inr h
  obtain ⟨hn, hm, hsh, hki, hop, hfa, hK, hG, hT, vki, vop, vfa, vK, vG, vT⟩ := id hw
  have h2n : 2 ^ n ≤ 2 ^ 7 := Nat.pow_le_pow_right (by decide) hn
  show VV E 0 0 0 [(0, .ref r0), (1, .int p), (2, .int f), (3, .int w)] [] [(r0, .inr (5, [.int (nI n), .ref k1, .ref k2, .ref k3, .ref k4, .int (nI m), .ref k6, .ref k7, .ref k8, .int (nI 0), .ref k10, .int (nI 0), .ref k12, .ref k13, .ref k14, .ref k15, .ref k16, .int (nI ls), .int (nI ap), .int (bz bd), .int (nI sq), .ref k21, .ref k22, .ref k23, .ref k24, .ref k25, .int (bz pd), .int (nI pl), .int (bz tk), kv, .ref k30, .ref k31, .int (nI tz), .ref k33, .int (nI rs), .int sd])), (k1, .inl (cI, 7, .inl (nIf ki))), (k2, .inl (cI, 7, .inl (nIf op))), (k3, .inl (cI, 7, .inl (nIf (shF sh)))), (k4, .inl (cI, 7, .inl (nIf fa))), (k6, .inl (cI, 6, .inl (nIf K))), (k7, .inl (cI, 6, .inl (nIf G))), (k8, .inl (cI, 6, .inl (nIf T))), (k12, .inl (cI, 7, .inl (nIf kw))), (k13, .inl (cI, 175, .inl (nIf kn))), (k14, .inl (cI, 144, .inl (mIf M))), (k15, .inl (cI, 7, .inl (nIf mw))), (k24, .inl (cI, 48, .inl (nIf kp))), (k10, .inl (cI, 7, .inl (nIf R)))]
  refine v_al_n 1 zC dX5_never_0 0 rfl ?_
  refine v_ic (v := (nI 0)) 2 zC dX5_never_1 (by decide +kernel) ?_
  refine v_pf (ws2 := [(r0, .inr (5, [.int (nI n), .ref k1, .ref k2, .ref k3, .ref k4, .int (nI m), .ref k6, .ref k7, .ref k8, .int (nI 0), .ref k10, .int (nI 0), .ref k12, .ref k13, .ref k14, .ref k15, .ref k16, .int (nI ls), .int (nI ap), .int (bz bd), .int (nI sq), .ref k21, .ref k22, .ref k23, .ref k24, .ref k25, .int (bz pd), .int (nI pl), .int (bz tk), kv, .ref k30, .ref k31, .int (nI tz), .ref k33, .int (nI rs), .int sd])), (k1, .inl (cI, 7, .inl (nIf ki))), (k2, .inl (cI, 7, .inl (nIf op))), (k3, .inl (cI, 7, .inl (nIf (shF sh)))), (k4, .inl (cI, 7, .inl (nIf fa))), (k6, .inl (cI, 6, .inl (nIf K))), (k7, .inl (cI, 6, .inl (nIf G))), (k8, .inl (cI, 6, .inl (nIf T))), (k12, .inl (cI, 7, .inl (nIf kw))), (k13, .inl (cI, 175, .inl (nIf kn))), (k14, .inl (cI, 144, .inl (mIf M))), (k15, .inl (cI, 7, .inl (nIf mw))), (k24, .inl (cI, 48, .inl (nIf kp))), (k10, .inl (cI, 7, .inl (nIf R)))]) 5 0 zC dX5_never_2 pf_X5_73 rfl (Nat.le_of_ble_eq_true rfl) rfl rfl rfl ?_
  refine v_al_n 6 zC dX5_never_5 0 rfl ?_
  refine v_il_n 7 zC dX5_never_6 1 rfl ?_
  refine v_cV (As := [.int p]) (st := []) 10 0 [0] zC dX5_never_7 hA (c_X5_isOne (ev_l E) (ev_D E) cI (r0 := r0) (k1 := k1) (k2 := k2) (k3 := k3) (k4 := k4) (k6 := k6) (k7 := k7) (k8 := k8) (k10 := k10) (k12 := k12) (k13 := k13) (k14 := k14) (k15 := k15) (k16 := k16) (k21 := k21) (k22 := k22) (k23 := k23) (k24 := k24) (k25 := k25) (k30 := k30) (k31 := k31) (k33 := k33) (n := n) (m := m) (aw := 0) (ls := ls) (ap := ap) (sq := sq) (pl := pl) (tz := tz) (rs := rs) (bd := bd) (pd := pd) (tk := tk) (kv := kv) (sd := sd) (p := p) (hn := (by first | omega | assumption | rfl | (simp only []; omega) | decide))) cf_X5_isOne lk_X5_164 rfl rfl rfl rfl rfl (by decide +kernel) (Nat.le_of_ble_eq_true rfl) (fun rv_1 wv_2 hp_3 hm_4 => ?_)
  clear hm_4
  rcases hp_3 with ⟨hi_5, rfl, rfl⟩ | ⟨j_6, he_7, hi_8, hj_9, rfl, rfl⟩
  ·
    show VV E 0 0 10 [(0, .ref r0), (1, .int p), (2, .int f), (3, .int w)] [.int (nI 0)] [(r0, .inr (5, [.int (nI n), .ref k1, .ref k2, .ref k3, .ref k4, .int (nI m), .ref k6, .ref k7, .ref k8, .int (nI 0), .ref k10, .int (nI 0), .ref k12, .ref k13, .ref k14, .ref k15, .ref k16, .int (nI ls), .int (nI ap), .int (bz bd), .int (nI sq), .ref k21, .ref k22, .ref k23, .ref k24, .ref k25, .int (bz pd), .int (nI pl), .int (bz tk), kv, .ref k30, .ref k31, .int (nI tz), .ref k33, .int (nI rs), .int sd])), (k1, .inl (cI, 7, .inl (nIf ki))), (k2, .inl (cI, 7, .inl (nIf op))), (k3, .inl (cI, 7, .inl (nIf (shF sh)))), (k4, .inl (cI, 7, .inl (nIf fa))), (k6, .inl (cI, 6, .inl (nIf K))), (k7, .inl (cI, 6, .inl (nIf G))), (k8, .inl (cI, 6, .inl (nIf T))), (k12, .inl (cI, 7, .inl (nIf kw))), (k13, .inl (cI, 175, .inl (nIf kn))), (k14, .inl (cI, 144, .inl (mIf M))), (k15, .inl (cI, 7, .inl (nIf mw))), (k24, .inl (cI, 48, .inl (nIf kp))), (k10, .inl (cI, 7, .inl (nIf R)))]
    have hn_p := hi_5
    refine v_if_eq 29 13 zC dX5_never_10 (fun _ => ?_) (fun z => absurd (by decide +kernel) z)
    refine v_ic (v := (-1)) 30 zC dX5_never_29 (by decide +kernel) ?_
    refine v_is (lv2 := [(4, .int (-1)), (0, .ref r0), (1, .int p), (2, .int f), (3, .int w)]) 32 zC dX5_never_30 (by rw [hnE]; decide) rfl ?_
    refine v_il 34 zC dX5_never_32 0 rfl ?_
    refine v_if_ge 44 37 zC dX5_never_34 (fun z => absurd z (by decide +kernel)) (fun _ => ?_)
    refine v_al_n 38 zC dX5_never_37 1 rfl ?_
    refine v_il 40 zC dX5_never_38 0 rfl ?_
    refine v_cV (As := [.int (-1)]) (st := []) 43 0 [0, 13] zC dX5_never_40 hA (c_X5_refuse (ev_l E) (ev_D E) cI (r0 := r0) (k1 := k1) (k2 := k2) (k3 := k3) (k4 := k4) (k6 := k6) (k7 := k7) (k8 := k8) (k10 := k10) (k12 := k12) (k13 := k13) (k14 := k14) (k15 := k15) (k16 := k16) (k21 := k21) (k22 := k22) (k23 := k23) (k24 := k24) (k25 := k25) (k30 := k30) (k31 := k31) (k33 := k33) (n := n) (m := m) (aw := 0) (ls := ls) (ap := ap) (sq := sq) (pl := pl) (tz := tz) (rs := rs) (bd := bd) (pd := pd) (tk := tk) (kv := kv) (sd := sd) (R := R) (v := (-1)) (j := 1) (hv := (by first | omega | assumption | rfl | (simp only []; omega) | decide)) (h1 := (by first | omega | assumption | rfl | (simp only []; omega) | decide)) (h6 := (by first | omega | assumption | rfl | (simp only []; omega) | decide))) cf_X5_refuse lk_X5_129 rfl rfl rfl rfl rfl (by decide +kernel) (Nat.le_of_ble_eq_true rfl) (fun rv_12 wv_13 hp_14 hm_15 => ?_)
    clear hm_15
    obtain ⟨rfl, rfl⟩ := hp_14
    show VV E 0 0 43 [(4, .int (-1)), (0, .ref r0), (1, .int p), (2, .int f), (3, .int w)] [.int (-1)] [(r0, .inr (5, [.int (nI n), .ref k1, .ref k2, .ref k3, .ref k4, .int (nI m), .ref k6, .ref k7, .ref k8, .int (nI 0), .ref k10, .int (nI 0), .ref k12, .ref k13, .ref k14, .ref k15, .ref k16, .int (nI ls), .int (nI ap), .int (bz bd), .int (nI sq), .ref k21, .ref k22, .ref k23, .ref k24, .ref k25, .int (bz pd), .int (nI pl), .int (bz tk), kv, .ref k30, .ref k31, .int (nI tz), .ref k33, .int (nI rs), .int sd])), (k1, .inl (cI, 7, .inl (nIf ki))), (k2, .inl (cI, 7, .inl (nIf op))), (k3, .inl (cI, 7, .inl (nIf (shF sh)))), (k4, .inl (cI, 7, .inl (nIf fa))), (k6, .inl (cI, 6, .inl (nIf K))), (k7, .inl (cI, 6, .inl (nIf G))), (k8, .inl (cI, 6, .inl (nIf T))), (k12, .inl (cI, 7, .inl (nIf kw))), (k13, .inl (cI, 175, .inl (nIf kn))), (k14, .inl (cI, 144, .inl (mIf M))), (k15, .inl (cI, 7, .inl (nIf mw))), (k24, .inl (cI, 48, .inl (nIf kp))), (k10, .inl (cI, 7, .inl (nIf (un R 1 (R 1 + 1)))))]
    refine v_iret zC zT dX5_never_43  ?_
    first | (have g9 := hky9; exact ⟨kw, kn, M, mw, kp, pl, tk, kv, 0, _, by unfold q_never SIL; rw [hi_p]; dsimp only; rw [hi_f]; dsimp only; rw [hi_w]; dsimp only; rw [if_pos (show Nat.testBit (g_fa (n, m, sh, 0, ki, op, fa, K, G, T) jp) jf = true from hky9)]; first | (split <;> rfl), hkw, hkn, hM, rfl, rfl⟩) | (have g9 := hn_p; exact ⟨kw, kn, M, mw, kp, pl, tk, kv, 1, _, by unfold q_never; rw [hn_p], hkw, hkn, hM, rfl, rfl⟩) | (have g9 := hn_f; exact ⟨kw, kn, M, mw, kp, pl, tk, kv, 1, _, by unfold q_never; rw [hi_p]; dsimp only; rw [hn_f], hkw, hkn, hM, rfl, rfl⟩) | (have g9 := hn_w; exact ⟨kw, kn, M, mw, kp, pl, tk, kv, 2, _, by unfold q_never; rw [hi_p]; dsimp only; rw [hi_f]; dsimp only; rw [hn_w], hkw, hkn, hM, rfl, rfl⟩) | exact ⟨_, _, _, _, _, _, _, _, 0, _, by unfold q_never SIL; rw [hi_p]; dsimp only; rw [hi_f]; dsimp only; rw [hi_w]; dsimp only; rw [if_neg (show ¬ Nat.testBit (g_fa (n, m, sh, 0, ki, op, fa, K, G, T) jp) jf = true by rw [show Nat.testBit (g_fa (n, m, sh, 0, ki, op, fa, K, G, T) jp) jf = false from hkn9]; decide), show 2 ^ g_n (n, m, sh, 0, ki, op, fa, K, G, T) = z from (by show 2 ^ n = z; omega), ← hBe]; first | (rw [if_pos (by assumption)]; rfl) | (rw [if_neg (by assumption)]; rfl), hkw2, hkn2, hM2, rfl, rfl⟩
  ·
    show VV E 0 0 10 [(0, .ref r0), (1, .int p), (2, .int f), (3, .int w)] [.int (nI 1)] [(r0, .inr (5, [.int (nI n), .ref k1, .ref k2, .ref k3, .ref k4, .int (nI m), .ref k6, .ref k7, .ref k8, .int (nI 0), .ref k10, .int (nI 0), .ref k12, .ref k13, .ref k14, .ref k15, .ref k16, .int (nI ls), .int (nI ap), .int (bz bd), .int (nI sq), .ref k21, .ref k22, .ref k23, .ref k24, .ref k25, .int (bz pd), .int (nI pl), .int (bz tk), kv, .ref k30, .ref k31, .int (nI tz), .ref k33, .int (nI rs), .int sd])), (k1, .inl (cI, 7, .inl (nIf ki))), (k2, .inl (cI, 7, .inl (nIf op))), (k3, .inl (cI, 7, .inl (nIf (shF sh)))), (k4, .inl (cI, 7, .inl (nIf fa))), (k6, .inl (cI, 6, .inl (nIf K))), (k7, .inl (cI, 6, .inl (nIf G))), (k8, .inl (cI, 6, .inl (nIf T))), (k12, .inl (cI, 7, .inl (nIf kw))), (k13, .inl (cI, 175, .inl (nIf kn))), (k14, .inl (cI, 144, .inl (mIf M))), (k15, .inl (cI, 7, .inl (nIf mw))), (k24, .inl (cI, 48, .inl (nIf kp))), (k10, .inl (cI, 7, .inl (nIf R)))]
    subst he_7
    have hi_p := hi_8
    obtain ⟨jp, hx_jp⟩ : ∃ z, z = j_6 := ⟨_, rfl⟩
    subst hx_jp
    refine v_if_eq 29 13 zC dX5_never_10 (fun z => absurd z (by decide +kernel)) (fun _ => ?_)
    refine v_il_n 14 zC dX5_never_13 2 rfl ?_
    refine v_cS (As := [.int f]) (st := []) 17 [] zC dX5_never_14 hA (c_X5_isFact (ev_l E) (ev_D E) cI (p := f) ) cf_X5_isFact lk_X5_225 rfl rfl rfl (by decide +kernel) (Nat.le_of_ble_eq_true rfl) (fun rv_17 wv_18 hp_19 hm_20 => ?_)
    clear hm_20
    rcases hp_19 with ⟨hi_21, rfl, rfl⟩ | ⟨j_22, he_23, hi_24, hj_25, rfl, rfl⟩
    ·
      show VV E 0 0 17 [(0, .ref r0), (1, .int (nI jp)), (2, .int f), (3, .int w)] [.int (nI 0)] [(r0, .inr (5, [.int (nI n), .ref k1, .ref k2, .ref k3, .ref k4, .int (nI m), .ref k6, .ref k7, .ref k8, .int (nI 0), .ref k10, .int (nI 0), .ref k12, .ref k13, .ref k14, .ref k15, .ref k16, .int (nI ls), .int (nI ap), .int (bz bd), .int (nI sq), .ref k21, .ref k22, .ref k23, .ref k24, .ref k25, .int (bz pd), .int (nI pl), .int (bz tk), kv, .ref k30, .ref k31, .int (nI tz), .ref k33, .int (nI rs), .int sd])), (k1, .inl (cI, 7, .inl (nIf ki))), (k2, .inl (cI, 7, .inl (nIf op))), (k3, .inl (cI, 7, .inl (nIf (shF sh)))), (k4, .inl (cI, 7, .inl (nIf fa))), (k6, .inl (cI, 6, .inl (nIf K))), (k7, .inl (cI, 6, .inl (nIf G))), (k8, .inl (cI, 6, .inl (nIf T))), (k12, .inl (cI, 7, .inl (nIf kw))), (k13, .inl (cI, 175, .inl (nIf kn))), (k14, .inl (cI, 144, .inl (mIf M))), (k15, .inl (cI, 7, .inl (nIf mw))), (k24, .inl (cI, 48, .inl (nIf kp))), (k10, .inl (cI, 7, .inl (nIf R)))]
      have hn_f := hi_21
      refine v_if_eq 29 20 zC dX5_never_17 (fun _ => ?_) (fun z => absurd (by decide +kernel) z)
      refine v_ic (v := (-1)) 30 zC dX5_never_29 (by decide +kernel) ?_
      refine v_is (lv2 := [(4, .int (-1)), (0, .ref r0), (1, .int (nI jp)), (2, .int f), (3, .int w)]) 32 zC dX5_never_30 (by rw [hnE]; decide) rfl ?_
      refine v_il 34 zC dX5_never_32 0 rfl ?_
      refine v_if_ge 44 37 zC dX5_never_34 (fun z => absurd z (by decide +kernel)) (fun _ => ?_)
      refine v_al_n 38 zC dX5_never_37 1 rfl ?_
      refine v_il 40 zC dX5_never_38 0 rfl ?_
      refine v_cV (As := [.int (-1)]) (st := []) 43 0 [0, 13] zC dX5_never_40 hA (c_X5_refuse (ev_l E) (ev_D E) cI (r0 := r0) (k1 := k1) (k2 := k2) (k3 := k3) (k4 := k4) (k6 := k6) (k7 := k7) (k8 := k8) (k10 := k10) (k12 := k12) (k13 := k13) (k14 := k14) (k15 := k15) (k16 := k16) (k21 := k21) (k22 := k22) (k23 := k23) (k24 := k24) (k25 := k25) (k30 := k30) (k31 := k31) (k33 := k33) (n := n) (m := m) (aw := 0) (ls := ls) (ap := ap) (sq := sq) (pl := pl) (tz := tz) (rs := rs) (bd := bd) (pd := pd) (tk := tk) (kv := kv) (sd := sd) (R := R) (v := (-1)) (j := 1) (hv := (by first | omega | assumption | rfl | (simp only []; omega) | decide)) (h1 := (by first | omega | assumption | rfl | (simp only []; omega) | decide)) (h6 := (by first | omega | assumption | rfl | (simp only []; omega) | decide))) cf_X5_refuse lk_X5_129 rfl rfl rfl rfl rfl (by decide +kernel) (Nat.le_of_ble_eq_true rfl) (fun rv_28 wv_29 hp_30 hm_31 => ?_)
      clear hm_31
      obtain ⟨rfl, rfl⟩ := hp_30
      show VV E 0 0 43 [(4, .int (-1)), (0, .ref r0), (1, .int (nI jp)), (2, .int f), (3, .int w)] [.int (-1)] [(r0, .inr (5, [.int (nI n), .ref k1, .ref k2, .ref k3, .ref k4, .int (nI m), .ref k6, .ref k7, .ref k8, .int (nI 0), .ref k10, .int (nI 0), .ref k12, .ref k13, .ref k14, .ref k15, .ref k16, .int (nI ls), .int (nI ap), .int (bz bd), .int (nI sq), .ref k21, .ref k22, .ref k23, .ref k24, .ref k25, .int (bz pd), .int (nI pl), .int (bz tk), kv, .ref k30, .ref k31, .int (nI tz), .ref k33, .int (nI rs), .int sd])), (k1, .inl (cI, 7, .inl (nIf ki))), (k2, .inl (cI, 7, .inl (nIf op))), (k3, .inl (cI, 7, .inl (nIf (shF sh)))), (k4, .inl (cI, 7, .inl (nIf fa))), (k6, .inl (cI, 6, .inl (nIf K))), (k7, .inl (cI, 6, .inl (nIf G))), (k8, .inl (cI, 6, .inl (nIf T))), (k12, .inl (cI, 7, .inl (nIf kw))), (k13, .inl (cI, 175, .inl (nIf kn))), (k14, .inl (cI, 144, .inl (mIf M))), (k15, .inl (cI, 7, .inl (nIf mw))), (k24, .inl (cI, 48, .inl (nIf kp))), (k10, .inl (cI, 7, .inl (nIf (un R 1 (R 1 + 1)))))]
      refine v_iret zC zT dX5_never_43  ?_
      first | (have g9 := hky9; exact ⟨kw, kn, M, mw, kp, pl, tk, kv, 0, _, by unfold q_never SIL; rw [hi_p]; dsimp only; rw [hi_f]; dsimp only; rw [hi_w]; dsimp only; rw [if_pos (show Nat.testBit (g_fa (n, m, sh, 0, ki, op, fa, K, G, T) jp) jf = true from hky9)]; first | (split <;> rfl), hkw, hkn, hM, rfl, rfl⟩) | (have g9 := hn_p; exact ⟨kw, kn, M, mw, kp, pl, tk, kv, 1, _, by unfold q_never; rw [hn_p], hkw, hkn, hM, rfl, rfl⟩) | (have g9 := hn_f; exact ⟨kw, kn, M, mw, kp, pl, tk, kv, 1, _, by unfold q_never; rw [hi_p]; dsimp only; rw [hn_f], hkw, hkn, hM, rfl, rfl⟩) | (have g9 := hn_w; exact ⟨kw, kn, M, mw, kp, pl, tk, kv, 2, _, by unfold q_never; rw [hi_p]; dsimp only; rw [hi_f]; dsimp only; rw [hn_w], hkw, hkn, hM, rfl, rfl⟩) | exact ⟨_, _, _, _, _, _, _, _, 0, _, by unfold q_never SIL; rw [hi_p]; dsimp only; rw [hi_f]; dsimp only; rw [hi_w]; dsimp only; rw [if_neg (show ¬ Nat.testBit (g_fa (n, m, sh, 0, ki, op, fa, K, G, T) jp) jf = true by rw [show Nat.testBit (g_fa (n, m, sh, 0, ki, op, fa, K, G, T) jp) jf = false from hkn9]; decide), show 2 ^ g_n (n, m, sh, 0, ki, op, fa, K, G, T) = z from (by show 2 ^ n = z; omega), ← hBe]; first | (rw [if_pos (by assumption)]; rfl) | (rw [if_neg (by assumption)]; rfl), hkw2, hkn2, hM2, rfl, rfl⟩
    ·
      show VV E 0 0 17 [(0, .ref r0), (1, .int (nI jp)), (2, .int f), (3, .int w)] [.int (nI 1)] [(r0, .inr (5, [.int (nI n), .ref k1, .ref k2, .ref k3, .ref k4, .int (nI m), .ref k6, .ref k7, .ref k8, .int (nI 0), .ref k10, .int (nI 0), .ref k12, .ref k13, .ref k14, .ref k15, .ref k16, .int (nI ls), .int (nI ap), .int (bz bd), .int (nI sq), .ref k21, .ref k22, .ref k23, .ref k24, .ref k25, .int (bz pd), .int (nI pl), .int (bz tk), kv, .ref k30, .ref k31, .int (nI tz), .ref k33, .int (nI rs), .int sd])), (k1, .inl (cI, 7, .inl (nIf ki))), (k2, .inl (cI, 7, .inl (nIf op))), (k3, .inl (cI, 7, .inl (nIf (shF sh)))), (k4, .inl (cI, 7, .inl (nIf fa))), (k6, .inl (cI, 6, .inl (nIf K))), (k7, .inl (cI, 6, .inl (nIf G))), (k8, .inl (cI, 6, .inl (nIf T))), (k12, .inl (cI, 7, .inl (nIf kw))), (k13, .inl (cI, 175, .inl (nIf kn))), (k14, .inl (cI, 144, .inl (mIf M))), (k15, .inl (cI, 7, .inl (nIf mw))), (k24, .inl (cI, 48, .inl (nIf kp))), (k10, .inl (cI, 7, .inl (nIf R)))]
      subst he_23
      have hi_f := hi_24
      obtain ⟨jf, hx_jf⟩ : ∃ z, z = j_22 := ⟨_, rfl⟩
      subst hx_jf
      refine v_if_eq 29 20 zC dX5_never_17 (fun z => absurd z (by decide +kernel)) (fun _ => ?_)
      refine v_ic (v := (nI 0)) 21 zC dX5_never_20 (by decide +kernel) ?_
      refine v_il_n 22 zC dX5_never_21 3 rfl ?_
      refine v_ic (v := (nI 1)) 23 zC dX5_never_22 (by decide +kernel) ?_
      refine v_cS (As := [.int (nI 0), .int w, .int (nI 1)]) (st := []) 26 [] zC dX5_never_23 hA (c_X5_wrongBit__Z (ev_l E) (ev_D E) cI (v := w) (k := 1) (hk := (by first | omega | assumption | rfl | (simp only []; omega) | decide))) cf_X5_wrongBit lk_X5_248 rfl rfl rfl (by decide +kernel) (Nat.le_of_ble_eq_true rfl) (fun rv_33 wv_34 hp_35 hm_36 => ?_)
      clear hm_36
      rcases hp_35 with ⟨hi_37, rfl, rfl⟩ | ⟨j_38, he_39, hi_40, hj_41, rfl, rfl⟩
      ·
        show VV E 0 0 26 [(0, .ref r0), (1, .int (nI jp)), (2, .int (nI jf)), (3, .int w)] [.int (-2)] [(r0, .inr (5, [.int (nI n), .ref k1, .ref k2, .ref k3, .ref k4, .int (nI m), .ref k6, .ref k7, .ref k8, .int (nI 0), .ref k10, .int (nI 0), .ref k12, .ref k13, .ref k14, .ref k15, .ref k16, .int (nI ls), .int (nI ap), .int (bz bd), .int (nI sq), .ref k21, .ref k22, .ref k23, .ref k24, .ref k25, .int (bz pd), .int (nI pl), .int (bz tk), kv, .ref k30, .ref k31, .int (nI tz), .ref k33, .int (nI rs), .int sd])), (k1, .inl (cI, 7, .inl (nIf ki))), (k2, .inl (cI, 7, .inl (nIf op))), (k3, .inl (cI, 7, .inl (nIf (shF sh)))), (k4, .inl (cI, 7, .inl (nIf fa))), (k6, .inl (cI, 6, .inl (nIf K))), (k7, .inl (cI, 6, .inl (nIf G))), (k8, .inl (cI, 6, .inl (nIf T))), (k12, .inl (cI, 7, .inl (nIf kw))), (k13, .inl (cI, 175, .inl (nIf kn))), (k14, .inl (cI, 144, .inl (mIf M))), (k15, .inl (cI, 7, .inl (nIf mw))), (k24, .inl (cI, 48, .inl (nIf kp))), (k10, .inl (cI, 7, .inl (nIf R)))]
        have hn_w := hi_37
        refine v_goto 30 zC dX5_never_26 ?_
        refine v_is (lv2 := [(4, .int (-2)), (0, .ref r0), (1, .int (nI jp)), (2, .int (nI jf)), (3, .int w)]) 32 zC dX5_never_30 (by rw [hnE]; decide) rfl ?_
        refine v_il 34 zC dX5_never_32 0 rfl ?_
        refine v_if_ge 44 37 zC dX5_never_34 (fun z => absurd z (by decide +kernel)) (fun _ => ?_)
        refine v_al_n 38 zC dX5_never_37 1 rfl ?_
        refine v_il 40 zC dX5_never_38 0 rfl ?_
        refine v_cV (As := [.int (-2)]) (st := []) 43 0 [0, 13] zC dX5_never_40 hA (c_X5_refuse (ev_l E) (ev_D E) cI (r0 := r0) (k1 := k1) (k2 := k2) (k3 := k3) (k4 := k4) (k6 := k6) (k7 := k7) (k8 := k8) (k10 := k10) (k12 := k12) (k13 := k13) (k14 := k14) (k15 := k15) (k16 := k16) (k21 := k21) (k22 := k22) (k23 := k23) (k24 := k24) (k25 := k25) (k30 := k30) (k31 := k31) (k33 := k33) (n := n) (m := m) (aw := 0) (ls := ls) (ap := ap) (sq := sq) (pl := pl) (tz := tz) (rs := rs) (bd := bd) (pd := pd) (tk := tk) (kv := kv) (sd := sd) (R := R) (v := (-2)) (j := 2) (hv := (by first | omega | assumption | rfl | (simp only []; omega) | decide)) (h1 := (by first | omega | assumption | rfl | (simp only []; omega) | decide)) (h6 := (by first | omega | assumption | rfl | (simp only []; omega) | decide))) cf_X5_refuse lk_X5_129 rfl rfl rfl rfl rfl (by decide +kernel) (Nat.le_of_ble_eq_true rfl) (fun rv_43 wv_44 hp_45 hm_46 => ?_)
        clear hm_46
        obtain ⟨rfl, rfl⟩ := hp_45
        show VV E 0 0 43 [(4, .int (-2)), (0, .ref r0), (1, .int (nI jp)), (2, .int (nI jf)), (3, .int w)] [.int (-2)] [(r0, .inr (5, [.int (nI n), .ref k1, .ref k2, .ref k3, .ref k4, .int (nI m), .ref k6, .ref k7, .ref k8, .int (nI 0), .ref k10, .int (nI 0), .ref k12, .ref k13, .ref k14, .ref k15, .ref k16, .int (nI ls), .int (nI ap), .int (bz bd), .int (nI sq), .ref k21, .ref k22, .ref k23, .ref k24, .ref k25, .int (bz pd), .int (nI pl), .int (bz tk), kv, .ref k30, .ref k31, .int (nI tz), .ref k33, .int (nI rs), .int sd])), (k1, .inl (cI, 7, .inl (nIf ki))), (k2, .inl (cI, 7, .inl (nIf op))), (k3, .inl (cI, 7, .inl (nIf (shF sh)))), (k4, .inl (cI, 7, .inl (nIf fa))), (k6, .inl (cI, 6, .inl (nIf K))), (k7, .inl (cI, 6, .inl (nIf G))), (k8, .inl (cI, 6, .inl (nIf T))), (k12, .inl (cI, 7, .inl (nIf kw))), (k13, .inl (cI, 175, .inl (nIf kn))), (k14, .inl (cI, 144, .inl (mIf M))), (k15, .inl (cI, 7, .inl (nIf mw))), (k24, .inl (cI, 48, .inl (nIf kp))), (k10, .inl (cI, 7, .inl (nIf (un R 2 (R 2 + 1)))))]
        refine v_iret zC zT dX5_never_43  ?_
        first | (have g9 := hky9; exact ⟨kw, kn, M, mw, kp, pl, tk, kv, 0, _, by unfold q_never SIL; rw [hi_p]; dsimp only; rw [hi_f]; dsimp only; rw [hi_w]; dsimp only; rw [if_pos (show Nat.testBit (g_fa (n, m, sh, 0, ki, op, fa, K, G, T) jp) jf = true from hky9)]; first | (split <;> rfl), hkw, hkn, hM, rfl, rfl⟩) | (have g9 := hn_p; exact ⟨kw, kn, M, mw, kp, pl, tk, kv, 1, _, by unfold q_never; rw [hn_p], hkw, hkn, hM, rfl, rfl⟩) | (have g9 := hn_f; exact ⟨kw, kn, M, mw, kp, pl, tk, kv, 1, _, by unfold q_never; rw [hi_p]; dsimp only; rw [hn_f], hkw, hkn, hM, rfl, rfl⟩) | (have g9 := hn_w; exact ⟨kw, kn, M, mw, kp, pl, tk, kv, 2, _, by unfold q_never; rw [hi_p]; dsimp only; rw [hi_f]; dsimp only; rw [hn_w], hkw, hkn, hM, rfl, rfl⟩) | exact ⟨_, _, _, _, _, _, _, _, 0, _, by unfold q_never SIL; rw [hi_p]; dsimp only; rw [hi_f]; dsimp only; rw [hi_w]; dsimp only; rw [if_neg (show ¬ Nat.testBit (g_fa (n, m, sh, 0, ki, op, fa, K, G, T) jp) jf = true by rw [show Nat.testBit (g_fa (n, m, sh, 0, ki, op, fa, K, G, T) jp) jf = false from hkn9]; decide), show 2 ^ g_n (n, m, sh, 0, ki, op, fa, K, G, T) = z from (by show 2 ^ n = z; omega), ← hBe]; first | (rw [if_pos (by assumption)]; rfl) | (rw [if_neg (by assumption)]; rfl), hkw2, hkn2, hM2, rfl, rfl⟩
      ·
        show VV E 0 0 26 [(0, .ref r0), (1, .int (nI jp)), (2, .int (nI jf)), (3, .int w)] [.int (nI 0)] [(r0, .inr (5, [.int (nI n), .ref k1, .ref k2, .ref k3, .ref k4, .int (nI m), .ref k6, .ref k7, .ref k8, .int (nI 0), .ref k10, .int (nI 0), .ref k12, .ref k13, .ref k14, .ref k15, .ref k16, .int (nI ls), .int (nI ap), .int (bz bd), .int (nI sq), .ref k21, .ref k22, .ref k23, .ref k24, .ref k25, .int (bz pd), .int (nI pl), .int (bz tk), kv, .ref k30, .ref k31, .int (nI tz), .ref k33, .int (nI rs), .int sd])), (k1, .inl (cI, 7, .inl (nIf ki))), (k2, .inl (cI, 7, .inl (nIf op))), (k3, .inl (cI, 7, .inl (nIf (shF sh)))), (k4, .inl (cI, 7, .inl (nIf fa))), (k6, .inl (cI, 6, .inl (nIf K))), (k7, .inl (cI, 6, .inl (nIf G))), (k8, .inl (cI, 6, .inl (nIf T))), (k12, .inl (cI, 7, .inl (nIf kw))), (k13, .inl (cI, 175, .inl (nIf kn))), (k14, .inl (cI, 144, .inl (mIf M))), (k15, .inl (cI, 7, .inl (nIf mw))), (k24, .inl (cI, 48, .inl (nIf kp))), (k10, .inl (cI, 7, .inl (nIf R)))]
        subst he_39
        have hi_w := hi_40
        obtain ⟨jw, hx_jw⟩ : ∃ z, z = j_38 := ⟨_, rfl⟩
        subst hx_jw
        refine v_goto 30 zC dX5_never_26 ?_
        refine v_is (lv2 := [(4, .int (nI 0)), (0, .ref r0), (1, .int (nI jp)), (2, .int (nI jf)), (3, .int (nI jw))]) 32 zC dX5_never_30 (by rw [hnE]; decide) rfl ?_
        refine v_il 34 zC dX5_never_32 0 rfl ?_
        refine v_if_ge 44 37 zC dX5_never_34 (fun _ => ?_) (fun z => absurd (by decide +kernel) z)
        refine v_al_n 45 zC dX5_never_44 1 rfl ?_
        refine v_gf 48 0 zC dX5_never_45 gf_X5_19 rfl rfl ?_
        refine v_il_n 49 zC dX5_never_48 2 rfl ?_
        refine v_ialn (v := (nI (fa jp))) 50 4 zC dX5_never_49 rfl (by omega) rfl ?_
        refine v_il_n 51 zC dX5_never_50 3 rfl ?_
        refine v_cS (As := [.int (nI (fa jp)), .int (nI jf)]) (st := []) 54 [] zC dX5_never_51 hA (c_X5_hasBit (ev_l E) (ev_D E) cI (x := (fa jp)) (k := jf) (hk := (by first | omega | assumption | rfl | (simp only []; omega) | decide))) cf_X5_hasBit lk_X5_95 rfl rfl rfl (by decide +kernel) (Nat.le_of_ble_eq_true rfl) (fun rv_48 wv_49 hp_50 hm_51 => ?_)
        clear hm_51
        obtain ⟨rfl, rfl⟩ := hp_50
        show VV E 0 0 54 [(4, .int (nI 0)), (0, .ref r0), (1, .int (nI jp)), (2, .int (nI jf)), (3, .int (nI jw))] [.int (bz (Nat.testBit (fa jp) jf))] [(r0, .inr (5, [.int (nI n), .ref k1, .ref k2, .ref k3, .ref k4, .int (nI m), .ref k6, .ref k7, .ref k8, .int (nI 0), .ref k10, .int (nI 0), .ref k12, .ref k13, .ref k14, .ref k15, .ref k16, .int (nI ls), .int (nI ap), .int (bz bd), .int (nI sq), .ref k21, .ref k22, .ref k23, .ref k24, .ref k25, .int (bz pd), .int (nI pl), .int (bz tk), kv, .ref k30, .ref k31, .int (nI tz), .ref k33, .int (nI rs), .int sd])), (k1, .inl (cI, 7, .inl (nIf ki))), (k2, .inl (cI, 7, .inl (nIf op))), (k3, .inl (cI, 7, .inl (nIf (shF sh)))), (k4, .inl (cI, 7, .inl (nIf fa))), (k6, .inl (cI, 6, .inl (nIf K))), (k7, .inl (cI, 6, .inl (nIf G))), (k8, .inl (cI, 6, .inl (nIf T))), (k12, .inl (cI, 7, .inl (nIf kw))), (k13, .inl (cI, 175, .inl (nIf kn))), (k14, .inl (cI, 144, .inl (mIf M))), (k15, .inl (cI, 7, .inl (nIf mw))), (k24, .inl (cI, 48, .inl (nIf kp))), (k10, .inl (cI, 7, .inl (nIf R)))]
        refine v_ifb_eq 60 57 zC dX5_never_54 (fun h_52 => ?_) (fun h_52 => ?_)
        ·
          have hkn9 : Nat.testBit (fa jp) jf = false := h_52
          refine v_al_n 61 zC dX5_never_60 1 rfl ?_
          refine v_cV (As := []) (st := []) 64 0 [0, 3] zC dX5_never_61 hA (c_X5_shutBits (ev_l E) (ev_D E) cI (r0 := r0) (k1 := k1) (k2 := k2) (k3 := k3) (k4 := k4) (k6 := k6) (k7 := k7) (k8 := k8) (k10 := k10) (k12 := k12) (k13 := k13) (k14 := k14) (k15 := k15) (k16 := k16) (k21 := k21) (k22 := k22) (k23 := k23) (k24 := k24) (k25 := k25) (k30 := k30) (k31 := k31) (k33 := k33) (n := n) (m := m) (aw := 0) (ls := ls) (ap := ap) (sq := sq) (pl := pl) (tz := tz) (rs := rs) (bd := bd) (pd := pd) (tk := tk) (kv := kv) (sd := sd) (sh := sh) (hn := (by first | omega | assumption | rfl | (simp only []; omega) | decide)) (hsh := (by first | omega | assumption | rfl | (simp only []; omega) | decide))) cf_X5_shutBits lk_X5_251 rfl rfl rfl rfl rfl (by decide +kernel) (Nat.le_of_ble_eq_true rfl) (fun rv_53 wv_54 hp_55 hm_56 => ?_)
          clear hm_56
          obtain ⟨rfl, rfl⟩ := hp_55
          show VV E 0 0 64 [(4, .int (nI 0)), (0, .ref r0), (1, .int (nI jp)), (2, .int (nI jf)), (3, .int (nI jw))] [.int (nI sh)] [(r0, .inr (5, [.int (nI n), .ref k1, .ref k2, .ref k3, .ref k4, .int (nI m), .ref k6, .ref k7, .ref k8, .int (nI 0), .ref k10, .int (nI 0), .ref k12, .ref k13, .ref k14, .ref k15, .ref k16, .int (nI ls), .int (nI ap), .int (bz bd), .int (nI sq), .ref k21, .ref k22, .ref k23, .ref k24, .ref k25, .int (bz pd), .int (nI pl), .int (bz tk), kv, .ref k30, .ref k31, .int (nI tz), .ref k33, .int (nI rs), .int sd])), (k1, .inl (cI, 7, .inl (nIf ki))), (k2, .inl (cI, 7, .inl (nIf op))), (k3, .inl (cI, 7, .inl (nIf (shF sh)))), (k4, .inl (cI, 7, .inl (nIf fa))), (k6, .inl (cI, 6, .inl (nIf K))), (k7, .inl (cI, 6, .inl (nIf G))), (k8, .inl (cI, 6, .inl (nIf T))), (k12, .inl (cI, 7, .inl (nIf kw))), (k13, .inl (cI, 175, .inl (nIf kn))), (k14, .inl (cI, 144, .inl (mIf M))), (k15, .inl (cI, 7, .inl (nIf mw))), (k24, .inl (cI, 48, .inl (nIf kp))), (k10, .inl (cI, 7, .inl (nIf R)))]
          refine v_is (lv2 := [(5, .int (nI sh)), (4, .int (nI 0)), (0, .ref r0), (1, .int (nI jp)), (2, .int (nI jf)), (3, .int (nI jw))]) 66 zC dX5_never_64 (by rw [hnE]; decide) rfl ?_
          refine v_ic (v := (-1)) 67 zC dX5_never_66 (by decide +kernel) ?_
          refine v_is (lv2 := [(6, .int (-1)), (5, .int (nI sh)), (4, .int (nI 0)), (0, .ref r0), (1, .int (nI jp)), (2, .int (nI jf)), (3, .int (nI jw))]) 69 zC dX5_never_67 (by rw [hnE]; decide) rfl ?_
          refine v_al_n 70 zC dX5_never_69 3 rfl ?_
          refine v_cV (As := []) (st := []) 73 0 [0, 1, 2, 3, 4, 5, 6, 7, 12] zC dX5_never_70 hA (c_X5_think (ev_l E) (ev_D E) cI (r0 := r0) (k1 := k1) (k2 := k2) (k3 := k3) (k4 := k4) (k6 := k6) (k7 := k7) (k8 := k8) (k10 := k10) (k12 := k12) (k13 := k13) (k14 := k14) (k15 := k15) (k16 := k16) (k21 := k21) (k22 := k22) (k23 := k23) (k24 := k24) (k25 := k25) (k30 := k30) (k31 := k31) (k33 := k33) (n := n) (m := m) (aw := 0) (ls := ls) (ap := ap) (sq := sq) (pl := pl) (tz := tz) (rs := rs) (bd := bd) (pd := pd) (tk := tk) (kv := kv) (sd := sd) (ki := ki) (op := op) (fa := fa) (K := K) (G := G) (T := T) (sh := sh) (kp := kp) ) cf_X5_think lk_X5_254 rfl rfl rfl rfl rfl (by decide +kernel) (Nat.le_of_ble_eq_true rfl) (fun rv_57 wv_58 hp_59 hm_60 => ?_)
          clear hm_60
          obtain ⟨kp1_61, hE_62, rfl, rfl⟩ := hp_59
          show VV E 0 0 73 [(6, .int (-1)), (5, .int (nI sh)), (4, .int (nI 0)), (0, .ref r0), (1, .int (nI jp)), (2, .int (nI jf)), (3, .int (nI jw))] [] [(r0, .inr (5, [.int (nI n), .ref k1, .ref k2, .ref k3, .ref k4, .int (nI m), .ref k6, .ref k7, .ref k8, .int (nI 0), .ref k10, .int (nI 0), .ref k12, .ref k13, .ref k14, .ref k15, .ref k16, .int (nI ls), .int (nI ap), .int (bz bd), .int (nI sq), .ref k21, .ref k22, .ref k23, .ref k24, .ref k25, .int (bz pd), .int (nI 48), .int (bz true), .ref k24, .ref k30, .ref k31, .int (nI tz), .ref k33, .int (nI rs), .int sd])), (k1, .inl (cI, 7, .inl (nIf ki))), (k2, .inl (cI, 7, .inl (nIf op))), (k3, .inl (cI, 7, .inl (nIf (shF sh)))), (k4, .inl (cI, 7, .inl (nIf fa))), (k6, .inl (cI, 6, .inl (nIf K))), (k7, .inl (cI, 6, .inl (nIf G))), (k8, .inl (cI, 6, .inl (nIf T))), (k12, .inl (cI, 7, .inl (nIf kw))), (k13, .inl (cI, 175, .inl (nIf kn))), (k14, .inl (cI, 144, .inl (mIf M))), (k15, .inl (cI, 7, .inl (nIf mw))), (k24, .inl (cI, 48, .inl (nIf kp1_61))), (k10, .inl (cI, 7, .inl (nIf R)))]
          have hE9 := hE_62
          refine v_ic (v := (nI 0)) 74 zC dX5_never_73 (by decide +kernel) ?_
          refine v_is (lv2 := [(7, .int (nI 0)), (6, .int (-1)), (5, .int (nI sh)), (4, .int (nI 0)), (0, .ref r0), (1, .int (nI jp)), (2, .int (nI jf)), (3, .int (nI jw))]) 76 zC dX5_never_74 (by rw [hnE]; decide) rfl ?_
          have lp76 : ∀ (mz : Nat) (kw2 : Nat → Nat) (kn2 : Nat → Nat) (M2 : Nat → Option Nat) (mw2 : Nat → Nat) (s1 : Nat) (B : Option Nat) (z : Nat), (∀ z, kw2 z < 1024) → (∀ z, kn2 z < 1024) → (∀ z v, M2 z = some v → v < 7) → (s1 < 2 ^ n) → (B = it (silN (n, m, sh, 0, ki, op, fa, K, G, T) jp jf) none z) → (∀ v, B = some v → v < z) → (z ≤ 2 ^ n) → 2 ^ n - z = mz → VV E 0 0 76 [(7, .int (nI z)), (6, .int (mJ B)), (5, .int (nI sh)), (4, .int (nI 0)), (0, .ref r0), (1, .int (nI jp)), (2, .int (nI jf)), (3, .int (nI jw))] [] [(r0, .inr (5, [.int (nI n), .ref k1, .ref k2, .ref k3, .ref k4, .int (nI m), .ref k6, .ref k7, .ref k8, .int (nI 0), .ref k10, .int (nI 0), .ref k12, .ref k13, .ref k14, .ref k15, .ref k16, .int (nI ls), .int (nI ap), .int (bz bd), .int (nI sq), .ref k21, .ref k22, .ref k23, .ref k24, .ref k25, .int (bz pd), .int (nI 48), .int (bz true), .ref k24, .ref k30, .ref k31, .int (nI tz), .ref k33, .int (nI rs), .int sd])), (k1, .inl (cI, 7, .inl (nIf ki))), (k2, .inl (cI, 7, .inl (nIf op))), (k3, .inl (cI, 7, .inl (nIf (shF s1)))), (k4, .inl (cI, 7, .inl (nIf fa))), (k6, .inl (cI, 6, .inl (nIf K))), (k7, .inl (cI, 6, .inl (nIf G))), (k8, .inl (cI, 6, .inl (nIf T))), (k12, .inl (cI, 7, .inl (nIf kw2))), (k13, .inl (cI, 175, .inl (nIf kn2))), (k14, .inl (cI, 144, .inl (mIf M2))), (k15, .inl (cI, 7, .inl (nIf mw2))), (k24, .inl (cI, 48, .inl (nIf kp1_61))), (k10, .inl (cI, 7, .inl (nIf R)))] := by
            intro mz
            induction mz using Nat.strongRecOn with
            | _ mz ih76 =>
            intro kw2 kn2 M2 mw2 s1 B z hkw2 hkn2 hM2 hs1 hBe hBl hz hm76
            refine v_il 78 zC dX5_never_76 0 rfl ?_
            refine v_ic (v := (nI 1)) 79 zC dX5_never_78 (by decide +kernel) ?_
            refine v_al_n 80 zC dX5_never_79 4 rfl ?_
            refine v_gf 83 0 zC dX5_never_80 gf_X5_77 rfl rfl ?_
            refine v_ishl (v := (nI (2 ^ n))) 84 zC dX5_never_83 (b1n (by omega)) ?_
            refine v_icmpn_ge 154 87 zC dX5_never_84 (fun h_63 => ?_) (fun h_63 => ?_)
            ·
              refine v_al_n 155 zC dX5_never_154 4 rfl ?_
              refine v_cV (As := []) (st := []) 158 0 [0, 1, 2, 3, 4, 5, 6, 7, 12] zC dX5_never_155 hA (c_X5_again (ev_l E) (ev_D E) cI (r0 := r0) (k1 := k1) (k2 := k2) (k3 := k3) (k4 := k4) (k6 := k6) (k7 := k7) (k8 := k8) (k10 := k10) (k12 := k12) (k13 := k13) (k14 := k14) (k15 := k15) (k16 := k16) (k21 := k21) (k22 := k22) (k23 := k23) (k24 := k24) (k25 := k25) (k30 := k30) (k31 := k31) (k33 := k33) (n := n) (m := m) (aw := 0) (ls := ls) (ap := ap) (sq := sq) (pl := 48) (tz := tz) (rs := rs) (bd := bd) (pd := pd) (tk := true) (kv := (.ref k24 : Value)) (sd := sd) (ki := ki) (op := op) (fa := fa) (K := K) (G := G) (T := T) (sh := s1) (kp := kp1_61) (n1 := n) (m1 := m) (sh1 := sh) (aw1 := 0) (ki1 := ki) (op1 := op) (fa1 := fa) (K1 := K) (G1 := G) (T1 := T) (hw := ⟨hn, hm, hs1, hki, hop, hfa, hK, hG, hT, vki, vop, vfa, vK, vG, vT⟩) (hw1 := hw) (hE := hE9)) cf_X5_again lk_X5_260 rfl rfl rfl rfl rfl (by decide +kernel) (Nat.le_of_ble_eq_true rfl) (fun rv_64 wv_65 hp_66 hm_67 => ?_)
              clear hm_67
              obtain ⟨rfl, rfl⟩ := hp_66
              show VV E 0 0 158 [(7, .int (nI z)), (6, .int (mJ B)), (5, .int (nI sh)), (4, .int (nI 0)), (0, .ref r0), (1, .int (nI jp)), (2, .int (nI jf)), (3, .int (nI jw))] [] [(r0, .inr (5, [.int (nI n), .ref k1, .ref k2, .ref k3, .ref k4, .int (nI m), .ref k6, .ref k7, .ref k8, .int (nI 0), .ref k10, .int (nI 0), .ref k12, .ref k13, .ref k14, .ref k15, .ref k16, .int (nI ls), .int (nI ap), .int (bz bd), .int (nI sq), .ref k21, .ref k22, .ref k23, .ref k24, .ref k25, .int (bz pd), .int (nI 48), .int (bz false), .ref k24, .ref k30, .ref k31, .int (nI tz), .ref k33, .int (nI rs), .int sd])), (k1, .inl (cI, 7, .inl (nIf ki))), (k2, .inl (cI, 7, .inl (nIf op))), (k3, .inl (cI, 7, .inl (nIf (shF sh)))), (k4, .inl (cI, 7, .inl (nIf fa))), (k6, .inl (cI, 6, .inl (nIf K))), (k7, .inl (cI, 6, .inl (nIf G))), (k8, .inl (cI, 6, .inl (nIf T))), (k12, .inl (cI, 7, .inl (nIf kw2))), (k13, .inl (cI, 175, .inl (nIf kn2))), (k14, .inl (cI, 144, .inl (mIf M2))), (k15, .inl (cI, 7, .inl (nIf mw2))), (k24, .inl (cI, 48, .inl (nIf kp1_61))), (k10, .inl (cI, 7, .inl (nIf R)))]
              have hsome9 : B.isSome = true := by rw [hBe, show z = 2 ^ g_n (n, m, sh, 0, ki, op, fa, K, G, T) from (by show z = 2 ^ n; omega)]; exact sil_some (s := (n, m, sh, 0, ki, op, fa, K, G, T)) hsh hkn9 (by show jp < n; omega)
              obtain ⟨b, he_b⟩ := Option.isSome_iff_exists.mp hsome9
              subst he_b
              have hb8 := hBl _ rfl
              refine v_il_n 159 zC dX5_never_158 7 rfl ?_
              refine v_ifn_ne 167 162 zC dX5_never_159 (fun h_68 => ?_) (fun h_68 => ?_)
              ·
                refine v_il 169 zC dX5_never_167 1 rfl ?_
                refine v_cS (As := [.int (nI b)]) (st := []) 172 [] zC dX5_never_169 hA (c_X5_onesOf (ev_l E) (ev_D E) cI (x := b) (hx := (by omega))) cf_X5_onesOf lk_X5_120 rfl rfl rfl (by decide +kernel) (Nat.le_of_ble_eq_true rfl) (fun rv_69 wv_70 hp_71 hm_72 => ?_)
                clear hm_72
                obtain ⟨rfl, rfl⟩ := hp_71
                show VV E 0 0 172 [(7, .int (nI z)), (6, .int (nI b)), (5, .int (nI sh)), (4, .int (nI 0)), (0, .ref r0), (1, .int (nI jp)), (2, .int (nI jf)), (3, .int (nI jw))] [.int (nI (pcn b))] [(r0, .inr (5, [.int (nI n), .ref k1, .ref k2, .ref k3, .ref k4, .int (nI m), .ref k6, .ref k7, .ref k8, .int (nI 0), .ref k10, .int (nI 0), .ref k12, .ref k13, .ref k14, .ref k15, .ref k16, .int (nI ls), .int (nI ap), .int (bz bd), .int (nI sq), .ref k21, .ref k22, .ref k23, .ref k24, .ref k25, .int (bz pd), .int (nI 48), .int (bz false), .ref k24, .ref k30, .ref k31, .int (nI tz), .ref k33, .int (nI rs), .int sd])), (k1, .inl (cI, 7, .inl (nIf ki))), (k2, .inl (cI, 7, .inl (nIf op))), (k3, .inl (cI, 7, .inl (nIf (shF sh)))), (k4, .inl (cI, 7, .inl (nIf fa))), (k6, .inl (cI, 6, .inl (nIf K))), (k7, .inl (cI, 6, .inl (nIf G))), (k8, .inl (cI, 6, .inl (nIf T))), (k12, .inl (cI, 7, .inl (nIf kw2))), (k13, .inl (cI, 175, .inl (nIf kn2))), (k14, .inl (cI, 144, .inl (mIf M2))), (k15, .inl (cI, 7, .inl (nIf mw2))), (k24, .inl (cI, 48, .inl (nIf kp1_61))), (k10, .inl (cI, 7, .inl (nIf R)))]
                refine v_iret zC zT dX5_never_172  ?_
                first | (have g9 := hky9; exact ⟨kw, kn, M, mw, kp, pl, tk, kv, 0, _, by unfold q_never SIL; rw [hi_p]; dsimp only; rw [hi_f]; dsimp only; rw [hi_w]; dsimp only; rw [if_pos (show Nat.testBit (g_fa (n, m, sh, 0, ki, op, fa, K, G, T) jp) jf = true from hky9)]; first | (split <;> rfl), hkw, hkn, hM, rfl, rfl⟩) | (have g9 := hn_p; exact ⟨kw, kn, M, mw, kp, pl, tk, kv, 1, _, by unfold q_never; rw [hn_p], hkw, hkn, hM, rfl, rfl⟩) | (have g9 := hn_f; exact ⟨kw, kn, M, mw, kp, pl, tk, kv, 1, _, by unfold q_never; rw [hi_p]; dsimp only; rw [hn_f], hkw, hkn, hM, rfl, rfl⟩) | (have g9 := hn_w; exact ⟨kw, kn, M, mw, kp, pl, tk, kv, 2, _, by unfold q_never; rw [hi_p]; dsimp only; rw [hi_f]; dsimp only; rw [hn_w], hkw, hkn, hM, rfl, rfl⟩) | exact ⟨_, _, _, _, _, _, _, _, 0, _, by unfold q_never SIL; rw [hi_p]; dsimp only; rw [hi_f]; dsimp only; rw [hi_w]; dsimp only; rw [if_neg (show ¬ Nat.testBit (g_fa (n, m, sh, 0, ki, op, fa, K, G, T) jp) jf = true by rw [show Nat.testBit (g_fa (n, m, sh, 0, ki, op, fa, K, G, T) jp) jf = false from hkn9]; decide), show 2 ^ g_n (n, m, sh, 0, ki, op, fa, K, G, T) = z from (by show 2 ^ n = z; omega), ← hBe]; first | (rw [if_pos (by assumption)]; rfl) | (rw [if_neg (by assumption)]; rfl), hkw2, hkn2, hM2, rfl, rfl⟩
              ·
                refine v_il 164 zC dX5_never_162 1 rfl ?_
                refine v_goto 172 zC dX5_never_164 ?_
                refine v_iret zC zT dX5_never_172  ?_
                first | (have g9 := hky9; exact ⟨kw, kn, M, mw, kp, pl, tk, kv, 0, _, by unfold q_never SIL; rw [hi_p]; dsimp only; rw [hi_f]; dsimp only; rw [hi_w]; dsimp only; rw [if_pos (show Nat.testBit (g_fa (n, m, sh, 0, ki, op, fa, K, G, T) jp) jf = true from hky9)]; first | (split <;> rfl), hkw, hkn, hM, rfl, rfl⟩) | (have g9 := hn_p; exact ⟨kw, kn, M, mw, kp, pl, tk, kv, 1, _, by unfold q_never; rw [hn_p], hkw, hkn, hM, rfl, rfl⟩) | (have g9 := hn_f; exact ⟨kw, kn, M, mw, kp, pl, tk, kv, 1, _, by unfold q_never; rw [hi_p]; dsimp only; rw [hn_f], hkw, hkn, hM, rfl, rfl⟩) | (have g9 := hn_w; exact ⟨kw, kn, M, mw, kp, pl, tk, kv, 2, _, by unfold q_never; rw [hi_p]; dsimp only; rw [hi_f]; dsimp only; rw [hn_w], hkw, hkn, hM, rfl, rfl⟩) | exact ⟨_, _, _, _, _, _, _, _, 0, _, by unfold q_never SIL; rw [hi_p]; dsimp only; rw [hi_f]; dsimp only; rw [hi_w]; dsimp only; rw [if_neg (show ¬ Nat.testBit (g_fa (n, m, sh, 0, ki, op, fa, K, G, T) jp) jf = true by rw [show Nat.testBit (g_fa (n, m, sh, 0, ki, op, fa, K, G, T) jp) jf = false from hkn9]; decide), show 2 ^ g_n (n, m, sh, 0, ki, op, fa, K, G, T) = z from (by show 2 ^ n = z; omega), ← hBe]; first | (rw [if_pos (by assumption)]; rfl) | (rw [if_neg (by assumption)]; rfl), hkw2, hkn2, hM2, rfl, rfl⟩
            ·
              refine v_il 89 zC dX5_never_87 0 rfl ?_
              refine v_il 91 zC dX5_never_89 2 rfl ?_
              refine v_iand (v := (nI (z &&& sh))) 92 zC dX5_never_91 (fa_and _ _) ?_
              have hzl9 : z &&& sh < 2 ^ n := and_ltl (by omega)
              refine v_ifn_ne 148 95 zC dX5_never_92 (fun h_73 => ?_) (fun h_73 => ?_)
              ·
                have h19 := h_73
                refine v_inc (v := (nI (z + 1))) (lv2 := [(7, .int (nI (z + 1))), (6, .int (mJ B)), (5, .int (nI sh)), (4, .int (nI 0)), (0, .ref r0), (1, .int (nI jp)), (2, .int (nI jf)), (3, .int (nI jw))]) 151 zC dX5_never_148 (j := 0) rfl (nI_add _ 1) (by rw [hnE]; decide) rfl ?_
                refine v_goto 76 zC dX5_never_151 ?_
                refine v_lvs (lv2 := [(7, .int (nI (z + 1))), (6, .int (mJ B)), (5, .int (nI sh)), (4, .int (nI 0)), (0, .ref r0), (1, .int (nI jp)), (2, .int (nI jf)), (3, .int (nI jw))]) [0, 1, 2, 3, 4, 5, 6, 7] rfl ?_
                exact ih76 _ (by omega) kw2 kn2 M2 mw2 s1 B (z + 1) (by first | exact hR9.2.2.2.1 | exact hkw2) (by first | exact hR9.2.2.2.2.1 | exact hkn2) (by first | exact hR9.2.2.2.2.2 | exact hM2) (by first | exact hs1 | exact Nat.or_lt_two_pow hsh (by omega)) (it_s hBe (by first | exact sil_1 h19 | exact sil_3 h29 rfl h49 | exact sil_4 h29 rfl h39 | exact sil_3 h29 (decide_eq_true hq9) h49 | exact sil_4 h29 (decide_eq_true hq9) h39 | exact sil_2 (decide_eq_false (Nat.not_lt.mpr hq9)))) (fun v e => by first | (cases e; done) | (cases e; omega) | (have := hBl v e; omega)) (by first | omega | assumption | rfl | (simp only []; omega) | decide) rfl
              ·
                have h29 := h_73
                refine v_il 97 zC dX5_never_95 1 rfl ?_
                refine v_ifj_lt 113 100 zC dX5_never_97 (fun v e => by have := hBl v e; omega) (fun h_74 => ?_) (fun h_74 => ?_)
                ·
                  have hz9 : B = none := by cases B with | none => rfl | some _ => cases h_74
                  subst hz9
                  refine v_al_n 114 zC dX5_never_113 4 rfl ?_
                  refine v_il 116 zC dX5_never_114 0 rfl ?_
                  refine v_il 118 zC dX5_never_116 2 rfl ?_
                  refine v_ior (v := (nI (sh ||| z))) 119 zC dX5_never_118 (by rw [fa_or, Nat.or_comm]) ?_
                  refine v_cV (As := [.int (nI (sh ||| z))]) (st := []) 122 0 [0, 3] zC dX5_never_119 hA (c_X5_shutAll (ev_l E) (ev_D E) cI (r0 := r0) (k1 := k1) (k2 := k2) (k3 := k3) (k4 := k4) (k6 := k6) (k7 := k7) (k8 := k8) (k10 := k10) (k12 := k12) (k13 := k13) (k14 := k14) (k15 := k15) (k16 := k16) (k21 := k21) (k22 := k22) (k23 := k23) (k24 := k24) (k25 := k25) (k30 := k30) (k31 := k31) (k33 := k33) (n := n) (m := m) (aw := 0) (ls := ls) (ap := ap) (sq := sq) (pl := 48) (tz := tz) (rs := rs) (bd := bd) (pd := pd) (tk := true) (kv := (.ref k24 : Value)) (sd := sd) (sh := s1) (s := (sh ||| z)) (hn := (by first | omega | assumption | rfl | (simp only []; omega) | decide)) (hs := (Nat.or_lt_two_pow hsh (by omega))) (hsh := hs1)) cf_X5_shutAll lk_X5_257 rfl rfl rfl rfl rfl (by decide +kernel) (Nat.le_of_ble_eq_true rfl) (fun rv_75 wv_76 hp_77 hm_78 => ?_)
                  clear hm_78
                  obtain ⟨rfl, rfl⟩ := hp_77
                  show VV E 0 0 122 [(7, .int (nI z)), (6, .int (-1)), (5, .int (nI sh)), (4, .int (nI 0)), (0, .ref r0), (1, .int (nI jp)), (2, .int (nI jf)), (3, .int (nI jw))] [] [(r0, .inr (5, [.int (nI n), .ref k1, .ref k2, .ref k3, .ref k4, .int (nI m), .ref k6, .ref k7, .ref k8, .int (nI 0), .ref k10, .int (nI 0), .ref k12, .ref k13, .ref k14, .ref k15, .ref k16, .int (nI ls), .int (nI ap), .int (bz bd), .int (nI sq), .ref k21, .ref k22, .ref k23, .ref k24, .ref k25, .int (bz pd), .int (nI 48), .int (bz true), .ref k24, .ref k30, .ref k31, .int (nI tz), .ref k33, .int (nI rs), .int sd])), (k1, .inl (cI, 7, .inl (nIf ki))), (k2, .inl (cI, 7, .inl (nIf op))), (k3, .inl (cI, 7, .inl (nIf (shF (sh ||| z))))), (k4, .inl (cI, 7, .inl (nIf fa))), (k6, .inl (cI, 6, .inl (nIf K))), (k7, .inl (cI, 6, .inl (nIf G))), (k8, .inl (cI, 6, .inl (nIf T))), (k12, .inl (cI, 7, .inl (nIf kw2))), (k13, .inl (cI, 175, .inl (nIf kn2))), (k14, .inl (cI, 144, .inl (mIf M2))), (k15, .inl (cI, 7, .inl (nIf mw2))), (k24, .inl (cI, 48, .inl (nIf kp1_61))), (k10, .inl (cI, 7, .inl (nIf R)))]
                  refine v_al_n 123 zC dX5_never_122 4 rfl ?_
                  refine v_cV (As := []) (st := []) 126 0 [0, 1, 2, 3, 4, 5, 6, 7, 8, 9, 10, 11] zC dX5_never_123 hA (c_X5_day (ev_l E) (ev_D E) cI (r0 := r0) (k1 := k1) (k2 := k2) (k3 := k3) (k4 := k4) (k6 := k6) (k7 := k7) (k8 := k8) (k10 := k10) (k12 := k12) (k13 := k13) (k14 := k14) (k15 := k15) (k16 := k16) (k21 := k21) (k22 := k22) (k23 := k23) (k24 := k24) (k25 := k25) (k30 := k30) (k31 := k31) (k33 := k33) (n := n) (m := m) (aw := 0) (ls := ls) (ap := ap) (sq := sq) (pl := 48) (tz := tz) (rs := rs) (bd := bd) (pd := pd) (tk := true) (kv := (.ref k24 : Value)) (sd := sd) (ki := ki) (op := op) (fa := fa) (K := K) (G := G) (T := T) (sh := (sh ||| z)) (kw := kw2) (kn := kn2) (M := M2) (mw := mw2) (hw := ⟨hn, hm, (Nat.or_lt_two_pow hsh (by omega)), hki, hop, hfa, hK, hG, hT, vki, vop, vfa, vK, vG, vT⟩) (hkw := hkw2) (hkn := hkn2) (hM := hM2)) cf_X5_day lk_X5_123 rfl rfl rfl rfl rfl (by decide +kernel) (Nat.le_of_ble_eq_true rfl) (fun rv_79 wv_80 hp_81 hm_82 => ?_)
                  clear hm_82
                  obtain ⟨kw1_83, kn1_84, M1_85, mw1_86, hR_87, rfl, rfl⟩ := hp_81
                  show VV E 0 0 126 [(7, .int (nI z)), (6, .int (-1)), (5, .int (nI sh)), (4, .int (nI 0)), (0, .ref r0), (1, .int (nI jp)), (2, .int (nI jf)), (3, .int (nI jw))] [] [(r0, .inr (5, [.int (nI n), .ref k1, .ref k2, .ref k3, .ref k4, .int (nI m), .ref k6, .ref k7, .ref k8, .int (nI 0), .ref k10, .int (nI 0), .ref k12, .ref k13, .ref k14, .ref k15, .ref k16, .int (nI ls), .int (nI ap), .int (bz bd), .int (nI sq), .ref k21, .ref k22, .ref k23, .ref k24, .ref k25, .int (bz pd), .int (nI 48), .int (bz true), .ref k24, .ref k30, .ref k31, .int (nI tz), .ref k33, .int (nI rs), .int sd])), (k1, .inl (cI, 7, .inl (nIf ki))), (k2, .inl (cI, 7, .inl (nIf op))), (k3, .inl (cI, 7, .inl (nIf (shF (sh ||| z))))), (k4, .inl (cI, 7, .inl (nIf fa))), (k6, .inl (cI, 6, .inl (nIf K))), (k7, .inl (cI, 6, .inl (nIf G))), (k8, .inl (cI, 6, .inl (nIf T))), (k12, .inl (cI, 7, .inl (nIf kw1_83))), (k13, .inl (cI, 175, .inl (nIf kn1_84))), (k14, .inl (cI, 144, .inl (mIf M1_85))), (k15, .inl (cI, 7, .inl (nIf mw1_86))), (k24, .inl (cI, 48, .inl (nIf kp1_61))), (k10, .inl (cI, 7, .inl (nIf R)))]
                  have hR9 := hR_87
                  refine v_al_n 127 zC dX5_never_126 4 rfl ?_
                  refine v_gf 130 0 zC dX5_never_127 gf_X5_34 rfl rfl ?_
                  refine v_il_n 131 zC dX5_never_130 5 rfl ?_
                  refine v_ialn (v := (nI (DR (n, m, (sh ||| z), 0, ki, op, fa, K, G, T) 24 jp))) 132 8 zC dX5_never_131 rfl (by omega) (congrArg nI (rk_w hR9 (by omega))) ?_
                  refine v_il_n 133 zC dX5_never_132 6 rfl ?_
                  refine v_cS (As := [.int (nI (DR (n, m, (sh ||| z), 0, ki, op, fa, K, G, T) 24 jp)), .int (nI jf)]) (st := []) 136 [] zC dX5_never_133 hA (c_X5_hasBit (ev_l E) (ev_D E) cI (x := (DR (n, m, (sh ||| z), 0, ki, op, fa, K, G, T) 24 jp)) (k := jf) (hk := (by first | omega | assumption | rfl | (simp only []; omega) | decide))) cf_X5_hasBit lk_X5_95 rfl rfl rfl (by decide +kernel) (Nat.le_of_ble_eq_true rfl) (fun rv_88 wv_89 hp_90 hm_91 => ?_)
                  clear hm_91
                  obtain ⟨rfl, rfl⟩ := hp_90
                  show VV E 0 0 136 [(7, .int (nI z)), (6, .int (-1)), (5, .int (nI sh)), (4, .int (nI 0)), (0, .ref r0), (1, .int (nI jp)), (2, .int (nI jf)), (3, .int (nI jw))] [.int (bz (Nat.testBit (DR (n, m, (sh ||| z), 0, ki, op, fa, K, G, T) 24 jp) jf))] [(r0, .inr (5, [.int (nI n), .ref k1, .ref k2, .ref k3, .ref k4, .int (nI m), .ref k6, .ref k7, .ref k8, .int (nI 0), .ref k10, .int (nI 0), .ref k12, .ref k13, .ref k14, .ref k15, .ref k16, .int (nI ls), .int (nI ap), .int (bz bd), .int (nI sq), .ref k21, .ref k22, .ref k23, .ref k24, .ref k25, .int (bz pd), .int (nI 48), .int (bz true), .ref k24, .ref k30, .ref k31, .int (nI tz), .ref k33, .int (nI rs), .int sd])), (k1, .inl (cI, 7, .inl (nIf ki))), (k2, .inl (cI, 7, .inl (nIf op))), (k3, .inl (cI, 7, .inl (nIf (shF (sh ||| z))))), (k4, .inl (cI, 7, .inl (nIf fa))), (k6, .inl (cI, 6, .inl (nIf K))), (k7, .inl (cI, 6, .inl (nIf G))), (k8, .inl (cI, 6, .inl (nIf T))), (k12, .inl (cI, 7, .inl (nIf kw1_83))), (k13, .inl (cI, 175, .inl (nIf kn1_84))), (k14, .inl (cI, 144, .inl (mIf M1_85))), (k15, .inl (cI, 7, .inl (nIf mw1_86))), (k24, .inl (cI, 48, .inl (nIf kp1_61))), (k10, .inl (cI, 7, .inl (nIf R)))]
                  refine v_ifb_eq 144 139 zC dX5_never_136 (fun h_92 => ?_) (fun h_92 => ?_)
                  ·
                    have h39 : Nat.testBit (KNW (wsh (n, m, sh, 0, ki, op, fa, K, G, T) (sh ||| z)) jf) jp = false := (knw_bit (s := wsh (n, m, sh, 0, ki, op, fa, K, G, T) (sh ||| z)) (show jp < n by omega)).trans h_92
                    refine v_il 146 zC dX5_never_144 0 rfl ?_
                    refine v_is (lv2 := [(6, .int (nI z)), (7, .int (nI z)), (5, .int (nI sh)), (4, .int (nI 0)), (0, .ref r0), (1, .int (nI jp)), (2, .int (nI jf)), (3, .int (nI jw))]) 148 zC dX5_never_146 (by rw [hnE]; decide) rfl ?_
                    refine v_inc (v := (nI (z + 1))) (lv2 := [(7, .int (nI (z + 1))), (6, .int (nI z)), (5, .int (nI sh)), (4, .int (nI 0)), (0, .ref r0), (1, .int (nI jp)), (2, .int (nI jf)), (3, .int (nI jw))]) 151 zC dX5_never_148 (j := 1) rfl (nI_add _ 1) (by rw [hnE]; decide) rfl ?_
                    refine v_goto 76 zC dX5_never_151 ?_
                    refine v_lvs (lv2 := [(7, .int (nI (z + 1))), (6, .int (mJ (some z))), (5, .int (nI sh)), (4, .int (nI 0)), (0, .ref r0), (1, .int (nI jp)), (2, .int (nI jf)), (3, .int (nI jw))]) [0, 1, 2, 3, 4, 5, 6, 7] rfl ?_
                    exact ih76 _ (by omega) kw1_83 kn1_84 M1_85 mw1_86 (sh ||| z) (some z) (z + 1) (by first | exact hR9.2.2.2.1 | exact hkw2) (by first | exact hR9.2.2.2.2.1 | exact hkn2) (by first | exact hR9.2.2.2.2.2 | exact hM2) (by first | exact hs1 | exact Nat.or_lt_two_pow hsh (by omega)) (it_s hBe (by first | exact sil_1 h19 | exact sil_3 h29 rfl h49 | exact sil_4 h29 rfl h39 | exact sil_3 h29 (decide_eq_true hq9) h49 | exact sil_4 h29 (decide_eq_true hq9) h39 | exact sil_2 (decide_eq_false (Nat.not_lt.mpr hq9)))) (fun v e => by first | (cases e; done) | (cases e; omega) | (have := hBl v e; omega)) (by first | omega | assumption | rfl | (simp only []; omega) | decide) rfl
                  ·
                    have h49 : Nat.testBit (KNW (wsh (n, m, sh, 0, ki, op, fa, K, G, T) (sh ||| z)) jf) jp = true := (knw_bit (s := wsh (n, m, sh, 0, ki, op, fa, K, G, T) (sh ||| z)) (show jp < n by omega)).trans h_92
                    refine v_il 141 zC dX5_never_139 1 rfl ?_
                    refine v_goto 146 zC dX5_never_141 ?_
                    refine v_is (lv2 := [(6, .int (-1)), (7, .int (nI z)), (5, .int (nI sh)), (4, .int (nI 0)), (0, .ref r0), (1, .int (nI jp)), (2, .int (nI jf)), (3, .int (nI jw))]) 148 zC dX5_never_146 (by rw [hnE]; decide) rfl ?_
                    refine v_inc (v := (nI (z + 1))) (lv2 := [(7, .int (nI (z + 1))), (6, .int (-1)), (5, .int (nI sh)), (4, .int (nI 0)), (0, .ref r0), (1, .int (nI jp)), (2, .int (nI jf)), (3, .int (nI jw))]) 151 zC dX5_never_148 (j := 1) rfl (nI_add _ 1) (by rw [hnE]; decide) rfl ?_
                    refine v_goto 76 zC dX5_never_151 ?_
                    refine v_lvs (lv2 := [(7, .int (nI (z + 1))), (6, .int (mJ none)), (5, .int (nI sh)), (4, .int (nI 0)), (0, .ref r0), (1, .int (nI jp)), (2, .int (nI jf)), (3, .int (nI jw))]) [0, 1, 2, 3, 4, 5, 6, 7] rfl ?_
                    exact ih76 _ (by omega) kw1_83 kn1_84 M1_85 mw1_86 (sh ||| z) none (z + 1) (by first | exact hR9.2.2.2.1 | exact hkw2) (by first | exact hR9.2.2.2.2.1 | exact hkn2) (by first | exact hR9.2.2.2.2.2 | exact hM2) (by first | exact hs1 | exact Nat.or_lt_two_pow hsh (by omega)) (it_s hBe (by first | exact sil_1 h19 | exact sil_3 h29 rfl h49 | exact sil_4 h29 rfl h39 | exact sil_3 h29 (decide_eq_true hq9) h49 | exact sil_4 h29 (decide_eq_true hq9) h39 | exact sil_2 (decide_eq_false (Nat.not_lt.mpr hq9)))) (fun v e => by first | (cases e; done) | (cases e; omega) | (have := hBl v e; omega)) (by first | omega | assumption | rfl | (simp only []; omega) | decide) rfl
                ·
                  obtain ⟨b, he_b⟩ := Option.isSome_iff_exists.mp h_74
                  subst he_b
                  have hb9 := hBl _ rfl
                  refine v_il 102 zC dX5_never_100 0 rfl ?_
                  refine v_cS (As := [.int (nI z)]) (st := []) 105 [] zC dX5_never_102 hA (c_X5_onesOf (ev_l E) (ev_D E) cI (x := z) (hx := (by omega))) cf_X5_onesOf lk_X5_120 rfl rfl rfl (by decide +kernel) (Nat.le_of_ble_eq_true rfl) (fun rv_93 wv_94 hp_95 hm_96 => ?_)
                  clear hm_96
                  obtain ⟨rfl, rfl⟩ := hp_95
                  show VV E 0 0 105 [(7, .int (nI z)), (6, .int (nI b)), (5, .int (nI sh)), (4, .int (nI 0)), (0, .ref r0), (1, .int (nI jp)), (2, .int (nI jf)), (3, .int (nI jw))] [.int (nI (pcn z))] [(r0, .inr (5, [.int (nI n), .ref k1, .ref k2, .ref k3, .ref k4, .int (nI m), .ref k6, .ref k7, .ref k8, .int (nI 0), .ref k10, .int (nI 0), .ref k12, .ref k13, .ref k14, .ref k15, .ref k16, .int (nI ls), .int (nI ap), .int (bz bd), .int (nI sq), .ref k21, .ref k22, .ref k23, .ref k24, .ref k25, .int (bz pd), .int (nI 48), .int (bz true), .ref k24, .ref k30, .ref k31, .int (nI tz), .ref k33, .int (nI rs), .int sd])), (k1, .inl (cI, 7, .inl (nIf ki))), (k2, .inl (cI, 7, .inl (nIf op))), (k3, .inl (cI, 7, .inl (nIf (shF s1)))), (k4, .inl (cI, 7, .inl (nIf fa))), (k6, .inl (cI, 6, .inl (nIf K))), (k7, .inl (cI, 6, .inl (nIf G))), (k8, .inl (cI, 6, .inl (nIf T))), (k12, .inl (cI, 7, .inl (nIf kw2))), (k13, .inl (cI, 175, .inl (nIf kn2))), (k14, .inl (cI, 144, .inl (mIf M2))), (k15, .inl (cI, 7, .inl (nIf mw2))), (k24, .inl (cI, 48, .inl (nIf kp1_61))), (k10, .inl (cI, 7, .inl (nIf R)))]
                  refine v_il 107 zC dX5_never_105 1 rfl ?_
                  refine v_cS (As := [.int (nI b)]) (st := [.int (nI (pcn z))]) 110 [] zC dX5_never_107 hA (c_X5_onesOf (ev_l E) (ev_D E) cI (x := b) (hx := (by omega))) cf_X5_onesOf lk_X5_120 rfl rfl rfl (by decide +kernel) (Nat.le_of_ble_eq_true rfl) (fun rv_97 wv_98 hp_99 hm_100 => ?_)
                  clear hm_100
                  obtain ⟨rfl, rfl⟩ := hp_99
                  show VV E 0 0 110 [(7, .int (nI z)), (6, .int (nI b)), (5, .int (nI sh)), (4, .int (nI 0)), (0, .ref r0), (1, .int (nI jp)), (2, .int (nI jf)), (3, .int (nI jw))] [.int (nI (pcn b)), .int (nI (pcn z))] [(r0, .inr (5, [.int (nI n), .ref k1, .ref k2, .ref k3, .ref k4, .int (nI m), .ref k6, .ref k7, .ref k8, .int (nI 0), .ref k10, .int (nI 0), .ref k12, .ref k13, .ref k14, .ref k15, .ref k16, .int (nI ls), .int (nI ap), .int (bz bd), .int (nI sq), .ref k21, .ref k22, .ref k23, .ref k24, .ref k25, .int (bz pd), .int (nI 48), .int (bz true), .ref k24, .ref k30, .ref k31, .int (nI tz), .ref k33, .int (nI rs), .int sd])), (k1, .inl (cI, 7, .inl (nIf ki))), (k2, .inl (cI, 7, .inl (nIf op))), (k3, .inl (cI, 7, .inl (nIf (shF s1)))), (k4, .inl (cI, 7, .inl (nIf fa))), (k6, .inl (cI, 6, .inl (nIf K))), (k7, .inl (cI, 6, .inl (nIf G))), (k8, .inl (cI, 6, .inl (nIf T))), (k12, .inl (cI, 7, .inl (nIf kw2))), (k13, .inl (cI, 175, .inl (nIf kn2))), (k14, .inl (cI, 144, .inl (mIf M2))), (k15, .inl (cI, 7, .inl (nIf mw2))), (k24, .inl (cI, 48, .inl (nIf kp1_61))), (k10, .inl (cI, 7, .inl (nIf R)))]
                  have hp8 := pcn_k n z (by omega)
                  have hp7 := pcn_k n b (by omega)
                  refine v_icmpn_ge 148 113 zC dX5_never_110 (fun h_101 => ?_) (fun h_101 => ?_)
                  ·
                    have hq9 := h_101
                    refine v_inc (v := (nI (z + 1))) (lv2 := [(7, .int (nI (z + 1))), (6, .int (nI b)), (5, .int (nI sh)), (4, .int (nI 0)), (0, .ref r0), (1, .int (nI jp)), (2, .int (nI jf)), (3, .int (nI jw))]) 151 zC dX5_never_148 (j := 0) rfl (nI_add _ 1) (by rw [hnE]; decide) rfl ?_
                    refine v_goto 76 zC dX5_never_151 ?_
                    refine v_lvs (lv2 := [(7, .int (nI (z + 1))), (6, .int (mJ (some b))), (5, .int (nI sh)), (4, .int (nI 0)), (0, .ref r0), (1, .int (nI jp)), (2, .int (nI jf)), (3, .int (nI jw))]) [0, 1, 2, 3, 4, 5, 6, 7] rfl ?_
                    exact ih76 _ (by omega) kw2 kn2 M2 mw2 s1 (some b) (z + 1) (by first | exact hR9.2.2.2.1 | exact hkw2) (by first | exact hR9.2.2.2.2.1 | exact hkn2) (by first | exact hR9.2.2.2.2.2 | exact hM2) (by first | exact hs1 | exact Nat.or_lt_two_pow hsh (by omega)) (it_s hBe (by first | exact sil_1 h19 | exact sil_3 h29 rfl h49 | exact sil_4 h29 rfl h39 | exact sil_3 h29 (decide_eq_true hq9) h49 | exact sil_4 h29 (decide_eq_true hq9) h39 | exact sil_2 (decide_eq_false (Nat.not_lt.mpr hq9)))) (fun v e => by first | (cases e; done) | (cases e; omega) | (have := hBl v e; omega)) (by first | omega | assumption | rfl | (simp only []; omega) | decide) rfl
                  ·
                    have hq9 := h_101
                    refine v_al_n 114 zC dX5_never_113 4 rfl ?_
                    refine v_il 116 zC dX5_never_114 0 rfl ?_
                    refine v_il 118 zC dX5_never_116 2 rfl ?_
                    refine v_ior (v := (nI (sh ||| z))) 119 zC dX5_never_118 (by rw [fa_or, Nat.or_comm]) ?_
                    refine v_cV (As := [.int (nI (sh ||| z))]) (st := []) 122 0 [0, 3] zC dX5_never_119 hA (c_X5_shutAll (ev_l E) (ev_D E) cI (r0 := r0) (k1 := k1) (k2 := k2) (k3 := k3) (k4 := k4) (k6 := k6) (k7 := k7) (k8 := k8) (k10 := k10) (k12 := k12) (k13 := k13) (k14 := k14) (k15 := k15) (k16 := k16) (k21 := k21) (k22 := k22) (k23 := k23) (k24 := k24) (k25 := k25) (k30 := k30) (k31 := k31) (k33 := k33) (n := n) (m := m) (aw := 0) (ls := ls) (ap := ap) (sq := sq) (pl := 48) (tz := tz) (rs := rs) (bd := bd) (pd := pd) (tk := true) (kv := (.ref k24 : Value)) (sd := sd) (sh := s1) (s := (sh ||| z)) (hn := (by first | omega | assumption | rfl | (simp only []; omega) | decide)) (hs := (Nat.or_lt_two_pow hsh (by omega))) (hsh := hs1)) cf_X5_shutAll lk_X5_257 rfl rfl rfl rfl rfl (by decide +kernel) (Nat.le_of_ble_eq_true rfl) (fun rv_102 wv_103 hp_104 hm_105 => ?_)
                    clear hm_105
                    obtain ⟨rfl, rfl⟩ := hp_104
                    show VV E 0 0 122 [(7, .int (nI z)), (6, .int (nI b)), (5, .int (nI sh)), (4, .int (nI 0)), (0, .ref r0), (1, .int (nI jp)), (2, .int (nI jf)), (3, .int (nI jw))] [] [(r0, .inr (5, [.int (nI n), .ref k1, .ref k2, .ref k3, .ref k4, .int (nI m), .ref k6, .ref k7, .ref k8, .int (nI 0), .ref k10, .int (nI 0), .ref k12, .ref k13, .ref k14, .ref k15, .ref k16, .int (nI ls), .int (nI ap), .int (bz bd), .int (nI sq), .ref k21, .ref k22, .ref k23, .ref k24, .ref k25, .int (bz pd), .int (nI 48), .int (bz true), .ref k24, .ref k30, .ref k31, .int (nI tz), .ref k33, .int (nI rs), .int sd])), (k1, .inl (cI, 7, .inl (nIf ki))), (k2, .inl (cI, 7, .inl (nIf op))), (k3, .inl (cI, 7, .inl (nIf (shF (sh ||| z))))), (k4, .inl (cI, 7, .inl (nIf fa))), (k6, .inl (cI, 6, .inl (nIf K))), (k7, .inl (cI, 6, .inl (nIf G))), (k8, .inl (cI, 6, .inl (nIf T))), (k12, .inl (cI, 7, .inl (nIf kw2))), (k13, .inl (cI, 175, .inl (nIf kn2))), (k14, .inl (cI, 144, .inl (mIf M2))), (k15, .inl (cI, 7, .inl (nIf mw2))), (k24, .inl (cI, 48, .inl (nIf kp1_61))), (k10, .inl (cI, 7, .inl (nIf R)))]
                    refine v_al_n 123 zC dX5_never_122 4 rfl ?_
                    refine v_cV (As := []) (st := []) 126 0 [0, 1, 2, 3, 4, 5, 6, 7, 8, 9, 10, 11] zC dX5_never_123 hA (c_X5_day (ev_l E) (ev_D E) cI (r0 := r0) (k1 := k1) (k2 := k2) (k3 := k3) (k4 := k4) (k6 := k6) (k7 := k7) (k8 := k8) (k10 := k10) (k12 := k12) (k13 := k13) (k14 := k14) (k15 := k15) (k16 := k16) (k21 := k21) (k22 := k22) (k23 := k23) (k24 := k24) (k25 := k25) (k30 := k30) (k31 := k31) (k33 := k33) (n := n) (m := m) (aw := 0) (ls := ls) (ap := ap) (sq := sq) (pl := 48) (tz := tz) (rs := rs) (bd := bd) (pd := pd) (tk := true) (kv := (.ref k24 : Value)) (sd := sd) (ki := ki) (op := op) (fa := fa) (K := K) (G := G) (T := T) (sh := (sh ||| z)) (kw := kw2) (kn := kn2) (M := M2) (mw := mw2) (hw := ⟨hn, hm, (Nat.or_lt_two_pow hsh (by omega)), hki, hop, hfa, hK, hG, hT, vki, vop, vfa, vK, vG, vT⟩) (hkw := hkw2) (hkn := hkn2) (hM := hM2)) cf_X5_day lk_X5_123 rfl rfl rfl rfl rfl (by decide +kernel) (Nat.le_of_ble_eq_true rfl) (fun rv_106 wv_107 hp_108 hm_109 => ?_)
                    clear hm_109
                    obtain ⟨kw1_110, kn1_111, M1_112, mw1_113, hR_114, rfl, rfl⟩ := hp_108
                    show VV E 0 0 126 [(7, .int (nI z)), (6, .int (nI b)), (5, .int (nI sh)), (4, .int (nI 0)), (0, .ref r0), (1, .int (nI jp)), (2, .int (nI jf)), (3, .int (nI jw))] [] [(r0, .inr (5, [.int (nI n), .ref k1, .ref k2, .ref k3, .ref k4, .int (nI m), .ref k6, .ref k7, .ref k8, .int (nI 0), .ref k10, .int (nI 0), .ref k12, .ref k13, .ref k14, .ref k15, .ref k16, .int (nI ls), .int (nI ap), .int (bz bd), .int (nI sq), .ref k21, .ref k22, .ref k23, .ref k24, .ref k25, .int (bz pd), .int (nI 48), .int (bz true), .ref k24, .ref k30, .ref k31, .int (nI tz), .ref k33, .int (nI rs), .int sd])), (k1, .inl (cI, 7, .inl (nIf ki))), (k2, .inl (cI, 7, .inl (nIf op))), (k3, .inl (cI, 7, .inl (nIf (shF (sh ||| z))))), (k4, .inl (cI, 7, .inl (nIf fa))), (k6, .inl (cI, 6, .inl (nIf K))), (k7, .inl (cI, 6, .inl (nIf G))), (k8, .inl (cI, 6, .inl (nIf T))), (k12, .inl (cI, 7, .inl (nIf kw1_110))), (k13, .inl (cI, 175, .inl (nIf kn1_111))), (k14, .inl (cI, 144, .inl (mIf M1_112))), (k15, .inl (cI, 7, .inl (nIf mw1_113))), (k24, .inl (cI, 48, .inl (nIf kp1_61))), (k10, .inl (cI, 7, .inl (nIf R)))]
                    have hR9 := hR_114
                    refine v_al_n 127 zC dX5_never_126 4 rfl ?_
                    refine v_gf 130 0 zC dX5_never_127 gf_X5_34 rfl rfl ?_
                    refine v_il_n 131 zC dX5_never_130 5 rfl ?_
                    refine v_ialn (v := (nI (DR (n, m, (sh ||| z), 0, ki, op, fa, K, G, T) 24 jp))) 132 8 zC dX5_never_131 rfl (by omega) (congrArg nI (rk_w hR9 (by omega))) ?_
                    refine v_il_n 133 zC dX5_never_132 6 rfl ?_
                    refine v_cS (As := [.int (nI (DR (n, m, (sh ||| z), 0, ki, op, fa, K, G, T) 24 jp)), .int (nI jf)]) (st := []) 136 [] zC dX5_never_133 hA (c_X5_hasBit (ev_l E) (ev_D E) cI (x := (DR (n, m, (sh ||| z), 0, ki, op, fa, K, G, T) 24 jp)) (k := jf) (hk := (by first | omega | assumption | rfl | (simp only []; omega) | decide))) cf_X5_hasBit lk_X5_95 rfl rfl rfl (by decide +kernel) (Nat.le_of_ble_eq_true rfl) (fun rv_115 wv_116 hp_117 hm_118 => ?_)
                    clear hm_118
                    obtain ⟨rfl, rfl⟩ := hp_117
                    show VV E 0 0 136 [(7, .int (nI z)), (6, .int (nI b)), (5, .int (nI sh)), (4, .int (nI 0)), (0, .ref r0), (1, .int (nI jp)), (2, .int (nI jf)), (3, .int (nI jw))] [.int (bz (Nat.testBit (DR (n, m, (sh ||| z), 0, ki, op, fa, K, G, T) 24 jp) jf))] [(r0, .inr (5, [.int (nI n), .ref k1, .ref k2, .ref k3, .ref k4, .int (nI m), .ref k6, .ref k7, .ref k8, .int (nI 0), .ref k10, .int (nI 0), .ref k12, .ref k13, .ref k14, .ref k15, .ref k16, .int (nI ls), .int (nI ap), .int (bz bd), .int (nI sq), .ref k21, .ref k22, .ref k23, .ref k24, .ref k25, .int (bz pd), .int (nI 48), .int (bz true), .ref k24, .ref k30, .ref k31, .int (nI tz), .ref k33, .int (nI rs), .int sd])), (k1, .inl (cI, 7, .inl (nIf ki))), (k2, .inl (cI, 7, .inl (nIf op))), (k3, .inl (cI, 7, .inl (nIf (shF (sh ||| z))))), (k4, .inl (cI, 7, .inl (nIf fa))), (k6, .inl (cI, 6, .inl (nIf K))), (k7, .inl (cI, 6, .inl (nIf G))), (k8, .inl (cI, 6, .inl (nIf T))), (k12, .inl (cI, 7, .inl (nIf kw1_110))), (k13, .inl (cI, 175, .inl (nIf kn1_111))), (k14, .inl (cI, 144, .inl (mIf M1_112))), (k15, .inl (cI, 7, .inl (nIf mw1_113))), (k24, .inl (cI, 48, .inl (nIf kp1_61))), (k10, .inl (cI, 7, .inl (nIf R)))]
                    refine v_ifb_eq 144 139 zC dX5_never_136 (fun h_119 => ?_) (fun h_119 => ?_)
                    ·
                      have h39 : Nat.testBit (KNW (wsh (n, m, sh, 0, ki, op, fa, K, G, T) (sh ||| z)) jf) jp = false := (knw_bit (s := wsh (n, m, sh, 0, ki, op, fa, K, G, T) (sh ||| z)) (show jp < n by omega)).trans h_119
                      refine v_il 146 zC dX5_never_144 0 rfl ?_
                      refine v_is (lv2 := [(6, .int (nI z)), (7, .int (nI z)), (5, .int (nI sh)), (4, .int (nI 0)), (0, .ref r0), (1, .int (nI jp)), (2, .int (nI jf)), (3, .int (nI jw))]) 148 zC dX5_never_146 (by rw [hnE]; decide) rfl ?_
                      refine v_inc (v := (nI (z + 1))) (lv2 := [(7, .int (nI (z + 1))), (6, .int (nI z)), (5, .int (nI sh)), (4, .int (nI 0)), (0, .ref r0), (1, .int (nI jp)), (2, .int (nI jf)), (3, .int (nI jw))]) 151 zC dX5_never_148 (j := 1) rfl (nI_add _ 1) (by rw [hnE]; decide) rfl ?_
                      refine v_goto 76 zC dX5_never_151 ?_
                      refine v_lvs (lv2 := [(7, .int (nI (z + 1))), (6, .int (mJ (some z))), (5, .int (nI sh)), (4, .int (nI 0)), (0, .ref r0), (1, .int (nI jp)), (2, .int (nI jf)), (3, .int (nI jw))]) [0, 1, 2, 3, 4, 5, 6, 7] rfl ?_
                      exact ih76 _ (by omega) kw1_110 kn1_111 M1_112 mw1_113 (sh ||| z) (some z) (z + 1) (by first | exact hR9.2.2.2.1 | exact hkw2) (by first | exact hR9.2.2.2.2.1 | exact hkn2) (by first | exact hR9.2.2.2.2.2 | exact hM2) (by first | exact hs1 | exact Nat.or_lt_two_pow hsh (by omega)) (it_s hBe (by first | exact sil_1 h19 | exact sil_3 h29 rfl h49 | exact sil_4 h29 rfl h39 | exact sil_3 h29 (decide_eq_true hq9) h49 | exact sil_4 h29 (decide_eq_true hq9) h39 | exact sil_2 (decide_eq_false (Nat.not_lt.mpr hq9)))) (fun v e => by first | (cases e; done) | (cases e; omega) | (have := hBl v e; omega)) (by first | omega | assumption | rfl | (simp only []; omega) | decide) rfl
                    ·
                      have h49 : Nat.testBit (KNW (wsh (n, m, sh, 0, ki, op, fa, K, G, T) (sh ||| z)) jf) jp = true := (knw_bit (s := wsh (n, m, sh, 0, ki, op, fa, K, G, T) (sh ||| z)) (show jp < n by omega)).trans h_119
                      refine v_il 141 zC dX5_never_139 1 rfl ?_
                      refine v_goto 146 zC dX5_never_141 ?_
                      refine v_is (lv2 := [(6, .int (nI b)), (7, .int (nI z)), (5, .int (nI sh)), (4, .int (nI 0)), (0, .ref r0), (1, .int (nI jp)), (2, .int (nI jf)), (3, .int (nI jw))]) 148 zC dX5_never_146 (by rw [hnE]; decide) rfl ?_
                      refine v_inc (v := (nI (z + 1))) (lv2 := [(7, .int (nI (z + 1))), (6, .int (nI b)), (5, .int (nI sh)), (4, .int (nI 0)), (0, .ref r0), (1, .int (nI jp)), (2, .int (nI jf)), (3, .int (nI jw))]) 151 zC dX5_never_148 (j := 1) rfl (nI_add _ 1) (by rw [hnE]; decide) rfl ?_
                      refine v_goto 76 zC dX5_never_151 ?_
                      refine v_lvs (lv2 := [(7, .int (nI (z + 1))), (6, .int (mJ (some b))), (5, .int (nI sh)), (4, .int (nI 0)), (0, .ref r0), (1, .int (nI jp)), (2, .int (nI jf)), (3, .int (nI jw))]) [0, 1, 2, 3, 4, 5, 6, 7] rfl ?_
                      exact ih76 _ (by omega) kw1_110 kn1_111 M1_112 mw1_113 (sh ||| z) (some b) (z + 1) (by first | exact hR9.2.2.2.1 | exact hkw2) (by first | exact hR9.2.2.2.2.1 | exact hkn2) (by first | exact hR9.2.2.2.2.2 | exact hM2) (by first | exact hs1 | exact Nat.or_lt_two_pow hsh (by omega)) (it_s hBe (by first | exact sil_1 h19 | exact sil_3 h29 rfl h49 | exact sil_4 h29 rfl h39 | exact sil_3 h29 (decide_eq_true hq9) h49 | exact sil_4 h29 (decide_eq_true hq9) h39 | exact sil_2 (decide_eq_false (Nat.not_lt.mpr hq9)))) (fun v e => by first | (cases e; done) | (cases e; omega) | (have := hBl v e; omega)) (by first | omega | assumption | rfl | (simp only []; omega) | decide) rfl
          refine v_lvs (lv2 := [(7, .int (nI 0)), (6, .int (mJ none)), (5, .int (nI sh)), (4, .int (nI 0)), (0, .ref r0), (1, .int (nI jp)), (2, .int (nI jf)), (3, .int (nI jw))]) [0, 1, 2, 3, 4, 5, 6, 7] rfl ?_
          exact lp76 _ kw kn M mw sh none 0 (by first | exact hR9.2.2.2.1 | exact hkw) (by first | exact hR9.2.2.2.2.1 | exact hkn) (by first | exact hR9.2.2.2.2.2 | exact hM) hsh rfl (fun v e => by cases e) (Nat.zero_le _) rfl
        ·
          have hky9 := h_52
          refine v_bp (v := (-9)) 59 zC dX5_never_57 (by decide +kernel) ?_
          refine v_iret zC zT dX5_never_59  ?_
          first | (have g9 := hky9; exact ⟨kw, kn, M, mw, kp, pl, tk, kv, 0, _, by unfold q_never SIL; rw [hi_p]; dsimp only; rw [hi_f]; dsimp only; rw [hi_w]; dsimp only; rw [if_pos (show Nat.testBit (g_fa (n, m, sh, 0, ki, op, fa, K, G, T) jp) jf = true from hky9)]; first | (split <;> rfl), hkw, hkn, hM, rfl, rfl⟩) | (have g9 := hn_p; exact ⟨kw, kn, M, mw, kp, pl, tk, kv, 1, _, by unfold q_never; rw [hn_p], hkw, hkn, hM, rfl, rfl⟩) | (have g9 := hn_f; exact ⟨kw, kn, M, mw, kp, pl, tk, kv, 1, _, by unfold q_never; rw [hi_p]; dsimp only; rw [hn_f], hkw, hkn, hM, rfl, rfl⟩) | (have g9 := hn_w; exact ⟨kw, kn, M, mw, kp, pl, tk, kv, 2, _, by unfold q_never; rw [hi_p]; dsimp only; rw [hi_f]; dsimp only; rw [hn_w], hkw, hkn, hM, rfl, rfl⟩) | exact ⟨_, _, _, _, _, _, _, _, 0, _, by unfold q_never SIL; rw [hi_p]; dsimp only; rw [hi_f]; dsimp only; rw [hi_w]; dsimp only; rw [if_neg (show ¬ Nat.testBit (g_fa (n, m, sh, 0, ki, op, fa, K, G, T) jp) jf = true by rw [show Nat.testBit (g_fa (n, m, sh, 0, ki, op, fa, K, G, T) jp) jf = false from hkn9]; decide), show 2 ^ g_n (n, m, sh, 0, ki, op, fa, K, G, T) = z from (by show 2 ^ n = z; omega), ← hBe]; first | (rw [if_pos (by assumption)]; rfl) | (rw [if_neg (by assumption)]; rfl), hkw2, hkn2, hM2, rfl, rfl⟩
set_option maxRecDepth 100000 in
set_option maxHeartbeats 4000000 in
theorem c_X5_just (l : Launch) (D : va_G) (cI : ClassId) (r0 k1 k2 k3 k4 k6 k7 k8 k10 k12 k13 k14 k15 k16 k21 k22 k23 k24 k25 k30 k31 k33 : Nat) (n m ls ap sq pl tz rs : Nat) (bd pd tk : Bool) (kv : Value) (sd : Int32) (ki op fa K G T : Nat → Nat) (sh : Nat) (kw kn : Nat → Nat) (M : Nat → Option Nat) (mw : Nat → Nat) (kp R : Nat → Nat) (f t : Int32) (hw : FW n m sh ki op fa K G T) (hkw : ∀ z, kw z < 1024) (hkn : ∀ z, kn z < 1024) (hM : ∀ z v, M z = some v → v < 7) : CT l yX5_just cX5_just 6 (some .int) { frames := 6, cells := 0, slots := 0, locals := 138 } D cI [.ref r0, .int f, .int t] [(r0, .inr (5, [.int (nI n), .ref k1, .ref k2, .ref k3, .ref k4, .int (nI m), .ref k6, .ref k7, .ref k8, .int (nI 0), .ref k10, .int (nI 0), .ref k12, .ref k13, .ref k14, .ref k15, .ref k16, .int (nI ls), .int (nI ap), .int (bz bd), .int (nI sq), .ref k21, .ref k22, .ref k23, .ref k24, .ref k25, .int (bz pd), .int (nI pl), .int (bz tk), kv, .ref k30, .ref k31, .int (nI tz), .ref k33, .int (nI rs), .int sd])), (k1, .inl (cI, 7, .inl (nIf ki))), (k2, .inl (cI, 7, .inl (nIf op))), (k3, .inl (cI, 7, .inl (nIf (shF sh)))), (k4, .inl (cI, 7, .inl (nIf fa))), (k6, .inl (cI, 6, .inl (nIf K))), (k7, .inl (cI, 6, .inl (nIf G))), (k8, .inl (cI, 6, .inl (nIf T))), (k12, .inl (cI, 7, .inl (nIf kw))), (k13, .inl (cI, 175, .inl (nIf kn))), (k14, .inl (cI, 144, .inl (mIf M))), (k15, .inl (cI, 7, .inl (nIf mw))), (k24, .inl (cI, 48, .inl (nIf kp))), (k10, .inl (cI, 7, .inl (nIf R)))] (fun zr zw => (∃ kw1 : Nat → Nat, ∃ kn1 : Nat → Nat, ∃ M1 : Nat → Option Nat, ∃ mw1 : Nat → Nat, ∃ kp1 : Nat → Nat, ∃ pl1 : Nat, ∃ tk1 : Bool, ∃ kv1 : Value, ∃ rc : Nat, ∃ rv : Int32, (q_just (n, m, sh, 0, ki, op, fa, K, G, T) f t = (rc, rv)) ∧ (∀ z, kw1 z < 1024) ∧ (∀ z, kn1 z < 1024) ∧ (∀ z v, M1 z = some v → v < 7) ∧ zr = some (.int rv) ∧ zw = [(r0, .inr (5, [.int (nI n), .ref k1, .ref k2, .ref k3, .ref k4, .int (nI m), .ref k6, .ref k7, .ref k8, .int (nI 0), .ref k10, .int (nI 0), .ref k12, .ref k13, .ref k14, .ref k15, .ref k16, .int (nI ls), .int (nI ap), .int (bz bd), .int (nI sq), .ref k21, .ref k22, .ref k23, .ref k24, .ref k25, .int (bz pd), .int (nI pl1), .int (bz tk1), kv1, .ref k30, .ref k31, .int (nI tz), .ref k33, .int (nI rs), .int sd])), (k1, .inl (cI, 7, .inl (nIf ki))), (k2, .inl (cI, 7, .inl (nIf op))), (k3, .inl (cI, 7, .inl (nIf (shF sh)))), (k4, .inl (cI, 7, .inl (nIf fa))), (k6, .inl (cI, 6, .inl (nIf K))), (k7, .inl (cI, 6, .inl (nIf G))), (k8, .inl (cI, 6, .inl (nIf T))), (k12, .inl (cI, 7, .inl (nIf kw1))), (k13, .inl (cI, 175, .inl (nIf kn1))), (k14, .inl (cI, 144, .inl (mIf M1))), (k15, .inl (cI, 7, .inl (nIf mw1))), (k24, .inl (cI, 48, .inl (nIf kp1))), (k10, .inl (cI, 7, .inl (nIf (rf R rc))))])) := by
  refine CT_of RX5 rfl (by decide +kernel) (Nat.le_of_ble_eq_true rfl) (fun E hnE zC zT => ?_)
  have hA : ∀ q, (ev_s E).heap.size ≤ q → ev_A E q := fun q h => by rw [zT.2]; exact Or.inr h
  obtain ⟨hn, hm, hsh, hki, hop, hfa, hK, hG, hT, vki, vop, vfa, vK, vG, vT⟩ := id hw
  have h2n : 2 ^ n ≤ 2 ^ 7 := Nat.pow_le_pow_right (by decide) hn
  show VV E 0 0 0 [(0, .ref r0), (1, .int f), (2, .int t)] [] [(r0, .inr (5, [.int (nI n), .ref k1, .ref k2, .ref k3, .ref k4, .int (nI m), .ref k6, .ref k7, .ref k8, .int (nI 0), .ref k10, .int (nI 0), .ref k12, .ref k13, .ref k14, .ref k15, .ref k16, .int (nI ls), .int (nI ap), .int (bz bd), .int (nI sq), .ref k21, .ref k22, .ref k23, .ref k24, .ref k25, .int (bz pd), .int (nI pl), .int (bz tk), kv, .ref k30, .ref k31, .int (nI tz), .ref k33, .int (nI rs), .int sd])), (k1, .inl (cI, 7, .inl (nIf ki))), (k2, .inl (cI, 7, .inl (nIf op))), (k3, .inl (cI, 7, .inl (nIf (shF sh)))), (k4, .inl (cI, 7, .inl (nIf fa))), (k6, .inl (cI, 6, .inl (nIf K))), (k7, .inl (cI, 6, .inl (nIf G))), (k8, .inl (cI, 6, .inl (nIf T))), (k12, .inl (cI, 7, .inl (nIf kw))), (k13, .inl (cI, 175, .inl (nIf kn))), (k14, .inl (cI, 144, .inl (mIf M))), (k15, .inl (cI, 7, .inl (nIf mw))), (k24, .inl (cI, 48, .inl (nIf kp))), (k10, .inl (cI, 7, .inl (nIf R)))]
  refine v_al_n 1 zC dX5_just_0 0 rfl ?_
  refine v_ic (v := (nI 0)) 2 zC dX5_just_1 (by decide +kernel) ?_
  refine v_pf (ws2 := [(r0, .inr (5, [.int (nI n), .ref k1, .ref k2, .ref k3, .ref k4, .int (nI m), .ref k6, .ref k7, .ref k8, .int (nI 0), .ref k10, .int (nI 0), .ref k12, .ref k13, .ref k14, .ref k15, .ref k16, .int (nI ls), .int (nI ap), .int (bz bd), .int (nI sq), .ref k21, .ref k22, .ref k23, .ref k24, .ref k25, .int (bz pd), .int (nI pl), .int (bz tk), kv, .ref k30, .ref k31, .int (nI tz), .ref k33, .int (nI rs), .int sd])), (k1, .inl (cI, 7, .inl (nIf ki))), (k2, .inl (cI, 7, .inl (nIf op))), (k3, .inl (cI, 7, .inl (nIf (shF sh)))), (k4, .inl (cI, 7, .inl (nIf fa))), (k6, .inl (cI, 6, .inl (nIf K))), (k7, .inl (cI, 6, .inl (nIf G))), (k8, .inl (cI, 6, .inl (nIf T))), (k12, .inl (cI, 7, .inl (nIf kw))), (k13, .inl (cI, 175, .inl (nIf kn))), (k14, .inl (cI, 144, .inl (mIf M))), (k15, .inl (cI, 7, .inl (nIf mw))), (k24, .inl (cI, 48, .inl (nIf kp))), (k10, .inl (cI, 7, .inl (nIf R)))]) 5 0 zC dX5_just_2 pf_X5_73 rfl (Nat.le_of_ble_eq_true rfl) rfl rfl rfl ?_
  refine v_il_n 6 zC dX5_just_5 1 rfl ?_
  refine v_cS (As := [.int f]) (st := []) 9 [] zC dX5_just_6 hA (c_X5_isFact (ev_l E) (ev_D E) cI (p := f) ) cf_X5_isFact lk_X5_225 rfl rfl rfl (by decide +kernel) (Nat.le_of_ble_eq_true rfl) (fun rv_1 wv_2 hp_3 hm_4 => ?_)
  clear hm_4
  rcases hp_3 with ⟨hi_5, rfl, rfl⟩ | ⟨j_6, he_7, hi_8, hj_9, rfl, rfl⟩
  ·
    show VV E 0 0 9 [(0, .ref r0), (1, .int f), (2, .int t)] [.int (nI 0)] [(r0, .inr (5, [.int (nI n), .ref k1, .ref k2, .ref k3, .ref k4, .int (nI m), .ref k6, .ref k7, .ref k8, .int (nI 0), .ref k10, .int (nI 0), .ref k12, .ref k13, .ref k14, .ref k15, .ref k16, .int (nI ls), .int (nI ap), .int (bz bd), .int (nI sq), .ref k21, .ref k22, .ref k23, .ref k24, .ref k25, .int (bz pd), .int (nI pl), .int (bz tk), kv, .ref k30, .ref k31, .int (nI tz), .ref k33, .int (nI rs), .int sd])), (k1, .inl (cI, 7, .inl (nIf ki))), (k2, .inl (cI, 7, .inl (nIf op))), (k3, .inl (cI, 7, .inl (nIf (shF sh)))), (k4, .inl (cI, 7, .inl (nIf fa))), (k6, .inl (cI, 6, .inl (nIf K))), (k7, .inl (cI, 6, .inl (nIf G))), (k8, .inl (cI, 6, .inl (nIf T))), (k12, .inl (cI, 7, .inl (nIf kw))), (k13, .inl (cI, 175, .inl (nIf kn))), (k14, .inl (cI, 144, .inl (mIf M))), (k15, .inl (cI, 7, .inl (nIf mw))), (k24, .inl (cI, 48, .inl (nIf kp))), (k10, .inl (cI, 7, .inl (nIf R)))]
    have hn_f := hi_5
    refine v_if_eq 28 12 zC dX5_just_9 (fun _ => ?_) (fun z => absurd (by decide +kernel) z)
    refine v_ic (v := (-1)) 29 zC dX5_just_28 (by decide +kernel) ?_
    refine v_is_n (lv2 := [(3, .int (-1)), (0, .ref r0), (1, .int f), (2, .int t)]) 30 zC dX5_just_29 (by rw [hnE]; decide) rfl ?_
    refine v_il_n 31 zC dX5_just_30 0 rfl ?_
    refine v_if_ge 40 34 zC dX5_just_31 (fun z => absurd z (by decide +kernel)) (fun _ => ?_)
    refine v_al_n 35 zC dX5_just_34 1 rfl ?_
    refine v_il_n 36 zC dX5_just_35 0 rfl ?_
    refine v_cV (As := [.int (-1)]) (st := []) 39 0 [0, 13] zC dX5_just_36 hA (c_X5_refuse (ev_l E) (ev_D E) cI (r0 := r0) (k1 := k1) (k2 := k2) (k3 := k3) (k4 := k4) (k6 := k6) (k7 := k7) (k8 := k8) (k10 := k10) (k12 := k12) (k13 := k13) (k14 := k14) (k15 := k15) (k16 := k16) (k21 := k21) (k22 := k22) (k23 := k23) (k24 := k24) (k25 := k25) (k30 := k30) (k31 := k31) (k33 := k33) (n := n) (m := m) (aw := 0) (ls := ls) (ap := ap) (sq := sq) (pl := pl) (tz := tz) (rs := rs) (bd := bd) (pd := pd) (tk := tk) (kv := kv) (sd := sd) (R := R) (v := (-1)) (j := 1) (hv := (by first | omega | assumption | rfl | (simp only []; omega) | decide)) (h1 := (by first | omega | assumption | rfl | (simp only []; omega) | decide)) (h6 := (by first | omega | assumption | rfl | (simp only []; omega) | decide))) cf_X5_refuse lk_X5_129 rfl rfl rfl rfl rfl (by decide +kernel) (Nat.le_of_ble_eq_true rfl) (fun rv_12 wv_13 hp_14 hm_15 => ?_)
    clear hm_15
    obtain ⟨rfl, rfl⟩ := hp_14
    show VV E 0 0 39 [(3, .int (-1)), (0, .ref r0), (1, .int f), (2, .int t)] [.int (-1)] [(r0, .inr (5, [.int (nI n), .ref k1, .ref k2, .ref k3, .ref k4, .int (nI m), .ref k6, .ref k7, .ref k8, .int (nI 0), .ref k10, .int (nI 0), .ref k12, .ref k13, .ref k14, .ref k15, .ref k16, .int (nI ls), .int (nI ap), .int (bz bd), .int (nI sq), .ref k21, .ref k22, .ref k23, .ref k24, .ref k25, .int (bz pd), .int (nI pl), .int (bz tk), kv, .ref k30, .ref k31, .int (nI tz), .ref k33, .int (nI rs), .int sd])), (k1, .inl (cI, 7, .inl (nIf ki))), (k2, .inl (cI, 7, .inl (nIf op))), (k3, .inl (cI, 7, .inl (nIf (shF sh)))), (k4, .inl (cI, 7, .inl (nIf fa))), (k6, .inl (cI, 6, .inl (nIf K))), (k7, .inl (cI, 6, .inl (nIf G))), (k8, .inl (cI, 6, .inl (nIf T))), (k12, .inl (cI, 7, .inl (nIf kw))), (k13, .inl (cI, 175, .inl (nIf kn))), (k14, .inl (cI, 144, .inl (mIf M))), (k15, .inl (cI, 7, .inl (nIf mw))), (k24, .inl (cI, 48, .inl (nIf kp))), (k10, .inl (cI, 7, .inl (nIf (un R 1 (R 1 + 1)))))]
    refine v_iret zC zT dX5_just_39  ?_
    first | (have g9 := hn_f; exact ⟨kw, kn, M, mw, kp, pl, tk, kv, 1, _, by unfold q_just; rw [hn_f], hkw, hkn, hM, rfl, rfl⟩) | (have g9 := hlt_t; exact ⟨kw, kn, M, mw, kp, pl, tk, kv, 4, _, by unfold q_just; rw [hi_f]; dsimp only; rw [if_pos (show t < 0 from hlt_t)], hkw, hkn, hM, rfl, rfl⟩) | (have g9 := hgt_t; exact ⟨kw, kn, M, mw, kp, pl, tk, kv, 6, _, by unfold q_just; rw [hi_f]; dsimp only; rw [if_neg (show ¬ t < 0 from hge_t), show IX (2 ^ g_n (n, m, sh, 0, ki, op, fa, K, G, T)) t = none from (by have h8 := IX_hi hgt_t (by omega); rw [show 2 ^ n - 1 + 1 = 2 ^ n by omega] at h8; exact h8)], hkw, hkn, hM, rfl, rfl⟩) | exact ⟨_, _, _, _, _, _, _, _, 0, _, by unfold q_just; rw [hi_f]; dsimp only; rw [if_neg (nI_pos (show jt < 2 ^ 31 by omega)), show IX (2 ^ g_n (n, m, sh, 0, ki, op, fa, K, G, T)) (nI jt) = some jt from IX_nI (show 2 ^ n < 2 ^ 31 by omega) (show jt < 2 ^ n by omega)]; dsimp only; unfold JUST; rw [show 2 ^ g_n (n, m, sh, 0, ki, op, fa, K, G, T) = z from (by show 2 ^ n = z; omega), ← hBe], hkw2, hkn2, hM2, rfl, rfl⟩
  ·
    show VV E 0 0 9 [(0, .ref r0), (1, .int f), (2, .int t)] [.int (nI 1)] [(r0, .inr (5, [.int (nI n), .ref k1, .ref k2, .ref k3, .ref k4, .int (nI m), .ref k6, .ref k7, .ref k8, .int (nI 0), .ref k10, .int (nI 0), .ref k12, .ref k13, .ref k14, .ref k15, .ref k16, .int (nI ls), .int (nI ap), .int (bz bd), .int (nI sq), .ref k21, .ref k22, .ref k23, .ref k24, .ref k25, .int (bz pd), .int (nI pl), .int (bz tk), kv, .ref k30, .ref k31, .int (nI tz), .ref k33, .int (nI rs), .int sd])), (k1, .inl (cI, 7, .inl (nIf ki))), (k2, .inl (cI, 7, .inl (nIf op))), (k3, .inl (cI, 7, .inl (nIf (shF sh)))), (k4, .inl (cI, 7, .inl (nIf fa))), (k6, .inl (cI, 6, .inl (nIf K))), (k7, .inl (cI, 6, .inl (nIf G))), (k8, .inl (cI, 6, .inl (nIf T))), (k12, .inl (cI, 7, .inl (nIf kw))), (k13, .inl (cI, 175, .inl (nIf kn))), (k14, .inl (cI, 144, .inl (mIf M))), (k15, .inl (cI, 7, .inl (nIf mw))), (k24, .inl (cI, 48, .inl (nIf kp))), (k10, .inl (cI, 7, .inl (nIf R)))]
    subst he_7
    have hi_f := hi_8
    obtain ⟨jf, hx_jf⟩ : ∃ z, z = j_6 := ⟨_, rfl⟩
    subst hx_jf
    refine v_if_eq 28 12 zC dX5_just_9 (fun z => absurd z (by decide +kernel)) (fun _ => ?_)
    refine v_il_n 13 zC dX5_just_12 2 rfl ?_
    refine v_ic (v := (nI 0)) 14 zC dX5_just_13 (by decide +kernel) ?_
    refine v_ic (v := (nI 1)) 15 zC dX5_just_14 (by decide +kernel) ?_
    refine v_al_n 16 zC dX5_just_15 0 rfl ?_
    refine v_gf 19 0 zC dX5_just_16 gf_X5_77 rfl rfl ?_
    refine v_ishl (v := (nI (2 ^ n))) 20 zC dX5_just_19 (b1n (by omega)) ?_
    refine v_ic (v := (nI 1)) 21 zC dX5_just_20 (by decide +kernel) ?_
    refine v_isub (v := (nI (2 ^ n - 1))) 22 zC dX5_just_21 (pk_sub Nat.one_le_two_pow) ?_
    refine v_cS (As := [.int t, .int (nI 0), .int (nI (2 ^ n - 1))]) (st := []) 25 [] zC dX5_just_22 hA (c_X5_wrongNumber (ev_l E) (ev_D E) cI (v := t) (a := 0) (b := (2 ^ n - 1)) (ha := (by decide)) (hb := (by omega))) cf_X5_wrongNumber lk_X5_213 rfl rfl rfl (by decide +kernel) (Nat.le_of_ble_eq_true rfl) (fun rv_17 wv_18 hp_19 hm_20 => ?_)
    clear hm_20
    rcases hp_19 with ⟨hq_21, rfl, rfl⟩ | ⟨hq_22, hq2_23, rfl, rfl⟩ | ⟨j_24, he_25, h1_26, h2_27, rfl, rfl⟩
    ·
      show VV E 0 0 25 [(0, .ref r0), (1, .int (nI jf)), (2, .int t)] [.int (-4)] [(r0, .inr (5, [.int (nI n), .ref k1, .ref k2, .ref k3, .ref k4, .int (nI m), .ref k6, .ref k7, .ref k8, .int (nI 0), .ref k10, .int (nI 0), .ref k12, .ref k13, .ref k14, .ref k15, .ref k16, .int (nI ls), .int (nI ap), .int (bz bd), .int (nI sq), .ref k21, .ref k22, .ref k23, .ref k24, .ref k25, .int (bz pd), .int (nI pl), .int (bz tk), kv, .ref k30, .ref k31, .int (nI tz), .ref k33, .int (nI rs), .int sd])), (k1, .inl (cI, 7, .inl (nIf ki))), (k2, .inl (cI, 7, .inl (nIf op))), (k3, .inl (cI, 7, .inl (nIf (shF sh)))), (k4, .inl (cI, 7, .inl (nIf fa))), (k6, .inl (cI, 6, .inl (nIf K))), (k7, .inl (cI, 6, .inl (nIf G))), (k8, .inl (cI, 6, .inl (nIf T))), (k12, .inl (cI, 7, .inl (nIf kw))), (k13, .inl (cI, 175, .inl (nIf kn))), (k14, .inl (cI, 144, .inl (mIf M))), (k15, .inl (cI, 7, .inl (nIf mw))), (k24, .inl (cI, 48, .inl (nIf kp))), (k10, .inl (cI, 7, .inl (nIf R)))]
      have hlt_t := hq_21
      refine v_goto 29 zC dX5_just_25 ?_
      refine v_is_n (lv2 := [(3, .int (-4)), (0, .ref r0), (1, .int (nI jf)), (2, .int t)]) 30 zC dX5_just_29 (by rw [hnE]; decide) rfl ?_
      refine v_il_n 31 zC dX5_just_30 0 rfl ?_
      refine v_if_ge 40 34 zC dX5_just_31 (fun z => absurd z (by decide +kernel)) (fun _ => ?_)
      refine v_al_n 35 zC dX5_just_34 1 rfl ?_
      refine v_il_n 36 zC dX5_just_35 0 rfl ?_
      refine v_cV (As := [.int (-4)]) (st := []) 39 0 [0, 13] zC dX5_just_36 hA (c_X5_refuse (ev_l E) (ev_D E) cI (r0 := r0) (k1 := k1) (k2 := k2) (k3 := k3) (k4 := k4) (k6 := k6) (k7 := k7) (k8 := k8) (k10 := k10) (k12 := k12) (k13 := k13) (k14 := k14) (k15 := k15) (k16 := k16) (k21 := k21) (k22 := k22) (k23 := k23) (k24 := k24) (k25 := k25) (k30 := k30) (k31 := k31) (k33 := k33) (n := n) (m := m) (aw := 0) (ls := ls) (ap := ap) (sq := sq) (pl := pl) (tz := tz) (rs := rs) (bd := bd) (pd := pd) (tk := tk) (kv := kv) (sd := sd) (R := R) (v := (-4)) (j := 4) (hv := (by first | omega | assumption | rfl | (simp only []; omega) | decide)) (h1 := (by first | omega | assumption | rfl | (simp only []; omega) | decide)) (h6 := (by first | omega | assumption | rfl | (simp only []; omega) | decide))) cf_X5_refuse lk_X5_129 rfl rfl rfl rfl rfl (by decide +kernel) (Nat.le_of_ble_eq_true rfl) (fun rv_29 wv_30 hp_31 hm_32 => ?_)
      clear hm_32
      obtain ⟨rfl, rfl⟩ := hp_31
      show VV E 0 0 39 [(3, .int (-4)), (0, .ref r0), (1, .int (nI jf)), (2, .int t)] [.int (-4)] [(r0, .inr (5, [.int (nI n), .ref k1, .ref k2, .ref k3, .ref k4, .int (nI m), .ref k6, .ref k7, .ref k8, .int (nI 0), .ref k10, .int (nI 0), .ref k12, .ref k13, .ref k14, .ref k15, .ref k16, .int (nI ls), .int (nI ap), .int (bz bd), .int (nI sq), .ref k21, .ref k22, .ref k23, .ref k24, .ref k25, .int (bz pd), .int (nI pl), .int (bz tk), kv, .ref k30, .ref k31, .int (nI tz), .ref k33, .int (nI rs), .int sd])), (k1, .inl (cI, 7, .inl (nIf ki))), (k2, .inl (cI, 7, .inl (nIf op))), (k3, .inl (cI, 7, .inl (nIf (shF sh)))), (k4, .inl (cI, 7, .inl (nIf fa))), (k6, .inl (cI, 6, .inl (nIf K))), (k7, .inl (cI, 6, .inl (nIf G))), (k8, .inl (cI, 6, .inl (nIf T))), (k12, .inl (cI, 7, .inl (nIf kw))), (k13, .inl (cI, 175, .inl (nIf kn))), (k14, .inl (cI, 144, .inl (mIf M))), (k15, .inl (cI, 7, .inl (nIf mw))), (k24, .inl (cI, 48, .inl (nIf kp))), (k10, .inl (cI, 7, .inl (nIf (un R 4 (R 4 + 1)))))]
      refine v_iret zC zT dX5_just_39  ?_
      first | (have g9 := hn_f; exact ⟨kw, kn, M, mw, kp, pl, tk, kv, 1, _, by unfold q_just; rw [hn_f], hkw, hkn, hM, rfl, rfl⟩) | (have g9 := hlt_t; exact ⟨kw, kn, M, mw, kp, pl, tk, kv, 4, _, by unfold q_just; rw [hi_f]; dsimp only; rw [if_pos (show t < 0 from hlt_t)], hkw, hkn, hM, rfl, rfl⟩) | (have g9 := hgt_t; exact ⟨kw, kn, M, mw, kp, pl, tk, kv, 6, _, by unfold q_just; rw [hi_f]; dsimp only; rw [if_neg (show ¬ t < 0 from hge_t), show IX (2 ^ g_n (n, m, sh, 0, ki, op, fa, K, G, T)) t = none from (by have h8 := IX_hi hgt_t (by omega); rw [show 2 ^ n - 1 + 1 = 2 ^ n by omega] at h8; exact h8)], hkw, hkn, hM, rfl, rfl⟩) | exact ⟨_, _, _, _, _, _, _, _, 0, _, by unfold q_just; rw [hi_f]; dsimp only; rw [if_neg (nI_pos (show jt < 2 ^ 31 by omega)), show IX (2 ^ g_n (n, m, sh, 0, ki, op, fa, K, G, T)) (nI jt) = some jt from IX_nI (show 2 ^ n < 2 ^ 31 by omega) (show jt < 2 ^ n by omega)]; dsimp only; unfold JUST; rw [show 2 ^ g_n (n, m, sh, 0, ki, op, fa, K, G, T) = z from (by show 2 ^ n = z; omega), ← hBe], hkw2, hkn2, hM2, rfl, rfl⟩
    ·
      show VV E 0 0 25 [(0, .ref r0), (1, .int (nI jf)), (2, .int t)] [.int (-6)] [(r0, .inr (5, [.int (nI n), .ref k1, .ref k2, .ref k3, .ref k4, .int (nI m), .ref k6, .ref k7, .ref k8, .int (nI 0), .ref k10, .int (nI 0), .ref k12, .ref k13, .ref k14, .ref k15, .ref k16, .int (nI ls), .int (nI ap), .int (bz bd), .int (nI sq), .ref k21, .ref k22, .ref k23, .ref k24, .ref k25, .int (bz pd), .int (nI pl), .int (bz tk), kv, .ref k30, .ref k31, .int (nI tz), .ref k33, .int (nI rs), .int sd])), (k1, .inl (cI, 7, .inl (nIf ki))), (k2, .inl (cI, 7, .inl (nIf op))), (k3, .inl (cI, 7, .inl (nIf (shF sh)))), (k4, .inl (cI, 7, .inl (nIf fa))), (k6, .inl (cI, 6, .inl (nIf K))), (k7, .inl (cI, 6, .inl (nIf G))), (k8, .inl (cI, 6, .inl (nIf T))), (k12, .inl (cI, 7, .inl (nIf kw))), (k13, .inl (cI, 175, .inl (nIf kn))), (k14, .inl (cI, 144, .inl (mIf M))), (k15, .inl (cI, 7, .inl (nIf mw))), (k24, .inl (cI, 48, .inl (nIf kp))), (k10, .inl (cI, 7, .inl (nIf R)))]
      have hge_t := hq_22
      have hgt_t := hq2_23
      refine v_goto 29 zC dX5_just_25 ?_
      refine v_is_n (lv2 := [(3, .int (-6)), (0, .ref r0), (1, .int (nI jf)), (2, .int t)]) 30 zC dX5_just_29 (by rw [hnE]; decide) rfl ?_
      refine v_il_n 31 zC dX5_just_30 0 rfl ?_
      refine v_if_ge 40 34 zC dX5_just_31 (fun z => absurd z (by decide +kernel)) (fun _ => ?_)
      refine v_al_n 35 zC dX5_just_34 1 rfl ?_
      refine v_il_n 36 zC dX5_just_35 0 rfl ?_
      refine v_cV (As := [.int (-6)]) (st := []) 39 0 [0, 13] zC dX5_just_36 hA (c_X5_refuse (ev_l E) (ev_D E) cI (r0 := r0) (k1 := k1) (k2 := k2) (k3 := k3) (k4 := k4) (k6 := k6) (k7 := k7) (k8 := k8) (k10 := k10) (k12 := k12) (k13 := k13) (k14 := k14) (k15 := k15) (k16 := k16) (k21 := k21) (k22 := k22) (k23 := k23) (k24 := k24) (k25 := k25) (k30 := k30) (k31 := k31) (k33 := k33) (n := n) (m := m) (aw := 0) (ls := ls) (ap := ap) (sq := sq) (pl := pl) (tz := tz) (rs := rs) (bd := bd) (pd := pd) (tk := tk) (kv := kv) (sd := sd) (R := R) (v := (-6)) (j := 6) (hv := (by first | omega | assumption | rfl | (simp only []; omega) | decide)) (h1 := (by first | omega | assumption | rfl | (simp only []; omega) | decide)) (h6 := (by first | omega | assumption | rfl | (simp only []; omega) | decide))) cf_X5_refuse lk_X5_129 rfl rfl rfl rfl rfl (by decide +kernel) (Nat.le_of_ble_eq_true rfl) (fun rv_34 wv_35 hp_36 hm_37 => ?_)
      clear hm_37
      obtain ⟨rfl, rfl⟩ := hp_36
      show VV E 0 0 39 [(3, .int (-6)), (0, .ref r0), (1, .int (nI jf)), (2, .int t)] [.int (-6)] [(r0, .inr (5, [.int (nI n), .ref k1, .ref k2, .ref k3, .ref k4, .int (nI m), .ref k6, .ref k7, .ref k8, .int (nI 0), .ref k10, .int (nI 0), .ref k12, .ref k13, .ref k14, .ref k15, .ref k16, .int (nI ls), .int (nI ap), .int (bz bd), .int (nI sq), .ref k21, .ref k22, .ref k23, .ref k24, .ref k25, .int (bz pd), .int (nI pl), .int (bz tk), kv, .ref k30, .ref k31, .int (nI tz), .ref k33, .int (nI rs), .int sd])), (k1, .inl (cI, 7, .inl (nIf ki))), (k2, .inl (cI, 7, .inl (nIf op))), (k3, .inl (cI, 7, .inl (nIf (shF sh)))), (k4, .inl (cI, 7, .inl (nIf fa))), (k6, .inl (cI, 6, .inl (nIf K))), (k7, .inl (cI, 6, .inl (nIf G))), (k8, .inl (cI, 6, .inl (nIf T))), (k12, .inl (cI, 7, .inl (nIf kw))), (k13, .inl (cI, 175, .inl (nIf kn))), (k14, .inl (cI, 144, .inl (mIf M))), (k15, .inl (cI, 7, .inl (nIf mw))), (k24, .inl (cI, 48, .inl (nIf kp))), (k10, .inl (cI, 7, .inl (nIf (un R 6 (R 6 + 1)))))]
      refine v_iret zC zT dX5_just_39  ?_
      first | (have g9 := hn_f; exact ⟨kw, kn, M, mw, kp, pl, tk, kv, 1, _, by unfold q_just; rw [hn_f], hkw, hkn, hM, rfl, rfl⟩) | (have g9 := hlt_t; exact ⟨kw, kn, M, mw, kp, pl, tk, kv, 4, _, by unfold q_just; rw [hi_f]; dsimp only; rw [if_pos (show t < 0 from hlt_t)], hkw, hkn, hM, rfl, rfl⟩) | (have g9 := hgt_t; exact ⟨kw, kn, M, mw, kp, pl, tk, kv, 6, _, by unfold q_just; rw [hi_f]; dsimp only; rw [if_neg (show ¬ t < 0 from hge_t), show IX (2 ^ g_n (n, m, sh, 0, ki, op, fa, K, G, T)) t = none from (by have h8 := IX_hi hgt_t (by omega); rw [show 2 ^ n - 1 + 1 = 2 ^ n by omega] at h8; exact h8)], hkw, hkn, hM, rfl, rfl⟩) | exact ⟨_, _, _, _, _, _, _, _, 0, _, by unfold q_just; rw [hi_f]; dsimp only; rw [if_neg (nI_pos (show jt < 2 ^ 31 by omega)), show IX (2 ^ g_n (n, m, sh, 0, ki, op, fa, K, G, T)) (nI jt) = some jt from IX_nI (show 2 ^ n < 2 ^ 31 by omega) (show jt < 2 ^ n by omega)]; dsimp only; unfold JUST; rw [show 2 ^ g_n (n, m, sh, 0, ki, op, fa, K, G, T) = z from (by show 2 ^ n = z; omega), ← hBe], hkw2, hkn2, hM2, rfl, rfl⟩
    ·
      show VV E 0 0 25 [(0, .ref r0), (1, .int (nI jf)), (2, .int t)] [.int (nI 0)] [(r0, .inr (5, [.int (nI n), .ref k1, .ref k2, .ref k3, .ref k4, .int (nI m), .ref k6, .ref k7, .ref k8, .int (nI 0), .ref k10, .int (nI 0), .ref k12, .ref k13, .ref k14, .ref k15, .ref k16, .int (nI ls), .int (nI ap), .int (bz bd), .int (nI sq), .ref k21, .ref k22, .ref k23, .ref k24, .ref k25, .int (bz pd), .int (nI pl), .int (bz tk), kv, .ref k30, .ref k31, .int (nI tz), .ref k33, .int (nI rs), .int sd])), (k1, .inl (cI, 7, .inl (nIf ki))), (k2, .inl (cI, 7, .inl (nIf op))), (k3, .inl (cI, 7, .inl (nIf (shF sh)))), (k4, .inl (cI, 7, .inl (nIf fa))), (k6, .inl (cI, 6, .inl (nIf K))), (k7, .inl (cI, 6, .inl (nIf G))), (k8, .inl (cI, 6, .inl (nIf T))), (k12, .inl (cI, 7, .inl (nIf kw))), (k13, .inl (cI, 175, .inl (nIf kn))), (k14, .inl (cI, 144, .inl (mIf M))), (k15, .inl (cI, 7, .inl (nIf mw))), (k24, .inl (cI, 48, .inl (nIf kp))), (k10, .inl (cI, 7, .inl (nIf R)))]
      subst he_25
      obtain ⟨jt, he_jt⟩ : ∃ z, z = j_24 := ⟨_, rfl⟩
      subst he_jt
      have h1_jt := h1_26
      have h2_jt := h2_27
      refine v_goto 29 zC dX5_just_25 ?_
      refine v_is_n (lv2 := [(3, .int (nI 0)), (0, .ref r0), (1, .int (nI jf)), (2, .int (nI jt))]) 30 zC dX5_just_29 (by rw [hnE]; decide) rfl ?_
      refine v_il_n 31 zC dX5_just_30 0 rfl ?_
      refine v_if_ge 40 34 zC dX5_just_31 (fun _ => ?_) (fun z => absurd (by decide +kernel) z)
      refine v_bp (v := (-9)) 42 zC dX5_just_40 (by decide +kernel) ?_
      refine v_is (lv2 := [(4, .int (-9)), (3, .int (nI 0)), (0, .ref r0), (1, .int (nI jf)), (2, .int (nI jt))]) 44 zC dX5_just_42 (by rw [hnE]; decide) rfl ?_
      refine v_al_n 45 zC dX5_just_44 2 rfl ?_
      refine v_cV (As := []) (st := []) 48 0 [0, 1, 2, 3, 4, 5, 6, 7, 12] zC dX5_just_45 hA (c_X5_think (ev_l E) (ev_D E) cI (r0 := r0) (k1 := k1) (k2 := k2) (k3 := k3) (k4 := k4) (k6 := k6) (k7 := k7) (k8 := k8) (k10 := k10) (k12 := k12) (k13 := k13) (k14 := k14) (k15 := k15) (k16 := k16) (k21 := k21) (k22 := k22) (k23 := k23) (k24 := k24) (k25 := k25) (k30 := k30) (k31 := k31) (k33 := k33) (n := n) (m := m) (aw := 0) (ls := ls) (ap := ap) (sq := sq) (pl := pl) (tz := tz) (rs := rs) (bd := bd) (pd := pd) (tk := tk) (kv := kv) (sd := sd) (ki := ki) (op := op) (fa := fa) (K := K) (G := G) (T := T) (sh := sh) (kp := kp) ) cf_X5_think lk_X5_254 rfl rfl rfl rfl rfl (by decide +kernel) (Nat.le_of_ble_eq_true rfl) (fun rv_39 wv_40 hp_41 hm_42 => ?_)
      clear hm_42
      obtain ⟨kp1_43, hE_44, rfl, rfl⟩ := hp_41
      show VV E 0 0 48 [(4, .int (-9)), (3, .int (nI 0)), (0, .ref r0), (1, .int (nI jf)), (2, .int (nI jt))] [] [(r0, .inr (5, [.int (nI n), .ref k1, .ref k2, .ref k3, .ref k4, .int (nI m), .ref k6, .ref k7, .ref k8, .int (nI 0), .ref k10, .int (nI 0), .ref k12, .ref k13, .ref k14, .ref k15, .ref k16, .int (nI ls), .int (nI ap), .int (bz bd), .int (nI sq), .ref k21, .ref k22, .ref k23, .ref k24, .ref k25, .int (bz pd), .int (nI 48), .int (bz true), .ref k24, .ref k30, .ref k31, .int (nI tz), .ref k33, .int (nI rs), .int sd])), (k1, .inl (cI, 7, .inl (nIf ki))), (k2, .inl (cI, 7, .inl (nIf op))), (k3, .inl (cI, 7, .inl (nIf (shF sh)))), (k4, .inl (cI, 7, .inl (nIf fa))), (k6, .inl (cI, 6, .inl (nIf K))), (k7, .inl (cI, 6, .inl (nIf G))), (k8, .inl (cI, 6, .inl (nIf T))), (k12, .inl (cI, 7, .inl (nIf kw))), (k13, .inl (cI, 175, .inl (nIf kn))), (k14, .inl (cI, 144, .inl (mIf M))), (k15, .inl (cI, 7, .inl (nIf mw))), (k24, .inl (cI, 48, .inl (nIf kp1_43))), (k10, .inl (cI, 7, .inl (nIf R)))]
      have hE9 := hE_44
      refine v_ic (v := (nI 0)) 49 zC dX5_just_48 (by decide +kernel) ?_
      refine v_is (lv2 := [(5, .int (nI 0)), (4, .int (-9)), (3, .int (nI 0)), (0, .ref r0), (1, .int (nI jf)), (2, .int (nI jt))]) 51 zC dX5_just_49 (by rw [hnE]; decide) rfl ?_
      have lp51 : ∀ (mz : Nat) (kw2 : Nat → Nat) (kn2 : Nat → Nat) (M2 : Nat → Option Nat) (mw2 : Nat → Nat) (s1 : Nat) (B : Option Nat) (z : Nat), (∀ z, kw2 z < 1024) → (∀ z, kn2 z < 1024) → (∀ z v, M2 z = some v → v < 7) → (s1 < 2 ^ n) → (B = it (jusN (n, m, sh, 0, ki, op, fa, K, G, T) jf jt) none z) → (∀ v, B = some v → v < z) → (z ≤ 2 ^ n) → 2 ^ n - z = mz → VV E 0 0 51 [(5, .int (nI z)), (4, .int (mI B)), (3, .int (nI 0)), (0, .ref r0), (1, .int (nI jf)), (2, .int (nI jt))] [] [(r0, .inr (5, [.int (nI n), .ref k1, .ref k2, .ref k3, .ref k4, .int (nI m), .ref k6, .ref k7, .ref k8, .int (nI 0), .ref k10, .int (nI 0), .ref k12, .ref k13, .ref k14, .ref k15, .ref k16, .int (nI ls), .int (nI ap), .int (bz bd), .int (nI sq), .ref k21, .ref k22, .ref k23, .ref k24, .ref k25, .int (bz pd), .int (nI 48), .int (bz true), .ref k24, .ref k30, .ref k31, .int (nI tz), .ref k33, .int (nI rs), .int sd])), (k1, .inl (cI, 7, .inl (nIf ki))), (k2, .inl (cI, 7, .inl (nIf op))), (k3, .inl (cI, 7, .inl (nIf (shF s1)))), (k4, .inl (cI, 7, .inl (nIf fa))), (k6, .inl (cI, 6, .inl (nIf K))), (k7, .inl (cI, 6, .inl (nIf G))), (k8, .inl (cI, 6, .inl (nIf T))), (k12, .inl (cI, 7, .inl (nIf kw2))), (k13, .inl (cI, 175, .inl (nIf kn2))), (k14, .inl (cI, 144, .inl (mIf M2))), (k15, .inl (cI, 7, .inl (nIf mw2))), (k24, .inl (cI, 48, .inl (nIf kp1_43))), (k10, .inl (cI, 7, .inl (nIf R)))] := by
        intro mz
        induction mz using Nat.strongRecOn with
        | _ mz ih51 =>
        intro kw2 kn2 M2 mw2 s1 B z hkw2 hkn2 hM2 hs1 hBe hBl hz hm51
        refine v_il 53 zC dX5_just_51 0 rfl ?_
        refine v_ic (v := (nI 1)) 54 zC dX5_just_53 (by decide +kernel) ?_
        refine v_al_n 55 zC dX5_just_54 3 rfl ?_
        refine v_gf 58 0 zC dX5_just_55 gf_X5_77 rfl rfl ?_
        refine v_ishl (v := (nI (2 ^ n))) 59 zC dX5_just_58 (b1n (by omega)) ?_
        refine v_icmpn_ge 114 62 zC dX5_just_59 (fun h_45 => ?_) (fun h_45 => ?_)
        ·
          refine v_al_n 115 zC dX5_just_114 3 rfl ?_
          refine v_cV (As := []) (st := []) 118 0 [0, 1, 2, 3, 4, 5, 6, 7, 12] zC dX5_just_115 hA (c_X5_again (ev_l E) (ev_D E) cI (r0 := r0) (k1 := k1) (k2 := k2) (k3 := k3) (k4 := k4) (k6 := k6) (k7 := k7) (k8 := k8) (k10 := k10) (k12 := k12) (k13 := k13) (k14 := k14) (k15 := k15) (k16 := k16) (k21 := k21) (k22 := k22) (k23 := k23) (k24 := k24) (k25 := k25) (k30 := k30) (k31 := k31) (k33 := k33) (n := n) (m := m) (aw := 0) (ls := ls) (ap := ap) (sq := sq) (pl := 48) (tz := tz) (rs := rs) (bd := bd) (pd := pd) (tk := true) (kv := (.ref k24 : Value)) (sd := sd) (ki := ki) (op := op) (fa := fa) (K := K) (G := G) (T := T) (sh := s1) (kp := kp1_43) (n1 := n) (m1 := m) (sh1 := sh) (aw1 := 0) (ki1 := ki) (op1 := op) (fa1 := fa) (K1 := K) (G1 := G) (T1 := T) (hw := ⟨hn, hm, hs1, hki, hop, hfa, hK, hG, hT, vki, vop, vfa, vK, vG, vT⟩) (hw1 := hw) (hE := hE9)) cf_X5_again lk_X5_260 rfl rfl rfl rfl rfl (by decide +kernel) (Nat.le_of_ble_eq_true rfl) (fun rv_46 wv_47 hp_48 hm_49 => ?_)
          clear hm_49
          obtain ⟨rfl, rfl⟩ := hp_48
          show VV E 0 0 118 [(5, .int (nI z)), (4, .int (mI B)), (3, .int (nI 0)), (0, .ref r0), (1, .int (nI jf)), (2, .int (nI jt))] [] [(r0, .inr (5, [.int (nI n), .ref k1, .ref k2, .ref k3, .ref k4, .int (nI m), .ref k6, .ref k7, .ref k8, .int (nI 0), .ref k10, .int (nI 0), .ref k12, .ref k13, .ref k14, .ref k15, .ref k16, .int (nI ls), .int (nI ap), .int (bz bd), .int (nI sq), .ref k21, .ref k22, .ref k23, .ref k24, .ref k25, .int (bz pd), .int (nI 48), .int (bz false), .ref k24, .ref k30, .ref k31, .int (nI tz), .ref k33, .int (nI rs), .int sd])), (k1, .inl (cI, 7, .inl (nIf ki))), (k2, .inl (cI, 7, .inl (nIf op))), (k3, .inl (cI, 7, .inl (nIf (shF sh)))), (k4, .inl (cI, 7, .inl (nIf fa))), (k6, .inl (cI, 6, .inl (nIf K))), (k7, .inl (cI, 6, .inl (nIf G))), (k8, .inl (cI, 6, .inl (nIf T))), (k12, .inl (cI, 7, .inl (nIf kw2))), (k13, .inl (cI, 175, .inl (nIf kn2))), (k14, .inl (cI, 144, .inl (mIf M2))), (k15, .inl (cI, 7, .inl (nIf mw2))), (k24, .inl (cI, 48, .inl (nIf kp1_43))), (k10, .inl (cI, 7, .inl (nIf R)))]
          refine v_il 120 zC dX5_just_118 1 rfl ?_
          refine v_iret zC zT dX5_just_120  ?_
          first | (have g9 := hn_f; exact ⟨kw, kn, M, mw, kp, pl, tk, kv, 1, _, by unfold q_just; rw [hn_f], hkw, hkn, hM, rfl, rfl⟩) | (have g9 := hlt_t; exact ⟨kw, kn, M, mw, kp, pl, tk, kv, 4, _, by unfold q_just; rw [hi_f]; dsimp only; rw [if_pos (show t < 0 from hlt_t)], hkw, hkn, hM, rfl, rfl⟩) | (have g9 := hgt_t; exact ⟨kw, kn, M, mw, kp, pl, tk, kv, 6, _, by unfold q_just; rw [hi_f]; dsimp only; rw [if_neg (show ¬ t < 0 from hge_t), show IX (2 ^ g_n (n, m, sh, 0, ki, op, fa, K, G, T)) t = none from (by have h8 := IX_hi hgt_t (by omega); rw [show 2 ^ n - 1 + 1 = 2 ^ n by omega] at h8; exact h8)], hkw, hkn, hM, rfl, rfl⟩) | exact ⟨_, _, _, _, _, _, _, _, 0, _, by unfold q_just; rw [hi_f]; dsimp only; rw [if_neg (nI_pos (show jt < 2 ^ 31 by omega)), show IX (2 ^ g_n (n, m, sh, 0, ki, op, fa, K, G, T)) (nI jt) = some jt from IX_nI (show 2 ^ n < 2 ^ 31 by omega) (show jt < 2 ^ n by omega)]; dsimp only; unfold JUST; rw [show 2 ^ g_n (n, m, sh, 0, ki, op, fa, K, G, T) = z from (by show 2 ^ n = z; omega), ← hBe], hkw2, hkn2, hM2, rfl, rfl⟩
        ·
          refine v_il 64 zC dX5_just_62 1 rfl ?_
          refine v_ifo_lt 80 67 zC dX5_just_64 (fun v e => by have := hBl v e; omega) (fun h_50 => ?_) (fun h_50 => ?_)
          ·
            have hz9 : B = none := by cases B with | none => rfl | some _ => cases h_50
            subst hz9
            refine v_al_n 81 zC dX5_just_80 3 rfl ?_
            refine v_il 83 zC dX5_just_81 0 rfl ?_
            refine v_cV (As := [.int (nI z)]) (st := []) 86 0 [0, 3] zC dX5_just_83 hA (c_X5_shutAll (ev_l E) (ev_D E) cI (r0 := r0) (k1 := k1) (k2 := k2) (k3 := k3) (k4 := k4) (k6 := k6) (k7 := k7) (k8 := k8) (k10 := k10) (k12 := k12) (k13 := k13) (k14 := k14) (k15 := k15) (k16 := k16) (k21 := k21) (k22 := k22) (k23 := k23) (k24 := k24) (k25 := k25) (k30 := k30) (k31 := k31) (k33 := k33) (n := n) (m := m) (aw := 0) (ls := ls) (ap := ap) (sq := sq) (pl := 48) (tz := tz) (rs := rs) (bd := bd) (pd := pd) (tk := true) (kv := (.ref k24 : Value)) (sd := sd) (sh := s1) (s := z) (hn := (by first | omega | assumption | rfl | (simp only []; omega) | decide)) (hs := (by omega)) (hsh := hs1)) cf_X5_shutAll lk_X5_257 rfl rfl rfl rfl rfl (by decide +kernel) (Nat.le_of_ble_eq_true rfl) (fun rv_51 wv_52 hp_53 hm_54 => ?_)
            clear hm_54
            obtain ⟨rfl, rfl⟩ := hp_53
            show VV E 0 0 86 [(5, .int (nI z)), (4, .int (-9)), (3, .int (nI 0)), (0, .ref r0), (1, .int (nI jf)), (2, .int (nI jt))] [] [(r0, .inr (5, [.int (nI n), .ref k1, .ref k2, .ref k3, .ref k4, .int (nI m), .ref k6, .ref k7, .ref k8, .int (nI 0), .ref k10, .int (nI 0), .ref k12, .ref k13, .ref k14, .ref k15, .ref k16, .int (nI ls), .int (nI ap), .int (bz bd), .int (nI sq), .ref k21, .ref k22, .ref k23, .ref k24, .ref k25, .int (bz pd), .int (nI 48), .int (bz true), .ref k24, .ref k30, .ref k31, .int (nI tz), .ref k33, .int (nI rs), .int sd])), (k1, .inl (cI, 7, .inl (nIf ki))), (k2, .inl (cI, 7, .inl (nIf op))), (k3, .inl (cI, 7, .inl (nIf (shF z)))), (k4, .inl (cI, 7, .inl (nIf fa))), (k6, .inl (cI, 6, .inl (nIf K))), (k7, .inl (cI, 6, .inl (nIf G))), (k8, .inl (cI, 6, .inl (nIf T))), (k12, .inl (cI, 7, .inl (nIf kw2))), (k13, .inl (cI, 175, .inl (nIf kn2))), (k14, .inl (cI, 144, .inl (mIf M2))), (k15, .inl (cI, 7, .inl (nIf mw2))), (k24, .inl (cI, 48, .inl (nIf kp1_43))), (k10, .inl (cI, 7, .inl (nIf R)))]
            refine v_al_n 87 zC dX5_just_86 3 rfl ?_
            refine v_cV (As := []) (st := []) 90 0 [0, 1, 2, 3, 4, 5, 6, 7, 8, 9, 10, 11] zC dX5_just_87 hA (c_X5_day (ev_l E) (ev_D E) cI (r0 := r0) (k1 := k1) (k2 := k2) (k3 := k3) (k4 := k4) (k6 := k6) (k7 := k7) (k8 := k8) (k10 := k10) (k12 := k12) (k13 := k13) (k14 := k14) (k15 := k15) (k16 := k16) (k21 := k21) (k22 := k22) (k23 := k23) (k24 := k24) (k25 := k25) (k30 := k30) (k31 := k31) (k33 := k33) (n := n) (m := m) (aw := 0) (ls := ls) (ap := ap) (sq := sq) (pl := 48) (tz := tz) (rs := rs) (bd := bd) (pd := pd) (tk := true) (kv := (.ref k24 : Value)) (sd := sd) (ki := ki) (op := op) (fa := fa) (K := K) (G := G) (T := T) (sh := z) (kw := kw2) (kn := kn2) (M := M2) (mw := mw2) (hw := ⟨hn, hm, (by omega), hki, hop, hfa, hK, hG, hT, vki, vop, vfa, vK, vG, vT⟩) (hkw := hkw2) (hkn := hkn2) (hM := hM2)) cf_X5_day lk_X5_123 rfl rfl rfl rfl rfl (by decide +kernel) (Nat.le_of_ble_eq_true rfl) (fun rv_55 wv_56 hp_57 hm_58 => ?_)
            clear hm_58
            obtain ⟨kw1_59, kn1_60, M1_61, mw1_62, hR_63, rfl, rfl⟩ := hp_57
            show VV E 0 0 90 [(5, .int (nI z)), (4, .int (-9)), (3, .int (nI 0)), (0, .ref r0), (1, .int (nI jf)), (2, .int (nI jt))] [] [(r0, .inr (5, [.int (nI n), .ref k1, .ref k2, .ref k3, .ref k4, .int (nI m), .ref k6, .ref k7, .ref k8, .int (nI 0), .ref k10, .int (nI 0), .ref k12, .ref k13, .ref k14, .ref k15, .ref k16, .int (nI ls), .int (nI ap), .int (bz bd), .int (nI sq), .ref k21, .ref k22, .ref k23, .ref k24, .ref k25, .int (bz pd), .int (nI 48), .int (bz true), .ref k24, .ref k30, .ref k31, .int (nI tz), .ref k33, .int (nI rs), .int sd])), (k1, .inl (cI, 7, .inl (nIf ki))), (k2, .inl (cI, 7, .inl (nIf op))), (k3, .inl (cI, 7, .inl (nIf (shF z)))), (k4, .inl (cI, 7, .inl (nIf fa))), (k6, .inl (cI, 6, .inl (nIf K))), (k7, .inl (cI, 6, .inl (nIf G))), (k8, .inl (cI, 6, .inl (nIf T))), (k12, .inl (cI, 7, .inl (nIf kw1_59))), (k13, .inl (cI, 175, .inl (nIf kn1_60))), (k14, .inl (cI, 144, .inl (mIf M1_61))), (k15, .inl (cI, 7, .inl (nIf mw1_62))), (k24, .inl (cI, 48, .inl (nIf kp1_43))), (k10, .inl (cI, 7, .inl (nIf R)))]
            have hR9 := hR_63
            refine v_al_n 91 zC dX5_just_90 3 rfl ?_
            refine v_il_n 92 zC dX5_just_91 4 rfl ?_
            refine v_cV (As := [.int (nI jf)]) (st := []) 95 0 [0, 8] zC dX5_just_92 hA (c_X5_knowing (ev_l E) (ev_D E) cI (r0 := r0) (k1 := k1) (k2 := k2) (k3 := k3) (k4 := k4) (k6 := k6) (k7 := k7) (k8 := k8) (k10 := k10) (k12 := k12) (k13 := k13) (k14 := k14) (k15 := k15) (k16 := k16) (k21 := k21) (k22 := k22) (k23 := k23) (k24 := k24) (k25 := k25) (k30 := k30) (k31 := k31) (k33 := k33) (n := n) (m := m) (aw := 0) (ls := ls) (ap := ap) (sq := sq) (pl := 48) (tz := tz) (rs := rs) (bd := bd) (pd := pd) (tk := true) (kv := (.ref k24 : Value)) (sd := sd) (ki := ki) (op := op) (fa := fa) (K := K) (G := G) (T := T) (sh := z) (kw := kw1_59) (kn := kn1_60) (M := M1_61) (f := jf) (hn := (by first | omega | assumption | rfl | (simp only []; omega) | decide)) (hm := (by first | omega | assumption | rfl | (simp only []; omega) | decide)) (hR := hR9) (hf := (by first | omega | assumption | rfl | (simp only []; omega) | decide))) cf_X5_knowing lk_X5_242 rfl rfl rfl rfl rfl (by decide +kernel) (Nat.le_of_ble_eq_true rfl) (fun rv_64 wv_65 hp_66 hm_67 => ?_)
            clear hm_67
            obtain ⟨rfl, rfl⟩ := hp_66
            show VV E 0 0 95 [(5, .int (nI z)), (4, .int (-9)), (3, .int (nI 0)), (0, .ref r0), (1, .int (nI jf)), (2, .int (nI jt))] [.int (nI (KNW (n, m, z, 0, ki, op, fa, K, G, T) jf))] [(r0, .inr (5, [.int (nI n), .ref k1, .ref k2, .ref k3, .ref k4, .int (nI m), .ref k6, .ref k7, .ref k8, .int (nI 0), .ref k10, .int (nI 0), .ref k12, .ref k13, .ref k14, .ref k15, .ref k16, .int (nI ls), .int (nI ap), .int (bz bd), .int (nI sq), .ref k21, .ref k22, .ref k23, .ref k24, .ref k25, .int (bz pd), .int (nI 48), .int (bz true), .ref k24, .ref k30, .ref k31, .int (nI tz), .ref k33, .int (nI rs), .int sd])), (k1, .inl (cI, 7, .inl (nIf ki))), (k2, .inl (cI, 7, .inl (nIf op))), (k3, .inl (cI, 7, .inl (nIf (shF z)))), (k4, .inl (cI, 7, .inl (nIf fa))), (k6, .inl (cI, 6, .inl (nIf K))), (k7, .inl (cI, 6, .inl (nIf G))), (k8, .inl (cI, 6, .inl (nIf T))), (k12, .inl (cI, 7, .inl (nIf kw1_59))), (k13, .inl (cI, 175, .inl (nIf kn1_60))), (k14, .inl (cI, 144, .inl (mIf M1_61))), (k15, .inl (cI, 7, .inl (nIf mw1_62))), (k24, .inl (cI, 48, .inl (nIf kp1_43))), (k10, .inl (cI, 7, .inl (nIf R)))]
            refine v_il_n 96 zC dX5_just_95 5 rfl ?_
            have hk9 : KNW (n, m, z, 0, ki, op, fa, K, G, T) jf < 2 ^ 7 := mkn_7 _ hn
            refine v_icmpn_ne 104 99 zC dX5_just_96 (fun h_68 => ?_) (fun h_68 => ?_)
            ·
              have h49 : KNW (wsh (n, m, sh, 0, ki, op, fa, K, G, T) z) jf ≠ jt := h_68
              refine v_il 106 zC dX5_just_104 1 rfl ?_
              refine v_is (lv2 := [(4, .int (-9)), (5, .int (nI z)), (3, .int (nI 0)), (0, .ref r0), (1, .int (nI jf)), (2, .int (nI jt))]) 108 zC dX5_just_106 (by rw [hnE]; decide) rfl ?_
              refine v_inc (v := (nI (z + 1))) (lv2 := [(5, .int (nI (z + 1))), (4, .int (-9)), (3, .int (nI 0)), (0, .ref r0), (1, .int (nI jf)), (2, .int (nI jt))]) 111 zC dX5_just_108 (j := 1) rfl (nI_add _ 1) (by rw [hnE]; decide) rfl ?_
              refine v_goto 51 zC dX5_just_111 ?_
              refine v_lvs (lv2 := [(5, .int (nI (z + 1))), (4, .int (mI none)), (3, .int (nI 0)), (0, .ref r0), (1, .int (nI jf)), (2, .int (nI jt))]) [0, 1, 2, 3, 4, 5] rfl ?_
              exact ih51 _ (by omega) kw1_59 kn1_60 M1_61 mw1_62 z none (z + 1) (by first | exact hR9.2.2.2.1 | exact hkw2) (by first | exact hR9.2.2.2.2.1 | exact hkn2) (by first | exact hR9.2.2.2.2.2 | exact hM2) (by first | exact hs1 | omega) (it_s hBe (by first | exact jus_3 rfl h39 | exact jus_4 rfl h49 | exact jus_3 (decide_eq_true hq9) h39 | exact jus_4 (decide_eq_true hq9) h49 | exact jus_2 (decide_eq_false (Nat.not_lt.mpr hq9)))) (fun v e => by first | (cases e; done) | (cases e; omega) | (have := hBl v e; omega)) (by first | omega | assumption | rfl | (simp only []; omega) | decide) rfl
            ·
              have h39 : KNW (wsh (n, m, sh, 0, ki, op, fa, K, G, T) z) jf = jt := h_68
              refine v_il 101 zC dX5_just_99 0 rfl ?_
              refine v_goto 106 zC dX5_just_101 ?_
              refine v_is (lv2 := [(4, .int (nI z)), (5, .int (nI z)), (3, .int (nI 0)), (0, .ref r0), (1, .int (nI jf)), (2, .int (nI jt))]) 108 zC dX5_just_106 (by rw [hnE]; decide) rfl ?_
              refine v_inc (v := (nI (z + 1))) (lv2 := [(5, .int (nI (z + 1))), (4, .int (nI z)), (3, .int (nI 0)), (0, .ref r0), (1, .int (nI jf)), (2, .int (nI jt))]) 111 zC dX5_just_108 (j := 1) rfl (nI_add _ 1) (by rw [hnE]; decide) rfl ?_
              refine v_goto 51 zC dX5_just_111 ?_
              refine v_lvs (lv2 := [(5, .int (nI (z + 1))), (4, .int (mI (some z))), (3, .int (nI 0)), (0, .ref r0), (1, .int (nI jf)), (2, .int (nI jt))]) [0, 1, 2, 3, 4, 5] rfl ?_
              exact ih51 _ (by omega) kw1_59 kn1_60 M1_61 mw1_62 z (some z) (z + 1) (by first | exact hR9.2.2.2.1 | exact hkw2) (by first | exact hR9.2.2.2.2.1 | exact hkn2) (by first | exact hR9.2.2.2.2.2 | exact hM2) (by first | exact hs1 | omega) (it_s hBe (by first | exact jus_3 rfl h39 | exact jus_4 rfl h49 | exact jus_3 (decide_eq_true hq9) h39 | exact jus_4 (decide_eq_true hq9) h49 | exact jus_2 (decide_eq_false (Nat.not_lt.mpr hq9)))) (fun v e => by first | (cases e; done) | (cases e; omega) | (have := hBl v e; omega)) (by first | omega | assumption | rfl | (simp only []; omega) | decide) rfl
          ·
            obtain ⟨b, he_b⟩ := Option.isSome_iff_exists.mp h_50
            subst he_b
            have hb9 := hBl _ rfl
            refine v_il 69 zC dX5_just_67 0 rfl ?_
            refine v_cS (As := [.int (nI z)]) (st := []) 72 [] zC dX5_just_69 hA (c_X5_onesOf (ev_l E) (ev_D E) cI (x := z) (hx := (by omega))) cf_X5_onesOf lk_X5_120 rfl rfl rfl (by decide +kernel) (Nat.le_of_ble_eq_true rfl) (fun rv_69 wv_70 hp_71 hm_72 => ?_)
            clear hm_72
            obtain ⟨rfl, rfl⟩ := hp_71
            show VV E 0 0 72 [(5, .int (nI z)), (4, .int (nI b)), (3, .int (nI 0)), (0, .ref r0), (1, .int (nI jf)), (2, .int (nI jt))] [.int (nI (pcn z))] [(r0, .inr (5, [.int (nI n), .ref k1, .ref k2, .ref k3, .ref k4, .int (nI m), .ref k6, .ref k7, .ref k8, .int (nI 0), .ref k10, .int (nI 0), .ref k12, .ref k13, .ref k14, .ref k15, .ref k16, .int (nI ls), .int (nI ap), .int (bz bd), .int (nI sq), .ref k21, .ref k22, .ref k23, .ref k24, .ref k25, .int (bz pd), .int (nI 48), .int (bz true), .ref k24, .ref k30, .ref k31, .int (nI tz), .ref k33, .int (nI rs), .int sd])), (k1, .inl (cI, 7, .inl (nIf ki))), (k2, .inl (cI, 7, .inl (nIf op))), (k3, .inl (cI, 7, .inl (nIf (shF s1)))), (k4, .inl (cI, 7, .inl (nIf fa))), (k6, .inl (cI, 6, .inl (nIf K))), (k7, .inl (cI, 6, .inl (nIf G))), (k8, .inl (cI, 6, .inl (nIf T))), (k12, .inl (cI, 7, .inl (nIf kw2))), (k13, .inl (cI, 175, .inl (nIf kn2))), (k14, .inl (cI, 144, .inl (mIf M2))), (k15, .inl (cI, 7, .inl (nIf mw2))), (k24, .inl (cI, 48, .inl (nIf kp1_43))), (k10, .inl (cI, 7, .inl (nIf R)))]
            refine v_il 74 zC dX5_just_72 1 rfl ?_
            refine v_cS (As := [.int (nI b)]) (st := [.int (nI (pcn z))]) 77 [] zC dX5_just_74 hA (c_X5_onesOf (ev_l E) (ev_D E) cI (x := b) (hx := (by omega))) cf_X5_onesOf lk_X5_120 rfl rfl rfl (by decide +kernel) (Nat.le_of_ble_eq_true rfl) (fun rv_73 wv_74 hp_75 hm_76 => ?_)
            clear hm_76
            obtain ⟨rfl, rfl⟩ := hp_75
            show VV E 0 0 77 [(5, .int (nI z)), (4, .int (nI b)), (3, .int (nI 0)), (0, .ref r0), (1, .int (nI jf)), (2, .int (nI jt))] [.int (nI (pcn b)), .int (nI (pcn z))] [(r0, .inr (5, [.int (nI n), .ref k1, .ref k2, .ref k3, .ref k4, .int (nI m), .ref k6, .ref k7, .ref k8, .int (nI 0), .ref k10, .int (nI 0), .ref k12, .ref k13, .ref k14, .ref k15, .ref k16, .int (nI ls), .int (nI ap), .int (bz bd), .int (nI sq), .ref k21, .ref k22, .ref k23, .ref k24, .ref k25, .int (bz pd), .int (nI 48), .int (bz true), .ref k24, .ref k30, .ref k31, .int (nI tz), .ref k33, .int (nI rs), .int sd])), (k1, .inl (cI, 7, .inl (nIf ki))), (k2, .inl (cI, 7, .inl (nIf op))), (k3, .inl (cI, 7, .inl (nIf (shF s1)))), (k4, .inl (cI, 7, .inl (nIf fa))), (k6, .inl (cI, 6, .inl (nIf K))), (k7, .inl (cI, 6, .inl (nIf G))), (k8, .inl (cI, 6, .inl (nIf T))), (k12, .inl (cI, 7, .inl (nIf kw2))), (k13, .inl (cI, 175, .inl (nIf kn2))), (k14, .inl (cI, 144, .inl (mIf M2))), (k15, .inl (cI, 7, .inl (nIf mw2))), (k24, .inl (cI, 48, .inl (nIf kp1_43))), (k10, .inl (cI, 7, .inl (nIf R)))]
            have hp8 := pcn_k n z (by omega)
            have hp7 := pcn_k n b (by omega)
            refine v_icmpn_ge 108 80 zC dX5_just_77 (fun h_77 => ?_) (fun h_77 => ?_)
            ·
              have hq9 := h_77
              refine v_inc (v := (nI (z + 1))) (lv2 := [(5, .int (nI (z + 1))), (4, .int (nI b)), (3, .int (nI 0)), (0, .ref r0), (1, .int (nI jf)), (2, .int (nI jt))]) 111 zC dX5_just_108 (j := 0) rfl (nI_add _ 1) (by rw [hnE]; decide) rfl ?_
              refine v_goto 51 zC dX5_just_111 ?_
              refine v_lvs (lv2 := [(5, .int (nI (z + 1))), (4, .int (mI (some b))), (3, .int (nI 0)), (0, .ref r0), (1, .int (nI jf)), (2, .int (nI jt))]) [0, 1, 2, 3, 4, 5] rfl ?_
              exact ih51 _ (by omega) kw2 kn2 M2 mw2 s1 (some b) (z + 1) (by first | exact hR9.2.2.2.1 | exact hkw2) (by first | exact hR9.2.2.2.2.1 | exact hkn2) (by first | exact hR9.2.2.2.2.2 | exact hM2) (by first | exact hs1 | omega) (it_s hBe (by first | exact jus_3 rfl h39 | exact jus_4 rfl h49 | exact jus_3 (decide_eq_true hq9) h39 | exact jus_4 (decide_eq_true hq9) h49 | exact jus_2 (decide_eq_false (Nat.not_lt.mpr hq9)))) (fun v e => by first | (cases e; done) | (cases e; omega) | (have := hBl v e; omega)) (by first | omega | assumption | rfl | (simp only []; omega) | decide) rfl
            ·
              have hq9 := h_77
              refine v_al_n 81 zC dX5_just_80 3 rfl ?_
              refine v_il 83 zC dX5_just_81 0 rfl ?_
              refine v_cV (As := [.int (nI z)]) (st := []) 86 0 [0, 3] zC dX5_just_83 hA (c_X5_shutAll (ev_l E) (ev_D E) cI (r0 := r0) (k1 := k1) (k2 := k2) (k3 := k3) (k4 := k4) (k6 := k6) (k7 := k7) (k8 := k8) (k10 := k10) (k12 := k12) (k13 := k13) (k14 := k14) (k15 := k15) (k16 := k16) (k21 := k21) (k22 := k22) (k23 := k23) (k24 := k24) (k25 := k25) (k30 := k30) (k31 := k31) (k33 := k33) (n := n) (m := m) (aw := 0) (ls := ls) (ap := ap) (sq := sq) (pl := 48) (tz := tz) (rs := rs) (bd := bd) (pd := pd) (tk := true) (kv := (.ref k24 : Value)) (sd := sd) (sh := s1) (s := z) (hn := (by first | omega | assumption | rfl | (simp only []; omega) | decide)) (hs := (by omega)) (hsh := hs1)) cf_X5_shutAll lk_X5_257 rfl rfl rfl rfl rfl (by decide +kernel) (Nat.le_of_ble_eq_true rfl) (fun rv_78 wv_79 hp_80 hm_81 => ?_)
              clear hm_81
              obtain ⟨rfl, rfl⟩ := hp_80
              show VV E 0 0 86 [(5, .int (nI z)), (4, .int (nI b)), (3, .int (nI 0)), (0, .ref r0), (1, .int (nI jf)), (2, .int (nI jt))] [] [(r0, .inr (5, [.int (nI n), .ref k1, .ref k2, .ref k3, .ref k4, .int (nI m), .ref k6, .ref k7, .ref k8, .int (nI 0), .ref k10, .int (nI 0), .ref k12, .ref k13, .ref k14, .ref k15, .ref k16, .int (nI ls), .int (nI ap), .int (bz bd), .int (nI sq), .ref k21, .ref k22, .ref k23, .ref k24, .ref k25, .int (bz pd), .int (nI 48), .int (bz true), .ref k24, .ref k30, .ref k31, .int (nI tz), .ref k33, .int (nI rs), .int sd])), (k1, .inl (cI, 7, .inl (nIf ki))), (k2, .inl (cI, 7, .inl (nIf op))), (k3, .inl (cI, 7, .inl (nIf (shF z)))), (k4, .inl (cI, 7, .inl (nIf fa))), (k6, .inl (cI, 6, .inl (nIf K))), (k7, .inl (cI, 6, .inl (nIf G))), (k8, .inl (cI, 6, .inl (nIf T))), (k12, .inl (cI, 7, .inl (nIf kw2))), (k13, .inl (cI, 175, .inl (nIf kn2))), (k14, .inl (cI, 144, .inl (mIf M2))), (k15, .inl (cI, 7, .inl (nIf mw2))), (k24, .inl (cI, 48, .inl (nIf kp1_43))), (k10, .inl (cI, 7, .inl (nIf R)))]
              refine v_al_n 87 zC dX5_just_86 3 rfl ?_
              refine v_cV (As := []) (st := []) 90 0 [0, 1, 2, 3, 4, 5, 6, 7, 8, 9, 10, 11] zC dX5_just_87 hA (c_X5_day (ev_l E) (ev_D E) cI (r0 := r0) (k1 := k1) (k2 := k2) (k3 := k3) (k4 := k4) (k6 := k6) (k7 := k7) (k8 := k8) (k10 := k10) (k12 := k12) (k13 := k13) (k14 := k14) (k15 := k15) (k16 := k16) (k21 := k21) (k22 := k22) (k23 := k23) (k24 := k24) (k25 := k25) (k30 := k30) (k31 := k31) (k33 := k33) (n := n) (m := m) (aw := 0) (ls := ls) (ap := ap) (sq := sq) (pl := 48) (tz := tz) (rs := rs) (bd := bd) (pd := pd) (tk := true) (kv := (.ref k24 : Value)) (sd := sd) (ki := ki) (op := op) (fa := fa) (K := K) (G := G) (T := T) (sh := z) (kw := kw2) (kn := kn2) (M := M2) (mw := mw2) (hw := ⟨hn, hm, (by omega), hki, hop, hfa, hK, hG, hT, vki, vop, vfa, vK, vG, vT⟩) (hkw := hkw2) (hkn := hkn2) (hM := hM2)) cf_X5_day lk_X5_123 rfl rfl rfl rfl rfl (by decide +kernel) (Nat.le_of_ble_eq_true rfl) (fun rv_82 wv_83 hp_84 hm_85 => ?_)
              clear hm_85
              obtain ⟨kw1_86, kn1_87, M1_88, mw1_89, hR_90, rfl, rfl⟩ := hp_84
              show VV E 0 0 90 [(5, .int (nI z)), (4, .int (nI b)), (3, .int (nI 0)), (0, .ref r0), (1, .int (nI jf)), (2, .int (nI jt))] [] [(r0, .inr (5, [.int (nI n), .ref k1, .ref k2, .ref k3, .ref k4, .int (nI m), .ref k6, .ref k7, .ref k8, .int (nI 0), .ref k10, .int (nI 0), .ref k12, .ref k13, .ref k14, .ref k15, .ref k16, .int (nI ls), .int (nI ap), .int (bz bd), .int (nI sq), .ref k21, .ref k22, .ref k23, .ref k24, .ref k25, .int (bz pd), .int (nI 48), .int (bz true), .ref k24, .ref k30, .ref k31, .int (nI tz), .ref k33, .int (nI rs), .int sd])), (k1, .inl (cI, 7, .inl (nIf ki))), (k2, .inl (cI, 7, .inl (nIf op))), (k3, .inl (cI, 7, .inl (nIf (shF z)))), (k4, .inl (cI, 7, .inl (nIf fa))), (k6, .inl (cI, 6, .inl (nIf K))), (k7, .inl (cI, 6, .inl (nIf G))), (k8, .inl (cI, 6, .inl (nIf T))), (k12, .inl (cI, 7, .inl (nIf kw1_86))), (k13, .inl (cI, 175, .inl (nIf kn1_87))), (k14, .inl (cI, 144, .inl (mIf M1_88))), (k15, .inl (cI, 7, .inl (nIf mw1_89))), (k24, .inl (cI, 48, .inl (nIf kp1_43))), (k10, .inl (cI, 7, .inl (nIf R)))]
              have hR9 := hR_90
              refine v_al_n 91 zC dX5_just_90 3 rfl ?_
              refine v_il_n 92 zC dX5_just_91 4 rfl ?_
              refine v_cV (As := [.int (nI jf)]) (st := []) 95 0 [0, 8] zC dX5_just_92 hA (c_X5_knowing (ev_l E) (ev_D E) cI (r0 := r0) (k1 := k1) (k2 := k2) (k3 := k3) (k4 := k4) (k6 := k6) (k7 := k7) (k8 := k8) (k10 := k10) (k12 := k12) (k13 := k13) (k14 := k14) (k15 := k15) (k16 := k16) (k21 := k21) (k22 := k22) (k23 := k23) (k24 := k24) (k25 := k25) (k30 := k30) (k31 := k31) (k33 := k33) (n := n) (m := m) (aw := 0) (ls := ls) (ap := ap) (sq := sq) (pl := 48) (tz := tz) (rs := rs) (bd := bd) (pd := pd) (tk := true) (kv := (.ref k24 : Value)) (sd := sd) (ki := ki) (op := op) (fa := fa) (K := K) (G := G) (T := T) (sh := z) (kw := kw1_86) (kn := kn1_87) (M := M1_88) (f := jf) (hn := (by first | omega | assumption | rfl | (simp only []; omega) | decide)) (hm := (by first | omega | assumption | rfl | (simp only []; omega) | decide)) (hR := hR9) (hf := (by first | omega | assumption | rfl | (simp only []; omega) | decide))) cf_X5_knowing lk_X5_242 rfl rfl rfl rfl rfl (by decide +kernel) (Nat.le_of_ble_eq_true rfl) (fun rv_91 wv_92 hp_93 hm_94 => ?_)
              clear hm_94
              obtain ⟨rfl, rfl⟩ := hp_93
              show VV E 0 0 95 [(5, .int (nI z)), (4, .int (nI b)), (3, .int (nI 0)), (0, .ref r0), (1, .int (nI jf)), (2, .int (nI jt))] [.int (nI (KNW (n, m, z, 0, ki, op, fa, K, G, T) jf))] [(r0, .inr (5, [.int (nI n), .ref k1, .ref k2, .ref k3, .ref k4, .int (nI m), .ref k6, .ref k7, .ref k8, .int (nI 0), .ref k10, .int (nI 0), .ref k12, .ref k13, .ref k14, .ref k15, .ref k16, .int (nI ls), .int (nI ap), .int (bz bd), .int (nI sq), .ref k21, .ref k22, .ref k23, .ref k24, .ref k25, .int (bz pd), .int (nI 48), .int (bz true), .ref k24, .ref k30, .ref k31, .int (nI tz), .ref k33, .int (nI rs), .int sd])), (k1, .inl (cI, 7, .inl (nIf ki))), (k2, .inl (cI, 7, .inl (nIf op))), (k3, .inl (cI, 7, .inl (nIf (shF z)))), (k4, .inl (cI, 7, .inl (nIf fa))), (k6, .inl (cI, 6, .inl (nIf K))), (k7, .inl (cI, 6, .inl (nIf G))), (k8, .inl (cI, 6, .inl (nIf T))), (k12, .inl (cI, 7, .inl (nIf kw1_86))), (k13, .inl (cI, 175, .inl (nIf kn1_87))), (k14, .inl (cI, 144, .inl (mIf M1_88))), (k15, .inl (cI, 7, .inl (nIf mw1_89))), (k24, .inl (cI, 48, .inl (nIf kp1_43))), (k10, .inl (cI, 7, .inl (nIf R)))]
              refine v_il_n 96 zC dX5_just_95 5 rfl ?_
              have hk9 : KNW (n, m, z, 0, ki, op, fa, K, G, T) jf < 2 ^ 7 := mkn_7 _ hn
              refine v_icmpn_ne 104 99 zC dX5_just_96 (fun h_95 => ?_) (fun h_95 => ?_)
              ·
                have h49 : KNW (wsh (n, m, sh, 0, ki, op, fa, K, G, T) z) jf ≠ jt := h_95
                refine v_il 106 zC dX5_just_104 1 rfl ?_
                refine v_is (lv2 := [(4, .int (nI b)), (5, .int (nI z)), (3, .int (nI 0)), (0, .ref r0), (1, .int (nI jf)), (2, .int (nI jt))]) 108 zC dX5_just_106 (by rw [hnE]; decide) rfl ?_
                refine v_inc (v := (nI (z + 1))) (lv2 := [(5, .int (nI (z + 1))), (4, .int (nI b)), (3, .int (nI 0)), (0, .ref r0), (1, .int (nI jf)), (2, .int (nI jt))]) 111 zC dX5_just_108 (j := 1) rfl (nI_add _ 1) (by rw [hnE]; decide) rfl ?_
                refine v_goto 51 zC dX5_just_111 ?_
                refine v_lvs (lv2 := [(5, .int (nI (z + 1))), (4, .int (mI (some b))), (3, .int (nI 0)), (0, .ref r0), (1, .int (nI jf)), (2, .int (nI jt))]) [0, 1, 2, 3, 4, 5] rfl ?_
                exact ih51 _ (by omega) kw1_86 kn1_87 M1_88 mw1_89 z (some b) (z + 1) (by first | exact hR9.2.2.2.1 | exact hkw2) (by first | exact hR9.2.2.2.2.1 | exact hkn2) (by first | exact hR9.2.2.2.2.2 | exact hM2) (by first | exact hs1 | omega) (it_s hBe (by first | exact jus_3 rfl h39 | exact jus_4 rfl h49 | exact jus_3 (decide_eq_true hq9) h39 | exact jus_4 (decide_eq_true hq9) h49 | exact jus_2 (decide_eq_false (Nat.not_lt.mpr hq9)))) (fun v e => by first | (cases e; done) | (cases e; omega) | (have := hBl v e; omega)) (by first | omega | assumption | rfl | (simp only []; omega) | decide) rfl
              ·
                have h39 : KNW (wsh (n, m, sh, 0, ki, op, fa, K, G, T) z) jf = jt := h_95
                refine v_il 101 zC dX5_just_99 0 rfl ?_
                refine v_goto 106 zC dX5_just_101 ?_
                refine v_is (lv2 := [(4, .int (nI z)), (5, .int (nI z)), (3, .int (nI 0)), (0, .ref r0), (1, .int (nI jf)), (2, .int (nI jt))]) 108 zC dX5_just_106 (by rw [hnE]; decide) rfl ?_
                refine v_inc (v := (nI (z + 1))) (lv2 := [(5, .int (nI (z + 1))), (4, .int (nI z)), (3, .int (nI 0)), (0, .ref r0), (1, .int (nI jf)), (2, .int (nI jt))]) 111 zC dX5_just_108 (j := 1) rfl (nI_add _ 1) (by rw [hnE]; decide) rfl ?_
                refine v_goto 51 zC dX5_just_111 ?_
                refine v_lvs (lv2 := [(5, .int (nI (z + 1))), (4, .int (mI (some z))), (3, .int (nI 0)), (0, .ref r0), (1, .int (nI jf)), (2, .int (nI jt))]) [0, 1, 2, 3, 4, 5] rfl ?_
                exact ih51 _ (by omega) kw1_86 kn1_87 M1_88 mw1_89 z (some z) (z + 1) (by first | exact hR9.2.2.2.1 | exact hkw2) (by first | exact hR9.2.2.2.2.1 | exact hkn2) (by first | exact hR9.2.2.2.2.2 | exact hM2) (by first | exact hs1 | omega) (it_s hBe (by first | exact jus_3 rfl h39 | exact jus_4 rfl h49 | exact jus_3 (decide_eq_true hq9) h39 | exact jus_4 (decide_eq_true hq9) h49 | exact jus_2 (decide_eq_false (Nat.not_lt.mpr hq9)))) (fun v e => by first | (cases e; done) | (cases e; omega) | (have := hBl v e; omega)) (by first | omega | assumption | rfl | (simp only []; omega) | decide) rfl
      refine v_lvs (lv2 := [(5, .int (nI 0)), (4, .int (mI none)), (3, .int (nI 0)), (0, .ref r0), (1, .int (nI jf)), (2, .int (nI jt))]) [0, 1, 2, 3, 4, 5] rfl ?_
      exact lp51 _ kw kn M mw sh none 0 (by first | exact hR9.2.2.2.1 | exact hkw) (by first | exact hR9.2.2.2.2.1 | exact hkn) (by first | exact hR9.2.2.2.2.2 | exact hM) hsh rfl (fun v e => by cases e) (Nat.zero_le _) rfl
set_option maxRecDepth 100000 in
set_option maxHeartbeats 4000000 in
theorem c_X5_soonest (l : Launch) (D : va_G) (cI : ClassId) (r0 k1 k2 k3 k4 k6 k7 k8 k10 k12 k13 k14 k15 k16 k21 k22 k23 k24 k25 k30 k31 k33 : Nat) (n m ls ap sq pl tz rs : Nat) (bd pd tk : Bool) (kv : Value) (sd : Int32) (ki op fa K G T : Nat → Nat) (sh : Nat) (kw kn : Nat → Nat) (M : Nat → Option Nat) (mw : Nat → Nat) (kp R : Nat → Nat) (p9 f : Int32) (hw : FW n m sh ki op fa K G T) (hkw : ∀ z, kw z < 1024) (hkn : ∀ z, kn z < 1024) (hM : ∀ z v, M z = some v → v < 7) : CT l yX5_soonest cX5_soonest 7 (some .int) { frames := 6, cells := 0, slots := 0, locals := 138 } D cI [.ref r0, .int p9, .int f] [(r0, .inr (5, [.int (nI n), .ref k1, .ref k2, .ref k3, .ref k4, .int (nI m), .ref k6, .ref k7, .ref k8, .int (nI 0), .ref k10, .int (nI 0), .ref k12, .ref k13, .ref k14, .ref k15, .ref k16, .int (nI ls), .int (nI ap), .int (bz bd), .int (nI sq), .ref k21, .ref k22, .ref k23, .ref k24, .ref k25, .int (bz pd), .int (nI pl), .int (bz tk), kv, .ref k30, .ref k31, .int (nI tz), .ref k33, .int (nI rs), .int sd])), (k1, .inl (cI, 7, .inl (nIf ki))), (k2, .inl (cI, 7, .inl (nIf op))), (k3, .inl (cI, 7, .inl (nIf (shF sh)))), (k4, .inl (cI, 7, .inl (nIf fa))), (k6, .inl (cI, 6, .inl (nIf K))), (k7, .inl (cI, 6, .inl (nIf G))), (k8, .inl (cI, 6, .inl (nIf T))), (k12, .inl (cI, 7, .inl (nIf kw))), (k13, .inl (cI, 175, .inl (nIf kn))), (k14, .inl (cI, 144, .inl (mIf M))), (k15, .inl (cI, 7, .inl (nIf mw))), (k24, .inl (cI, 48, .inl (nIf kp))), (k10, .inl (cI, 7, .inl (nIf R)))] (fun zr zw => (∃ kw1 : Nat → Nat, ∃ kn1 : Nat → Nat, ∃ M1 : Nat → Option Nat, ∃ mw1 : Nat → Nat, ∃ kp1 : Nat → Nat, ∃ pl1 : Nat, ∃ tk1 : Bool, ∃ kv1 : Value, ∃ rc : Nat, ∃ rv : Int32, (q_soonest (n, m, sh, 0, ki, op, fa, K, G, T) p9 f = (rc, rv)) ∧ (∀ z, kw1 z < 1024) ∧ (∀ z, kn1 z < 1024) ∧ (∀ z v, M1 z = some v → v < 7) ∧ zr = some (.int rv) ∧ zw = [(r0, .inr (5, [.int (nI n), .ref k1, .ref k2, .ref k3, .ref k4, .int (nI m), .ref k6, .ref k7, .ref k8, .int (nI 0), .ref k10, .int (nI 0), .ref k12, .ref k13, .ref k14, .ref k15, .ref k16, .int (nI ls), .int (nI ap), .int (bz bd), .int (nI sq), .ref k21, .ref k22, .ref k23, .ref k24, .ref k25, .int (bz pd), .int (nI pl1), .int (bz tk1), kv1, .ref k30, .ref k31, .int (nI tz), .ref k33, .int (nI rs), .int sd])), (k1, .inl (cI, 7, .inl (nIf ki))), (k2, .inl (cI, 7, .inl (nIf op))), (k3, .inl (cI, 7, .inl (nIf (shF sh)))), (k4, .inl (cI, 7, .inl (nIf fa))), (k6, .inl (cI, 6, .inl (nIf K))), (k7, .inl (cI, 6, .inl (nIf G))), (k8, .inl (cI, 6, .inl (nIf T))), (k12, .inl (cI, 7, .inl (nIf kw1))), (k13, .inl (cI, 175, .inl (nIf kn1))), (k14, .inl (cI, 144, .inl (mIf M1))), (k15, .inl (cI, 7, .inl (nIf mw1))), (k24, .inl (cI, 48, .inl (nIf kp1))), (k10, .inl (cI, 7, .inl (nIf (rf R rc))))])) := by
  refine CT_of RX5 rfl (by decide +kernel) (Nat.le_of_ble_eq_true rfl) (fun E hnE zC zT => ?_)
  have hA : ∀ q, (ev_s E).heap.size ≤ q → ev_A E q := fun q h => by rw [zT.2]; exact Or.inr h
  obtain ⟨hn, hm, hsh, hki, hop, hfa, hK, hG, hT, vki, vop, vfa, vK, vG, vT⟩ := id hw
  have h2n : 2 ^ n ≤ 2 ^ 7 := Nat.pow_le_pow_right (by decide) hn
  show VV E 0 0 0 [(0, .ref r0), (1, .int p9), (2, .int f)] [] [(r0, .inr (5, [.int (nI n), .ref k1, .ref k2, .ref k3, .ref k4, .int (nI m), .ref k6, .ref k7, .ref k8, .int (nI 0), .ref k10, .int (nI 0), .ref k12, .ref k13, .ref k14, .ref k15, .ref k16, .int (nI ls), .int (nI ap), .int (bz bd), .int (nI sq), .ref k21, .ref k22, .ref k23, .ref k24, .ref k25, .int (bz pd), .int (nI pl), .int (bz tk), kv, .ref k30, .ref k31, .int (nI tz), .ref k33, .int (nI rs), .int sd])), (k1, .inl (cI, 7, .inl (nIf ki))), (k2, .inl (cI, 7, .inl (nIf op))), (k3, .inl (cI, 7, .inl (nIf (shF sh)))), (k4, .inl (cI, 7, .inl (nIf fa))), (k6, .inl (cI, 6, .inl (nIf K))), (k7, .inl (cI, 6, .inl (nIf G))), (k8, .inl (cI, 6, .inl (nIf T))), (k12, .inl (cI, 7, .inl (nIf kw))), (k13, .inl (cI, 175, .inl (nIf kn))), (k14, .inl (cI, 144, .inl (mIf M))), (k15, .inl (cI, 7, .inl (nIf mw))), (k24, .inl (cI, 48, .inl (nIf kp))), (k10, .inl (cI, 7, .inl (nIf R)))]
  refine v_al_n 1 zC dX5_soonest_0 0 rfl ?_
  refine v_ic (v := (nI 0)) 2 zC dX5_soonest_1 (by decide +kernel) ?_
  refine v_pf (ws2 := [(r0, .inr (5, [.int (nI n), .ref k1, .ref k2, .ref k3, .ref k4, .int (nI m), .ref k6, .ref k7, .ref k8, .int (nI 0), .ref k10, .int (nI 0), .ref k12, .ref k13, .ref k14, .ref k15, .ref k16, .int (nI ls), .int (nI ap), .int (bz bd), .int (nI sq), .ref k21, .ref k22, .ref k23, .ref k24, .ref k25, .int (bz pd), .int (nI pl), .int (bz tk), kv, .ref k30, .ref k31, .int (nI tz), .ref k33, .int (nI rs), .int sd])), (k1, .inl (cI, 7, .inl (nIf ki))), (k2, .inl (cI, 7, .inl (nIf op))), (k3, .inl (cI, 7, .inl (nIf (shF sh)))), (k4, .inl (cI, 7, .inl (nIf fa))), (k6, .inl (cI, 6, .inl (nIf K))), (k7, .inl (cI, 6, .inl (nIf G))), (k8, .inl (cI, 6, .inl (nIf T))), (k12, .inl (cI, 7, .inl (nIf kw))), (k13, .inl (cI, 175, .inl (nIf kn))), (k14, .inl (cI, 144, .inl (mIf M))), (k15, .inl (cI, 7, .inl (nIf mw))), (k24, .inl (cI, 48, .inl (nIf kp))), (k10, .inl (cI, 7, .inl (nIf R)))]) 5 0 zC dX5_soonest_2 pf_X5_73 rfl (Nat.le_of_ble_eq_true rfl) rfl rfl rfl ?_
  refine v_al_n 6 zC dX5_soonest_5 0 rfl ?_
  refine v_il_n 7 zC dX5_soonest_6 1 rfl ?_
  refine v_cV (As := [.int p9]) (st := []) 10 0 [0] zC dX5_soonest_7 hA (c_X5_isOne (ev_l E) (ev_D E) cI (r0 := r0) (k1 := k1) (k2 := k2) (k3 := k3) (k4 := k4) (k6 := k6) (k7 := k7) (k8 := k8) (k10 := k10) (k12 := k12) (k13 := k13) (k14 := k14) (k15 := k15) (k16 := k16) (k21 := k21) (k22 := k22) (k23 := k23) (k24 := k24) (k25 := k25) (k30 := k30) (k31 := k31) (k33 := k33) (n := n) (m := m) (aw := 0) (ls := ls) (ap := ap) (sq := sq) (pl := pl) (tz := tz) (rs := rs) (bd := bd) (pd := pd) (tk := tk) (kv := kv) (sd := sd) (p := p9) (hn := (by first | omega | assumption | rfl | (simp only []; omega) | decide))) cf_X5_isOne lk_X5_164 rfl rfl rfl rfl rfl (by decide +kernel) (Nat.le_of_ble_eq_true rfl) (fun rv_1 wv_2 hp_3 hm_4 => ?_)
  clear hm_4
  rcases hp_3 with ⟨hi_5, rfl, rfl⟩ | ⟨j_6, he_7, hi_8, hj_9, rfl, rfl⟩
  ·
    show VV E 0 0 10 [(0, .ref r0), (1, .int p9), (2, .int f)] [.int (nI 0)] [(r0, .inr (5, [.int (nI n), .ref k1, .ref k2, .ref k3, .ref k4, .int (nI m), .ref k6, .ref k7, .ref k8, .int (nI 0), .ref k10, .int (nI 0), .ref k12, .ref k13, .ref k14, .ref k15, .ref k16, .int (nI ls), .int (nI ap), .int (bz bd), .int (nI sq), .ref k21, .ref k22, .ref k23, .ref k24, .ref k25, .int (bz pd), .int (nI pl), .int (bz tk), kv, .ref k30, .ref k31, .int (nI tz), .ref k33, .int (nI rs), .int sd])), (k1, .inl (cI, 7, .inl (nIf ki))), (k2, .inl (cI, 7, .inl (nIf op))), (k3, .inl (cI, 7, .inl (nIf (shF sh)))), (k4, .inl (cI, 7, .inl (nIf fa))), (k6, .inl (cI, 6, .inl (nIf K))), (k7, .inl (cI, 6, .inl (nIf G))), (k8, .inl (cI, 6, .inl (nIf T))), (k12, .inl (cI, 7, .inl (nIf kw))), (k13, .inl (cI, 175, .inl (nIf kn))), (k14, .inl (cI, 144, .inl (mIf M))), (k15, .inl (cI, 7, .inl (nIf mw))), (k24, .inl (cI, 48, .inl (nIf kp))), (k10, .inl (cI, 7, .inl (nIf R)))]
    have hn_p9 := hi_5
    refine v_if_eq 20 13 zC dX5_soonest_10 (fun _ => ?_) (fun z => absurd (by decide +kernel) z)
    refine v_al_n 21 zC dX5_soonest_20 0 rfl ?_
    refine v_ic (v := (-1)) 22 zC dX5_soonest_21 (by decide +kernel) ?_
    refine v_cV (As := [.int (-1)]) (st := []) 25 0 [0, 13] zC dX5_soonest_22 hA (c_X5_refuse (ev_l E) (ev_D E) cI (r0 := r0) (k1 := k1) (k2 := k2) (k3 := k3) (k4 := k4) (k6 := k6) (k7 := k7) (k8 := k8) (k10 := k10) (k12 := k12) (k13 := k13) (k14 := k14) (k15 := k15) (k16 := k16) (k21 := k21) (k22 := k22) (k23 := k23) (k24 := k24) (k25 := k25) (k30 := k30) (k31 := k31) (k33 := k33) (n := n) (m := m) (aw := 0) (ls := ls) (ap := ap) (sq := sq) (pl := pl) (tz := tz) (rs := rs) (bd := bd) (pd := pd) (tk := tk) (kv := kv) (sd := sd) (R := R) (v := (-1)) (j := 1) (hv := (by first | omega | assumption | rfl | (simp only []; omega) | decide)) (h1 := (by first | omega | assumption | rfl | (simp only []; omega) | decide)) (h6 := (by first | omega | assumption | rfl | (simp only []; omega) | decide))) cf_X5_refuse lk_X5_129 rfl rfl rfl rfl rfl (by decide +kernel) (Nat.le_of_ble_eq_true rfl) (fun rv_11 wv_12 hp_13 hm_14 => ?_)
    clear hm_14
    obtain ⟨rfl, rfl⟩ := hp_13
    show VV E 0 0 25 [(0, .ref r0), (1, .int p9), (2, .int f)] [.int (-1)] [(r0, .inr (5, [.int (nI n), .ref k1, .ref k2, .ref k3, .ref k4, .int (nI m), .ref k6, .ref k7, .ref k8, .int (nI 0), .ref k10, .int (nI 0), .ref k12, .ref k13, .ref k14, .ref k15, .ref k16, .int (nI ls), .int (nI ap), .int (bz bd), .int (nI sq), .ref k21, .ref k22, .ref k23, .ref k24, .ref k25, .int (bz pd), .int (nI pl), .int (bz tk), kv, .ref k30, .ref k31, .int (nI tz), .ref k33, .int (nI rs), .int sd])), (k1, .inl (cI, 7, .inl (nIf ki))), (k2, .inl (cI, 7, .inl (nIf op))), (k3, .inl (cI, 7, .inl (nIf (shF sh)))), (k4, .inl (cI, 7, .inl (nIf fa))), (k6, .inl (cI, 6, .inl (nIf K))), (k7, .inl (cI, 6, .inl (nIf G))), (k8, .inl (cI, 6, .inl (nIf T))), (k12, .inl (cI, 7, .inl (nIf kw))), (k13, .inl (cI, 175, .inl (nIf kn))), (k14, .inl (cI, 144, .inl (mIf M))), (k15, .inl (cI, 7, .inl (nIf mw))), (k24, .inl (cI, 48, .inl (nIf kp))), (k10, .inl (cI, 7, .inl (nIf (un R 1 (R 1 + 1)))))]
    refine v_iret zC zT dX5_soonest_25  ?_
    first | (have g9 := hn_p9; exact ⟨kw, kn, M, mw, kp, pl, tk, kv, 1, _, by unfold q_soonest; rw [hn_p9], hkw, hkn, hM, rfl, rfl⟩) | (have g9 := hn_f; exact ⟨kw, kn, M, mw, kp, pl, tk, kv, 1, _, by unfold q_soonest; rw [hi_p9]; dsimp only; rw [hn_f], hkw, hkn, hM, rfl, rfl⟩) | exact ⟨_, _, _, _, _, _, _, _, 0, _, by unfold q_soonest; rw [hi_p9]; dsimp only; rw [hi_f]; dsimp only; obtain ⟨x9, hx9, _⟩ := hS; rw [show g_n (n, m, sh, 0, ki, op, fa, K, G, T) = p from (by show n = p; omega), ← hx9], hkw2, hkn2, hM2, rfl, rfl⟩
  ·
    show VV E 0 0 10 [(0, .ref r0), (1, .int p9), (2, .int f)] [.int (nI 1)] [(r0, .inr (5, [.int (nI n), .ref k1, .ref k2, .ref k3, .ref k4, .int (nI m), .ref k6, .ref k7, .ref k8, .int (nI 0), .ref k10, .int (nI 0), .ref k12, .ref k13, .ref k14, .ref k15, .ref k16, .int (nI ls), .int (nI ap), .int (bz bd), .int (nI sq), .ref k21, .ref k22, .ref k23, .ref k24, .ref k25, .int (bz pd), .int (nI pl), .int (bz tk), kv, .ref k30, .ref k31, .int (nI tz), .ref k33, .int (nI rs), .int sd])), (k1, .inl (cI, 7, .inl (nIf ki))), (k2, .inl (cI, 7, .inl (nIf op))), (k3, .inl (cI, 7, .inl (nIf (shF sh)))), (k4, .inl (cI, 7, .inl (nIf fa))), (k6, .inl (cI, 6, .inl (nIf K))), (k7, .inl (cI, 6, .inl (nIf G))), (k8, .inl (cI, 6, .inl (nIf T))), (k12, .inl (cI, 7, .inl (nIf kw))), (k13, .inl (cI, 175, .inl (nIf kn))), (k14, .inl (cI, 144, .inl (mIf M))), (k15, .inl (cI, 7, .inl (nIf mw))), (k24, .inl (cI, 48, .inl (nIf kp))), (k10, .inl (cI, 7, .inl (nIf R)))]
    subst he_7
    have hi_p9 := hi_8
    obtain ⟨ju, hx_ju⟩ : ∃ z, z = j_6 := ⟨_, rfl⟩
    subst hx_ju
    refine v_if_eq 20 13 zC dX5_soonest_10 (fun z => absurd z (by decide +kernel)) (fun _ => ?_)
    refine v_il_n 14 zC dX5_soonest_13 2 rfl ?_
    refine v_cS (As := [.int f]) (st := []) 17 [] zC dX5_soonest_14 hA (c_X5_isFact (ev_l E) (ev_D E) cI (p := f) ) cf_X5_isFact lk_X5_225 rfl rfl rfl (by decide +kernel) (Nat.le_of_ble_eq_true rfl) (fun rv_16 wv_17 hp_18 hm_19 => ?_)
    clear hm_19
    rcases hp_18 with ⟨hi_20, rfl, rfl⟩ | ⟨j_21, he_22, hi_23, hj_24, rfl, rfl⟩
    ·
      show VV E 0 0 17 [(0, .ref r0), (1, .int (nI ju)), (2, .int f)] [.int (nI 0)] [(r0, .inr (5, [.int (nI n), .ref k1, .ref k2, .ref k3, .ref k4, .int (nI m), .ref k6, .ref k7, .ref k8, .int (nI 0), .ref k10, .int (nI 0), .ref k12, .ref k13, .ref k14, .ref k15, .ref k16, .int (nI ls), .int (nI ap), .int (bz bd), .int (nI sq), .ref k21, .ref k22, .ref k23, .ref k24, .ref k25, .int (bz pd), .int (nI pl), .int (bz tk), kv, .ref k30, .ref k31, .int (nI tz), .ref k33, .int (nI rs), .int sd])), (k1, .inl (cI, 7, .inl (nIf ki))), (k2, .inl (cI, 7, .inl (nIf op))), (k3, .inl (cI, 7, .inl (nIf (shF sh)))), (k4, .inl (cI, 7, .inl (nIf fa))), (k6, .inl (cI, 6, .inl (nIf K))), (k7, .inl (cI, 6, .inl (nIf G))), (k8, .inl (cI, 6, .inl (nIf T))), (k12, .inl (cI, 7, .inl (nIf kw))), (k13, .inl (cI, 175, .inl (nIf kn))), (k14, .inl (cI, 144, .inl (mIf M))), (k15, .inl (cI, 7, .inl (nIf mw))), (k24, .inl (cI, 48, .inl (nIf kp))), (k10, .inl (cI, 7, .inl (nIf R)))]
      have hn_f := hi_20
      refine v_if_ne 26 20 zC dX5_soonest_17 (fun z => absurd (by decide +kernel) z) (fun _ => ?_)
      refine v_al_n 21 zC dX5_soonest_20 0 rfl ?_
      refine v_ic (v := (-1)) 22 zC dX5_soonest_21 (by decide +kernel) ?_
      refine v_cV (As := [.int (-1)]) (st := []) 25 0 [0, 13] zC dX5_soonest_22 hA (c_X5_refuse (ev_l E) (ev_D E) cI (r0 := r0) (k1 := k1) (k2 := k2) (k3 := k3) (k4 := k4) (k6 := k6) (k7 := k7) (k8 := k8) (k10 := k10) (k12 := k12) (k13 := k13) (k14 := k14) (k15 := k15) (k16 := k16) (k21 := k21) (k22 := k22) (k23 := k23) (k24 := k24) (k25 := k25) (k30 := k30) (k31 := k31) (k33 := k33) (n := n) (m := m) (aw := 0) (ls := ls) (ap := ap) (sq := sq) (pl := pl) (tz := tz) (rs := rs) (bd := bd) (pd := pd) (tk := tk) (kv := kv) (sd := sd) (R := R) (v := (-1)) (j := 1) (hv := (by first | omega | assumption | rfl | (simp only []; omega) | decide)) (h1 := (by first | omega | assumption | rfl | (simp only []; omega) | decide)) (h6 := (by first | omega | assumption | rfl | (simp only []; omega) | decide))) cf_X5_refuse lk_X5_129 rfl rfl rfl rfl rfl (by decide +kernel) (Nat.le_of_ble_eq_true rfl) (fun rv_26 wv_27 hp_28 hm_29 => ?_)
      clear hm_29
      obtain ⟨rfl, rfl⟩ := hp_28
      show VV E 0 0 25 [(0, .ref r0), (1, .int (nI ju)), (2, .int f)] [.int (-1)] [(r0, .inr (5, [.int (nI n), .ref k1, .ref k2, .ref k3, .ref k4, .int (nI m), .ref k6, .ref k7, .ref k8, .int (nI 0), .ref k10, .int (nI 0), .ref k12, .ref k13, .ref k14, .ref k15, .ref k16, .int (nI ls), .int (nI ap), .int (bz bd), .int (nI sq), .ref k21, .ref k22, .ref k23, .ref k24, .ref k25, .int (bz pd), .int (nI pl), .int (bz tk), kv, .ref k30, .ref k31, .int (nI tz), .ref k33, .int (nI rs), .int sd])), (k1, .inl (cI, 7, .inl (nIf ki))), (k2, .inl (cI, 7, .inl (nIf op))), (k3, .inl (cI, 7, .inl (nIf (shF sh)))), (k4, .inl (cI, 7, .inl (nIf fa))), (k6, .inl (cI, 6, .inl (nIf K))), (k7, .inl (cI, 6, .inl (nIf G))), (k8, .inl (cI, 6, .inl (nIf T))), (k12, .inl (cI, 7, .inl (nIf kw))), (k13, .inl (cI, 175, .inl (nIf kn))), (k14, .inl (cI, 144, .inl (mIf M))), (k15, .inl (cI, 7, .inl (nIf mw))), (k24, .inl (cI, 48, .inl (nIf kp))), (k10, .inl (cI, 7, .inl (nIf (un R 1 (R 1 + 1)))))]
      refine v_iret zC zT dX5_soonest_25  ?_
      first | (have g9 := hn_p9; exact ⟨kw, kn, M, mw, kp, pl, tk, kv, 1, _, by unfold q_soonest; rw [hn_p9], hkw, hkn, hM, rfl, rfl⟩) | (have g9 := hn_f; exact ⟨kw, kn, M, mw, kp, pl, tk, kv, 1, _, by unfold q_soonest; rw [hi_p9]; dsimp only; rw [hn_f], hkw, hkn, hM, rfl, rfl⟩) | exact ⟨_, _, _, _, _, _, _, _, 0, _, by unfold q_soonest; rw [hi_p9]; dsimp only; rw [hi_f]; dsimp only; obtain ⟨x9, hx9, _⟩ := hS; rw [show g_n (n, m, sh, 0, ki, op, fa, K, G, T) = p from (by show n = p; omega), ← hx9], hkw2, hkn2, hM2, rfl, rfl⟩
    ·
      show VV E 0 0 17 [(0, .ref r0), (1, .int (nI ju)), (2, .int f)] [.int (nI 1)] [(r0, .inr (5, [.int (nI n), .ref k1, .ref k2, .ref k3, .ref k4, .int (nI m), .ref k6, .ref k7, .ref k8, .int (nI 0), .ref k10, .int (nI 0), .ref k12, .ref k13, .ref k14, .ref k15, .ref k16, .int (nI ls), .int (nI ap), .int (bz bd), .int (nI sq), .ref k21, .ref k22, .ref k23, .ref k24, .ref k25, .int (bz pd), .int (nI pl), .int (bz tk), kv, .ref k30, .ref k31, .int (nI tz), .ref k33, .int (nI rs), .int sd])), (k1, .inl (cI, 7, .inl (nIf ki))), (k2, .inl (cI, 7, .inl (nIf op))), (k3, .inl (cI, 7, .inl (nIf (shF sh)))), (k4, .inl (cI, 7, .inl (nIf fa))), (k6, .inl (cI, 6, .inl (nIf K))), (k7, .inl (cI, 6, .inl (nIf G))), (k8, .inl (cI, 6, .inl (nIf T))), (k12, .inl (cI, 7, .inl (nIf kw))), (k13, .inl (cI, 175, .inl (nIf kn))), (k14, .inl (cI, 144, .inl (mIf M))), (k15, .inl (cI, 7, .inl (nIf mw))), (k24, .inl (cI, 48, .inl (nIf kp))), (k10, .inl (cI, 7, .inl (nIf R)))]
      subst he_22
      have hi_f := hi_23
      obtain ⟨jf, hx_jf⟩ : ∃ z, z = j_21 := ⟨_, rfl⟩
      subst hx_jf
      refine v_if_ne 26 20 zC dX5_soonest_17 (fun _ => ?_) (fun z => absurd z (by decide +kernel))
      refine v_al_n 27 zC dX5_soonest_26 0 rfl ?_
      refine v_cV (As := []) (st := []) 30 0 [0, 1, 2, 3, 4, 5, 6, 7, 8, 9, 10, 11] zC dX5_soonest_27 hA (c_X5_day (ev_l E) (ev_D E) cI (r0 := r0) (k1 := k1) (k2 := k2) (k3 := k3) (k4 := k4) (k6 := k6) (k7 := k7) (k8 := k8) (k10 := k10) (k12 := k12) (k13 := k13) (k14 := k14) (k15 := k15) (k16 := k16) (k21 := k21) (k22 := k22) (k23 := k23) (k24 := k24) (k25 := k25) (k30 := k30) (k31 := k31) (k33 := k33) (n := n) (m := m) (aw := 0) (ls := ls) (ap := ap) (sq := sq) (pl := pl) (tz := tz) (rs := rs) (bd := bd) (pd := pd) (tk := tk) (kv := kv) (sd := sd) (ki := ki) (op := op) (fa := fa) (K := K) (G := G) (T := T) (sh := sh) (kw := kw) (kn := kn) (M := M) (mw := mw) (hw := (by first | omega | assumption | rfl | (simp only []; omega) | decide)) (hkw := (by first | omega | assumption | rfl | (simp only []; omega) | decide)) (hkn := (by first | omega | assumption | rfl | (simp only []; omega) | decide)) (hM := (by first | omega | assumption | rfl | (simp only []; omega) | decide))) cf_X5_day lk_X5_123 rfl rfl rfl rfl rfl (by decide +kernel) (Nat.le_of_ble_eq_true rfl) (fun rv_31 wv_32 hp_33 hm_34 => ?_)
      clear hm_34
      obtain ⟨kw1_35, kn1_36, M1_37, mw1_38, hR_39, rfl, rfl⟩ := hp_33
      show VV E 0 0 30 [(0, .ref r0), (1, .int (nI ju)), (2, .int (nI jf))] [] [(r0, .inr (5, [.int (nI n), .ref k1, .ref k2, .ref k3, .ref k4, .int (nI m), .ref k6, .ref k7, .ref k8, .int (nI 0), .ref k10, .int (nI 0), .ref k12, .ref k13, .ref k14, .ref k15, .ref k16, .int (nI ls), .int (nI ap), .int (bz bd), .int (nI sq), .ref k21, .ref k22, .ref k23, .ref k24, .ref k25, .int (bz pd), .int (nI pl), .int (bz tk), kv, .ref k30, .ref k31, .int (nI tz), .ref k33, .int (nI rs), .int sd])), (k1, .inl (cI, 7, .inl (nIf ki))), (k2, .inl (cI, 7, .inl (nIf op))), (k3, .inl (cI, 7, .inl (nIf (shF sh)))), (k4, .inl (cI, 7, .inl (nIf fa))), (k6, .inl (cI, 6, .inl (nIf K))), (k7, .inl (cI, 6, .inl (nIf G))), (k8, .inl (cI, 6, .inl (nIf T))), (k12, .inl (cI, 7, .inl (nIf kw1_35))), (k13, .inl (cI, 175, .inl (nIf kn1_36))), (k14, .inl (cI, 144, .inl (mIf M1_37))), (k15, .inl (cI, 7, .inl (nIf mw1_38))), (k24, .inl (cI, 48, .inl (nIf kp))), (k10, .inl (cI, 7, .inl (nIf R)))]
      have hR9 := hR_39
      refine v_al_n 31 zC dX5_soonest_30 0 rfl ?_
      refine v_il_n 32 zC dX5_soonest_31 1 rfl ?_
      refine v_il_n 33 zC dX5_soonest_32 2 rfl ?_
      refine v_cV (As := [.int (nI ju), .int (nI jf)]) (st := []) 36 0 [0, 9] zC dX5_soonest_33 hA (c_X5_heardAt (ev_l E) (ev_D E) cI (r0 := r0) (k1 := k1) (k2 := k2) (k3 := k3) (k4 := k4) (k6 := k6) (k7 := k7) (k8 := k8) (k10 := k10) (k12 := k12) (k13 := k13) (k14 := k14) (k15 := k15) (k16 := k16) (k21 := k21) (k22 := k22) (k23 := k23) (k24 := k24) (k25 := k25) (k30 := k30) (k31 := k31) (k33 := k33) (n := n) (m := m) (aw := 0) (ls := ls) (ap := ap) (sq := sq) (pl := pl) (tz := tz) (rs := rs) (bd := bd) (pd := pd) (tk := tk) (kv := kv) (sd := sd) (ki := ki) (op := op) (fa := fa) (K := K) (G := G) (T := T) (sh := sh) (kw := kw1_35) (kn := kn1_36) (M := M1_37) (p := ju) (f := jf) (hn := (by first | omega | assumption | rfl | (simp only []; omega) | decide)) (hm := (by first | omega | assumption | rfl | (simp only []; omega) | decide)) (hR := hR9) (hp := (by first | omega | assumption | rfl | (simp only []; omega) | decide)) (hf := (by first | omega | assumption | rfl | (simp only []; omega) | decide))) cf_X5_heardAt lk_X5_236 rfl rfl rfl rfl rfl (by decide +kernel) (Nat.le_of_ble_eq_true rfl) (fun rv_40 wv_41 hp_42 hm_43 => ?_)
      clear hm_43
      obtain ⟨rfl, rfl⟩ := hp_42
      show VV E 0 0 36 [(0, .ref r0), (1, .int (nI ju)), (2, .int (nI jf))] [.int (mI (HEARD (n, m, sh, 0, ki, op, fa, K, G, T) ju jf))] [(r0, .inr (5, [.int (nI n), .ref k1, .ref k2, .ref k3, .ref k4, .int (nI m), .ref k6, .ref k7, .ref k8, .int (nI 0), .ref k10, .int (nI 0), .ref k12, .ref k13, .ref k14, .ref k15, .ref k16, .int (nI ls), .int (nI ap), .int (bz bd), .int (nI sq), .ref k21, .ref k22, .ref k23, .ref k24, .ref k25, .int (bz pd), .int (nI pl), .int (bz tk), kv, .ref k30, .ref k31, .int (nI tz), .ref k33, .int (nI rs), .int sd])), (k1, .inl (cI, 7, .inl (nIf ki))), (k2, .inl (cI, 7, .inl (nIf op))), (k3, .inl (cI, 7, .inl (nIf (shF sh)))), (k4, .inl (cI, 7, .inl (nIf fa))), (k6, .inl (cI, 6, .inl (nIf K))), (k7, .inl (cI, 6, .inl (nIf G))), (k8, .inl (cI, 6, .inl (nIf T))), (k12, .inl (cI, 7, .inl (nIf kw1_35))), (k13, .inl (cI, 175, .inl (nIf kn1_36))), (k14, .inl (cI, 144, .inl (mIf M1_37))), (k15, .inl (cI, 7, .inl (nIf mw1_38))), (k24, .inl (cI, 48, .inl (nIf kp))), (k10, .inl (cI, 7, .inl (nIf R)))]
      obtain ⟨hd0, hh0⟩ : ∃ z, z = (HEARD (n, m, sh, 0, ki, op, fa, K, G, T) ju jf) := ⟨_, rfl⟩
      rw [← hh0]
      refine v_ifo_ge 44 39 zC dX5_soonest_36 (fun v e => Nat.lt_trans (heard_25 v (hh0.symm.trans e)) (by decide)) (fun h_44 => ?_) (fun h_44 => ?_)
      ·
        obtain ⟨v0, hv0⟩ := Option.isSome_iff_exists.mp h_44
        subst hv0
        have hv25 := heard_25 v0 hh0.symm
        have hs0 : SN (n, m, sh, 0, ki, op, fa, K, G, T) ju jf 0 none v0 := sn_01 hh0.symm
        refine v_al_n 45 zC dX5_soonest_44 0 rfl ?_
        refine v_il_n 46 zC dX5_soonest_45 1 rfl ?_
        refine v_il_n 47 zC dX5_soonest_46 2 rfl ?_
        refine v_cV (As := [.int (nI ju), .int (nI jf)]) (st := []) 50 0 [0, 9] zC dX5_soonest_47 hA (c_X5_heardAt (ev_l E) (ev_D E) cI (r0 := r0) (k1 := k1) (k2 := k2) (k3 := k3) (k4 := k4) (k6 := k6) (k7 := k7) (k8 := k8) (k10 := k10) (k12 := k12) (k13 := k13) (k14 := k14) (k15 := k15) (k16 := k16) (k21 := k21) (k22 := k22) (k23 := k23) (k24 := k24) (k25 := k25) (k30 := k30) (k31 := k31) (k33 := k33) (n := n) (m := m) (aw := 0) (ls := ls) (ap := ap) (sq := sq) (pl := pl) (tz := tz) (rs := rs) (bd := bd) (pd := pd) (tk := tk) (kv := kv) (sd := sd) (ki := ki) (op := op) (fa := fa) (K := K) (G := G) (T := T) (sh := sh) (kw := kw1_35) (kn := kn1_36) (M := M1_37) (p := ju) (f := jf) (hn := (by first | omega | assumption | rfl | (simp only []; omega) | decide)) (hm := (by first | omega | assumption | rfl | (simp only []; omega) | decide)) (hR := hR9) (hp := (by first | omega | assumption | rfl | (simp only []; omega) | decide)) (hf := (by first | omega | assumption | rfl | (simp only []; omega) | decide))) cf_X5_heardAt lk_X5_236 rfl rfl rfl rfl rfl (by decide +kernel) (Nat.le_of_ble_eq_true rfl) (fun rv_45 wv_46 hp_47 hm_48 => ?_)
        clear hm_48
        obtain ⟨rfl, rfl⟩ := hp_47
        show VV E 0 0 50 [(0, .ref r0), (1, .int (nI ju)), (2, .int (nI jf))] [.int (mI (HEARD (n, m, sh, 0, ki, op, fa, K, G, T) ju jf))] [(r0, .inr (5, [.int (nI n), .ref k1, .ref k2, .ref k3, .ref k4, .int (nI m), .ref k6, .ref k7, .ref k8, .int (nI 0), .ref k10, .int (nI 0), .ref k12, .ref k13, .ref k14, .ref k15, .ref k16, .int (nI ls), .int (nI ap), .int (bz bd), .int (nI sq), .ref k21, .ref k22, .ref k23, .ref k24, .ref k25, .int (bz pd), .int (nI pl), .int (bz tk), kv, .ref k30, .ref k31, .int (nI tz), .ref k33, .int (nI rs), .int sd])), (k1, .inl (cI, 7, .inl (nIf ki))), (k2, .inl (cI, 7, .inl (nIf op))), (k3, .inl (cI, 7, .inl (nIf (shF sh)))), (k4, .inl (cI, 7, .inl (nIf fa))), (k6, .inl (cI, 6, .inl (nIf K))), (k7, .inl (cI, 6, .inl (nIf G))), (k8, .inl (cI, 6, .inl (nIf T))), (k12, .inl (cI, 7, .inl (nIf kw1_35))), (k13, .inl (cI, 175, .inl (nIf kn1_36))), (k14, .inl (cI, 144, .inl (mIf M1_37))), (k15, .inl (cI, 7, .inl (nIf mw1_38))), (k24, .inl (cI, 48, .inl (nIf kp))), (k10, .inl (cI, 7, .inl (nIf R)))]
        rw [← hh0]
        show VV E 0 0 50 _ (.int (nI v0) :: _) _
        refine v_is_n (lv2 := [(3, .int (nI v0)), (0, .ref r0), (1, .int (nI ju)), (2, .int (nI jf))]) 51 zC dX5_soonest_50 (by rw [hnE]; decide) rfl ?_
        refine v_bp (v := (-9)) 53 zC dX5_soonest_51 (by decide +kernel) ?_
        refine v_is (lv2 := [(4, .int (-9)), (3, .int (nI v0)), (0, .ref r0), (1, .int (nI ju)), (2, .int (nI jf))]) 55 zC dX5_soonest_53 (by rw [hnE]; decide) rfl ?_
        refine v_al_n 56 zC dX5_soonest_55 2 rfl ?_
        refine v_cV (As := []) (st := []) 59 0 [0, 1, 2, 3, 4, 5, 6, 7, 12] zC dX5_soonest_56 hA (c_X5_think (ev_l E) (ev_D E) cI (r0 := r0) (k1 := k1) (k2 := k2) (k3 := k3) (k4 := k4) (k6 := k6) (k7 := k7) (k8 := k8) (k10 := k10) (k12 := k12) (k13 := k13) (k14 := k14) (k15 := k15) (k16 := k16) (k21 := k21) (k22 := k22) (k23 := k23) (k24 := k24) (k25 := k25) (k30 := k30) (k31 := k31) (k33 := k33) (n := n) (m := m) (aw := 0) (ls := ls) (ap := ap) (sq := sq) (pl := pl) (tz := tz) (rs := rs) (bd := bd) (pd := pd) (tk := tk) (kv := kv) (sd := sd) (ki := ki) (op := op) (fa := fa) (K := K) (G := G) (T := T) (sh := sh) (kp := kp) ) cf_X5_think lk_X5_254 rfl rfl rfl rfl rfl (by decide +kernel) (Nat.le_of_ble_eq_true rfl) (fun rv_49 wv_50 hp_51 hm_52 => ?_)
        clear hm_52
        obtain ⟨kp1_53, hE_54, rfl, rfl⟩ := hp_51
        show VV E 0 0 59 [(4, .int (-9)), (3, .int (nI v0)), (0, .ref r0), (1, .int (nI ju)), (2, .int (nI jf))] [] [(r0, .inr (5, [.int (nI n), .ref k1, .ref k2, .ref k3, .ref k4, .int (nI m), .ref k6, .ref k7, .ref k8, .int (nI 0), .ref k10, .int (nI 0), .ref k12, .ref k13, .ref k14, .ref k15, .ref k16, .int (nI ls), .int (nI ap), .int (bz bd), .int (nI sq), .ref k21, .ref k22, .ref k23, .ref k24, .ref k25, .int (bz pd), .int (nI 48), .int (bz true), .ref k24, .ref k30, .ref k31, .int (nI tz), .ref k33, .int (nI rs), .int sd])), (k1, .inl (cI, 7, .inl (nIf ki))), (k2, .inl (cI, 7, .inl (nIf op))), (k3, .inl (cI, 7, .inl (nIf (shF sh)))), (k4, .inl (cI, 7, .inl (nIf fa))), (k6, .inl (cI, 6, .inl (nIf K))), (k7, .inl (cI, 6, .inl (nIf G))), (k8, .inl (cI, 6, .inl (nIf T))), (k12, .inl (cI, 7, .inl (nIf kw1_35))), (k13, .inl (cI, 175, .inl (nIf kn1_36))), (k14, .inl (cI, 144, .inl (mIf M1_37))), (k15, .inl (cI, 7, .inl (nIf mw1_38))), (k24, .inl (cI, 48, .inl (nIf kp1_53))), (k10, .inl (cI, 7, .inl (nIf R)))]
        have hE9 := hE_54
        refine v_ic (v := (nI 0)) 60 zC dX5_soonest_59 (by decide +kernel) ?_
        refine v_is (lv2 := [(5, .int (nI 0)), (4, .int (-9)), (3, .int (nI v0)), (0, .ref r0), (1, .int (nI ju)), (2, .int (nI jf))]) 62 zC dX5_soonest_60 (by rw [hnE]; decide) rfl ?_
        have lp62 : ∀ (mz : Nat) (kw2 : Nat → Nat) (kn2 : Nat → Nat) (M2 : Nat → Option Nat) (mw2 : Nat → Nat) (tk2 : Bool) (B : Option Nat) (L : Nat) (p : Nat), (∀ z, kw2 z < 1024) → (∀ z, kn2 z < 1024) → (∀ z v, M2 z = some v → v < 7) → (SN (n, m, sh, 0, ki, op, fa, K, G, T) ju jf p B L) → (p ≤ n) → (L ≤ 99) → n - p = mz → VV E 0 0 62 [(5, .int (nI p)), (4, .int (mI B)), (3, .int (nI L)), (0, .ref r0), (1, .int (nI ju)), (2, .int (nI jf))] [] [(r0, .inr (5, [.int (nI n), .ref k1, .ref k2, .ref k3, .ref k4, .int (nI m), .ref k6, .ref k7, .ref k8, .int (nI 0), .ref k10, .int (nI 0), .ref k12, .ref k13, .ref k14, .ref k15, .ref k16, .int (nI ls), .int (nI ap), .int (bz bd), .int (nI sq), .ref k21, .ref k22, .ref k23, .ref k24, .ref k25, .int (bz pd), .int (nI 48), .int (bz tk2), .ref k24, .ref k30, .ref k31, .int (nI tz), .ref k33, .int (nI rs), .int sd])), (k1, .inl (cI, 7, .inl (nIf ki))), (k2, .inl (cI, 7, .inl (nIf op))), (k3, .inl (cI, 7, .inl (nIf (shF sh)))), (k4, .inl (cI, 7, .inl (nIf fa))), (k6, .inl (cI, 6, .inl (nIf K))), (k7, .inl (cI, 6, .inl (nIf G))), (k8, .inl (cI, 6, .inl (nIf T))), (k12, .inl (cI, 7, .inl (nIf kw2))), (k13, .inl (cI, 175, .inl (nIf kn2))), (k14, .inl (cI, 144, .inl (mIf M2))), (k15, .inl (cI, 7, .inl (nIf mw2))), (k24, .inl (cI, 48, .inl (nIf kp1_53))), (k10, .inl (cI, 7, .inl (nIf R)))] := by
          intro mz
          induction mz using Nat.strongRecOn with
          | _ mz ih62 =>
          intro kw2 kn2 M2 mw2 tk2 B L p hkw2 hkn2 hM2 hS hp hL hm62
          refine v_il 64 zC dX5_soonest_62 0 rfl ?_
          refine v_al_n 65 zC dX5_soonest_64 3 rfl ?_
          refine v_gf 68 0 zC dX5_soonest_65 gf_X5_77 rfl rfl ?_
          refine v_icmpn_ge 149 71 zC dX5_soonest_68 (fun h_55 => ?_) (fun h_55 => ?_)
          ·
            refine v_il 151 zC dX5_soonest_149 1 rfl ?_
            refine v_iret zC zT dX5_soonest_151  ?_
            first | (have g9 := hn_p9; exact ⟨kw, kn, M, mw, kp, pl, tk, kv, 1, _, by unfold q_soonest; rw [hn_p9], hkw, hkn, hM, rfl, rfl⟩) | (have g9 := hn_f; exact ⟨kw, kn, M, mw, kp, pl, tk, kv, 1, _, by unfold q_soonest; rw [hi_p9]; dsimp only; rw [hn_f], hkw, hkn, hM, rfl, rfl⟩) | exact ⟨_, _, _, _, _, _, _, _, 0, _, by unfold q_soonest; rw [hi_p9]; dsimp only; rw [hi_f]; dsimp only; obtain ⟨x9, hx9, _⟩ := hS; rw [show g_n (n, m, sh, 0, ki, op, fa, K, G, T) = p from (by show n = p; omega), ← hx9], hkw2, hkn2, hM2, rfl, rfl⟩
          ·
            refine v_al_n 72 zC dX5_soonest_71 3 rfl ?_
            refine v_gf 75 0 zC dX5_soonest_72 gf_X5_13 rfl rfl ?_
            refine v_il 77 zC dX5_soonest_75 0 rfl ?_
            refine v_ldcw (v := (nI 16777215)) 80 zC dX5_soonest_77 kc_X5_263 ?_
            refine v_iasn (ws2 := [(r0, .inr (5, [.int (nI n), .ref k1, .ref k2, .ref k3, .ref k4, .int (nI m), .ref k6, .ref k7, .ref k8, .int (nI 0), .ref k10, .int (nI 0), .ref k12, .ref k13, .ref k14, .ref k15, .ref k16, .int (nI ls), .int (nI ap), .int (bz bd), .int (nI sq), .ref k21, .ref k22, .ref k23, .ref k24, .ref k25, .int (bz pd), .int (nI 48), .int (bz tk2), .ref k24, .ref k30, .ref k31, .int (nI tz), .ref k33, .int (nI rs), .int sd])), (k1, .inl (cI, 7, .inl (nIf ki))), (k2, .inl (cI, 7, .inl (nIf (un op p 16777215)))), (k3, .inl (cI, 7, .inl (nIf (shF sh)))), (k4, .inl (cI, 7, .inl (nIf fa))), (k6, .inl (cI, 6, .inl (nIf K))), (k7, .inl (cI, 6, .inl (nIf G))), (k8, .inl (cI, 6, .inl (nIf T))), (k12, .inl (cI, 7, .inl (nIf kw2))), (k13, .inl (cI, 175, .inl (nIf kn2))), (k14, .inl (cI, 144, .inl (mIf M2))), (k15, .inl (cI, 7, .inl (nIf mw2))), (k24, .inl (cI, 48, .inl (nIf kp1_53))), (k10, .inl (cI, 7, .inl (nIf R)))]) 81 2 zC dX5_soonest_80 rfl (by omega) (by rw [upd_nIf]; first | done | rfl) ?_
            refine v_al_n 82 zC dX5_soonest_81 3 rfl ?_
            refine v_gf 85 0 zC dX5_soonest_82 gf_X5_16 rfl rfl ?_
            refine v_il 87 zC dX5_soonest_85 0 rfl ?_
            refine v_ic (v := (nI 0)) 88 zC dX5_soonest_87 (by decide +kernel) ?_
            refine v_iasn (ws2 := [(r0, .inr (5, [.int (nI n), .ref k1, .ref k2, .ref k3, .ref k4, .int (nI m), .ref k6, .ref k7, .ref k8, .int (nI 0), .ref k10, .int (nI 0), .ref k12, .ref k13, .ref k14, .ref k15, .ref k16, .int (nI ls), .int (nI ap), .int (bz bd), .int (nI sq), .ref k21, .ref k22, .ref k23, .ref k24, .ref k25, .int (bz pd), .int (nI 48), .int (bz tk2), .ref k24, .ref k30, .ref k31, .int (nI tz), .ref k33, .int (nI rs), .int sd])), (k1, .inl (cI, 7, .inl (nIf ki))), (k2, .inl (cI, 7, .inl (nIf (un op p 16777215)))), (k3, .inl (cI, 7, .inl (nIf (un (shF sh) p 0)))), (k4, .inl (cI, 7, .inl (nIf fa))), (k6, .inl (cI, 6, .inl (nIf K))), (k7, .inl (cI, 6, .inl (nIf G))), (k8, .inl (cI, 6, .inl (nIf T))), (k12, .inl (cI, 7, .inl (nIf kw2))), (k13, .inl (cI, 175, .inl (nIf kn2))), (k14, .inl (cI, 144, .inl (mIf M2))), (k15, .inl (cI, 7, .inl (nIf mw2))), (k24, .inl (cI, 48, .inl (nIf kp1_53))), (k10, .inl (cI, 7, .inl (nIf R)))]) 89 3 zC dX5_soonest_88 rfl (by omega) (by rw [upd_nIf]; first | done | rfl) ?_
            refine v_al_n 90 zC dX5_soonest_89 3 rfl ?_
            rw [shf_c]
            refine v_cV (As := []) (st := []) 93 0 [0, 1, 2, 3, 4, 5, 6, 7, 8, 9, 10, 11] zC dX5_soonest_90 hA (c_X5_day (ev_l E) (ev_D E) cI (r0 := r0) (k1 := k1) (k2 := k2) (k3 := k3) (k4 := k4) (k6 := k6) (k7 := k7) (k8 := k8) (k10 := k10) (k12 := k12) (k13 := k13) (k14 := k14) (k15 := k15) (k16 := k16) (k21 := k21) (k22 := k22) (k23 := k23) (k24 := k24) (k25 := k25) (k30 := k30) (k31 := k31) (k33 := k33) (n := n) (m := m) (aw := 0) (ls := ls) (ap := ap) (sq := sq) (pl := 48) (tz := tz) (rs := rs) (bd := bd) (pd := pd) (tk := tk2) (kv := (.ref k24 : Value)) (sd := sd) (ki := ki) (op := (un op p 16777215)) (fa := fa) (K := K) (G := G) (T := T) (sh := (andn sh (2 ^ p))) (kw := kw2) (kn := kn2) (M := M2) (mw := mw2) (hw := ⟨hn, hm, (andn_lt hsh), hki, (un_b hop (by decide)), hfa, hK, hG, hT, vki, (un_v vop (by omega)), vfa, vK, vG, vT⟩) (hkw := hkw2) (hkn := hkn2) (hM := hM2)) cf_X5_day lk_X5_123 rfl rfl rfl rfl rfl (by decide +kernel) (Nat.le_of_ble_eq_true rfl) (fun rv_56 wv_57 hp_58 hm_59 => ?_)
            clear hm_59
            obtain ⟨kw1_60, kn1_61, M1_62, mw1_63, hR_64, rfl, rfl⟩ := hp_58
            show VV E 0 0 93 [(5, .int (nI p)), (4, .int (mI B)), (3, .int (nI L)), (0, .ref r0), (1, .int (nI ju)), (2, .int (nI jf))] [] [(r0, .inr (5, [.int (nI n), .ref k1, .ref k2, .ref k3, .ref k4, .int (nI m), .ref k6, .ref k7, .ref k8, .int (nI 0), .ref k10, .int (nI 0), .ref k12, .ref k13, .ref k14, .ref k15, .ref k16, .int (nI ls), .int (nI ap), .int (bz bd), .int (nI sq), .ref k21, .ref k22, .ref k23, .ref k24, .ref k25, .int (bz pd), .int (nI 48), .int (bz tk2), .ref k24, .ref k30, .ref k31, .int (nI tz), .ref k33, .int (nI rs), .int sd])), (k1, .inl (cI, 7, .inl (nIf ki))), (k2, .inl (cI, 7, .inl (nIf (un op p 16777215)))), (k3, .inl (cI, 7, .inl (nIf (shF (andn sh (2 ^ p)))))), (k4, .inl (cI, 7, .inl (nIf fa))), (k6, .inl (cI, 6, .inl (nIf K))), (k7, .inl (cI, 6, .inl (nIf G))), (k8, .inl (cI, 6, .inl (nIf T))), (k12, .inl (cI, 7, .inl (nIf kw1_60))), (k13, .inl (cI, 175, .inl (nIf kn1_61))), (k14, .inl (cI, 144, .inl (mIf M1_62))), (k15, .inl (cI, 7, .inl (nIf mw1_63))), (k24, .inl (cI, 48, .inl (nIf kp1_53))), (k10, .inl (cI, 7, .inl (nIf R)))]
            have hR9 := hR_64
            refine v_al_n 94 zC dX5_soonest_93 3 rfl ?_
            refine v_il_n 95 zC dX5_soonest_94 4 rfl ?_
            refine v_il_n 96 zC dX5_soonest_95 5 rfl ?_
            refine v_cV (As := [.int (nI ju), .int (nI jf)]) (st := []) 99 0 [0, 9] zC dX5_soonest_96 hA (c_X5_heardAt (ev_l E) (ev_D E) cI (r0 := r0) (k1 := k1) (k2 := k2) (k3 := k3) (k4 := k4) (k6 := k6) (k7 := k7) (k8 := k8) (k10 := k10) (k12 := k12) (k13 := k13) (k14 := k14) (k15 := k15) (k16 := k16) (k21 := k21) (k22 := k22) (k23 := k23) (k24 := k24) (k25 := k25) (k30 := k30) (k31 := k31) (k33 := k33) (n := n) (m := m) (aw := 0) (ls := ls) (ap := ap) (sq := sq) (pl := 48) (tz := tz) (rs := rs) (bd := bd) (pd := pd) (tk := tk2) (kv := (.ref k24 : Value)) (sd := sd) (ki := ki) (op := (un op p 16777215)) (fa := fa) (K := K) (G := G) (T := T) (sh := (andn sh (2 ^ p))) (kw := kw1_60) (kn := kn1_61) (M := M1_62) (p := ju) (f := jf) (hn := (by first | omega | assumption | rfl | (simp only []; omega) | decide)) (hm := (by first | omega | assumption | rfl | (simp only []; omega) | decide)) (hR := hR9) (hp := (by first | omega | assumption | rfl | (simp only []; omega) | decide)) (hf := (by first | omega | assumption | rfl | (simp only []; omega) | decide))) cf_X5_heardAt lk_X5_236 rfl rfl rfl rfl rfl (by decide +kernel) (Nat.le_of_ble_eq_true rfl) (fun rv_65 wv_66 hp_67 hm_68 => ?_)
            clear hm_68
            obtain ⟨rfl, rfl⟩ := hp_67
            show VV E 0 0 99 [(5, .int (nI p)), (4, .int (mI B)), (3, .int (nI L)), (0, .ref r0), (1, .int (nI ju)), (2, .int (nI jf))] [.int (mI (HEARD (n, m, (andn sh (2 ^ p)), 0, ki, (un op p 16777215), fa, K, G, T) ju jf))] [(r0, .inr (5, [.int (nI n), .ref k1, .ref k2, .ref k3, .ref k4, .int (nI m), .ref k6, .ref k7, .ref k8, .int (nI 0), .ref k10, .int (nI 0), .ref k12, .ref k13, .ref k14, .ref k15, .ref k16, .int (nI ls), .int (nI ap), .int (bz bd), .int (nI sq), .ref k21, .ref k22, .ref k23, .ref k24, .ref k25, .int (bz pd), .int (nI 48), .int (bz tk2), .ref k24, .ref k30, .ref k31, .int (nI tz), .ref k33, .int (nI rs), .int sd])), (k1, .inl (cI, 7, .inl (nIf ki))), (k2, .inl (cI, 7, .inl (nIf (un op p 16777215)))), (k3, .inl (cI, 7, .inl (nIf (shF (andn sh (2 ^ p)))))), (k4, .inl (cI, 7, .inl (nIf fa))), (k6, .inl (cI, 6, .inl (nIf K))), (k7, .inl (cI, 6, .inl (nIf G))), (k8, .inl (cI, 6, .inl (nIf T))), (k12, .inl (cI, 7, .inl (nIf kw1_60))), (k13, .inl (cI, 175, .inl (nIf kn1_61))), (k14, .inl (cI, 144, .inl (mIf M1_62))), (k15, .inl (cI, 7, .inl (nIf mw1_63))), (k24, .inl (cI, 48, .inl (nIf kp1_53))), (k10, .inl (cI, 7, .inl (nIf R)))]
            obtain ⟨hd, hh9⟩ : ∃ z, z = (HEARD (n, m, (andn sh (2 ^ p)), 0, ki, (un op p 16777215), fa, K, G, T) ju jf) := ⟨_, rfl⟩
            rw [← hh9]
            refine v_is (lv2 := [(6, .int (mI hd)), (5, .int (nI p)), (4, .int (mI B)), (3, .int (nI L)), (0, .ref r0), (1, .int (nI ju)), (2, .int (nI jf))]) 101 zC dX5_soonest_99 (by rw [hnE]; decide) rfl ?_
            refine v_al_n 102 zC dX5_soonest_101 4 rfl ?_
            refine v_cV (As := []) (st := []) 105 0 [0, 1, 2, 3, 4, 5, 6, 7, 12] zC dX5_soonest_102 hA (c_X5_again (ev_l E) (ev_D E) cI (r0 := r0) (k1 := k1) (k2 := k2) (k3 := k3) (k4 := k4) (k6 := k6) (k7 := k7) (k8 := k8) (k10 := k10) (k12 := k12) (k13 := k13) (k14 := k14) (k15 := k15) (k16 := k16) (k21 := k21) (k22 := k22) (k23 := k23) (k24 := k24) (k25 := k25) (k30 := k30) (k31 := k31) (k33 := k33) (n := n) (m := m) (aw := 0) (ls := ls) (ap := ap) (sq := sq) (pl := 48) (tz := tz) (rs := rs) (bd := bd) (pd := pd) (tk := tk2) (kv := (.ref k24 : Value)) (sd := sd) (ki := ki) (op := (un op p 16777215)) (fa := fa) (K := K) (G := G) (T := T) (sh := (andn sh (2 ^ p))) (kp := kp1_53) (n1 := n) (m1 := m) (sh1 := sh) (aw1 := 0) (ki1 := ki) (op1 := op) (fa1 := fa) (K1 := K) (G1 := G) (T1 := T) (hw := ⟨hn, hm, (andn_lt hsh), hki, (un_b hop (by decide)), hfa, hK, hG, hT, vki, (un_v vop (by omega)), vfa, vK, vG, vT⟩) (hw1 := hw) (hE := hE9)) cf_X5_again lk_X5_260 rfl rfl rfl rfl rfl (by decide +kernel) (Nat.le_of_ble_eq_true rfl) (fun rv_69 wv_70 hp_71 hm_72 => ?_)
            clear hm_72
            obtain ⟨rfl, rfl⟩ := hp_71
            show VV E 0 0 105 [(6, .int (mI hd)), (5, .int (nI p)), (4, .int (mI B)), (3, .int (nI L)), (0, .ref r0), (1, .int (nI ju)), (2, .int (nI jf))] [] [(r0, .inr (5, [.int (nI n), .ref k1, .ref k2, .ref k3, .ref k4, .int (nI m), .ref k6, .ref k7, .ref k8, .int (nI 0), .ref k10, .int (nI 0), .ref k12, .ref k13, .ref k14, .ref k15, .ref k16, .int (nI ls), .int (nI ap), .int (bz bd), .int (nI sq), .ref k21, .ref k22, .ref k23, .ref k24, .ref k25, .int (bz pd), .int (nI 48), .int (bz false), .ref k24, .ref k30, .ref k31, .int (nI tz), .ref k33, .int (nI rs), .int sd])), (k1, .inl (cI, 7, .inl (nIf ki))), (k2, .inl (cI, 7, .inl (nIf op))), (k3, .inl (cI, 7, .inl (nIf (shF sh)))), (k4, .inl (cI, 7, .inl (nIf fa))), (k6, .inl (cI, 6, .inl (nIf K))), (k7, .inl (cI, 6, .inl (nIf G))), (k8, .inl (cI, 6, .inl (nIf T))), (k12, .inl (cI, 7, .inl (nIf kw1_60))), (k13, .inl (cI, 175, .inl (nIf kn1_61))), (k14, .inl (cI, 144, .inl (mIf M1_62))), (k15, .inl (cI, 7, .inl (nIf mw1_63))), (k24, .inl (cI, 48, .inl (nIf kp1_53))), (k10, .inl (cI, 7, .inl (nIf R)))]
            refine v_il 107 zC dX5_soonest_105 0 rfl ?_
            refine v_ifo_lt 121 110 zC dX5_soonest_107 (fun v e => Nat.lt_trans (heard_25 v (hh9.symm.trans e)) (by decide)) (fun h_73 => ?_) (fun h_73 => ?_)
            ·
              have hz9 : hd = none := by cases hd with | none => rfl | some _ => cases h_73
              subst hz9
              refine v_il 123 zC dX5_soonest_121 2 rfl ?_
              refine v_is (lv2 := [(4, .int (mI B)), (6, .int (-9)), (5, .int (nI p)), (3, .int (nI L)), (0, .ref r0), (1, .int (nI ju)), (2, .int (nI jf))]) 125 zC dX5_soonest_123 (by rw [hnE]; decide) rfl ?_
              refine v_il 127 zC dX5_soonest_125 1 rfl ?_
              refine v_if_lt 141 130 zC dX5_soonest_127 (fun _ => ?_) (fun z => absurd (by decide +kernel) z)
              refine v_il_n 142 zC dX5_soonest_141 3 rfl ?_
              refine v_is_n (lv2 := [(3, .int (nI L)), (4, .int (mI B)), (6, .int (-9)), (5, .int (nI p)), (0, .ref r0), (1, .int (nI ju)), (2, .int (nI jf))]) 143 zC dX5_soonest_142 (by rw [hnE]; decide) rfl ?_
              refine v_inc (v := (nI (p + 1))) (lv2 := [(5, .int (nI (p + 1))), (3, .int (nI L)), (4, .int (mI B)), (6, .int (-9)), (0, .ref r0), (1, .int (nI ju)), (2, .int (nI jf))]) 146 zC dX5_soonest_143 (j := 3) rfl (nI_add _ 1) (by rw [hnE]; decide) rfl ?_
              refine v_goto 62 zC dX5_soonest_146 ?_
              refine v_lvs (lv2 := [(5, .int (nI (p + 1))), (4, .int (mI B)), (3, .int (nI L)), (0, .ref r0), (1, .int (nI ju)), (2, .int (nI jf))]) [0, 2, 1, 4, 5, 6] rfl ?_
              exact ih62 _ (by omega) kw1_60 kn1_61 M1_62 mw1_63 false B L (p + 1) (by first | exact hR9.2.2.2.1 | exact hkw2) (by first | exact hR9.2.2.2.2.1 | exact hkn2) (by first | exact hR9.2.2.2.2.2 | exact hM2) (by first | exact sn_1 hS hh9.symm hlt9 | exact sn_2 hS hh9.symm hge9 | exact sn_3 hS hh9.symm) (by first | omega | assumption | rfl | (simp only []; omega) | decide) (by first | omega | assumption | rfl | (simp only []; omega) | decide) rfl
            ·
              obtain ⟨v9, he_v9⟩ := Option.isSome_iff_exists.mp h_73
              subst he_v9
              have hv9 := heard_25 v9 hh9.symm
              refine v_il 112 zC dX5_soonest_110 0 rfl ?_
              refine v_il_n 113 zC dX5_soonest_112 3 rfl ?_
              refine v_icmpn_ge 121 116 zC dX5_soonest_113 (fun h_75 => ?_) (fun h_75 => ?_)
              ·
                have hge9 := h_75
                refine v_il 123 zC dX5_soonest_121 2 rfl ?_
                refine v_is (lv2 := [(4, .int (mI B)), (6, .int (nI v9)), (5, .int (nI p)), (3, .int (nI L)), (0, .ref r0), (1, .int (nI ju)), (2, .int (nI jf))]) 125 zC dX5_soonest_123 (by rw [hnE]; decide) rfl ?_
                refine v_il 127 zC dX5_soonest_125 1 rfl ?_
                refine v_ifn_lt 141 130 zC dX5_soonest_127 (fun z => absurd z (Nat.not_lt_zero _)) (fun _ => ?_)
                refine v_il 132 zC dX5_soonest_130 1 rfl ?_
                refine v_il_n 133 zC dX5_soonest_132 3 rfl ?_
                refine v_icmpn_ge 141 136 zC dX5_soonest_133 (fun h_77 => ?_) (fun h_77 => False.elim (by first | omega | exact bcon h_77 (by assumption) | exact bcon (by assumption) h_77))
                refine v_il_n 142 zC dX5_soonest_141 3 rfl ?_
                refine v_is_n (lv2 := [(3, .int (nI L)), (4, .int (mI B)), (6, .int (nI v9)), (5, .int (nI p)), (0, .ref r0), (1, .int (nI ju)), (2, .int (nI jf))]) 143 zC dX5_soonest_142 (by rw [hnE]; decide) rfl ?_
                refine v_inc (v := (nI (p + 1))) (lv2 := [(5, .int (nI (p + 1))), (3, .int (nI L)), (4, .int (mI B)), (6, .int (nI v9)), (0, .ref r0), (1, .int (nI ju)), (2, .int (nI jf))]) 146 zC dX5_soonest_143 (j := 3) rfl (nI_add _ 1) (by rw [hnE]; decide) rfl ?_
                refine v_goto 62 zC dX5_soonest_146 ?_
                refine v_lvs (lv2 := [(5, .int (nI (p + 1))), (4, .int (mI B)), (3, .int (nI L)), (0, .ref r0), (1, .int (nI ju)), (2, .int (nI jf))]) [0, 2, 1, 4, 5, 6] rfl ?_
                exact ih62 _ (by omega) kw1_60 kn1_61 M1_62 mw1_63 false B L (p + 1) (by first | exact hR9.2.2.2.1 | exact hkw2) (by first | exact hR9.2.2.2.2.1 | exact hkn2) (by first | exact hR9.2.2.2.2.2 | exact hM2) (by first | exact sn_1 hS hh9.symm hlt9 | exact sn_2 hS hh9.symm hge9 | exact sn_3 hS hh9.symm) (by first | omega | assumption | rfl | (simp only []; omega) | decide) (by first | omega | assumption | rfl | (simp only []; omega) | decide) rfl
              ·
                have hlt9 := h_75
                refine v_il 118 zC dX5_soonest_116 1 rfl ?_
                refine v_goto 123 zC dX5_soonest_118 ?_
                refine v_is (lv2 := [(4, .int (nI p)), (6, .int (nI v9)), (5, .int (nI p)), (3, .int (nI L)), (0, .ref r0), (1, .int (nI ju)), (2, .int (nI jf))]) 125 zC dX5_soonest_123 (by rw [hnE]; decide) rfl ?_
                refine v_il 127 zC dX5_soonest_125 1 rfl ?_
                refine v_ifn_lt 141 130 zC dX5_soonest_127 (fun z => absurd z (Nat.not_lt_zero _)) (fun _ => ?_)
                refine v_il 132 zC dX5_soonest_130 1 rfl ?_
                refine v_il_n 133 zC dX5_soonest_132 3 rfl ?_
                refine v_icmpn_ge 141 136 zC dX5_soonest_133 (fun h_79 => False.elim (by first | omega | exact bcon h_79 (by assumption) | exact bcon (by assumption) h_79)) (fun h_79 => ?_)
                refine v_il 138 zC dX5_soonest_136 1 rfl ?_
                refine v_goto 142 zC dX5_soonest_138 ?_
                refine v_is_n (lv2 := [(3, .int (nI v9)), (4, .int (nI p)), (6, .int (nI v9)), (5, .int (nI p)), (0, .ref r0), (1, .int (nI ju)), (2, .int (nI jf))]) 143 zC dX5_soonest_142 (by rw [hnE]; decide) rfl ?_
                refine v_inc (v := (nI (p + 1))) (lv2 := [(5, .int (nI (p + 1))), (3, .int (nI v9)), (4, .int (nI p)), (6, .int (nI v9)), (0, .ref r0), (1, .int (nI ju)), (2, .int (nI jf))]) 146 zC dX5_soonest_143 (j := 3) rfl (nI_add _ 1) (by rw [hnE]; decide) rfl ?_
                refine v_goto 62 zC dX5_soonest_146 ?_
                refine v_lvs (lv2 := [(5, .int (nI (p + 1))), (4, .int (mI (some p))), (3, .int (nI v9)), (0, .ref r0), (1, .int (nI ju)), (2, .int (nI jf))]) [0, 2, 1, 4, 5, 6] rfl ?_
                exact ih62 _ (by omega) kw1_60 kn1_61 M1_62 mw1_63 false (some p) v9 (p + 1) (by first | exact hR9.2.2.2.1 | exact hkw2) (by first | exact hR9.2.2.2.2.1 | exact hkn2) (by first | exact hR9.2.2.2.2.2 | exact hM2) (by first | exact sn_1 hS hh9.symm hlt9 | exact sn_2 hS hh9.symm hge9 | exact sn_3 hS hh9.symm) (by first | omega | assumption | rfl | (simp only []; omega) | decide) (by first | omega | assumption | rfl | (simp only []; omega) | decide) rfl
        refine v_lvs (lv2 := [(5, .int (nI 0)), (4, .int (mI none)), (3, .int (nI v0)), (0, .ref r0), (1, .int (nI ju)), (2, .int (nI jf))]) [0, 1, 2, 3, 4, 5] rfl ?_
        exact lp62 _ kw1_35 kn1_36 M1_37 mw1_38 true none v0 0 (by first | exact hR9.2.2.2.1 | exact hkw) (by first | exact hR9.2.2.2.2.1 | exact hkn) (by first | exact hR9.2.2.2.2.2 | exact hM) hs0 (Nat.zero_le _) (by omega) rfl
      ·
        have hs0 : SN (n, m, sh, 0, ki, op, fa, K, G, T) ju jf 0 none 99 := sn_00 (by rw [← hh0]; exact h_44)
        refine v_bp (v := (nI 99)) 41 zC dX5_soonest_39 (by decide +kernel) ?_
        refine v_goto 50 zC dX5_soonest_41 ?_
        refine v_is_n (lv2 := [(3, .int (nI 99)), (0, .ref r0), (1, .int (nI ju)), (2, .int (nI jf))]) 51 zC dX5_soonest_50 (by rw [hnE]; decide) rfl ?_
        refine v_bp (v := (-9)) 53 zC dX5_soonest_51 (by decide +kernel) ?_
        refine v_is (lv2 := [(4, .int (-9)), (3, .int (nI 99)), (0, .ref r0), (1, .int (nI ju)), (2, .int (nI jf))]) 55 zC dX5_soonest_53 (by rw [hnE]; decide) rfl ?_
        refine v_al_n 56 zC dX5_soonest_55 2 rfl ?_
        refine v_cV (As := []) (st := []) 59 0 [0, 1, 2, 3, 4, 5, 6, 7, 12] zC dX5_soonest_56 hA (c_X5_think (ev_l E) (ev_D E) cI (r0 := r0) (k1 := k1) (k2 := k2) (k3 := k3) (k4 := k4) (k6 := k6) (k7 := k7) (k8 := k8) (k10 := k10) (k12 := k12) (k13 := k13) (k14 := k14) (k15 := k15) (k16 := k16) (k21 := k21) (k22 := k22) (k23 := k23) (k24 := k24) (k25 := k25) (k30 := k30) (k31 := k31) (k33 := k33) (n := n) (m := m) (aw := 0) (ls := ls) (ap := ap) (sq := sq) (pl := pl) (tz := tz) (rs := rs) (bd := bd) (pd := pd) (tk := tk) (kv := kv) (sd := sd) (ki := ki) (op := op) (fa := fa) (K := K) (G := G) (T := T) (sh := sh) (kp := kp) ) cf_X5_think lk_X5_254 rfl rfl rfl rfl rfl (by decide +kernel) (Nat.le_of_ble_eq_true rfl) (fun rv_80 wv_81 hp_82 hm_83 => ?_)
        clear hm_83
        obtain ⟨kp1_84, hE_85, rfl, rfl⟩ := hp_82
        show VV E 0 0 59 [(4, .int (-9)), (3, .int (nI 99)), (0, .ref r0), (1, .int (nI ju)), (2, .int (nI jf))] [] [(r0, .inr (5, [.int (nI n), .ref k1, .ref k2, .ref k3, .ref k4, .int (nI m), .ref k6, .ref k7, .ref k8, .int (nI 0), .ref k10, .int (nI 0), .ref k12, .ref k13, .ref k14, .ref k15, .ref k16, .int (nI ls), .int (nI ap), .int (bz bd), .int (nI sq), .ref k21, .ref k22, .ref k23, .ref k24, .ref k25, .int (bz pd), .int (nI 48), .int (bz true), .ref k24, .ref k30, .ref k31, .int (nI tz), .ref k33, .int (nI rs), .int sd])), (k1, .inl (cI, 7, .inl (nIf ki))), (k2, .inl (cI, 7, .inl (nIf op))), (k3, .inl (cI, 7, .inl (nIf (shF sh)))), (k4, .inl (cI, 7, .inl (nIf fa))), (k6, .inl (cI, 6, .inl (nIf K))), (k7, .inl (cI, 6, .inl (nIf G))), (k8, .inl (cI, 6, .inl (nIf T))), (k12, .inl (cI, 7, .inl (nIf kw1_35))), (k13, .inl (cI, 175, .inl (nIf kn1_36))), (k14, .inl (cI, 144, .inl (mIf M1_37))), (k15, .inl (cI, 7, .inl (nIf mw1_38))), (k24, .inl (cI, 48, .inl (nIf kp1_84))), (k10, .inl (cI, 7, .inl (nIf R)))]
        have hE9 := hE_85
        refine v_ic (v := (nI 0)) 60 zC dX5_soonest_59 (by decide +kernel) ?_
        refine v_is (lv2 := [(5, .int (nI 0)), (4, .int (-9)), (3, .int (nI 99)), (0, .ref r0), (1, .int (nI ju)), (2, .int (nI jf))]) 62 zC dX5_soonest_60 (by rw [hnE]; decide) rfl ?_
        have lp62 : ∀ (mz : Nat) (kw2 : Nat → Nat) (kn2 : Nat → Nat) (M2 : Nat → Option Nat) (mw2 : Nat → Nat) (tk2 : Bool) (B : Option Nat) (L : Nat) (p : Nat), (∀ z, kw2 z < 1024) → (∀ z, kn2 z < 1024) → (∀ z v, M2 z = some v → v < 7) → (SN (n, m, sh, 0, ki, op, fa, K, G, T) ju jf p B L) → (p ≤ n) → (L ≤ 99) → n - p = mz → VV E 0 0 62 [(5, .int (nI p)), (4, .int (mI B)), (3, .int (nI L)), (0, .ref r0), (1, .int (nI ju)), (2, .int (nI jf))] [] [(r0, .inr (5, [.int (nI n), .ref k1, .ref k2, .ref k3, .ref k4, .int (nI m), .ref k6, .ref k7, .ref k8, .int (nI 0), .ref k10, .int (nI 0), .ref k12, .ref k13, .ref k14, .ref k15, .ref k16, .int (nI ls), .int (nI ap), .int (bz bd), .int (nI sq), .ref k21, .ref k22, .ref k23, .ref k24, .ref k25, .int (bz pd), .int (nI 48), .int (bz tk2), .ref k24, .ref k30, .ref k31, .int (nI tz), .ref k33, .int (nI rs), .int sd])), (k1, .inl (cI, 7, .inl (nIf ki))), (k2, .inl (cI, 7, .inl (nIf op))), (k3, .inl (cI, 7, .inl (nIf (shF sh)))), (k4, .inl (cI, 7, .inl (nIf fa))), (k6, .inl (cI, 6, .inl (nIf K))), (k7, .inl (cI, 6, .inl (nIf G))), (k8, .inl (cI, 6, .inl (nIf T))), (k12, .inl (cI, 7, .inl (nIf kw2))), (k13, .inl (cI, 175, .inl (nIf kn2))), (k14, .inl (cI, 144, .inl (mIf M2))), (k15, .inl (cI, 7, .inl (nIf mw2))), (k24, .inl (cI, 48, .inl (nIf kp1_84))), (k10, .inl (cI, 7, .inl (nIf R)))] := by
          intro mz
          induction mz using Nat.strongRecOn with
          | _ mz ih62 =>
          intro kw2 kn2 M2 mw2 tk2 B L p hkw2 hkn2 hM2 hS hp hL hm62
          refine v_il 64 zC dX5_soonest_62 0 rfl ?_
          refine v_al_n 65 zC dX5_soonest_64 3 rfl ?_
          refine v_gf 68 0 zC dX5_soonest_65 gf_X5_77 rfl rfl ?_
          refine v_icmpn_ge 149 71 zC dX5_soonest_68 (fun h_86 => ?_) (fun h_86 => ?_)
          ·
            refine v_il 151 zC dX5_soonest_149 1 rfl ?_
            refine v_iret zC zT dX5_soonest_151  ?_
            first | (have g9 := hn_p9; exact ⟨kw, kn, M, mw, kp, pl, tk, kv, 1, _, by unfold q_soonest; rw [hn_p9], hkw, hkn, hM, rfl, rfl⟩) | (have g9 := hn_f; exact ⟨kw, kn, M, mw, kp, pl, tk, kv, 1, _, by unfold q_soonest; rw [hi_p9]; dsimp only; rw [hn_f], hkw, hkn, hM, rfl, rfl⟩) | exact ⟨_, _, _, _, _, _, _, _, 0, _, by unfold q_soonest; rw [hi_p9]; dsimp only; rw [hi_f]; dsimp only; obtain ⟨x9, hx9, _⟩ := hS; rw [show g_n (n, m, sh, 0, ki, op, fa, K, G, T) = p from (by show n = p; omega), ← hx9], hkw2, hkn2, hM2, rfl, rfl⟩
          ·
            refine v_al_n 72 zC dX5_soonest_71 3 rfl ?_
            refine v_gf 75 0 zC dX5_soonest_72 gf_X5_13 rfl rfl ?_
            refine v_il 77 zC dX5_soonest_75 0 rfl ?_
            refine v_ldcw (v := (nI 16777215)) 80 zC dX5_soonest_77 kc_X5_263 ?_
            refine v_iasn (ws2 := [(r0, .inr (5, [.int (nI n), .ref k1, .ref k2, .ref k3, .ref k4, .int (nI m), .ref k6, .ref k7, .ref k8, .int (nI 0), .ref k10, .int (nI 0), .ref k12, .ref k13, .ref k14, .ref k15, .ref k16, .int (nI ls), .int (nI ap), .int (bz bd), .int (nI sq), .ref k21, .ref k22, .ref k23, .ref k24, .ref k25, .int (bz pd), .int (nI 48), .int (bz tk2), .ref k24, .ref k30, .ref k31, .int (nI tz), .ref k33, .int (nI rs), .int sd])), (k1, .inl (cI, 7, .inl (nIf ki))), (k2, .inl (cI, 7, .inl (nIf (un op p 16777215)))), (k3, .inl (cI, 7, .inl (nIf (shF sh)))), (k4, .inl (cI, 7, .inl (nIf fa))), (k6, .inl (cI, 6, .inl (nIf K))), (k7, .inl (cI, 6, .inl (nIf G))), (k8, .inl (cI, 6, .inl (nIf T))), (k12, .inl (cI, 7, .inl (nIf kw2))), (k13, .inl (cI, 175, .inl (nIf kn2))), (k14, .inl (cI, 144, .inl (mIf M2))), (k15, .inl (cI, 7, .inl (nIf mw2))), (k24, .inl (cI, 48, .inl (nIf kp1_84))), (k10, .inl (cI, 7, .inl (nIf R)))]) 81 2 zC dX5_soonest_80 rfl (by omega) (by rw [upd_nIf]; first | done | rfl) ?_
            refine v_al_n 82 zC dX5_soonest_81 3 rfl ?_
            refine v_gf 85 0 zC dX5_soonest_82 gf_X5_16 rfl rfl ?_
            refine v_il 87 zC dX5_soonest_85 0 rfl ?_
            refine v_ic (v := (nI 0)) 88 zC dX5_soonest_87 (by decide +kernel) ?_
            refine v_iasn (ws2 := [(r0, .inr (5, [.int (nI n), .ref k1, .ref k2, .ref k3, .ref k4, .int (nI m), .ref k6, .ref k7, .ref k8, .int (nI 0), .ref k10, .int (nI 0), .ref k12, .ref k13, .ref k14, .ref k15, .ref k16, .int (nI ls), .int (nI ap), .int (bz bd), .int (nI sq), .ref k21, .ref k22, .ref k23, .ref k24, .ref k25, .int (bz pd), .int (nI 48), .int (bz tk2), .ref k24, .ref k30, .ref k31, .int (nI tz), .ref k33, .int (nI rs), .int sd])), (k1, .inl (cI, 7, .inl (nIf ki))), (k2, .inl (cI, 7, .inl (nIf (un op p 16777215)))), (k3, .inl (cI, 7, .inl (nIf (un (shF sh) p 0)))), (k4, .inl (cI, 7, .inl (nIf fa))), (k6, .inl (cI, 6, .inl (nIf K))), (k7, .inl (cI, 6, .inl (nIf G))), (k8, .inl (cI, 6, .inl (nIf T))), (k12, .inl (cI, 7, .inl (nIf kw2))), (k13, .inl (cI, 175, .inl (nIf kn2))), (k14, .inl (cI, 144, .inl (mIf M2))), (k15, .inl (cI, 7, .inl (nIf mw2))), (k24, .inl (cI, 48, .inl (nIf kp1_84))), (k10, .inl (cI, 7, .inl (nIf R)))]) 89 3 zC dX5_soonest_88 rfl (by omega) (by rw [upd_nIf]; first | done | rfl) ?_
            refine v_al_n 90 zC dX5_soonest_89 3 rfl ?_
            rw [shf_c]
            refine v_cV (As := []) (st := []) 93 0 [0, 1, 2, 3, 4, 5, 6, 7, 8, 9, 10, 11] zC dX5_soonest_90 hA (c_X5_day (ev_l E) (ev_D E) cI (r0 := r0) (k1 := k1) (k2 := k2) (k3 := k3) (k4 := k4) (k6 := k6) (k7 := k7) (k8 := k8) (k10 := k10) (k12 := k12) (k13 := k13) (k14 := k14) (k15 := k15) (k16 := k16) (k21 := k21) (k22 := k22) (k23 := k23) (k24 := k24) (k25 := k25) (k30 := k30) (k31 := k31) (k33 := k33) (n := n) (m := m) (aw := 0) (ls := ls) (ap := ap) (sq := sq) (pl := 48) (tz := tz) (rs := rs) (bd := bd) (pd := pd) (tk := tk2) (kv := (.ref k24 : Value)) (sd := sd) (ki := ki) (op := (un op p 16777215)) (fa := fa) (K := K) (G := G) (T := T) (sh := (andn sh (2 ^ p))) (kw := kw2) (kn := kn2) (M := M2) (mw := mw2) (hw := ⟨hn, hm, (andn_lt hsh), hki, (un_b hop (by decide)), hfa, hK, hG, hT, vki, (un_v vop (by omega)), vfa, vK, vG, vT⟩) (hkw := hkw2) (hkn := hkn2) (hM := hM2)) cf_X5_day lk_X5_123 rfl rfl rfl rfl rfl (by decide +kernel) (Nat.le_of_ble_eq_true rfl) (fun rv_87 wv_88 hp_89 hm_90 => ?_)
            clear hm_90
            obtain ⟨kw1_91, kn1_92, M1_93, mw1_94, hR_95, rfl, rfl⟩ := hp_89
            show VV E 0 0 93 [(5, .int (nI p)), (4, .int (mI B)), (3, .int (nI L)), (0, .ref r0), (1, .int (nI ju)), (2, .int (nI jf))] [] [(r0, .inr (5, [.int (nI n), .ref k1, .ref k2, .ref k3, .ref k4, .int (nI m), .ref k6, .ref k7, .ref k8, .int (nI 0), .ref k10, .int (nI 0), .ref k12, .ref k13, .ref k14, .ref k15, .ref k16, .int (nI ls), .int (nI ap), .int (bz bd), .int (nI sq), .ref k21, .ref k22, .ref k23, .ref k24, .ref k25, .int (bz pd), .int (nI 48), .int (bz tk2), .ref k24, .ref k30, .ref k31, .int (nI tz), .ref k33, .int (nI rs), .int sd])), (k1, .inl (cI, 7, .inl (nIf ki))), (k2, .inl (cI, 7, .inl (nIf (un op p 16777215)))), (k3, .inl (cI, 7, .inl (nIf (shF (andn sh (2 ^ p)))))), (k4, .inl (cI, 7, .inl (nIf fa))), (k6, .inl (cI, 6, .inl (nIf K))), (k7, .inl (cI, 6, .inl (nIf G))), (k8, .inl (cI, 6, .inl (nIf T))), (k12, .inl (cI, 7, .inl (nIf kw1_91))), (k13, .inl (cI, 175, .inl (nIf kn1_92))), (k14, .inl (cI, 144, .inl (mIf M1_93))), (k15, .inl (cI, 7, .inl (nIf mw1_94))), (k24, .inl (cI, 48, .inl (nIf kp1_84))), (k10, .inl (cI, 7, .inl (nIf R)))]
            have hR9 := hR_95
            refine v_al_n 94 zC dX5_soonest_93 3 rfl ?_
            refine v_il_n 95 zC dX5_soonest_94 4 rfl ?_
            refine v_il_n 96 zC dX5_soonest_95 5 rfl ?_
            refine v_cV (As := [.int (nI ju), .int (nI jf)]) (st := []) 99 0 [0, 9] zC dX5_soonest_96 hA (c_X5_heardAt (ev_l E) (ev_D E) cI (r0 := r0) (k1 := k1) (k2 := k2) (k3 := k3) (k4 := k4) (k6 := k6) (k7 := k7) (k8 := k8) (k10 := k10) (k12 := k12) (k13 := k13) (k14 := k14) (k15 := k15) (k16 := k16) (k21 := k21) (k22 := k22) (k23 := k23) (k24 := k24) (k25 := k25) (k30 := k30) (k31 := k31) (k33 := k33) (n := n) (m := m) (aw := 0) (ls := ls) (ap := ap) (sq := sq) (pl := 48) (tz := tz) (rs := rs) (bd := bd) (pd := pd) (tk := tk2) (kv := (.ref k24 : Value)) (sd := sd) (ki := ki) (op := (un op p 16777215)) (fa := fa) (K := K) (G := G) (T := T) (sh := (andn sh (2 ^ p))) (kw := kw1_91) (kn := kn1_92) (M := M1_93) (p := ju) (f := jf) (hn := (by first | omega | assumption | rfl | (simp only []; omega) | decide)) (hm := (by first | omega | assumption | rfl | (simp only []; omega) | decide)) (hR := hR9) (hp := (by first | omega | assumption | rfl | (simp only []; omega) | decide)) (hf := (by first | omega | assumption | rfl | (simp only []; omega) | decide))) cf_X5_heardAt lk_X5_236 rfl rfl rfl rfl rfl (by decide +kernel) (Nat.le_of_ble_eq_true rfl) (fun rv_96 wv_97 hp_98 hm_99 => ?_)
            clear hm_99
            obtain ⟨rfl, rfl⟩ := hp_98
            show VV E 0 0 99 [(5, .int (nI p)), (4, .int (mI B)), (3, .int (nI L)), (0, .ref r0), (1, .int (nI ju)), (2, .int (nI jf))] [.int (mI (HEARD (n, m, (andn sh (2 ^ p)), 0, ki, (un op p 16777215), fa, K, G, T) ju jf))] [(r0, .inr (5, [.int (nI n), .ref k1, .ref k2, .ref k3, .ref k4, .int (nI m), .ref k6, .ref k7, .ref k8, .int (nI 0), .ref k10, .int (nI 0), .ref k12, .ref k13, .ref k14, .ref k15, .ref k16, .int (nI ls), .int (nI ap), .int (bz bd), .int (nI sq), .ref k21, .ref k22, .ref k23, .ref k24, .ref k25, .int (bz pd), .int (nI 48), .int (bz tk2), .ref k24, .ref k30, .ref k31, .int (nI tz), .ref k33, .int (nI rs), .int sd])), (k1, .inl (cI, 7, .inl (nIf ki))), (k2, .inl (cI, 7, .inl (nIf (un op p 16777215)))), (k3, .inl (cI, 7, .inl (nIf (shF (andn sh (2 ^ p)))))), (k4, .inl (cI, 7, .inl (nIf fa))), (k6, .inl (cI, 6, .inl (nIf K))), (k7, .inl (cI, 6, .inl (nIf G))), (k8, .inl (cI, 6, .inl (nIf T))), (k12, .inl (cI, 7, .inl (nIf kw1_91))), (k13, .inl (cI, 175, .inl (nIf kn1_92))), (k14, .inl (cI, 144, .inl (mIf M1_93))), (k15, .inl (cI, 7, .inl (nIf mw1_94))), (k24, .inl (cI, 48, .inl (nIf kp1_84))), (k10, .inl (cI, 7, .inl (nIf R)))]
            obtain ⟨hd, hh9⟩ : ∃ z, z = (HEARD (n, m, (andn sh (2 ^ p)), 0, ki, (un op p 16777215), fa, K, G, T) ju jf) := ⟨_, rfl⟩
            rw [← hh9]
            refine v_is (lv2 := [(6, .int (mI hd)), (5, .int (nI p)), (4, .int (mI B)), (3, .int (nI L)), (0, .ref r0), (1, .int (nI ju)), (2, .int (nI jf))]) 101 zC dX5_soonest_99 (by rw [hnE]; decide) rfl ?_
            refine v_al_n 102 zC dX5_soonest_101 4 rfl ?_
            refine v_cV (As := []) (st := []) 105 0 [0, 1, 2, 3, 4, 5, 6, 7, 12] zC dX5_soonest_102 hA (c_X5_again (ev_l E) (ev_D E) cI (r0 := r0) (k1 := k1) (k2 := k2) (k3 := k3) (k4 := k4) (k6 := k6) (k7 := k7) (k8 := k8) (k10 := k10) (k12 := k12) (k13 := k13) (k14 := k14) (k15 := k15) (k16 := k16) (k21 := k21) (k22 := k22) (k23 := k23) (k24 := k24) (k25 := k25) (k30 := k30) (k31 := k31) (k33 := k33) (n := n) (m := m) (aw := 0) (ls := ls) (ap := ap) (sq := sq) (pl := 48) (tz := tz) (rs := rs) (bd := bd) (pd := pd) (tk := tk2) (kv := (.ref k24 : Value)) (sd := sd) (ki := ki) (op := (un op p 16777215)) (fa := fa) (K := K) (G := G) (T := T) (sh := (andn sh (2 ^ p))) (kp := kp1_84) (n1 := n) (m1 := m) (sh1 := sh) (aw1 := 0) (ki1 := ki) (op1 := op) (fa1 := fa) (K1 := K) (G1 := G) (T1 := T) (hw := ⟨hn, hm, (andn_lt hsh), hki, (un_b hop (by decide)), hfa, hK, hG, hT, vki, (un_v vop (by omega)), vfa, vK, vG, vT⟩) (hw1 := hw) (hE := hE9)) cf_X5_again lk_X5_260 rfl rfl rfl rfl rfl (by decide +kernel) (Nat.le_of_ble_eq_true rfl) (fun rv_100 wv_101 hp_102 hm_103 => ?_)
            clear hm_103
            obtain ⟨rfl, rfl⟩ := hp_102
            show VV E 0 0 105 [(6, .int (mI hd)), (5, .int (nI p)), (4, .int (mI B)), (3, .int (nI L)), (0, .ref r0), (1, .int (nI ju)), (2, .int (nI jf))] [] [(r0, .inr (5, [.int (nI n), .ref k1, .ref k2, .ref k3, .ref k4, .int (nI m), .ref k6, .ref k7, .ref k8, .int (nI 0), .ref k10, .int (nI 0), .ref k12, .ref k13, .ref k14, .ref k15, .ref k16, .int (nI ls), .int (nI ap), .int (bz bd), .int (nI sq), .ref k21, .ref k22, .ref k23, .ref k24, .ref k25, .int (bz pd), .int (nI 48), .int (bz false), .ref k24, .ref k30, .ref k31, .int (nI tz), .ref k33, .int (nI rs), .int sd])), (k1, .inl (cI, 7, .inl (nIf ki))), (k2, .inl (cI, 7, .inl (nIf op))), (k3, .inl (cI, 7, .inl (nIf (shF sh)))), (k4, .inl (cI, 7, .inl (nIf fa))), (k6, .inl (cI, 6, .inl (nIf K))), (k7, .inl (cI, 6, .inl (nIf G))), (k8, .inl (cI, 6, .inl (nIf T))), (k12, .inl (cI, 7, .inl (nIf kw1_91))), (k13, .inl (cI, 175, .inl (nIf kn1_92))), (k14, .inl (cI, 144, .inl (mIf M1_93))), (k15, .inl (cI, 7, .inl (nIf mw1_94))), (k24, .inl (cI, 48, .inl (nIf kp1_84))), (k10, .inl (cI, 7, .inl (nIf R)))]
            refine v_il 107 zC dX5_soonest_105 0 rfl ?_
            refine v_ifo_lt 121 110 zC dX5_soonest_107 (fun v e => Nat.lt_trans (heard_25 v (hh9.symm.trans e)) (by decide)) (fun h_104 => ?_) (fun h_104 => ?_)
            ·
              have hz9 : hd = none := by cases hd with | none => rfl | some _ => cases h_104
              subst hz9
              refine v_il 123 zC dX5_soonest_121 2 rfl ?_
              refine v_is (lv2 := [(4, .int (mI B)), (6, .int (-9)), (5, .int (nI p)), (3, .int (nI L)), (0, .ref r0), (1, .int (nI ju)), (2, .int (nI jf))]) 125 zC dX5_soonest_123 (by rw [hnE]; decide) rfl ?_
              refine v_il 127 zC dX5_soonest_125 1 rfl ?_
              refine v_if_lt 141 130 zC dX5_soonest_127 (fun _ => ?_) (fun z => absurd (by decide +kernel) z)
              refine v_il_n 142 zC dX5_soonest_141 3 rfl ?_
              refine v_is_n (lv2 := [(3, .int (nI L)), (4, .int (mI B)), (6, .int (-9)), (5, .int (nI p)), (0, .ref r0), (1, .int (nI ju)), (2, .int (nI jf))]) 143 zC dX5_soonest_142 (by rw [hnE]; decide) rfl ?_
              refine v_inc (v := (nI (p + 1))) (lv2 := [(5, .int (nI (p + 1))), (3, .int (nI L)), (4, .int (mI B)), (6, .int (-9)), (0, .ref r0), (1, .int (nI ju)), (2, .int (nI jf))]) 146 zC dX5_soonest_143 (j := 3) rfl (nI_add _ 1) (by rw [hnE]; decide) rfl ?_
              refine v_goto 62 zC dX5_soonest_146 ?_
              refine v_lvs (lv2 := [(5, .int (nI (p + 1))), (4, .int (mI B)), (3, .int (nI L)), (0, .ref r0), (1, .int (nI ju)), (2, .int (nI jf))]) [0, 2, 1, 4, 5, 6] rfl ?_
              exact ih62 _ (by omega) kw1_91 kn1_92 M1_93 mw1_94 false B L (p + 1) (by first | exact hR9.2.2.2.1 | exact hkw2) (by first | exact hR9.2.2.2.2.1 | exact hkn2) (by first | exact hR9.2.2.2.2.2 | exact hM2) (by first | exact sn_1 hS hh9.symm hlt9 | exact sn_2 hS hh9.symm hge9 | exact sn_3 hS hh9.symm) (by first | omega | assumption | rfl | (simp only []; omega) | decide) (by first | omega | assumption | rfl | (simp only []; omega) | decide) rfl
            ·
              obtain ⟨v9, he_v9⟩ := Option.isSome_iff_exists.mp h_104
              subst he_v9
              have hv9 := heard_25 v9 hh9.symm
              refine v_il 112 zC dX5_soonest_110 0 rfl ?_
              refine v_il_n 113 zC dX5_soonest_112 3 rfl ?_
              refine v_icmpn_ge 121 116 zC dX5_soonest_113 (fun h_106 => ?_) (fun h_106 => ?_)
              ·
                have hge9 := h_106
                refine v_il 123 zC dX5_soonest_121 2 rfl ?_
                refine v_is (lv2 := [(4, .int (mI B)), (6, .int (nI v9)), (5, .int (nI p)), (3, .int (nI L)), (0, .ref r0), (1, .int (nI ju)), (2, .int (nI jf))]) 125 zC dX5_soonest_123 (by rw [hnE]; decide) rfl ?_
                refine v_il 127 zC dX5_soonest_125 1 rfl ?_
                refine v_ifn_lt 141 130 zC dX5_soonest_127 (fun z => absurd z (Nat.not_lt_zero _)) (fun _ => ?_)
                refine v_il 132 zC dX5_soonest_130 1 rfl ?_
                refine v_il_n 133 zC dX5_soonest_132 3 rfl ?_
                refine v_icmpn_ge 141 136 zC dX5_soonest_133 (fun h_108 => ?_) (fun h_108 => False.elim (by first | omega | exact bcon h_108 (by assumption) | exact bcon (by assumption) h_108))
                refine v_il_n 142 zC dX5_soonest_141 3 rfl ?_
                refine v_is_n (lv2 := [(3, .int (nI L)), (4, .int (mI B)), (6, .int (nI v9)), (5, .int (nI p)), (0, .ref r0), (1, .int (nI ju)), (2, .int (nI jf))]) 143 zC dX5_soonest_142 (by rw [hnE]; decide) rfl ?_
                refine v_inc (v := (nI (p + 1))) (lv2 := [(5, .int (nI (p + 1))), (3, .int (nI L)), (4, .int (mI B)), (6, .int (nI v9)), (0, .ref r0), (1, .int (nI ju)), (2, .int (nI jf))]) 146 zC dX5_soonest_143 (j := 3) rfl (nI_add _ 1) (by rw [hnE]; decide) rfl ?_
                refine v_goto 62 zC dX5_soonest_146 ?_
                refine v_lvs (lv2 := [(5, .int (nI (p + 1))), (4, .int (mI B)), (3, .int (nI L)), (0, .ref r0), (1, .int (nI ju)), (2, .int (nI jf))]) [0, 2, 1, 4, 5, 6] rfl ?_
                exact ih62 _ (by omega) kw1_91 kn1_92 M1_93 mw1_94 false B L (p + 1) (by first | exact hR9.2.2.2.1 | exact hkw2) (by first | exact hR9.2.2.2.2.1 | exact hkn2) (by first | exact hR9.2.2.2.2.2 | exact hM2) (by first | exact sn_1 hS hh9.symm hlt9 | exact sn_2 hS hh9.symm hge9 | exact sn_3 hS hh9.symm) (by first | omega | assumption | rfl | (simp only []; omega) | decide) (by first | omega | assumption | rfl | (simp only []; omega) | decide) rfl
              ·
                have hlt9 := h_106
                refine v_il 118 zC dX5_soonest_116 1 rfl ?_
                refine v_goto 123 zC dX5_soonest_118 ?_
                refine v_is (lv2 := [(4, .int (nI p)), (6, .int (nI v9)), (5, .int (nI p)), (3, .int (nI L)), (0, .ref r0), (1, .int (nI ju)), (2, .int (nI jf))]) 125 zC dX5_soonest_123 (by rw [hnE]; decide) rfl ?_
                refine v_il 127 zC dX5_soonest_125 1 rfl ?_
                refine v_ifn_lt 141 130 zC dX5_soonest_127 (fun z => absurd z (Nat.not_lt_zero _)) (fun _ => ?_)
                refine v_il 132 zC dX5_soonest_130 1 rfl ?_
                refine v_il_n 133 zC dX5_soonest_132 3 rfl ?_
                refine v_icmpn_ge 141 136 zC dX5_soonest_133 (fun h_110 => False.elim (by first | omega | exact bcon h_110 (by assumption) | exact bcon (by assumption) h_110)) (fun h_110 => ?_)
                refine v_il 138 zC dX5_soonest_136 1 rfl ?_
                refine v_goto 142 zC dX5_soonest_138 ?_
                refine v_is_n (lv2 := [(3, .int (nI v9)), (4, .int (nI p)), (6, .int (nI v9)), (5, .int (nI p)), (0, .ref r0), (1, .int (nI ju)), (2, .int (nI jf))]) 143 zC dX5_soonest_142 (by rw [hnE]; decide) rfl ?_
                refine v_inc (v := (nI (p + 1))) (lv2 := [(5, .int (nI (p + 1))), (3, .int (nI v9)), (4, .int (nI p)), (6, .int (nI v9)), (0, .ref r0), (1, .int (nI ju)), (2, .int (nI jf))]) 146 zC dX5_soonest_143 (j := 3) rfl (nI_add _ 1) (by rw [hnE]; decide) rfl ?_
                refine v_goto 62 zC dX5_soonest_146 ?_
                refine v_lvs (lv2 := [(5, .int (nI (p + 1))), (4, .int (mI (some p))), (3, .int (nI v9)), (0, .ref r0), (1, .int (nI ju)), (2, .int (nI jf))]) [0, 2, 1, 4, 5, 6] rfl ?_
                exact ih62 _ (by omega) kw1_91 kn1_92 M1_93 mw1_94 false (some p) v9 (p + 1) (by first | exact hR9.2.2.2.1 | exact hkw2) (by first | exact hR9.2.2.2.2.1 | exact hkn2) (by first | exact hR9.2.2.2.2.2 | exact hM2) (by first | exact sn_1 hS hh9.symm hlt9 | exact sn_2 hS hh9.symm hge9 | exact sn_3 hS hh9.symm) (by first | omega | assumption | rfl | (simp only []; omega) | decide) (by first | omega | assumption | rfl | (simp only []; omega) | decide) rfl
        refine v_lvs (lv2 := [(5, .int (nI 0)), (4, .int (mI none)), (3, .int (nI 99)), (0, .ref r0), (1, .int (nI ju)), (2, .int (nI jf))]) [0, 1, 2, 3, 4, 5] rfl ?_
        exact lp62 _ kw1_35 kn1_36 M1_37 mw1_38 true none 99 0 (by first | exact hR9.2.2.2.1 | exact hkw) (by first | exact hR9.2.2.2.2.1 | exact hkn) (by first | exact hR9.2.2.2.2.2 | exact hM) hs0 (Nat.zero_le _) (by omega) rfl
set_option maxRecDepth 100000 in
set_option maxHeartbeats 4000000 in
theorem c_X5_opening (l : Launch) (D : va_G) (cI : ClassId) (r0 k1 k2 k3 k4 k6 k7 k8 k10 k12 k13 k14 k15 k16 k21 k22 k23 k24 k25 k30 k31 k33 : Nat) (n m ls ap sq pl tz rs : Nat) (bd pd tk : Bool) (kv : Value) (sd : Int32) (ki op fa K G T : Nat → Nat) (sh : Nat) (kw kn : Nat → Nat) (M : Nat → Option Nat) (mw : Nat → Nat) (kp R : Nat → Nat) (p w : Int32) (hw : FW n m sh ki op fa K G T) (hkw : ∀ z, kw z < 1024) (hkn : ∀ z, kn z < 1024) (hM : ∀ z v, M z = some v → v < 7) : CT l yX5_opening cX5_opening 8 (some .int) { frames := 7, cells := 0, slots := 0, locals := 158 } D cI [.ref r0, .int p, .int w] [(r0, .inr (5, [.int (nI n), .ref k1, .ref k2, .ref k3, .ref k4, .int (nI m), .ref k6, .ref k7, .ref k8, .int (nI 0), .ref k10, .int (nI 0), .ref k12, .ref k13, .ref k14, .ref k15, .ref k16, .int (nI ls), .int (nI ap), .int (bz bd), .int (nI sq), .ref k21, .ref k22, .ref k23, .ref k24, .ref k25, .int (bz pd), .int (nI pl), .int (bz tk), kv, .ref k30, .ref k31, .int (nI tz), .ref k33, .int (nI rs), .int sd])), (k1, .inl (cI, 7, .inl (nIf ki))), (k2, .inl (cI, 7, .inl (nIf op))), (k3, .inl (cI, 7, .inl (nIf (shF sh)))), (k4, .inl (cI, 7, .inl (nIf fa))), (k6, .inl (cI, 6, .inl (nIf K))), (k7, .inl (cI, 6, .inl (nIf G))), (k8, .inl (cI, 6, .inl (nIf T))), (k12, .inl (cI, 7, .inl (nIf kw))), (k13, .inl (cI, 175, .inl (nIf kn))), (k14, .inl (cI, 144, .inl (mIf M))), (k15, .inl (cI, 7, .inl (nIf mw))), (k24, .inl (cI, 48, .inl (nIf kp))), (k10, .inl (cI, 7, .inl (nIf R)))] (fun zr zw => (∃ kw1 : Nat → Nat, ∃ kn1 : Nat → Nat, ∃ M1 : Nat → Option Nat, ∃ mw1 : Nat → Nat, ∃ kp1 : Nat → Nat, ∃ pl1 : Nat, ∃ tk1 : Bool, ∃ kv1 : Value, ∃ rc : Nat, ∃ rv : Int32, (q_opening (n, m, sh, 0, ki, op, fa, K, G, T) p w = (rc, rv)) ∧ (∀ z, kw1 z < 1024) ∧ (∀ z, kn1 z < 1024) ∧ (∀ z v, M1 z = some v → v < 7) ∧ zr = some (.int rv) ∧ zw = [(r0, .inr (5, [.int (nI n), .ref k1, .ref k2, .ref k3, .ref k4, .int (nI m), .ref k6, .ref k7, .ref k8, .int (nI 0), .ref k10, .int (nI 0), .ref k12, .ref k13, .ref k14, .ref k15, .ref k16, .int (nI ls), .int (nI ap), .int (bz bd), .int (nI sq), .ref k21, .ref k22, .ref k23, .ref k24, .ref k25, .int (bz pd), .int (nI pl1), .int (bz tk1), kv1, .ref k30, .ref k31, .int (nI tz), .ref k33, .int (nI rs), .int sd])), (k1, .inl (cI, 7, .inl (nIf ki))), (k2, .inl (cI, 7, .inl (nIf op))), (k3, .inl (cI, 7, .inl (nIf (shF sh)))), (k4, .inl (cI, 7, .inl (nIf fa))), (k6, .inl (cI, 6, .inl (nIf K))), (k7, .inl (cI, 6, .inl (nIf G))), (k8, .inl (cI, 6, .inl (nIf T))), (k12, .inl (cI, 7, .inl (nIf kw1))), (k13, .inl (cI, 175, .inl (nIf kn1))), (k14, .inl (cI, 144, .inl (mIf M1))), (k15, .inl (cI, 7, .inl (nIf mw1))), (k24, .inl (cI, 48, .inl (nIf kp1))), (k10, .inl (cI, 7, .inl (nIf (rf R rc))))])) := by
  refine CT_of RX5 rfl (by decide +kernel) (Nat.le_of_ble_eq_true rfl) (fun E hnE zC zT => ?_)
  have hA : ∀ q, (ev_s E).heap.size ≤ q → ev_A E q := fun q h => by rw [zT.2]; exact Or.inr h
  obtain ⟨hn, hm, hsh, hki, hop, hfa, hK, hG, hT, vki, vop, vfa, vK, vG, vT⟩ := id hw
  have h2n : 2 ^ n ≤ 2 ^ 7 := Nat.pow_le_pow_right (by decide) hn
  show VV E 0 0 0 [(0, .ref r0), (1, .int p), (2, .int w)] [] [(r0, .inr (5, [.int (nI n), .ref k1, .ref k2, .ref k3, .ref k4, .int (nI m), .ref k6, .ref k7, .ref k8, .int (nI 0), .ref k10, .int (nI 0), .ref k12, .ref k13, .ref k14, .ref k15, .ref k16, .int (nI ls), .int (nI ap), .int (bz bd), .int (nI sq), .ref k21, .ref k22, .ref k23, .ref k24, .ref k25, .int (bz pd), .int (nI pl), .int (bz tk), kv, .ref k30, .ref k31, .int (nI tz), .ref k33, .int (nI rs), .int sd])), (k1, .inl (cI, 7, .inl (nIf ki))), (k2, .inl (cI, 7, .inl (nIf op))), (k3, .inl (cI, 7, .inl (nIf (shF sh)))), (k4, .inl (cI, 7, .inl (nIf fa))), (k6, .inl (cI, 6, .inl (nIf K))), (k7, .inl (cI, 6, .inl (nIf G))), (k8, .inl (cI, 6, .inl (nIf T))), (k12, .inl (cI, 7, .inl (nIf kw))), (k13, .inl (cI, 175, .inl (nIf kn))), (k14, .inl (cI, 144, .inl (mIf M))), (k15, .inl (cI, 7, .inl (nIf mw))), (k24, .inl (cI, 48, .inl (nIf kp))), (k10, .inl (cI, 7, .inl (nIf R)))]
  refine v_al_n 1 zC dX5_opening_0 0 rfl ?_
  refine v_ic (v := (nI 0)) 2 zC dX5_opening_1 (by decide +kernel) ?_
  refine v_pf (ws2 := [(r0, .inr (5, [.int (nI n), .ref k1, .ref k2, .ref k3, .ref k4, .int (nI m), .ref k6, .ref k7, .ref k8, .int (nI 0), .ref k10, .int (nI 0), .ref k12, .ref k13, .ref k14, .ref k15, .ref k16, .int (nI ls), .int (nI ap), .int (bz bd), .int (nI sq), .ref k21, .ref k22, .ref k23, .ref k24, .ref k25, .int (bz pd), .int (nI pl), .int (bz tk), kv, .ref k30, .ref k31, .int (nI tz), .ref k33, .int (nI rs), .int sd])), (k1, .inl (cI, 7, .inl (nIf ki))), (k2, .inl (cI, 7, .inl (nIf op))), (k3, .inl (cI, 7, .inl (nIf (shF sh)))), (k4, .inl (cI, 7, .inl (nIf fa))), (k6, .inl (cI, 6, .inl (nIf K))), (k7, .inl (cI, 6, .inl (nIf G))), (k8, .inl (cI, 6, .inl (nIf T))), (k12, .inl (cI, 7, .inl (nIf kw))), (k13, .inl (cI, 175, .inl (nIf kn))), (k14, .inl (cI, 144, .inl (mIf M))), (k15, .inl (cI, 7, .inl (nIf mw))), (k24, .inl (cI, 48, .inl (nIf kp))), (k10, .inl (cI, 7, .inl (nIf R)))]) 5 0 zC dX5_opening_2 pf_X5_73 rfl (Nat.le_of_ble_eq_true rfl) rfl rfl rfl ?_
  refine v_al_n 6 zC dX5_opening_5 0 rfl ?_
  refine v_il_n 7 zC dX5_opening_6 1 rfl ?_
  refine v_cV (As := [.int p]) (st := []) 10 0 [0] zC dX5_opening_7 hA (c_X5_isOne (ev_l E) (ev_D E) cI (r0 := r0) (k1 := k1) (k2 := k2) (k3 := k3) (k4 := k4) (k6 := k6) (k7 := k7) (k8 := k8) (k10 := k10) (k12 := k12) (k13 := k13) (k14 := k14) (k15 := k15) (k16 := k16) (k21 := k21) (k22 := k22) (k23 := k23) (k24 := k24) (k25 := k25) (k30 := k30) (k31 := k31) (k33 := k33) (n := n) (m := m) (aw := 0) (ls := ls) (ap := ap) (sq := sq) (pl := pl) (tz := tz) (rs := rs) (bd := bd) (pd := pd) (tk := tk) (kv := kv) (sd := sd) (p := p) (hn := (by first | omega | assumption | rfl | (simp only []; omega) | decide))) cf_X5_isOne lk_X5_164 rfl rfl rfl rfl rfl (by decide +kernel) (Nat.le_of_ble_eq_true rfl) (fun rv_1 wv_2 hp_3 hm_4 => ?_)
  clear hm_4
  rcases hp_3 with ⟨hi_5, rfl, rfl⟩ | ⟨j_6, he_7, hi_8, hj_9, rfl, rfl⟩
  ·
    show VV E 0 0 10 [(0, .ref r0), (1, .int p), (2, .int w)] [.int (nI 0)] [(r0, .inr (5, [.int (nI n), .ref k1, .ref k2, .ref k3, .ref k4, .int (nI m), .ref k6, .ref k7, .ref k8, .int (nI 0), .ref k10, .int (nI 0), .ref k12, .ref k13, .ref k14, .ref k15, .ref k16, .int (nI ls), .int (nI ap), .int (bz bd), .int (nI sq), .ref k21, .ref k22, .ref k23, .ref k24, .ref k25, .int (bz pd), .int (nI pl), .int (bz tk), kv, .ref k30, .ref k31, .int (nI tz), .ref k33, .int (nI rs), .int sd])), (k1, .inl (cI, 7, .inl (nIf ki))), (k2, .inl (cI, 7, .inl (nIf op))), (k3, .inl (cI, 7, .inl (nIf (shF sh)))), (k4, .inl (cI, 7, .inl (nIf fa))), (k6, .inl (cI, 6, .inl (nIf K))), (k7, .inl (cI, 6, .inl (nIf G))), (k8, .inl (cI, 6, .inl (nIf T))), (k12, .inl (cI, 7, .inl (nIf kw))), (k13, .inl (cI, 175, .inl (nIf kn))), (k14, .inl (cI, 144, .inl (mIf M))), (k15, .inl (cI, 7, .inl (nIf mw))), (k24, .inl (cI, 48, .inl (nIf kp))), (k10, .inl (cI, 7, .inl (nIf R)))]
    have hn_p := hi_5
    refine v_if_eq 22 13 zC dX5_opening_10 (fun _ => ?_) (fun z => absurd (by decide +kernel) z)
    refine v_ic (v := (-1)) 23 zC dX5_opening_22 (by decide +kernel) ?_
    refine v_is_n (lv2 := [(3, .int (-1)), (0, .ref r0), (1, .int p), (2, .int w)]) 24 zC dX5_opening_23 (by rw [hnE]; decide) rfl ?_
    refine v_il_n 25 zC dX5_opening_24 0 rfl ?_
    refine v_if_ge 34 28 zC dX5_opening_25 (fun z => absurd z (by decide +kernel)) (fun _ => ?_)
    refine v_al_n 29 zC dX5_opening_28 1 rfl ?_
    refine v_il_n 30 zC dX5_opening_29 0 rfl ?_
    refine v_cV (As := [.int (-1)]) (st := []) 33 0 [0, 13] zC dX5_opening_30 hA (c_X5_refuse (ev_l E) (ev_D E) cI (r0 := r0) (k1 := k1) (k2 := k2) (k3 := k3) (k4 := k4) (k6 := k6) (k7 := k7) (k8 := k8) (k10 := k10) (k12 := k12) (k13 := k13) (k14 := k14) (k15 := k15) (k16 := k16) (k21 := k21) (k22 := k22) (k23 := k23) (k24 := k24) (k25 := k25) (k30 := k30) (k31 := k31) (k33 := k33) (n := n) (m := m) (aw := 0) (ls := ls) (ap := ap) (sq := sq) (pl := pl) (tz := tz) (rs := rs) (bd := bd) (pd := pd) (tk := tk) (kv := kv) (sd := sd) (R := R) (v := (-1)) (j := 1) (hv := (by first | omega | assumption | rfl | (simp only []; omega) | decide)) (h1 := (by first | omega | assumption | rfl | (simp only []; omega) | decide)) (h6 := (by first | omega | assumption | rfl | (simp only []; omega) | decide))) cf_X5_refuse lk_X5_129 rfl rfl rfl rfl rfl (by decide +kernel) (Nat.le_of_ble_eq_true rfl) (fun rv_12 wv_13 hp_14 hm_15 => ?_)
    clear hm_15
    obtain ⟨rfl, rfl⟩ := hp_14
    show VV E 0 0 33 [(3, .int (-1)), (0, .ref r0), (1, .int p), (2, .int w)] [.int (-1)] [(r0, .inr (5, [.int (nI n), .ref k1, .ref k2, .ref k3, .ref k4, .int (nI m), .ref k6, .ref k7, .ref k8, .int (nI 0), .ref k10, .int (nI 0), .ref k12, .ref k13, .ref k14, .ref k15, .ref k16, .int (nI ls), .int (nI ap), .int (bz bd), .int (nI sq), .ref k21, .ref k22, .ref k23, .ref k24, .ref k25, .int (bz pd), .int (nI pl), .int (bz tk), kv, .ref k30, .ref k31, .int (nI tz), .ref k33, .int (nI rs), .int sd])), (k1, .inl (cI, 7, .inl (nIf ki))), (k2, .inl (cI, 7, .inl (nIf op))), (k3, .inl (cI, 7, .inl (nIf (shF sh)))), (k4, .inl (cI, 7, .inl (nIf fa))), (k6, .inl (cI, 6, .inl (nIf K))), (k7, .inl (cI, 6, .inl (nIf G))), (k8, .inl (cI, 6, .inl (nIf T))), (k12, .inl (cI, 7, .inl (nIf kw))), (k13, .inl (cI, 175, .inl (nIf kn))), (k14, .inl (cI, 144, .inl (mIf M))), (k15, .inl (cI, 7, .inl (nIf mw))), (k24, .inl (cI, 48, .inl (nIf kp))), (k10, .inl (cI, 7, .inl (nIf (un R 1 (R 1 + 1)))))]
    refine v_iret zC zT dX5_opening_33  ?_
    first | (have g9 := hn_p; exact ⟨kw, kn, M, mw, kp, pl, tk, kv, 1, _, by unfold q_opening; rw [hn_p], hkw, hkn, hM, rfl, rfl⟩) | (have g9 := hn_w; exact ⟨kw, kn, M, mw, kp, pl, tk, kv, 2, _, by unfold q_opening; rw [hi_p]; dsimp only; rw [hn_w], hkw, hkn, hM, rfl, rfl⟩) | exact ⟨_, _, _, _, _, _, _, _, 0, _, by unfold q_opening; rw [hi_p]; dsimp only; rw [hi_w]; dsimp only; rw [show (24 : Nat) = h by omega, ← hs]; first | rw [if_pos (by assumption)] | rw [if_neg (by assumption)], hkw2, hkn2, hM2, rfl, rfl⟩
  ·
    show VV E 0 0 10 [(0, .ref r0), (1, .int p), (2, .int w)] [.int (nI 1)] [(r0, .inr (5, [.int (nI n), .ref k1, .ref k2, .ref k3, .ref k4, .int (nI m), .ref k6, .ref k7, .ref k8, .int (nI 0), .ref k10, .int (nI 0), .ref k12, .ref k13, .ref k14, .ref k15, .ref k16, .int (nI ls), .int (nI ap), .int (bz bd), .int (nI sq), .ref k21, .ref k22, .ref k23, .ref k24, .ref k25, .int (bz pd), .int (nI pl), .int (bz tk), kv, .ref k30, .ref k31, .int (nI tz), .ref k33, .int (nI rs), .int sd])), (k1, .inl (cI, 7, .inl (nIf ki))), (k2, .inl (cI, 7, .inl (nIf op))), (k3, .inl (cI, 7, .inl (nIf (shF sh)))), (k4, .inl (cI, 7, .inl (nIf fa))), (k6, .inl (cI, 6, .inl (nIf K))), (k7, .inl (cI, 6, .inl (nIf G))), (k8, .inl (cI, 6, .inl (nIf T))), (k12, .inl (cI, 7, .inl (nIf kw))), (k13, .inl (cI, 175, .inl (nIf kn))), (k14, .inl (cI, 144, .inl (mIf M))), (k15, .inl (cI, 7, .inl (nIf mw))), (k24, .inl (cI, 48, .inl (nIf kp))), (k10, .inl (cI, 7, .inl (nIf R)))]
    subst he_7
    have hi_p := hi_8
    obtain ⟨jp, hx_jp⟩ : ∃ z, z = j_6 := ⟨_, rfl⟩
    subst hx_jp
    refine v_if_eq 22 13 zC dX5_opening_10 (fun z => absurd z (by decide +kernel)) (fun _ => ?_)
    refine v_ic (v := (nI 0)) 14 zC dX5_opening_13 (by decide +kernel) ?_
    refine v_il_n 15 zC dX5_opening_14 2 rfl ?_
    refine v_ic (v := (nI 1)) 16 zC dX5_opening_15 (by decide +kernel) ?_
    refine v_cS (As := [.int (nI 0), .int w, .int (nI 1)]) (st := []) 19 [] zC dX5_opening_16 hA (c_X5_wrongBit__Z (ev_l E) (ev_D E) cI (v := w) (k := 1) (hk := (by first | omega | assumption | rfl | (simp only []; omega) | decide))) cf_X5_wrongBit lk_X5_248 rfl rfl rfl (by decide +kernel) (Nat.le_of_ble_eq_true rfl) (fun rv_17 wv_18 hp_19 hm_20 => ?_)
    clear hm_20
    rcases hp_19 with ⟨hi_21, rfl, rfl⟩ | ⟨j_22, he_23, hi_24, hj_25, rfl, rfl⟩
    ·
      show VV E 0 0 19 [(0, .ref r0), (1, .int (nI jp)), (2, .int w)] [.int (-2)] [(r0, .inr (5, [.int (nI n), .ref k1, .ref k2, .ref k3, .ref k4, .int (nI m), .ref k6, .ref k7, .ref k8, .int (nI 0), .ref k10, .int (nI 0), .ref k12, .ref k13, .ref k14, .ref k15, .ref k16, .int (nI ls), .int (nI ap), .int (bz bd), .int (nI sq), .ref k21, .ref k22, .ref k23, .ref k24, .ref k25, .int (bz pd), .int (nI pl), .int (bz tk), kv, .ref k30, .ref k31, .int (nI tz), .ref k33, .int (nI rs), .int sd])), (k1, .inl (cI, 7, .inl (nIf ki))), (k2, .inl (cI, 7, .inl (nIf op))), (k3, .inl (cI, 7, .inl (nIf (shF sh)))), (k4, .inl (cI, 7, .inl (nIf fa))), (k6, .inl (cI, 6, .inl (nIf K))), (k7, .inl (cI, 6, .inl (nIf G))), (k8, .inl (cI, 6, .inl (nIf T))), (k12, .inl (cI, 7, .inl (nIf kw))), (k13, .inl (cI, 175, .inl (nIf kn))), (k14, .inl (cI, 144, .inl (mIf M))), (k15, .inl (cI, 7, .inl (nIf mw))), (k24, .inl (cI, 48, .inl (nIf kp))), (k10, .inl (cI, 7, .inl (nIf R)))]
      have hn_w := hi_21
      refine v_goto 23 zC dX5_opening_19 ?_
      refine v_is_n (lv2 := [(3, .int (-2)), (0, .ref r0), (1, .int (nI jp)), (2, .int w)]) 24 zC dX5_opening_23 (by rw [hnE]; decide) rfl ?_
      refine v_il_n 25 zC dX5_opening_24 0 rfl ?_
      refine v_if_ge 34 28 zC dX5_opening_25 (fun z => absurd z (by decide +kernel)) (fun _ => ?_)
      refine v_al_n 29 zC dX5_opening_28 1 rfl ?_
      refine v_il_n 30 zC dX5_opening_29 0 rfl ?_
      refine v_cV (As := [.int (-2)]) (st := []) 33 0 [0, 13] zC dX5_opening_30 hA (c_X5_refuse (ev_l E) (ev_D E) cI (r0 := r0) (k1 := k1) (k2 := k2) (k3 := k3) (k4 := k4) (k6 := k6) (k7 := k7) (k8 := k8) (k10 := k10) (k12 := k12) (k13 := k13) (k14 := k14) (k15 := k15) (k16 := k16) (k21 := k21) (k22 := k22) (k23 := k23) (k24 := k24) (k25 := k25) (k30 := k30) (k31 := k31) (k33 := k33) (n := n) (m := m) (aw := 0) (ls := ls) (ap := ap) (sq := sq) (pl := pl) (tz := tz) (rs := rs) (bd := bd) (pd := pd) (tk := tk) (kv := kv) (sd := sd) (R := R) (v := (-2)) (j := 2) (hv := (by first | omega | assumption | rfl | (simp only []; omega) | decide)) (h1 := (by first | omega | assumption | rfl | (simp only []; omega) | decide)) (h6 := (by first | omega | assumption | rfl | (simp only []; omega) | decide))) cf_X5_refuse lk_X5_129 rfl rfl rfl rfl rfl (by decide +kernel) (Nat.le_of_ble_eq_true rfl) (fun rv_27 wv_28 hp_29 hm_30 => ?_)
      clear hm_30
      obtain ⟨rfl, rfl⟩ := hp_29
      show VV E 0 0 33 [(3, .int (-2)), (0, .ref r0), (1, .int (nI jp)), (2, .int w)] [.int (-2)] [(r0, .inr (5, [.int (nI n), .ref k1, .ref k2, .ref k3, .ref k4, .int (nI m), .ref k6, .ref k7, .ref k8, .int (nI 0), .ref k10, .int (nI 0), .ref k12, .ref k13, .ref k14, .ref k15, .ref k16, .int (nI ls), .int (nI ap), .int (bz bd), .int (nI sq), .ref k21, .ref k22, .ref k23, .ref k24, .ref k25, .int (bz pd), .int (nI pl), .int (bz tk), kv, .ref k30, .ref k31, .int (nI tz), .ref k33, .int (nI rs), .int sd])), (k1, .inl (cI, 7, .inl (nIf ki))), (k2, .inl (cI, 7, .inl (nIf op))), (k3, .inl (cI, 7, .inl (nIf (shF sh)))), (k4, .inl (cI, 7, .inl (nIf fa))), (k6, .inl (cI, 6, .inl (nIf K))), (k7, .inl (cI, 6, .inl (nIf G))), (k8, .inl (cI, 6, .inl (nIf T))), (k12, .inl (cI, 7, .inl (nIf kw))), (k13, .inl (cI, 175, .inl (nIf kn))), (k14, .inl (cI, 144, .inl (mIf M))), (k15, .inl (cI, 7, .inl (nIf mw))), (k24, .inl (cI, 48, .inl (nIf kp))), (k10, .inl (cI, 7, .inl (nIf (un R 2 (R 2 + 1)))))]
      refine v_iret zC zT dX5_opening_33  ?_
      first | (have g9 := hn_p; exact ⟨kw, kn, M, mw, kp, pl, tk, kv, 1, _, by unfold q_opening; rw [hn_p], hkw, hkn, hM, rfl, rfl⟩) | (have g9 := hn_w; exact ⟨kw, kn, M, mw, kp, pl, tk, kv, 2, _, by unfold q_opening; rw [hi_p]; dsimp only; rw [hn_w], hkw, hkn, hM, rfl, rfl⟩) | exact ⟨_, _, _, _, _, _, _, _, 0, _, by unfold q_opening; rw [hi_p]; dsimp only; rw [hi_w]; dsimp only; rw [show (24 : Nat) = h by omega, ← hs]; first | rw [if_pos (by assumption)] | rw [if_neg (by assumption)], hkw2, hkn2, hM2, rfl, rfl⟩
    ·
      show VV E 0 0 19 [(0, .ref r0), (1, .int (nI jp)), (2, .int w)] [.int (nI 0)] [(r0, .inr (5, [.int (nI n), .ref k1, .ref k2, .ref k3, .ref k4, .int (nI m), .ref k6, .ref k7, .ref k8, .int (nI 0), .ref k10, .int (nI 0), .ref k12, .ref k13, .ref k14, .ref k15, .ref k16, .int (nI ls), .int (nI ap), .int (bz bd), .int (nI sq), .ref k21, .ref k22, .ref k23, .ref k24, .ref k25, .int (bz pd), .int (nI pl), .int (bz tk), kv, .ref k30, .ref k31, .int (nI tz), .ref k33, .int (nI rs), .int sd])), (k1, .inl (cI, 7, .inl (nIf ki))), (k2, .inl (cI, 7, .inl (nIf op))), (k3, .inl (cI, 7, .inl (nIf (shF sh)))), (k4, .inl (cI, 7, .inl (nIf fa))), (k6, .inl (cI, 6, .inl (nIf K))), (k7, .inl (cI, 6, .inl (nIf G))), (k8, .inl (cI, 6, .inl (nIf T))), (k12, .inl (cI, 7, .inl (nIf kw))), (k13, .inl (cI, 175, .inl (nIf kn))), (k14, .inl (cI, 144, .inl (mIf M))), (k15, .inl (cI, 7, .inl (nIf mw))), (k24, .inl (cI, 48, .inl (nIf kp))), (k10, .inl (cI, 7, .inl (nIf R)))]
      subst he_23
      have hi_w := hi_24
      obtain ⟨jw, hx_jw⟩ : ∃ z, z = j_22 := ⟨_, rfl⟩
      subst hx_jw
      refine v_goto 23 zC dX5_opening_19 ?_
      refine v_is_n (lv2 := [(3, .int (nI 0)), (0, .ref r0), (1, .int (nI jp)), (2, .int (nI jw))]) 24 zC dX5_opening_23 (by rw [hnE]; decide) rfl ?_
      refine v_il_n 25 zC dX5_opening_24 0 rfl ?_
      refine v_if_ge 34 28 zC dX5_opening_25 (fun _ => ?_) (fun z => absurd (by decide +kernel) z)
      refine v_ic (v := (nI 0)) 35 zC dX5_opening_34 (by decide +kernel) ?_
      refine v_is (lv2 := [(4, .int (nI 0)), (3, .int (nI 0)), (0, .ref r0), (1, .int (nI jp)), (2, .int (nI jw))]) 37 zC dX5_opening_35 (by rw [hnE]; decide) rfl ?_
      refine v_ic (v := (-1)) 38 zC dX5_opening_37 (by decide +kernel) ?_
      refine v_is (lv2 := [(5, .int (-1)), (4, .int (nI 0)), (3, .int (nI 0)), (0, .ref r0), (1, .int (nI jp)), (2, .int (nI jw))]) 40 zC dX5_opening_38 (by rw [hnE]; decide) rfl ?_
      refine v_al_n 41 zC dX5_opening_40 3 rfl ?_
      refine v_cV (As := []) (st := []) 44 0 [0, 1, 2, 3, 4, 5, 6, 7, 12] zC dX5_opening_41 hA (c_X5_think (ev_l E) (ev_D E) cI (r0 := r0) (k1 := k1) (k2 := k2) (k3 := k3) (k4 := k4) (k6 := k6) (k7 := k7) (k8 := k8) (k10 := k10) (k12 := k12) (k13 := k13) (k14 := k14) (k15 := k15) (k16 := k16) (k21 := k21) (k22 := k22) (k23 := k23) (k24 := k24) (k25 := k25) (k30 := k30) (k31 := k31) (k33 := k33) (n := n) (m := m) (aw := 0) (ls := ls) (ap := ap) (sq := sq) (pl := pl) (tz := tz) (rs := rs) (bd := bd) (pd := pd) (tk := tk) (kv := kv) (sd := sd) (ki := ki) (op := op) (fa := fa) (K := K) (G := G) (T := T) (sh := sh) (kp := kp) ) cf_X5_think lk_X5_254 rfl rfl rfl rfl rfl (by decide +kernel) (Nat.le_of_ble_eq_true rfl) (fun rv_32 wv_33 hp_34 hm_35 => ?_)
      clear hm_35
      obtain ⟨kp1_36, hE_37, rfl, rfl⟩ := hp_34
      show VV E 0 0 44 [(5, .int (-1)), (4, .int (nI 0)), (3, .int (nI 0)), (0, .ref r0), (1, .int (nI jp)), (2, .int (nI jw))] [] [(r0, .inr (5, [.int (nI n), .ref k1, .ref k2, .ref k3, .ref k4, .int (nI m), .ref k6, .ref k7, .ref k8, .int (nI 0), .ref k10, .int (nI 0), .ref k12, .ref k13, .ref k14, .ref k15, .ref k16, .int (nI ls), .int (nI ap), .int (bz bd), .int (nI sq), .ref k21, .ref k22, .ref k23, .ref k24, .ref k25, .int (bz pd), .int (nI 48), .int (bz true), .ref k24, .ref k30, .ref k31, .int (nI tz), .ref k33, .int (nI rs), .int sd])), (k1, .inl (cI, 7, .inl (nIf ki))), (k2, .inl (cI, 7, .inl (nIf op))), (k3, .inl (cI, 7, .inl (nIf (shF sh)))), (k4, .inl (cI, 7, .inl (nIf fa))), (k6, .inl (cI, 6, .inl (nIf K))), (k7, .inl (cI, 6, .inl (nIf G))), (k8, .inl (cI, 6, .inl (nIf T))), (k12, .inl (cI, 7, .inl (nIf kw))), (k13, .inl (cI, 175, .inl (nIf kn))), (k14, .inl (cI, 144, .inl (mIf M))), (k15, .inl (cI, 7, .inl (nIf mw))), (k24, .inl (cI, 48, .inl (nIf kp1_36))), (k10, .inl (cI, 7, .inl (nIf R)))]
      have hE9 := hE_37
      refine v_ic (v := (nI 0)) 45 zC dX5_opening_44 (by decide +kernel) ?_
      refine v_is (lv2 := [(6, .int (nI 0)), (5, .int (-1)), (4, .int (nI 0)), (3, .int (nI 0)), (0, .ref r0), (1, .int (nI jp)), (2, .int (nI jw))]) 47 zC dX5_opening_45 (by rw [hnE]; decide) rfl ?_
      have lp47 : ∀ (mz : Nat) (kw2 : Nat → Nat) (kn2 : Nat → Nat) (M2 : Nat → Option Nat) (mw2 : Nat → Nat) (O : Nat → Nat) (b : Nat) (U : Option Nat) (h : Nat), (∀ z, kw2 z < 1024) → (∀ z, kn2 z < 1024) → (∀ z v, M2 z = some v → v < 7) → (∀ v, un O jp v = un op jp v) → (∀ z, O z < 2 ^ 24) → (VZ 7 O) → ((b, U) = it (opnS (n, m, sh, 0, ki, op, fa, K, G, T) jp) (0, none) h) → (∀ v, U = some v → v ≤ 70) → (h ≤ 24) → (b ≤ 24) → 24 - h = mz → VV E 0 0 47 [(6, .int (nI h)), (5, .int (mJ U)), (4, .int (nI b)), (3, .int (nI 0)), (0, .ref r0), (1, .int (nI jp)), (2, .int (nI jw))] [] [(r0, .inr (5, [.int (nI n), .ref k1, .ref k2, .ref k3, .ref k4, .int (nI m), .ref k6, .ref k7, .ref k8, .int (nI 0), .ref k10, .int (nI 0), .ref k12, .ref k13, .ref k14, .ref k15, .ref k16, .int (nI ls), .int (nI ap), .int (bz bd), .int (nI sq), .ref k21, .ref k22, .ref k23, .ref k24, .ref k25, .int (bz pd), .int (nI 48), .int (bz true), .ref k24, .ref k30, .ref k31, .int (nI tz), .ref k33, .int (nI rs), .int sd])), (k1, .inl (cI, 7, .inl (nIf ki))), (k2, .inl (cI, 7, .inl (nIf O))), (k3, .inl (cI, 7, .inl (nIf (shF sh)))), (k4, .inl (cI, 7, .inl (nIf fa))), (k6, .inl (cI, 6, .inl (nIf K))), (k7, .inl (cI, 6, .inl (nIf G))), (k8, .inl (cI, 6, .inl (nIf T))), (k12, .inl (cI, 7, .inl (nIf kw2))), (k13, .inl (cI, 175, .inl (nIf kn2))), (k14, .inl (cI, 144, .inl (mIf M2))), (k15, .inl (cI, 7, .inl (nIf mw2))), (k24, .inl (cI, 48, .inl (nIf kp1_36))), (k10, .inl (cI, 7, .inl (nIf R)))] := by
        intro mz
        induction mz using Nat.strongRecOn with
        | _ mz ih47 =>
        intro kw2 kn2 M2 mw2 O b U h hkw2 hkn2 hM2 hO hOb hOv hs hU hh hbl hm47
        refine v_il 49 zC dX5_opening_47 0 rfl ?_
        refine v_bp (v := (nI 24)) 51 zC dX5_opening_49 (by decide +kernel) ?_
        refine v_icmpn_ge 108 54 zC dX5_opening_51 (fun h_38 => ?_) (fun h_38 => ?_)
        ·
          refine v_al_n 109 zC dX5_opening_108 4 rfl ?_
          refine v_cV (As := []) (st := []) 112 0 [0, 1, 2, 3, 4, 5, 6, 7, 12] zC dX5_opening_109 hA (c_X5_again (ev_l E) (ev_D E) cI (r0 := r0) (k1 := k1) (k2 := k2) (k3 := k3) (k4 := k4) (k6 := k6) (k7 := k7) (k8 := k8) (k10 := k10) (k12 := k12) (k13 := k13) (k14 := k14) (k15 := k15) (k16 := k16) (k21 := k21) (k22 := k22) (k23 := k23) (k24 := k24) (k25 := k25) (k30 := k30) (k31 := k31) (k33 := k33) (n := n) (m := m) (aw := 0) (ls := ls) (ap := ap) (sq := sq) (pl := 48) (tz := tz) (rs := rs) (bd := bd) (pd := pd) (tk := true) (kv := (.ref k24 : Value)) (sd := sd) (ki := ki) (op := O) (fa := fa) (K := K) (G := G) (T := T) (sh := sh) (kp := kp1_36) (n1 := n) (m1 := m) (sh1 := sh) (aw1 := 0) (ki1 := ki) (op1 := op) (fa1 := fa) (K1 := K) (G1 := G) (T1 := T) (hw := ⟨hn, hm, hsh, hki, hOb, hfa, hK, hG, hT, vki, hOv, vfa, vK, vG, vT⟩) (hw1 := hw) (hE := hE9)) cf_X5_again lk_X5_260 rfl rfl rfl rfl rfl (by decide +kernel) (Nat.le_of_ble_eq_true rfl) (fun rv_39 wv_40 hp_41 hm_42 => ?_)
          clear hm_42
          obtain ⟨rfl, rfl⟩ := hp_41
          show VV E 0 0 112 [(6, .int (nI h)), (5, .int (mJ U)), (4, .int (nI b)), (3, .int (nI 0)), (0, .ref r0), (1, .int (nI jp)), (2, .int (nI jw))] [] [(r0, .inr (5, [.int (nI n), .ref k1, .ref k2, .ref k3, .ref k4, .int (nI m), .ref k6, .ref k7, .ref k8, .int (nI 0), .ref k10, .int (nI 0), .ref k12, .ref k13, .ref k14, .ref k15, .ref k16, .int (nI ls), .int (nI ap), .int (bz bd), .int (nI sq), .ref k21, .ref k22, .ref k23, .ref k24, .ref k25, .int (bz pd), .int (nI 48), .int (bz false), .ref k24, .ref k30, .ref k31, .int (nI tz), .ref k33, .int (nI rs), .int sd])), (k1, .inl (cI, 7, .inl (nIf ki))), (k2, .inl (cI, 7, .inl (nIf op))), (k3, .inl (cI, 7, .inl (nIf (shF sh)))), (k4, .inl (cI, 7, .inl (nIf fa))), (k6, .inl (cI, 6, .inl (nIf K))), (k7, .inl (cI, 6, .inl (nIf G))), (k8, .inl (cI, 6, .inl (nIf T))), (k12, .inl (cI, 7, .inl (nIf kw2))), (k13, .inl (cI, 175, .inl (nIf kn2))), (k14, .inl (cI, 144, .inl (mIf M2))), (k15, .inl (cI, 7, .inl (nIf mw2))), (k24, .inl (cI, 48, .inl (nIf kp1_36))), (k10, .inl (cI, 7, .inl (nIf R)))]
          refine v_il_n 113 zC dX5_opening_112 6 rfl ?_
          refine v_ifn_ne 121 116 zC dX5_opening_113 (fun h_43 => ?_) (fun h_43 => ?_)
          ·
            refine v_il 123 zC dX5_opening_121 1 rfl ?_
            refine v_iret zC zT dX5_opening_123  ?_
            first | (have g9 := hn_p; exact ⟨kw, kn, M, mw, kp, pl, tk, kv, 1, _, by unfold q_opening; rw [hn_p], hkw, hkn, hM, rfl, rfl⟩) | (have g9 := hn_w; exact ⟨kw, kn, M, mw, kp, pl, tk, kv, 2, _, by unfold q_opening; rw [hi_p]; dsimp only; rw [hn_w], hkw, hkn, hM, rfl, rfl⟩) | exact ⟨_, _, _, _, _, _, _, _, 0, _, by unfold q_opening; rw [hi_p]; dsimp only; rw [hi_w]; dsimp only; rw [show (24 : Nat) = h by omega, ← hs]; first | rw [if_pos (by assumption)] | rw [if_neg (by assumption)], hkw2, hkn2, hM2, rfl, rfl⟩
          ·
            refine v_il 118 zC dX5_opening_116 2 rfl ?_
            refine v_goto 123 zC dX5_opening_118 ?_
            refine v_iret zC zT dX5_opening_123  ?_
            first | (have g9 := hn_p; exact ⟨kw, kn, M, mw, kp, pl, tk, kv, 1, _, by unfold q_opening; rw [hn_p], hkw, hkn, hM, rfl, rfl⟩) | (have g9 := hn_w; exact ⟨kw, kn, M, mw, kp, pl, tk, kv, 2, _, by unfold q_opening; rw [hi_p]; dsimp only; rw [hn_w], hkw, hkn, hM, rfl, rfl⟩) | exact ⟨_, _, _, _, _, _, _, _, 0, _, by unfold q_opening; rw [hi_p]; dsimp only; rw [hi_w]; dsimp only; rw [show (24 : Nat) = h by omega, ← hs]; first | rw [if_pos (by assumption)] | rw [if_neg (by assumption)], hkw2, hkn2, hM2, rfl, rfl⟩
        ·
          refine v_al_n 55 zC dX5_opening_54 4 rfl ?_
          refine v_gf 58 0 zC dX5_opening_55 gf_X5_13 rfl rfl ?_
          refine v_il_n 59 zC dX5_opening_58 5 rfl ?_
          refine v_ic (v := (nI 1)) 60 zC dX5_opening_59 (by decide +kernel) ?_
          refine v_il 62 zC dX5_opening_60 0 rfl ?_
          refine v_ishl (v := (nI (2 ^ h))) 63 zC dX5_opening_62 (b1n (by omega)) ?_
          refine v_iasn (ws2 := [(r0, .inr (5, [.int (nI n), .ref k1, .ref k2, .ref k3, .ref k4, .int (nI m), .ref k6, .ref k7, .ref k8, .int (nI 0), .ref k10, .int (nI 0), .ref k12, .ref k13, .ref k14, .ref k15, .ref k16, .int (nI ls), .int (nI ap), .int (bz bd), .int (nI sq), .ref k21, .ref k22, .ref k23, .ref k24, .ref k25, .int (bz pd), .int (nI 48), .int (bz true), .ref k24, .ref k30, .ref k31, .int (nI tz), .ref k33, .int (nI rs), .int sd])), (k1, .inl (cI, 7, .inl (nIf ki))), (k2, .inl (cI, 7, .inl (nIf (un O jp (2 ^ h))))), (k3, .inl (cI, 7, .inl (nIf (shF sh)))), (k4, .inl (cI, 7, .inl (nIf fa))), (k6, .inl (cI, 6, .inl (nIf K))), (k7, .inl (cI, 6, .inl (nIf G))), (k8, .inl (cI, 6, .inl (nIf T))), (k12, .inl (cI, 7, .inl (nIf kw2))), (k13, .inl (cI, 175, .inl (nIf kn2))), (k14, .inl (cI, 144, .inl (mIf M2))), (k15, .inl (cI, 7, .inl (nIf mw2))), (k24, .inl (cI, 48, .inl (nIf kp1_36))), (k10, .inl (cI, 7, .inl (nIf R)))]) 64 2 zC dX5_opening_63 rfl (by omega) (by rw [upd_nIf]; first | done | rfl) ?_
          rw [hO]
          refine v_al_n 65 zC dX5_opening_64 4 rfl ?_
          refine v_cV (As := []) (st := []) 68 0 [0, 1, 2, 3, 4, 5, 6, 7, 8, 9, 10, 11] zC dX5_opening_65 hA (c_X5_allNow (ev_l E) (ev_D E) cI (r0 := r0) (k1 := k1) (k2 := k2) (k3 := k3) (k4 := k4) (k6 := k6) (k7 := k7) (k8 := k8) (k10 := k10) (k12 := k12) (k13 := k13) (k14 := k14) (k15 := k15) (k16 := k16) (k21 := k21) (k22 := k22) (k23 := k23) (k24 := k24) (k25 := k25) (k30 := k30) (k31 := k31) (k33 := k33) (n := n) (m := m) (aw := 0) (ls := ls) (ap := ap) (sq := sq) (pl := 48) (tz := tz) (rs := rs) (bd := bd) (pd := pd) (tk := true) (kv := (.ref k24 : Value)) (sd := sd) (ki := ki) (op := (un op jp (2 ^ h))) (fa := fa) (K := K) (G := G) (T := T) (sh := sh) (kw := kw2) (kn := kn2) (M := M2) (mw := mw2) (hw := ⟨hn, hm, hsh, hki, (un_b hop (op24 (hop jp) (show h < 24 by omega)).2.2), hfa, hK, hG, hT, vki, (un_v vop (show jp < 7 by omega)), vfa, vK, vG, vT⟩) (hkw := hkw2) (hkn := hkn2) (hM := hM2)) cf_X5_allNow lk_X5_245 rfl rfl rfl rfl rfl (by decide +kernel) (Nat.le_of_ble_eq_true rfl) (fun rv_44 wv_45 hp_46 hm_47 => ?_)
          clear hm_47
          obtain ⟨kw1_48, kn1_49, M1_50, mw1_51, hR_52, hl_53, rfl, rfl⟩ := hp_46
          show VV E 0 0 68 [(6, .int (nI h)), (5, .int (mJ U)), (4, .int (nI b)), (3, .int (nI 0)), (0, .ref r0), (1, .int (nI jp)), (2, .int (nI jw))] [.int (nI (ALL (n, m, sh, 0, ki, (un op jp (2 ^ h)), fa, K, G, T)))] [(r0, .inr (5, [.int (nI n), .ref k1, .ref k2, .ref k3, .ref k4, .int (nI m), .ref k6, .ref k7, .ref k8, .int (nI 0), .ref k10, .int (nI 0), .ref k12, .ref k13, .ref k14, .ref k15, .ref k16, .int (nI ls), .int (nI ap), .int (bz bd), .int (nI sq), .ref k21, .ref k22, .ref k23, .ref k24, .ref k25, .int (bz pd), .int (nI 48), .int (bz true), .ref k24, .ref k30, .ref k31, .int (nI tz), .ref k33, .int (nI rs), .int sd])), (k1, .inl (cI, 7, .inl (nIf ki))), (k2, .inl (cI, 7, .inl (nIf (un op jp (2 ^ h))))), (k3, .inl (cI, 7, .inl (nIf (shF sh)))), (k4, .inl (cI, 7, .inl (nIf fa))), (k6, .inl (cI, 6, .inl (nIf K))), (k7, .inl (cI, 6, .inl (nIf G))), (k8, .inl (cI, 6, .inl (nIf T))), (k12, .inl (cI, 7, .inl (nIf kw1_48))), (k13, .inl (cI, 175, .inl (nIf kn1_49))), (k14, .inl (cI, 144, .inl (mIf M1_50))), (k15, .inl (cI, 7, .inl (nIf mw1_51))), (k24, .inl (cI, 48, .inl (nIf kp1_36))), (k10, .inl (cI, 7, .inl (nIf R)))]
          have hR9 := hR_52
          have hl9 := hl_53
          refine v_is (lv2 := [(7, .int (nI (ALL (n, m, sh, 0, ki, (un op jp (2 ^ h)), fa, K, G, T)))), (6, .int (nI h)), (5, .int (mJ U)), (4, .int (nI b)), (3, .int (nI 0)), (0, .ref r0), (1, .int (nI jp)), (2, .int (nI jw))]) 70 zC dX5_opening_68 (by rw [hnE]; decide) rfl ?_
          refine v_il 72 zC dX5_opening_70 0 rfl ?_
          refine v_il 74 zC dX5_opening_72 2 rfl ?_
          refine v_icmpj_le 82 77 zC dX5_opening_74 (fun v e => by have := hU v e; omega) (fun h_54 => ?_) (fun h_54 => ?_)
          ·
            have hv9 := h_54
            refine v_il 84 zC dX5_opening_82 3 rfl ?_
            refine v_is (lv2 := [(4, .int (nI b)), (7, .int (nI (ALL (n, m, sh, 0, ki, (un op jp (2 ^ h)), fa, K, G, T)))), (6, .int (nI h)), (5, .int (mJ U)), (3, .int (nI 0)), (0, .ref r0), (1, .int (nI jp)), (2, .int (nI jw))]) 86 zC dX5_opening_84 (by rw [hnE]; decide) rfl ?_
            refine v_il 88 zC dX5_opening_86 1 rfl ?_
            refine v_il 90 zC dX5_opening_88 3 rfl ?_
            refine v_icmpj_le 98 93 zC dX5_opening_90 (fun v e => by have := hU v e; omega) (fun h_55 => ?_) (fun h_55 => False.elim (by first | omega | exact bcon h_55 (by assumption) | exact bcon (by assumption) h_55))
            refine v_il 100 zC dX5_opening_98 3 rfl ?_
            refine v_is (lv2 := [(5, .int (mJ U)), (4, .int (nI b)), (7, .int (nI (ALL (n, m, sh, 0, ki, (un op jp (2 ^ h)), fa, K, G, T)))), (6, .int (nI h)), (3, .int (nI 0)), (0, .ref r0), (1, .int (nI jp)), (2, .int (nI jw))]) 102 zC dX5_opening_100 (by rw [hnE]; decide) rfl ?_
            refine v_inc (v := (nI (h + 1))) (lv2 := [(6, .int (nI (h + 1))), (5, .int (mJ U)), (4, .int (nI b)), (7, .int (nI (ALL (n, m, sh, 0, ki, (un op jp (2 ^ h)), fa, K, G, T)))), (3, .int (nI 0)), (0, .ref r0), (1, .int (nI jp)), (2, .int (nI jw))]) 105 zC dX5_opening_102 (j := 3) rfl (nI_add _ 1) (by rw [hnE]; decide) rfl ?_
            refine v_goto 47 zC dX5_opening_105 ?_
            refine v_lvs (lv2 := [(6, .int (nI (h + 1))), (5, .int (mJ U)), (4, .int (nI b)), (3, .int (nI 0)), (0, .ref r0), (1, .int (nI jp)), (2, .int (nI jw))]) [0, 1, 2, 4, 5, 6, 7] rfl ?_
            exact ih47 _ (by omega) kw1_48 kn1_49 M1_50 mw1_51 (un op jp (2 ^ h)) b U (h + 1) (by first | exact hR9.2.2.2.1 | exact hkw2) (by first | exact hR9.2.2.2.2.1 | exact hkn2) (by first | exact hR9.2.2.2.2.2 | exact hM2) (fun _ => un_un) (un_b hop (op24 (hop jp) (by omega)).2.2) (un_v vop (by omega)) (it_s hs (by first | exact opn_1 hu9 | exact opn_0 hv9)) (fun v e => by first | exact hU v e | (cases e; exact hl9)) (by first | omega | assumption | rfl | (simp only []; omega) | decide) (by first | omega | assumption | rfl | (simp only []; omega) | decide) rfl
          ·
            have hu9 := h_54
            refine v_il 79 zC dX5_opening_77 1 rfl ?_
            refine v_goto 84 zC dX5_opening_79 ?_
            refine v_is (lv2 := [(4, .int (nI h)), (7, .int (nI (ALL (n, m, sh, 0, ki, (un op jp (2 ^ h)), fa, K, G, T)))), (6, .int (nI h)), (5, .int (mJ U)), (3, .int (nI 0)), (0, .ref r0), (1, .int (nI jp)), (2, .int (nI jw))]) 86 zC dX5_opening_84 (by rw [hnE]; decide) rfl ?_
            refine v_il 88 zC dX5_opening_86 1 rfl ?_
            refine v_il 90 zC dX5_opening_88 3 rfl ?_
            refine v_icmpj_le 98 93 zC dX5_opening_90 (fun v e => by have := hU v e; omega) (fun h_56 => False.elim (by first | omega | exact bcon h_56 (by assumption) | exact bcon (by assumption) h_56)) (fun h_56 => ?_)
            refine v_il 95 zC dX5_opening_93 1 rfl ?_
            refine v_goto 100 zC dX5_opening_95 ?_
            refine v_is (lv2 := [(5, .int (nI (ALL (n, m, sh, 0, ki, (un op jp (2 ^ h)), fa, K, G, T)))), (4, .int (nI h)), (7, .int (nI (ALL (n, m, sh, 0, ki, (un op jp (2 ^ h)), fa, K, G, T)))), (6, .int (nI h)), (3, .int (nI 0)), (0, .ref r0), (1, .int (nI jp)), (2, .int (nI jw))]) 102 zC dX5_opening_100 (by rw [hnE]; decide) rfl ?_
            refine v_inc (v := (nI (h + 1))) (lv2 := [(6, .int (nI (h + 1))), (5, .int (nI (ALL (n, m, sh, 0, ki, (un op jp (2 ^ h)), fa, K, G, T)))), (4, .int (nI h)), (7, .int (nI (ALL (n, m, sh, 0, ki, (un op jp (2 ^ h)), fa, K, G, T)))), (3, .int (nI 0)), (0, .ref r0), (1, .int (nI jp)), (2, .int (nI jw))]) 105 zC dX5_opening_102 (j := 3) rfl (nI_add _ 1) (by rw [hnE]; decide) rfl ?_
            refine v_goto 47 zC dX5_opening_105 ?_
            refine v_lvs (lv2 := [(6, .int (nI (h + 1))), (5, .int (mJ (some (ALL (n, m, sh, 0, ki, (un op jp (2 ^ h)), fa, K, G, T))))), (4, .int (nI h)), (3, .int (nI 0)), (0, .ref r0), (1, .int (nI jp)), (2, .int (nI jw))]) [0, 1, 2, 4, 5, 6, 7] rfl ?_
            exact ih47 _ (by omega) kw1_48 kn1_49 M1_50 mw1_51 (un op jp (2 ^ h)) h (some (ALL (n, m, sh, 0, ki, (un op jp (2 ^ h)), fa, K, G, T))) (h + 1) (by first | exact hR9.2.2.2.1 | exact hkw2) (by first | exact hR9.2.2.2.2.1 | exact hkn2) (by first | exact hR9.2.2.2.2.2 | exact hM2) (fun _ => un_un) (un_b hop (op24 (hop jp) (by omega)).2.2) (un_v vop (by omega)) (it_s hs (by first | exact opn_1 hu9 | exact opn_0 hv9)) (fun v e => by first | exact hU v e | (cases e; exact hl9)) (by first | omega | assumption | rfl | (simp only []; omega) | decide) (by first | omega | assumption | rfl | (simp only []; omega) | decide) rfl
      refine v_lvs (lv2 := [(6, .int (nI 0)), (5, .int (mJ none)), (4, .int (nI 0)), (3, .int (nI 0)), (0, .ref r0), (1, .int (nI jp)), (2, .int (nI jw))]) [0, 1, 2, 3, 4, 5, 6] rfl ?_
      exact lp47 _ kw kn M mw op 0 none 0 (by first | exact hR9.2.2.2.1 | exact hkw) (by first | exact hR9.2.2.2.2.1 | exact hkn) (by first | exact hR9.2.2.2.2.2 | exact hM) (fun _ => rfl) hop vop rfl (fun v e => by cases e) (by first | omega | assumption | rfl | (simp only []; omega) | decide) (by first | omega | assumption | rfl | (simp only []; omega) | decide) rfl
set_option maxRecDepth 100000 in
set_option maxHeartbeats 4000000 in
theorem c_X5_narrow (l : Launch) (D : va_G) (cI : ClassId) (r0 k1 k2 k3 k4 k6 k7 k8 k10 k12 k13 k14 k15 k16 k21 k22 k23 k24 k25 k30 k31 k33 : Nat) (n m ls ap sq pl tz rs : Nat) (bd pd tk : Bool) (kv : Value) (sd : Int32) (ki op fa K G T : Nat → Nat) (sh : Nat) (kw kn : Nat → Nat) (M : Nat → Option Nat) (mw : Nat → Nat) (R : Nat → Nat) (p w : Int32) (hw : FW n m sh ki op fa K G T) (hkw : ∀ z, kw z < 1024) (hkn : ∀ z, kn z < 1024) (hM : ∀ z v, M z = some v → v < 7) : CT l yX5_narrow cX5_narrow 10 (some .int) { frames := 7, cells := 0, slots := 0, locals := 158 } D cI [.ref r0, .int p, .int w] [(r0, .inr (5, [.int (nI n), .ref k1, .ref k2, .ref k3, .ref k4, .int (nI m), .ref k6, .ref k7, .ref k8, .int (nI 0), .ref k10, .int (nI 0), .ref k12, .ref k13, .ref k14, .ref k15, .ref k16, .int (nI ls), .int (nI ap), .int (bz bd), .int (nI sq), .ref k21, .ref k22, .ref k23, .ref k24, .ref k25, .int (bz pd), .int (nI pl), .int (bz tk), kv, .ref k30, .ref k31, .int (nI tz), .ref k33, .int (nI rs), .int sd])), (k1, .inl (cI, 7, .inl (nIf ki))), (k2, .inl (cI, 7, .inl (nIf op))), (k3, .inl (cI, 7, .inl (nIf (shF sh)))), (k4, .inl (cI, 7, .inl (nIf fa))), (k6, .inl (cI, 6, .inl (nIf K))), (k7, .inl (cI, 6, .inl (nIf G))), (k8, .inl (cI, 6, .inl (nIf T))), (k12, .inl (cI, 7, .inl (nIf kw))), (k13, .inl (cI, 175, .inl (nIf kn))), (k14, .inl (cI, 144, .inl (mIf M))), (k15, .inl (cI, 7, .inl (nIf mw))), (k10, .inl (cI, 7, .inl (nIf R)))] (fun zr zw => (∃ kw1 : Nat → Nat, ∃ kn1 : Nat → Nat, ∃ M1 : Nat → Option Nat, ∃ mw1 : Nat → Nat, ∃ rc : Nat, ∃ rv : Int32, (q_narrow (n, m, sh, 0, ki, op, fa, K, G, T) p w = (rc, rv)) ∧ (∀ z, kw1 z < 1024) ∧ (∀ z, kn1 z < 1024) ∧ (∀ z v, M1 z = some v → v < 7) ∧ zr = some (.int rv) ∧ zw = [(r0, .inr (5, [.int (nI n), .ref k1, .ref k2, .ref k3, .ref k4, .int (nI m), .ref k6, .ref k7, .ref k8, .int (nI 0), .ref k10, .int (nI 0), .ref k12, .ref k13, .ref k14, .ref k15, .ref k16, .int (nI ls), .int (nI ap), .int (bz bd), .int (nI sq), .ref k21, .ref k22, .ref k23, .ref k24, .ref k25, .int (bz pd), .int (nI pl), .int (bz tk), kv, .ref k30, .ref k31, .int (nI tz), .ref k33, .int (nI rs), .int sd])), (k1, .inl (cI, 7, .inl (nIf ki))), (k2, .inl (cI, 7, .inl (nIf op))), (k3, .inl (cI, 7, .inl (nIf (shF sh)))), (k4, .inl (cI, 7, .inl (nIf fa))), (k6, .inl (cI, 6, .inl (nIf K))), (k7, .inl (cI, 6, .inl (nIf G))), (k8, .inl (cI, 6, .inl (nIf T))), (k12, .inl (cI, 7, .inl (nIf kw1))), (k13, .inl (cI, 175, .inl (nIf kn1))), (k14, .inl (cI, 144, .inl (mIf M1))), (k15, .inl (cI, 7, .inl (nIf mw1))), (k10, .inl (cI, 7, .inl (nIf (rf R rc))))])) := by
  refine CT_of RX5 rfl (by decide +kernel) (Nat.le_of_ble_eq_true rfl) (fun E hnE zC zT => ?_)
  have hA : ∀ q, (ev_s E).heap.size ≤ q → ev_A E q := fun q h => by rw [zT.2]; exact Or.inr h
  obtain ⟨hn, hm, hsh, hki, hop, hfa, hK, hG, hT, vki, vop, vfa, vK, vG, vT⟩ := id hw
  have h2n : 2 ^ n ≤ 2 ^ 7 := Nat.pow_le_pow_right (by decide) hn
  show VV E 0 0 0 [(0, .ref r0), (1, .int p), (2, .int w)] [] [(r0, .inr (5, [.int (nI n), .ref k1, .ref k2, .ref k3, .ref k4, .int (nI m), .ref k6, .ref k7, .ref k8, .int (nI 0), .ref k10, .int (nI 0), .ref k12, .ref k13, .ref k14, .ref k15, .ref k16, .int (nI ls), .int (nI ap), .int (bz bd), .int (nI sq), .ref k21, .ref k22, .ref k23, .ref k24, .ref k25, .int (bz pd), .int (nI pl), .int (bz tk), kv, .ref k30, .ref k31, .int (nI tz), .ref k33, .int (nI rs), .int sd])), (k1, .inl (cI, 7, .inl (nIf ki))), (k2, .inl (cI, 7, .inl (nIf op))), (k3, .inl (cI, 7, .inl (nIf (shF sh)))), (k4, .inl (cI, 7, .inl (nIf fa))), (k6, .inl (cI, 6, .inl (nIf K))), (k7, .inl (cI, 6, .inl (nIf G))), (k8, .inl (cI, 6, .inl (nIf T))), (k12, .inl (cI, 7, .inl (nIf kw))), (k13, .inl (cI, 175, .inl (nIf kn))), (k14, .inl (cI, 144, .inl (mIf M))), (k15, .inl (cI, 7, .inl (nIf mw))), (k10, .inl (cI, 7, .inl (nIf R)))]
  refine v_al_n 1 zC dX5_narrow_0 0 rfl ?_
  refine v_ic (v := (nI 0)) 2 zC dX5_narrow_1 (by decide +kernel) ?_
  refine v_pf (ws2 := [(r0, .inr (5, [.int (nI n), .ref k1, .ref k2, .ref k3, .ref k4, .int (nI m), .ref k6, .ref k7, .ref k8, .int (nI 0), .ref k10, .int (nI 0), .ref k12, .ref k13, .ref k14, .ref k15, .ref k16, .int (nI ls), .int (nI ap), .int (bz bd), .int (nI sq), .ref k21, .ref k22, .ref k23, .ref k24, .ref k25, .int (bz pd), .int (nI pl), .int (bz tk), kv, .ref k30, .ref k31, .int (nI tz), .ref k33, .int (nI rs), .int sd])), (k1, .inl (cI, 7, .inl (nIf ki))), (k2, .inl (cI, 7, .inl (nIf op))), (k3, .inl (cI, 7, .inl (nIf (shF sh)))), (k4, .inl (cI, 7, .inl (nIf fa))), (k6, .inl (cI, 6, .inl (nIf K))), (k7, .inl (cI, 6, .inl (nIf G))), (k8, .inl (cI, 6, .inl (nIf T))), (k12, .inl (cI, 7, .inl (nIf kw))), (k13, .inl (cI, 175, .inl (nIf kn))), (k14, .inl (cI, 144, .inl (mIf M))), (k15, .inl (cI, 7, .inl (nIf mw))), (k10, .inl (cI, 7, .inl (nIf R)))]) 5 0 zC dX5_narrow_2 pf_X5_73 rfl (Nat.le_of_ble_eq_true rfl) rfl rfl rfl ?_
  refine v_al_n 6 zC dX5_narrow_5 0 rfl ?_
  refine v_il_n 7 zC dX5_narrow_6 1 rfl ?_
  refine v_cV (As := [.int p]) (st := []) 10 0 [0] zC dX5_narrow_7 hA (c_X5_isOne (ev_l E) (ev_D E) cI (r0 := r0) (k1 := k1) (k2 := k2) (k3 := k3) (k4 := k4) (k6 := k6) (k7 := k7) (k8 := k8) (k10 := k10) (k12 := k12) (k13 := k13) (k14 := k14) (k15 := k15) (k16 := k16) (k21 := k21) (k22 := k22) (k23 := k23) (k24 := k24) (k25 := k25) (k30 := k30) (k31 := k31) (k33 := k33) (n := n) (m := m) (aw := 0) (ls := ls) (ap := ap) (sq := sq) (pl := pl) (tz := tz) (rs := rs) (bd := bd) (pd := pd) (tk := tk) (kv := kv) (sd := sd) (p := p) (hn := (by first | omega | assumption | rfl | (simp only []; omega) | decide))) cf_X5_isOne lk_X5_164 rfl rfl rfl rfl rfl (by decide +kernel) (Nat.le_of_ble_eq_true rfl) (fun rv_1 wv_2 hp_3 hm_4 => ?_)
  clear hm_4
  rcases hp_3 with ⟨hi_5, rfl, rfl⟩ | ⟨j_6, he_7, hi_8, hj_9, rfl, rfl⟩
  ·
    show VV E 0 0 10 [(0, .ref r0), (1, .int p), (2, .int w)] [.int (nI 0)] [(r0, .inr (5, [.int (nI n), .ref k1, .ref k2, .ref k3, .ref k4, .int (nI m), .ref k6, .ref k7, .ref k8, .int (nI 0), .ref k10, .int (nI 0), .ref k12, .ref k13, .ref k14, .ref k15, .ref k16, .int (nI ls), .int (nI ap), .int (bz bd), .int (nI sq), .ref k21, .ref k22, .ref k23, .ref k24, .ref k25, .int (bz pd), .int (nI pl), .int (bz tk), kv, .ref k30, .ref k31, .int (nI tz), .ref k33, .int (nI rs), .int sd])), (k1, .inl (cI, 7, .inl (nIf ki))), (k2, .inl (cI, 7, .inl (nIf op))), (k3, .inl (cI, 7, .inl (nIf (shF sh)))), (k4, .inl (cI, 7, .inl (nIf fa))), (k6, .inl (cI, 6, .inl (nIf K))), (k7, .inl (cI, 6, .inl (nIf G))), (k8, .inl (cI, 6, .inl (nIf T))), (k12, .inl (cI, 7, .inl (nIf kw))), (k13, .inl (cI, 175, .inl (nIf kn))), (k14, .inl (cI, 144, .inl (mIf M))), (k15, .inl (cI, 7, .inl (nIf mw))), (k10, .inl (cI, 7, .inl (nIf R)))]
    have hn_p := hi_5
    refine v_if_eq 22 13 zC dX5_narrow_10 (fun _ => ?_) (fun z => absurd (by decide +kernel) z)
    refine v_ic (v := (-1)) 23 zC dX5_narrow_22 (by decide +kernel) ?_
    refine v_is_n (lv2 := [(3, .int (-1)), (0, .ref r0), (1, .int p), (2, .int w)]) 24 zC dX5_narrow_23 (by rw [hnE]; decide) rfl ?_
    refine v_il_n 25 zC dX5_narrow_24 0 rfl ?_
    refine v_if_ge 34 28 zC dX5_narrow_25 (fun z => absurd z (by decide +kernel)) (fun _ => ?_)
    refine v_al_n 29 zC dX5_narrow_28 1 rfl ?_
    refine v_il_n 30 zC dX5_narrow_29 0 rfl ?_
    refine v_cV (As := [.int (-1)]) (st := []) 33 0 [0, 12] zC dX5_narrow_30 hA (c_X5_refuse (ev_l E) (ev_D E) cI (r0 := r0) (k1 := k1) (k2 := k2) (k3 := k3) (k4 := k4) (k6 := k6) (k7 := k7) (k8 := k8) (k10 := k10) (k12 := k12) (k13 := k13) (k14 := k14) (k15 := k15) (k16 := k16) (k21 := k21) (k22 := k22) (k23 := k23) (k24 := k24) (k25 := k25) (k30 := k30) (k31 := k31) (k33 := k33) (n := n) (m := m) (aw := 0) (ls := ls) (ap := ap) (sq := sq) (pl := pl) (tz := tz) (rs := rs) (bd := bd) (pd := pd) (tk := tk) (kv := kv) (sd := sd) (R := R) (v := (-1)) (j := 1) (hv := (by first | omega | assumption | rfl | (simp only []; omega) | decide)) (h1 := (by first | omega | assumption | rfl | (simp only []; omega) | decide)) (h6 := (by first | omega | assumption | rfl | (simp only []; omega) | decide))) cf_X5_refuse lk_X5_129 rfl rfl rfl rfl rfl (by decide +kernel) (Nat.le_of_ble_eq_true rfl) (fun rv_12 wv_13 hp_14 hm_15 => ?_)
    clear hm_15
    obtain ⟨rfl, rfl⟩ := hp_14
    show VV E 0 0 33 [(3, .int (-1)), (0, .ref r0), (1, .int p), (2, .int w)] [.int (-1)] [(r0, .inr (5, [.int (nI n), .ref k1, .ref k2, .ref k3, .ref k4, .int (nI m), .ref k6, .ref k7, .ref k8, .int (nI 0), .ref k10, .int (nI 0), .ref k12, .ref k13, .ref k14, .ref k15, .ref k16, .int (nI ls), .int (nI ap), .int (bz bd), .int (nI sq), .ref k21, .ref k22, .ref k23, .ref k24, .ref k25, .int (bz pd), .int (nI pl), .int (bz tk), kv, .ref k30, .ref k31, .int (nI tz), .ref k33, .int (nI rs), .int sd])), (k1, .inl (cI, 7, .inl (nIf ki))), (k2, .inl (cI, 7, .inl (nIf op))), (k3, .inl (cI, 7, .inl (nIf (shF sh)))), (k4, .inl (cI, 7, .inl (nIf fa))), (k6, .inl (cI, 6, .inl (nIf K))), (k7, .inl (cI, 6, .inl (nIf G))), (k8, .inl (cI, 6, .inl (nIf T))), (k12, .inl (cI, 7, .inl (nIf kw))), (k13, .inl (cI, 175, .inl (nIf kn))), (k14, .inl (cI, 144, .inl (mIf M))), (k15, .inl (cI, 7, .inl (nIf mw))), (k10, .inl (cI, 7, .inl (nIf (un R 1 (R 1 + 1)))))]
    refine v_iret zC zT dX5_narrow_33  ?_
    first | (have g9 := hn_p; exact ⟨kw, kn, M, mw, 1, _, by unfold q_narrow; rw [hn_p], hkw, hkn, hM, rfl, rfl⟩) | (have g9 := hn_w; exact ⟨kw, kn, M, mw, 2, _, by unfold q_narrow; rw [hi_p]; dsimp only; rw [hn_w], hkw, hkn, hM, rfl, rfl⟩) | exact ⟨_, _, _, _, 0, _, by unfold q_narrow; rw [hi_p]; dsimp only; rw [hi_w]; dsimp only; rw [show (24 : Nat) = h by omega, ← hs]; first | rw [if_pos (by assumption)] | rw [if_neg (by assumption)], hkw2, hkn2, hM2, rfl, rfl⟩
  ·
    show VV E 0 0 10 [(0, .ref r0), (1, .int p), (2, .int w)] [.int (nI 1)] [(r0, .inr (5, [.int (nI n), .ref k1, .ref k2, .ref k3, .ref k4, .int (nI m), .ref k6, .ref k7, .ref k8, .int (nI 0), .ref k10, .int (nI 0), .ref k12, .ref k13, .ref k14, .ref k15, .ref k16, .int (nI ls), .int (nI ap), .int (bz bd), .int (nI sq), .ref k21, .ref k22, .ref k23, .ref k24, .ref k25, .int (bz pd), .int (nI pl), .int (bz tk), kv, .ref k30, .ref k31, .int (nI tz), .ref k33, .int (nI rs), .int sd])), (k1, .inl (cI, 7, .inl (nIf ki))), (k2, .inl (cI, 7, .inl (nIf op))), (k3, .inl (cI, 7, .inl (nIf (shF sh)))), (k4, .inl (cI, 7, .inl (nIf fa))), (k6, .inl (cI, 6, .inl (nIf K))), (k7, .inl (cI, 6, .inl (nIf G))), (k8, .inl (cI, 6, .inl (nIf T))), (k12, .inl (cI, 7, .inl (nIf kw))), (k13, .inl (cI, 175, .inl (nIf kn))), (k14, .inl (cI, 144, .inl (mIf M))), (k15, .inl (cI, 7, .inl (nIf mw))), (k10, .inl (cI, 7, .inl (nIf R)))]
    subst he_7
    have hi_p := hi_8
    obtain ⟨jp, hx_jp⟩ : ∃ z, z = j_6 := ⟨_, rfl⟩
    subst hx_jp
    refine v_if_eq 22 13 zC dX5_narrow_10 (fun z => absurd z (by decide +kernel)) (fun _ => ?_)
    refine v_ic (v := (nI 0)) 14 zC dX5_narrow_13 (by decide +kernel) ?_
    refine v_il_n 15 zC dX5_narrow_14 2 rfl ?_
    refine v_ic (v := (nI 1)) 16 zC dX5_narrow_15 (by decide +kernel) ?_
    refine v_cS (As := [.int (nI 0), .int w, .int (nI 1)]) (st := []) 19 [] zC dX5_narrow_16 hA (c_X5_wrongBit__Z (ev_l E) (ev_D E) cI (v := w) (k := 1) (hk := (by first | omega | assumption | rfl | (simp only []; omega) | decide))) cf_X5_wrongBit lk_X5_248 rfl rfl rfl (by decide +kernel) (Nat.le_of_ble_eq_true rfl) (fun rv_17 wv_18 hp_19 hm_20 => ?_)
    clear hm_20
    rcases hp_19 with ⟨hi_21, rfl, rfl⟩ | ⟨j_22, he_23, hi_24, hj_25, rfl, rfl⟩
    ·
      show VV E 0 0 19 [(0, .ref r0), (1, .int (nI jp)), (2, .int w)] [.int (-2)] [(r0, .inr (5, [.int (nI n), .ref k1, .ref k2, .ref k3, .ref k4, .int (nI m), .ref k6, .ref k7, .ref k8, .int (nI 0), .ref k10, .int (nI 0), .ref k12, .ref k13, .ref k14, .ref k15, .ref k16, .int (nI ls), .int (nI ap), .int (bz bd), .int (nI sq), .ref k21, .ref k22, .ref k23, .ref k24, .ref k25, .int (bz pd), .int (nI pl), .int (bz tk), kv, .ref k30, .ref k31, .int (nI tz), .ref k33, .int (nI rs), .int sd])), (k1, .inl (cI, 7, .inl (nIf ki))), (k2, .inl (cI, 7, .inl (nIf op))), (k3, .inl (cI, 7, .inl (nIf (shF sh)))), (k4, .inl (cI, 7, .inl (nIf fa))), (k6, .inl (cI, 6, .inl (nIf K))), (k7, .inl (cI, 6, .inl (nIf G))), (k8, .inl (cI, 6, .inl (nIf T))), (k12, .inl (cI, 7, .inl (nIf kw))), (k13, .inl (cI, 175, .inl (nIf kn))), (k14, .inl (cI, 144, .inl (mIf M))), (k15, .inl (cI, 7, .inl (nIf mw))), (k10, .inl (cI, 7, .inl (nIf R)))]
      have hn_w := hi_21
      refine v_goto 23 zC dX5_narrow_19 ?_
      refine v_is_n (lv2 := [(3, .int (-2)), (0, .ref r0), (1, .int (nI jp)), (2, .int w)]) 24 zC dX5_narrow_23 (by rw [hnE]; decide) rfl ?_
      refine v_il_n 25 zC dX5_narrow_24 0 rfl ?_
      refine v_if_ge 34 28 zC dX5_narrow_25 (fun z => absurd z (by decide +kernel)) (fun _ => ?_)
      refine v_al_n 29 zC dX5_narrow_28 1 rfl ?_
      refine v_il_n 30 zC dX5_narrow_29 0 rfl ?_
      refine v_cV (As := [.int (-2)]) (st := []) 33 0 [0, 12] zC dX5_narrow_30 hA (c_X5_refuse (ev_l E) (ev_D E) cI (r0 := r0) (k1 := k1) (k2 := k2) (k3 := k3) (k4 := k4) (k6 := k6) (k7 := k7) (k8 := k8) (k10 := k10) (k12 := k12) (k13 := k13) (k14 := k14) (k15 := k15) (k16 := k16) (k21 := k21) (k22 := k22) (k23 := k23) (k24 := k24) (k25 := k25) (k30 := k30) (k31 := k31) (k33 := k33) (n := n) (m := m) (aw := 0) (ls := ls) (ap := ap) (sq := sq) (pl := pl) (tz := tz) (rs := rs) (bd := bd) (pd := pd) (tk := tk) (kv := kv) (sd := sd) (R := R) (v := (-2)) (j := 2) (hv := (by first | omega | assumption | rfl | (simp only []; omega) | decide)) (h1 := (by first | omega | assumption | rfl | (simp only []; omega) | decide)) (h6 := (by first | omega | assumption | rfl | (simp only []; omega) | decide))) cf_X5_refuse lk_X5_129 rfl rfl rfl rfl rfl (by decide +kernel) (Nat.le_of_ble_eq_true rfl) (fun rv_27 wv_28 hp_29 hm_30 => ?_)
      clear hm_30
      obtain ⟨rfl, rfl⟩ := hp_29
      show VV E 0 0 33 [(3, .int (-2)), (0, .ref r0), (1, .int (nI jp)), (2, .int w)] [.int (-2)] [(r0, .inr (5, [.int (nI n), .ref k1, .ref k2, .ref k3, .ref k4, .int (nI m), .ref k6, .ref k7, .ref k8, .int (nI 0), .ref k10, .int (nI 0), .ref k12, .ref k13, .ref k14, .ref k15, .ref k16, .int (nI ls), .int (nI ap), .int (bz bd), .int (nI sq), .ref k21, .ref k22, .ref k23, .ref k24, .ref k25, .int (bz pd), .int (nI pl), .int (bz tk), kv, .ref k30, .ref k31, .int (nI tz), .ref k33, .int (nI rs), .int sd])), (k1, .inl (cI, 7, .inl (nIf ki))), (k2, .inl (cI, 7, .inl (nIf op))), (k3, .inl (cI, 7, .inl (nIf (shF sh)))), (k4, .inl (cI, 7, .inl (nIf fa))), (k6, .inl (cI, 6, .inl (nIf K))), (k7, .inl (cI, 6, .inl (nIf G))), (k8, .inl (cI, 6, .inl (nIf T))), (k12, .inl (cI, 7, .inl (nIf kw))), (k13, .inl (cI, 175, .inl (nIf kn))), (k14, .inl (cI, 144, .inl (mIf M))), (k15, .inl (cI, 7, .inl (nIf mw))), (k10, .inl (cI, 7, .inl (nIf (un R 2 (R 2 + 1)))))]
      refine v_iret zC zT dX5_narrow_33  ?_
      first | (have g9 := hn_p; exact ⟨kw, kn, M, mw, 1, _, by unfold q_narrow; rw [hn_p], hkw, hkn, hM, rfl, rfl⟩) | (have g9 := hn_w; exact ⟨kw, kn, M, mw, 2, _, by unfold q_narrow; rw [hi_p]; dsimp only; rw [hn_w], hkw, hkn, hM, rfl, rfl⟩) | exact ⟨_, _, _, _, 0, _, by unfold q_narrow; rw [hi_p]; dsimp only; rw [hi_w]; dsimp only; rw [show (24 : Nat) = h by omega, ← hs]; first | rw [if_pos (by assumption)] | rw [if_neg (by assumption)], hkw2, hkn2, hM2, rfl, rfl⟩
    ·
      show VV E 0 0 19 [(0, .ref r0), (1, .int (nI jp)), (2, .int w)] [.int (nI 0)] [(r0, .inr (5, [.int (nI n), .ref k1, .ref k2, .ref k3, .ref k4, .int (nI m), .ref k6, .ref k7, .ref k8, .int (nI 0), .ref k10, .int (nI 0), .ref k12, .ref k13, .ref k14, .ref k15, .ref k16, .int (nI ls), .int (nI ap), .int (bz bd), .int (nI sq), .ref k21, .ref k22, .ref k23, .ref k24, .ref k25, .int (bz pd), .int (nI pl), .int (bz tk), kv, .ref k30, .ref k31, .int (nI tz), .ref k33, .int (nI rs), .int sd])), (k1, .inl (cI, 7, .inl (nIf ki))), (k2, .inl (cI, 7, .inl (nIf op))), (k3, .inl (cI, 7, .inl (nIf (shF sh)))), (k4, .inl (cI, 7, .inl (nIf fa))), (k6, .inl (cI, 6, .inl (nIf K))), (k7, .inl (cI, 6, .inl (nIf G))), (k8, .inl (cI, 6, .inl (nIf T))), (k12, .inl (cI, 7, .inl (nIf kw))), (k13, .inl (cI, 175, .inl (nIf kn))), (k14, .inl (cI, 144, .inl (mIf M))), (k15, .inl (cI, 7, .inl (nIf mw))), (k10, .inl (cI, 7, .inl (nIf R)))]
      subst he_23
      have hi_w := hi_24
      obtain ⟨jw, hx_jw⟩ : ∃ z, z = j_22 := ⟨_, rfl⟩
      subst hx_jw
      refine v_goto 23 zC dX5_narrow_19 ?_
      refine v_is_n (lv2 := [(3, .int (nI 0)), (0, .ref r0), (1, .int (nI jp)), (2, .int (nI jw))]) 24 zC dX5_narrow_23 (by rw [hnE]; decide) rfl ?_
      refine v_il_n 25 zC dX5_narrow_24 0 rfl ?_
      refine v_if_ge 34 28 zC dX5_narrow_25 (fun _ => ?_) (fun z => absurd (by decide +kernel) z)
      refine v_al_n 35 zC dX5_narrow_34 1 rfl ?_
      refine v_cV (As := []) (st := []) 38 0 [0, 1, 2, 3, 4, 5, 6, 7, 8, 9, 10, 11] zC dX5_narrow_35 hA (c_X5_allNow (ev_l E) (ev_D E) cI (r0 := r0) (k1 := k1) (k2 := k2) (k3 := k3) (k4 := k4) (k6 := k6) (k7 := k7) (k8 := k8) (k10 := k10) (k12 := k12) (k13 := k13) (k14 := k14) (k15 := k15) (k16 := k16) (k21 := k21) (k22 := k22) (k23 := k23) (k24 := k24) (k25 := k25) (k30 := k30) (k31 := k31) (k33 := k33) (n := n) (m := m) (aw := 0) (ls := ls) (ap := ap) (sq := sq) (pl := pl) (tz := tz) (rs := rs) (bd := bd) (pd := pd) (tk := tk) (kv := kv) (sd := sd) (ki := ki) (op := op) (fa := fa) (K := K) (G := G) (T := T) (sh := sh) (kw := kw) (kn := kn) (M := M) (mw := mw) (hw := (by first | omega | assumption | rfl | (simp only []; omega) | decide)) (hkw := (by first | omega | assumption | rfl | (simp only []; omega) | decide)) (hkn := (by first | omega | assumption | rfl | (simp only []; omega) | decide)) (hM := (by first | omega | assumption | rfl | (simp only []; omega) | decide))) cf_X5_allNow lk_X5_245 rfl rfl rfl rfl rfl (by decide +kernel) (Nat.le_of_ble_eq_true rfl) (fun rv_32 wv_33 hp_34 hm_35 => ?_)
      clear hm_35
      obtain ⟨kw1_36, kn1_37, M1_38, mw1_39, hR_40, hl_41, rfl, rfl⟩ := hp_34
      show VV E 0 0 38 [(3, .int (nI 0)), (0, .ref r0), (1, .int (nI jp)), (2, .int (nI jw))] [.int (nI (ALL (n, m, sh, 0, ki, op, fa, K, G, T)))] [(r0, .inr (5, [.int (nI n), .ref k1, .ref k2, .ref k3, .ref k4, .int (nI m), .ref k6, .ref k7, .ref k8, .int (nI 0), .ref k10, .int (nI 0), .ref k12, .ref k13, .ref k14, .ref k15, .ref k16, .int (nI ls), .int (nI ap), .int (bz bd), .int (nI sq), .ref k21, .ref k22, .ref k23, .ref k24, .ref k25, .int (bz pd), .int (nI pl), .int (bz tk), kv, .ref k30, .ref k31, .int (nI tz), .ref k33, .int (nI rs), .int sd])), (k1, .inl (cI, 7, .inl (nIf ki))), (k2, .inl (cI, 7, .inl (nIf op))), (k3, .inl (cI, 7, .inl (nIf (shF sh)))), (k4, .inl (cI, 7, .inl (nIf fa))), (k6, .inl (cI, 6, .inl (nIf K))), (k7, .inl (cI, 6, .inl (nIf G))), (k8, .inl (cI, 6, .inl (nIf T))), (k12, .inl (cI, 7, .inl (nIf kw1_36))), (k13, .inl (cI, 175, .inl (nIf kn1_37))), (k14, .inl (cI, 144, .inl (mIf M1_38))), (k15, .inl (cI, 7, .inl (nIf mw1_39))), (k10, .inl (cI, 7, .inl (nIf R)))]
      have hR9 := hR_40
      have ha9 := hl_41
      refine v_is (lv2 := [(4, .int (nI (ALL (n, m, sh, 0, ki, op, fa, K, G, T)))), (3, .int (nI 0)), (0, .ref r0), (1, .int (nI jp)), (2, .int (nI jw))]) 40 zC dX5_narrow_38 (by rw [hnE]; decide) rfl ?_
      refine v_al_n 41 zC dX5_narrow_40 2 rfl ?_
      refine v_gf 44 0 zC dX5_narrow_41 gf_X5_13 rfl rfl ?_
      refine v_il_n 45 zC dX5_narrow_44 3 rfl ?_
      refine v_ialn (v := (nI (op jp))) 46 2 zC dX5_narrow_45 rfl (by omega) rfl ?_
      refine v_is (lv2 := [(5, .int (nI (op jp))), (4, .int (nI (ALL (n, m, sh, 0, ki, op, fa, K, G, T)))), (3, .int (nI 0)), (0, .ref r0), (1, .int (nI jp)), (2, .int (nI jw))]) 48 zC dX5_narrow_46 (by rw [hnE]; decide) rfl ?_
      refine v_ic (v := (nI 0)) 49 zC dX5_narrow_48 (by decide +kernel) ?_
      refine v_is (lv2 := [(6, .int (nI 0)), (5, .int (nI (op jp))), (4, .int (nI (ALL (n, m, sh, 0, ki, op, fa, K, G, T)))), (3, .int (nI 0)), (0, .ref r0), (1, .int (nI jp)), (2, .int (nI jw))]) 51 zC dX5_narrow_49 (by rw [hnE]; decide) rfl ?_
      refine v_bp (v := (-9)) 53 zC dX5_narrow_51 (by decide +kernel) ?_
      refine v_is (lv2 := [(7, .int (-9)), (6, .int (nI 0)), (5, .int (nI (op jp))), (4, .int (nI (ALL (n, m, sh, 0, ki, op, fa, K, G, T)))), (3, .int (nI 0)), (0, .ref r0), (1, .int (nI jp)), (2, .int (nI jw))]) 55 zC dX5_narrow_53 (by rw [hnE]; decide) rfl ?_
      refine v_ic (v := (nI 0)) 56 zC dX5_narrow_55 (by decide +kernel) ?_
      refine v_is (lv2 := [(8, .int (nI 0)), (7, .int (-9)), (6, .int (nI 0)), (5, .int (nI (op jp))), (4, .int (nI (ALL (n, m, sh, 0, ki, op, fa, K, G, T)))), (3, .int (nI 0)), (0, .ref r0), (1, .int (nI jp)), (2, .int (nI jw))]) 58 zC dX5_narrow_56 (by rw [hnE]; decide) rfl ?_
      have lp58 : ∀ (mz : Nat) (kw2 : Nat → Nat) (kn2 : Nat → Nat) (M2 : Nat → Option Nat) (mw2 : Nat → Nat) (O : Nat → Nat) (x : Nat) (F : Option Nat) (h : Nat), (∀ z, kw2 z < 1024) → (∀ z, kn2 z < 1024) → (∀ z v, M2 z = some v → v < 7) → (∀ v, un O jp v = un op jp v) → ((x, F) = it (narS (n, m, sh, 0, ki, op, fa, K, G, T) jp) (0, none) h) → (∀ v, F = some v → v < 24) → (h ≤ 24) → (x ≤ h) → 24 - h = mz → VV E 0 0 58 [(8, .int (nI h)), (7, .int (mI F)), (6, .int (nI x)), (5, .int (nI (op jp))), (4, .int (nI (ALL (n, m, sh, 0, ki, op, fa, K, G, T)))), (3, .int (nI 0)), (0, .ref r0), (1, .int (nI jp)), (2, .int (nI jw))] [] [(r0, .inr (5, [.int (nI n), .ref k1, .ref k2, .ref k3, .ref k4, .int (nI m), .ref k6, .ref k7, .ref k8, .int (nI 0), .ref k10, .int (nI 0), .ref k12, .ref k13, .ref k14, .ref k15, .ref k16, .int (nI ls), .int (nI ap), .int (bz bd), .int (nI sq), .ref k21, .ref k22, .ref k23, .ref k24, .ref k25, .int (bz pd), .int (nI pl), .int (bz tk), kv, .ref k30, .ref k31, .int (nI tz), .ref k33, .int (nI rs), .int sd])), (k1, .inl (cI, 7, .inl (nIf ki))), (k2, .inl (cI, 7, .inl (nIf O))), (k3, .inl (cI, 7, .inl (nIf (shF sh)))), (k4, .inl (cI, 7, .inl (nIf fa))), (k6, .inl (cI, 6, .inl (nIf K))), (k7, .inl (cI, 6, .inl (nIf G))), (k8, .inl (cI, 6, .inl (nIf T))), (k12, .inl (cI, 7, .inl (nIf kw2))), (k13, .inl (cI, 175, .inl (nIf kn2))), (k14, .inl (cI, 144, .inl (mIf M2))), (k15, .inl (cI, 7, .inl (nIf mw2))), (k10, .inl (cI, 7, .inl (nIf R)))] := by
        intro mz
        induction mz using Nat.strongRecOn with
        | _ mz ih58 =>
        intro kw2 kn2 M2 mw2 O x F h hkw2 hkn2 hM2 hO hs hFl hh hxl hm58
        refine v_il 60 zC dX5_narrow_58 0 rfl ?_
        refine v_bp (v := (nI 24)) 62 zC dX5_narrow_60 (by decide +kernel) ?_
        refine v_icmpn_ge 146 65 zC dX5_narrow_62 (fun h_42 => ?_) (fun h_42 => ?_)
        ·
          refine v_al_n 147 zC dX5_narrow_146 6 rfl ?_
          refine v_gf 150 0 zC dX5_narrow_147 gf_X5_13 rfl rfl ?_
          refine v_il_n 151 zC dX5_narrow_150 7 rfl ?_
          refine v_il 153 zC dX5_narrow_151 3 rfl ?_
          refine v_iasn (ws2 := [(r0, .inr (5, [.int (nI n), .ref k1, .ref k2, .ref k3, .ref k4, .int (nI m), .ref k6, .ref k7, .ref k8, .int (nI 0), .ref k10, .int (nI 0), .ref k12, .ref k13, .ref k14, .ref k15, .ref k16, .int (nI ls), .int (nI ap), .int (bz bd), .int (nI sq), .ref k21, .ref k22, .ref k23, .ref k24, .ref k25, .int (bz pd), .int (nI pl), .int (bz tk), kv, .ref k30, .ref k31, .int (nI tz), .ref k33, .int (nI rs), .int sd])), (k1, .inl (cI, 7, .inl (nIf ki))), (k2, .inl (cI, 7, .inl (nIf (un O jp (op jp))))), (k3, .inl (cI, 7, .inl (nIf (shF sh)))), (k4, .inl (cI, 7, .inl (nIf fa))), (k6, .inl (cI, 6, .inl (nIf K))), (k7, .inl (cI, 6, .inl (nIf G))), (k8, .inl (cI, 6, .inl (nIf T))), (k12, .inl (cI, 7, .inl (nIf kw2))), (k13, .inl (cI, 175, .inl (nIf kn2))), (k14, .inl (cI, 144, .inl (mIf M2))), (k15, .inl (cI, 7, .inl (nIf mw2))), (k10, .inl (cI, 7, .inl (nIf R)))]) 154 2 zC dX5_narrow_153 rfl (by omega) (by rw [upd_nIf]; first | done | rfl) ?_
          rw [hO, un_id]
          refine v_il_n 155 zC dX5_narrow_154 8 rfl ?_
          refine v_ifn_ne 163 158 zC dX5_narrow_155 (fun h_43 => ?_) (fun h_43 => ?_)
          ·
            refine v_il 165 zC dX5_narrow_163 1 rfl ?_
            refine v_iret zC zT dX5_narrow_165  ?_
            first | (have g9 := hn_p; exact ⟨kw, kn, M, mw, 1, _, by unfold q_narrow; rw [hn_p], hkw, hkn, hM, rfl, rfl⟩) | (have g9 := hn_w; exact ⟨kw, kn, M, mw, 2, _, by unfold q_narrow; rw [hi_p]; dsimp only; rw [hn_w], hkw, hkn, hM, rfl, rfl⟩) | exact ⟨_, _, _, _, 0, _, by unfold q_narrow; rw [hi_p]; dsimp only; rw [hi_w]; dsimp only; rw [show (24 : Nat) = h by omega, ← hs]; first | rw [if_pos (by assumption)] | rw [if_neg (by assumption)], hkw2, hkn2, hM2, rfl, rfl⟩
          ·
            refine v_il 160 zC dX5_narrow_158 2 rfl ?_
            refine v_goto 165 zC dX5_narrow_160 ?_
            refine v_iret zC zT dX5_narrow_165  ?_
            first | (have g9 := hn_p; exact ⟨kw, kn, M, mw, 1, _, by unfold q_narrow; rw [hn_p], hkw, hkn, hM, rfl, rfl⟩) | (have g9 := hn_w; exact ⟨kw, kn, M, mw, 2, _, by unfold q_narrow; rw [hi_p]; dsimp only; rw [hn_w], hkw, hkn, hM, rfl, rfl⟩) | exact ⟨_, _, _, _, 0, _, by unfold q_narrow; rw [hi_p]; dsimp only; rw [hi_w]; dsimp only; rw [show (24 : Nat) = h by omega, ← hs]; first | rw [if_pos (by assumption)] | rw [if_neg (by assumption)], hkw2, hkn2, hM2, rfl, rfl⟩
        ·
          refine v_il 67 zC dX5_narrow_65 3 rfl ?_
          refine v_il 69 zC dX5_narrow_67 0 rfl ?_
          refine v_cS (As := [.int (nI (op jp)), .int (nI h)]) (st := []) 72 [] zC dX5_narrow_69 hA (c_X5_hasBit (ev_l E) (ev_D E) cI (x := (op jp)) (k := h) (hk := (by first | omega | assumption | rfl | (simp only []; omega) | decide))) cf_X5_hasBit lk_X5_95 rfl rfl rfl (by decide +kernel) (Nat.le_of_ble_eq_true rfl) (fun rv_44 wv_45 hp_46 hm_47 => ?_)
          clear hm_47
          obtain ⟨rfl, rfl⟩ := hp_46
          show VV E 0 0 72 [(8, .int (nI h)), (7, .int (mI F)), (6, .int (nI x)), (5, .int (nI (op jp))), (4, .int (nI (ALL (n, m, sh, 0, ki, op, fa, K, G, T)))), (3, .int (nI 0)), (0, .ref r0), (1, .int (nI jp)), (2, .int (nI jw))] [.int (bz (Nat.testBit (op jp) h))] [(r0, .inr (5, [.int (nI n), .ref k1, .ref k2, .ref k3, .ref k4, .int (nI m), .ref k6, .ref k7, .ref k8, .int (nI 0), .ref k10, .int (nI 0), .ref k12, .ref k13, .ref k14, .ref k15, .ref k16, .int (nI ls), .int (nI ap), .int (bz bd), .int (nI sq), .ref k21, .ref k22, .ref k23, .ref k24, .ref k25, .int (bz pd), .int (nI pl), .int (bz tk), kv, .ref k30, .ref k31, .int (nI tz), .ref k33, .int (nI rs), .int sd])), (k1, .inl (cI, 7, .inl (nIf ki))), (k2, .inl (cI, 7, .inl (nIf O))), (k3, .inl (cI, 7, .inl (nIf (shF sh)))), (k4, .inl (cI, 7, .inl (nIf fa))), (k6, .inl (cI, 6, .inl (nIf K))), (k7, .inl (cI, 6, .inl (nIf G))), (k8, .inl (cI, 6, .inl (nIf T))), (k12, .inl (cI, 7, .inl (nIf kw2))), (k13, .inl (cI, 175, .inl (nIf kn2))), (k14, .inl (cI, 144, .inl (mIf M2))), (k15, .inl (cI, 7, .inl (nIf mw2))), (k10, .inl (cI, 7, .inl (nIf R)))]
          refine v_ifb_eq 140 75 zC dX5_narrow_72 (fun h_48 => ?_) (fun h_48 => ?_)
          ·
            refine v_inc (v := (nI (h + 1))) (lv2 := [(8, .int (nI (h + 1))), (7, .int (mI F)), (6, .int (nI x)), (5, .int (nI (op jp))), (4, .int (nI (ALL (n, m, sh, 0, ki, op, fa, K, G, T)))), (3, .int (nI 0)), (0, .ref r0), (1, .int (nI jp)), (2, .int (nI jw))]) 143 zC dX5_narrow_140 (j := 0) rfl (nI_add _ 1) (by rw [hnE]; decide) rfl ?_
            refine v_goto 58 zC dX5_narrow_143 ?_
            refine v_lvs (lv2 := [(8, .int (nI (h + 1))), (7, .int (mI F)), (6, .int (nI x)), (5, .int (nI (op jp))), (4, .int (nI (ALL (n, m, sh, 0, ki, op, fa, K, G, T)))), (3, .int (nI 0)), (0, .ref r0), (1, .int (nI jp)), (2, .int (nI jw))]) [0, 1, 2, 3, 4, 5, 6, 7, 8] rfl ?_
            exact ih58 _ (by omega) kw2 kn2 M2 mw2 O x F (h + 1) (by first | exact hR9.2.2.2.1 | exact hkw2) (by first | exact hR9.2.2.2.2.1 | exact hkn2) (by first | exact hR9.2.2.2.2.2 | exact hM2) (by first | exact hO | exact fun _ => un_un) (it_s hs (by first | exact nar_1 (by assumption) (by assumption) (by assumption) | exact nar_2 (by assumption) (by assumption) (by assumption) | exact nar_3 (by assumption) | exact nar_4 (by assumption))) (fun v e => by first | exact hFl v e | (cases e; omega)) (by first | omega | assumption | rfl | (simp only []; omega) | decide) (by first | omega | assumption | rfl | (simp only []; omega) | decide) rfl
          ·
            refine v_al_n 76 zC dX5_narrow_75 6 rfl ?_
            refine v_gf 79 0 zC dX5_narrow_76 gf_X5_13 rfl rfl ?_
            refine v_il_n 80 zC dX5_narrow_79 7 rfl ?_
            refine v_il 82 zC dX5_narrow_80 3 rfl ?_
            refine v_ic (v := (nI 1)) 83 zC dX5_narrow_82 (by decide +kernel) ?_
            refine v_il 85 zC dX5_narrow_83 0 rfl ?_
            refine v_ishl (v := (nI (2 ^ h))) 86 zC dX5_narrow_85 (b1n (by omega)) ?_
            refine v_ic (v := (-1)) 87 zC dX5_narrow_86 (by decide +kernel) ?_
            refine v_ixor (v := ((nI (2 ^ h)) ^^^ (-1))) 88 zC dX5_narrow_87 rfl ?_
            refine v_iand (v := (nI (andn (op jp) (2 ^ h)))) 89 zC dX5_narrow_88 (andn_of _ _) ?_
            refine v_iasn (ws2 := [(r0, .inr (5, [.int (nI n), .ref k1, .ref k2, .ref k3, .ref k4, .int (nI m), .ref k6, .ref k7, .ref k8, .int (nI 0), .ref k10, .int (nI 0), .ref k12, .ref k13, .ref k14, .ref k15, .ref k16, .int (nI ls), .int (nI ap), .int (bz bd), .int (nI sq), .ref k21, .ref k22, .ref k23, .ref k24, .ref k25, .int (bz pd), .int (nI pl), .int (bz tk), kv, .ref k30, .ref k31, .int (nI tz), .ref k33, .int (nI rs), .int sd])), (k1, .inl (cI, 7, .inl (nIf ki))), (k2, .inl (cI, 7, .inl (nIf (un O jp (andn (op jp) (2 ^ h)))))), (k3, .inl (cI, 7, .inl (nIf (shF sh)))), (k4, .inl (cI, 7, .inl (nIf fa))), (k6, .inl (cI, 6, .inl (nIf K))), (k7, .inl (cI, 6, .inl (nIf G))), (k8, .inl (cI, 6, .inl (nIf T))), (k12, .inl (cI, 7, .inl (nIf kw2))), (k13, .inl (cI, 175, .inl (nIf kn2))), (k14, .inl (cI, 144, .inl (mIf M2))), (k15, .inl (cI, 7, .inl (nIf mw2))), (k10, .inl (cI, 7, .inl (nIf R)))]) 90 2 zC dX5_narrow_89 rfl (by omega) (by rw [upd_nIf]; first | done | rfl) ?_
            rw [hO]
            refine v_al_n 91 zC dX5_narrow_90 6 rfl ?_
            refine v_cV (As := []) (st := []) 94 0 [0, 1, 2, 3, 4, 5, 6, 7, 8, 9, 10, 11] zC dX5_narrow_91 hA (c_X5_allNow (ev_l E) (ev_D E) cI (r0 := r0) (k1 := k1) (k2 := k2) (k3 := k3) (k4 := k4) (k6 := k6) (k7 := k7) (k8 := k8) (k10 := k10) (k12 := k12) (k13 := k13) (k14 := k14) (k15 := k15) (k16 := k16) (k21 := k21) (k22 := k22) (k23 := k23) (k24 := k24) (k25 := k25) (k30 := k30) (k31 := k31) (k33 := k33) (n := n) (m := m) (aw := 0) (ls := ls) (ap := ap) (sq := sq) (pl := pl) (tz := tz) (rs := rs) (bd := bd) (pd := pd) (tk := tk) (kv := kv) (sd := sd) (ki := ki) (op := (un op jp (andn (op jp) (2 ^ h)))) (fa := fa) (K := K) (G := G) (T := T) (sh := sh) (kw := kw2) (kn := kn2) (M := M2) (mw := mw2) (hw := ⟨hn, hm, hsh, hki, (un_b hop (op24 (hop jp) (show h < 24 by omega)).2.1), hfa, hK, hG, hT, vki, (un_v vop (show jp < 7 by omega)), vfa, vK, vG, vT⟩) (hkw := hkw2) (hkn := hkn2) (hM := hM2)) cf_X5_allNow lk_X5_245 rfl rfl rfl rfl rfl (by decide +kernel) (Nat.le_of_ble_eq_true rfl) (fun rv_49 wv_50 hp_51 hm_52 => ?_)
            clear hm_52
            obtain ⟨kw1_53, kn1_54, M1_55, mw1_56, hR_57, hl_58, rfl, rfl⟩ := hp_51
            show VV E 0 0 94 [(8, .int (nI h)), (7, .int (mI F)), (6, .int (nI x)), (5, .int (nI (op jp))), (4, .int (nI (ALL (n, m, sh, 0, ki, op, fa, K, G, T)))), (3, .int (nI 0)), (0, .ref r0), (1, .int (nI jp)), (2, .int (nI jw))] [.int (nI (ALL (n, m, sh, 0, ki, (un op jp (andn (op jp) (2 ^ h))), fa, K, G, T)))] [(r0, .inr (5, [.int (nI n), .ref k1, .ref k2, .ref k3, .ref k4, .int (nI m), .ref k6, .ref k7, .ref k8, .int (nI 0), .ref k10, .int (nI 0), .ref k12, .ref k13, .ref k14, .ref k15, .ref k16, .int (nI ls), .int (nI ap), .int (bz bd), .int (nI sq), .ref k21, .ref k22, .ref k23, .ref k24, .ref k25, .int (bz pd), .int (nI pl), .int (bz tk), kv, .ref k30, .ref k31, .int (nI tz), .ref k33, .int (nI rs), .int sd])), (k1, .inl (cI, 7, .inl (nIf ki))), (k2, .inl (cI, 7, .inl (nIf (un op jp (andn (op jp) (2 ^ h)))))), (k3, .inl (cI, 7, .inl (nIf (shF sh)))), (k4, .inl (cI, 7, .inl (nIf fa))), (k6, .inl (cI, 6, .inl (nIf K))), (k7, .inl (cI, 6, .inl (nIf G))), (k8, .inl (cI, 6, .inl (nIf T))), (k12, .inl (cI, 7, .inl (nIf kw1_53))), (k13, .inl (cI, 175, .inl (nIf kn1_54))), (k14, .inl (cI, 144, .inl (mIf M1_55))), (k15, .inl (cI, 7, .inl (nIf mw1_56))), (k10, .inl (cI, 7, .inl (nIf R)))]
            have hR9 := hR_57
            have hl9 := hl_58
            refine v_il 96 zC dX5_narrow_94 4 rfl ?_
            refine v_icmpn_ne 103 99 zC dX5_narrow_96 (fun h_59 => ?_) (fun h_59 => ?_)
            ·
              refine v_ic (v := (nI 0)) 104 zC dX5_narrow_103 (by decide +kernel) ?_
              refine v_is (lv2 := [(9, .int (nI 0)), (8, .int (nI h)), (7, .int (mI F)), (6, .int (nI x)), (5, .int (nI (op jp))), (4, .int (nI (ALL (n, m, sh, 0, ki, op, fa, K, G, T)))), (3, .int (nI 0)), (0, .ref r0), (1, .int (nI jp)), (2, .int (nI jw))]) 106 zC dX5_narrow_104 (by rw [hnE]; decide) rfl ?_
              refine v_il 108 zC dX5_narrow_106 3 rfl ?_
              refine v_il 110 zC dX5_narrow_108 0 rfl ?_
              refine v_if_eq 117 113 zC dX5_narrow_110 (fun _ => ?_) (fun z => absurd (by decide +kernel) z)
              refine v_ic (v := (nI 0)) 118 zC dX5_narrow_117 (by decide +kernel) ?_
              refine v_iadd (v := (nI x)) 119 zC dX5_narrow_118 (nI_add _ 0) ?_
              refine v_is (lv2 := [(6, .int (nI x)), (9, .int (nI 0)), (8, .int (nI h)), (7, .int (mI F)), (5, .int (nI (op jp))), (4, .int (nI (ALL (n, m, sh, 0, ki, op, fa, K, G, T)))), (3, .int (nI 0)), (0, .ref r0), (1, .int (nI jp)), (2, .int (nI jw))]) 121 zC dX5_narrow_119 (by rw [hnE]; decide) rfl ?_
              refine v_il 123 zC dX5_narrow_121 1 rfl ?_
              refine v_if_eq 136 126 zC dX5_narrow_123 (fun _ => ?_) (fun z => absurd (by decide +kernel) z)
              refine v_il 138 zC dX5_narrow_136 3 rfl ?_
              refine v_is (lv2 := [(7, .int (mI F)), (6, .int (nI x)), (9, .int (nI 0)), (8, .int (nI h)), (5, .int (nI (op jp))), (4, .int (nI (ALL (n, m, sh, 0, ki, op, fa, K, G, T)))), (3, .int (nI 0)), (0, .ref r0), (1, .int (nI jp)), (2, .int (nI jw))]) 140 zC dX5_narrow_138 (by rw [hnE]; decide) rfl ?_
              refine v_inc (v := (nI (h + 1))) (lv2 := [(8, .int (nI (h + 1))), (7, .int (mI F)), (6, .int (nI x)), (9, .int (nI 0)), (5, .int (nI (op jp))), (4, .int (nI (ALL (n, m, sh, 0, ki, op, fa, K, G, T)))), (3, .int (nI 0)), (0, .ref r0), (1, .int (nI jp)), (2, .int (nI jw))]) 143 zC dX5_narrow_140 (j := 3) rfl (nI_add _ 1) (by rw [hnE]; decide) rfl ?_
              refine v_goto 58 zC dX5_narrow_143 ?_
              refine v_lvs (lv2 := [(8, .int (nI (h + 1))), (7, .int (mI F)), (6, .int (nI x)), (5, .int (nI (op jp))), (4, .int (nI (ALL (n, m, sh, 0, ki, op, fa, K, G, T)))), (3, .int (nI 0)), (0, .ref r0), (1, .int (nI jp)), (2, .int (nI jw))]) [0, 1, 2, 4, 5, 6, 7, 8, 9] rfl ?_
              exact ih58 _ (by omega) kw1_53 kn1_54 M1_55 mw1_56 (un op jp (andn (op jp) (2 ^ h))) x F (h + 1) (by first | exact hR9.2.2.2.1 | exact hkw2) (by first | exact hR9.2.2.2.2.1 | exact hkn2) (by first | exact hR9.2.2.2.2.2 | exact hM2) (by first | exact hO | exact fun _ => un_un) (it_s hs (by first | exact nar_1 (by assumption) (by assumption) (by assumption) | exact nar_2 (by assumption) (by assumption) (by assumption) | exact nar_3 (by assumption) | exact nar_4 (by assumption))) (fun v e => by first | exact hFl v e | (cases e; omega)) (by first | omega | assumption | rfl | (simp only []; omega) | decide) (by first | omega | assumption | rfl | (simp only []; omega) | decide) rfl
            ·
              refine v_ic (v := (nI 1)) 100 zC dX5_narrow_99 (by decide +kernel) ?_
              refine v_goto 104 zC dX5_narrow_100 ?_
              refine v_is (lv2 := [(9, .int (nI 1)), (8, .int (nI h)), (7, .int (mI F)), (6, .int (nI x)), (5, .int (nI (op jp))), (4, .int (nI (ALL (n, m, sh, 0, ki, op, fa, K, G, T)))), (3, .int (nI 0)), (0, .ref r0), (1, .int (nI jp)), (2, .int (nI jw))]) 106 zC dX5_narrow_104 (by rw [hnE]; decide) rfl ?_
              refine v_il 108 zC dX5_narrow_106 3 rfl ?_
              refine v_il 110 zC dX5_narrow_108 0 rfl ?_
              refine v_if_eq 117 113 zC dX5_narrow_110 (fun z => absurd z (by decide +kernel)) (fun _ => ?_)
              refine v_ic (v := (nI 1)) 114 zC dX5_narrow_113 (by decide +kernel) ?_
              refine v_goto 118 zC dX5_narrow_114 ?_
              refine v_iadd (v := (nI (x + 1))) 119 zC dX5_narrow_118 (nI_add _ _) ?_
              refine v_is (lv2 := [(6, .int (nI (x + 1))), (9, .int (nI 1)), (8, .int (nI h)), (7, .int (mI F)), (5, .int (nI (op jp))), (4, .int (nI (ALL (n, m, sh, 0, ki, op, fa, K, G, T)))), (3, .int (nI 0)), (0, .ref r0), (1, .int (nI jp)), (2, .int (nI jw))]) 121 zC dX5_narrow_119 (by rw [hnE]; decide) rfl ?_
              refine v_il 123 zC dX5_narrow_121 1 rfl ?_
              refine v_if_eq 136 126 zC dX5_narrow_123 (fun z => absurd z (by decide +kernel)) (fun _ => ?_)
              refine v_il 128 zC dX5_narrow_126 3 rfl ?_
              refine v_ifo_ge 136 131 zC dX5_narrow_128 (fun v e => by have := hFl v e; omega) (fun h_64 => ?_) (fun h_64 => ?_)
              ·
                refine v_il 138 zC dX5_narrow_136 3 rfl ?_
                refine v_is (lv2 := [(7, .int (mI F)), (6, .int (nI (x + 1))), (9, .int (nI 1)), (8, .int (nI h)), (5, .int (nI (op jp))), (4, .int (nI (ALL (n, m, sh, 0, ki, op, fa, K, G, T)))), (3, .int (nI 0)), (0, .ref r0), (1, .int (nI jp)), (2, .int (nI jw))]) 140 zC dX5_narrow_138 (by rw [hnE]; decide) rfl ?_
                refine v_inc (v := (nI (h + 1))) (lv2 := [(8, .int (nI (h + 1))), (7, .int (mI F)), (6, .int (nI (x + 1))), (9, .int (nI 1)), (5, .int (nI (op jp))), (4, .int (nI (ALL (n, m, sh, 0, ki, op, fa, K, G, T)))), (3, .int (nI 0)), (0, .ref r0), (1, .int (nI jp)), (2, .int (nI jw))]) 143 zC dX5_narrow_140 (j := 3) rfl (nI_add _ 1) (by rw [hnE]; decide) rfl ?_
                refine v_goto 58 zC dX5_narrow_143 ?_
                refine v_lvs (lv2 := [(8, .int (nI (h + 1))), (7, .int (mI F)), (6, .int (nI (x + 1))), (5, .int (nI (op jp))), (4, .int (nI (ALL (n, m, sh, 0, ki, op, fa, K, G, T)))), (3, .int (nI 0)), (0, .ref r0), (1, .int (nI jp)), (2, .int (nI jw))]) [0, 1, 2, 4, 5, 6, 7, 8, 9] rfl ?_
                exact ih58 _ (by omega) kw1_53 kn1_54 M1_55 mw1_56 (un op jp (andn (op jp) (2 ^ h))) (x + 1) F (h + 1) (by first | exact hR9.2.2.2.1 | exact hkw2) (by first | exact hR9.2.2.2.2.1 | exact hkn2) (by first | exact hR9.2.2.2.2.2 | exact hM2) (by first | exact hO | exact fun _ => un_un) (it_s hs (by first | exact nar_1 (by assumption) (by assumption) (by assumption) | exact nar_2 (by assumption) (by assumption) (by assumption) | exact nar_3 (by assumption) | exact nar_4 (by assumption))) (fun v e => by first | exact hFl v e | (cases e; omega)) (by first | omega | assumption | rfl | (simp only []; omega) | decide) (by first | omega | assumption | rfl | (simp only []; omega) | decide) rfl
              ·
                refine v_il 133 zC dX5_narrow_131 2 rfl ?_
                refine v_goto 138 zC dX5_narrow_133 ?_
                refine v_is (lv2 := [(7, .int (nI h)), (6, .int (nI (x + 1))), (9, .int (nI 1)), (8, .int (nI h)), (5, .int (nI (op jp))), (4, .int (nI (ALL (n, m, sh, 0, ki, op, fa, K, G, T)))), (3, .int (nI 0)), (0, .ref r0), (1, .int (nI jp)), (2, .int (nI jw))]) 140 zC dX5_narrow_138 (by rw [hnE]; decide) rfl ?_
                refine v_inc (v := (nI (h + 1))) (lv2 := [(8, .int (nI (h + 1))), (7, .int (nI h)), (6, .int (nI (x + 1))), (9, .int (nI 1)), (5, .int (nI (op jp))), (4, .int (nI (ALL (n, m, sh, 0, ki, op, fa, K, G, T)))), (3, .int (nI 0)), (0, .ref r0), (1, .int (nI jp)), (2, .int (nI jw))]) 143 zC dX5_narrow_140 (j := 3) rfl (nI_add _ 1) (by rw [hnE]; decide) rfl ?_
                refine v_goto 58 zC dX5_narrow_143 ?_
                refine v_lvs (lv2 := [(8, .int (nI (h + 1))), (7, .int (mI (some h))), (6, .int (nI (x + 1))), (5, .int (nI (op jp))), (4, .int (nI (ALL (n, m, sh, 0, ki, op, fa, K, G, T)))), (3, .int (nI 0)), (0, .ref r0), (1, .int (nI jp)), (2, .int (nI jw))]) [0, 1, 2, 4, 5, 6, 7, 8, 9] rfl ?_
                exact ih58 _ (by omega) kw1_53 kn1_54 M1_55 mw1_56 (un op jp (andn (op jp) (2 ^ h))) (x + 1) (some h) (h + 1) (by first | exact hR9.2.2.2.1 | exact hkw2) (by first | exact hR9.2.2.2.2.1 | exact hkn2) (by first | exact hR9.2.2.2.2.2 | exact hM2) (by first | exact hO | exact fun _ => un_un) (it_s hs (by first | exact nar_1 (by assumption) (by assumption) (by assumption) | exact nar_2 (by assumption) (by assumption) (by assumption) | exact nar_3 (by assumption) | exact nar_4 (by assumption))) (fun v e => by first | exact hFl v e | (cases e; omega)) (by first | omega | assumption | rfl | (simp only []; omega) | decide) (by first | omega | assumption | rfl | (simp only []; omega) | decide) rfl
      refine v_lvs (lv2 := [(8, .int (nI 0)), (7, .int (mI none)), (6, .int (nI 0)), (5, .int (nI (op jp))), (4, .int (nI (ALL (n, m, sh, 0, ki, op, fa, K, G, T)))), (3, .int (nI 0)), (0, .ref r0), (1, .int (nI jp)), (2, .int (nI jw))]) [0, 1, 2, 3, 4, 5, 6, 7, 8] rfl ?_
      exact lp58 _ kw1_36 kn1_37 M1_38 mw1_39 op 0 none 0 (by first | exact hR9.2.2.2.1 | exact hkw) (by first | exact hR9.2.2.2.2.1 | exact hkn) (by first | exact hR9.2.2.2.2.2 | exact hM) (fun _ => rfl) rfl (fun v e => by cases e) (by first | omega | assumption | rfl | (simp only []; omega) | decide) (by first | omega | assumption | rfl | (simp only []; omega) | decide) rfl
set_option maxRecDepth 100000 in
set_option maxHeartbeats 4000000 in
theorem c_X5_openings (l : Launch) (D : va_G) (cI : ClassId) (r0 k1 k2 k3 k4 k6 k7 k8 k10 k12 k13 k14 k15 k16 k21 k22 k23 k24 k25 k30 k31 k33 : Nat) (n m ls ap sq pl tz rs : Nat) (bd pd tk : Bool) (kv : Value) (sd : Int32) (ki op fa K G T : Nat → Nat) (sh : Nat) (kw kn : Nat → Nat) (M : Nat → Option Nat) (mw : Nat → Nat) (R : Nat → Nat) (p w : Int32) (hw : FW n m sh ki op fa K G T) (hkw : ∀ z, kw z < 1024) (hkn : ∀ z, kn z < 1024) (hM : ∀ z v, M z = some v → v < 7) : CT l yX5_openings cX5_openings 10 (some .int) { frames := 7, cells := 0, slots := 0, locals := 158 } D cI [.ref r0, .int p, .int w] [(r0, .inr (5, [.int (nI n), .ref k1, .ref k2, .ref k3, .ref k4, .int (nI m), .ref k6, .ref k7, .ref k8, .int (nI 0), .ref k10, .int (nI 0), .ref k12, .ref k13, .ref k14, .ref k15, .ref k16, .int (nI ls), .int (nI ap), .int (bz bd), .int (nI sq), .ref k21, .ref k22, .ref k23, .ref k24, .ref k25, .int (bz pd), .int (nI pl), .int (bz tk), kv, .ref k30, .ref k31, .int (nI tz), .ref k33, .int (nI rs), .int sd])), (k1, .inl (cI, 7, .inl (nIf ki))), (k2, .inl (cI, 7, .inl (nIf op))), (k3, .inl (cI, 7, .inl (nIf (shF sh)))), (k4, .inl (cI, 7, .inl (nIf fa))), (k6, .inl (cI, 6, .inl (nIf K))), (k7, .inl (cI, 6, .inl (nIf G))), (k8, .inl (cI, 6, .inl (nIf T))), (k12, .inl (cI, 7, .inl (nIf kw))), (k13, .inl (cI, 175, .inl (nIf kn))), (k14, .inl (cI, 144, .inl (mIf M))), (k15, .inl (cI, 7, .inl (nIf mw))), (k10, .inl (cI, 7, .inl (nIf R)))] (fun zr zw => (∃ kw1 : Nat → Nat, ∃ kn1 : Nat → Nat, ∃ M1 : Nat → Option Nat, ∃ mw1 : Nat → Nat, ∃ rc : Nat, ∃ rv : Int32, (q_openings (n, m, sh, 0, ki, op, fa, K, G, T) p w = (rc, rv)) ∧ (∀ z, kw1 z < 1024) ∧ (∀ z, kn1 z < 1024) ∧ (∀ z v, M1 z = some v → v < 7) ∧ zr = some (.int rv) ∧ zw = [(r0, .inr (5, [.int (nI n), .ref k1, .ref k2, .ref k3, .ref k4, .int (nI m), .ref k6, .ref k7, .ref k8, .int (nI 0), .ref k10, .int (nI 0), .ref k12, .ref k13, .ref k14, .ref k15, .ref k16, .int (nI ls), .int (nI ap), .int (bz bd), .int (nI sq), .ref k21, .ref k22, .ref k23, .ref k24, .ref k25, .int (bz pd), .int (nI pl), .int (bz tk), kv, .ref k30, .ref k31, .int (nI tz), .ref k33, .int (nI rs), .int sd])), (k1, .inl (cI, 7, .inl (nIf ki))), (k2, .inl (cI, 7, .inl (nIf op))), (k3, .inl (cI, 7, .inl (nIf (shF sh)))), (k4, .inl (cI, 7, .inl (nIf fa))), (k6, .inl (cI, 6, .inl (nIf K))), (k7, .inl (cI, 6, .inl (nIf G))), (k8, .inl (cI, 6, .inl (nIf T))), (k12, .inl (cI, 7, .inl (nIf kw1))), (k13, .inl (cI, 175, .inl (nIf kn1))), (k14, .inl (cI, 144, .inl (mIf M1))), (k15, .inl (cI, 7, .inl (nIf mw1))), (k10, .inl (cI, 7, .inl (nIf (rf R rc))))])) := by
  refine CT_of RX5 rfl (by decide +kernel) (Nat.le_of_ble_eq_true rfl) (fun E hnE zC zT => ?_)
  have hA : ∀ q, (ev_s E).heap.size ≤ q → ev_A E q := fun q h => by rw [zT.2]; exact Or.inr h
  obtain ⟨hn, hm, hsh, hki, hop, hfa, hK, hG, hT, vki, vop, vfa, vK, vG, vT⟩ := id hw
  have h2n : 2 ^ n ≤ 2 ^ 7 := Nat.pow_le_pow_right (by decide) hn
  show VV E 0 0 0 [(0, .ref r0), (1, .int p), (2, .int w)] [] [(r0, .inr (5, [.int (nI n), .ref k1, .ref k2, .ref k3, .ref k4, .int (nI m), .ref k6, .ref k7, .ref k8, .int (nI 0), .ref k10, .int (nI 0), .ref k12, .ref k13, .ref k14, .ref k15, .ref k16, .int (nI ls), .int (nI ap), .int (bz bd), .int (nI sq), .ref k21, .ref k22, .ref k23, .ref k24, .ref k25, .int (bz pd), .int (nI pl), .int (bz tk), kv, .ref k30, .ref k31, .int (nI tz), .ref k33, .int (nI rs), .int sd])), (k1, .inl (cI, 7, .inl (nIf ki))), (k2, .inl (cI, 7, .inl (nIf op))), (k3, .inl (cI, 7, .inl (nIf (shF sh)))), (k4, .inl (cI, 7, .inl (nIf fa))), (k6, .inl (cI, 6, .inl (nIf K))), (k7, .inl (cI, 6, .inl (nIf G))), (k8, .inl (cI, 6, .inl (nIf T))), (k12, .inl (cI, 7, .inl (nIf kw))), (k13, .inl (cI, 175, .inl (nIf kn))), (k14, .inl (cI, 144, .inl (mIf M))), (k15, .inl (cI, 7, .inl (nIf mw))), (k10, .inl (cI, 7, .inl (nIf R)))]
  refine v_al_n 1 zC dX5_openings_0 0 rfl ?_
  refine v_ic (v := (nI 0)) 2 zC dX5_openings_1 (by decide +kernel) ?_
  refine v_pf (ws2 := [(r0, .inr (5, [.int (nI n), .ref k1, .ref k2, .ref k3, .ref k4, .int (nI m), .ref k6, .ref k7, .ref k8, .int (nI 0), .ref k10, .int (nI 0), .ref k12, .ref k13, .ref k14, .ref k15, .ref k16, .int (nI ls), .int (nI ap), .int (bz bd), .int (nI sq), .ref k21, .ref k22, .ref k23, .ref k24, .ref k25, .int (bz pd), .int (nI pl), .int (bz tk), kv, .ref k30, .ref k31, .int (nI tz), .ref k33, .int (nI rs), .int sd])), (k1, .inl (cI, 7, .inl (nIf ki))), (k2, .inl (cI, 7, .inl (nIf op))), (k3, .inl (cI, 7, .inl (nIf (shF sh)))), (k4, .inl (cI, 7, .inl (nIf fa))), (k6, .inl (cI, 6, .inl (nIf K))), (k7, .inl (cI, 6, .inl (nIf G))), (k8, .inl (cI, 6, .inl (nIf T))), (k12, .inl (cI, 7, .inl (nIf kw))), (k13, .inl (cI, 175, .inl (nIf kn))), (k14, .inl (cI, 144, .inl (mIf M))), (k15, .inl (cI, 7, .inl (nIf mw))), (k10, .inl (cI, 7, .inl (nIf R)))]) 5 0 zC dX5_openings_2 pf_X5_73 rfl (Nat.le_of_ble_eq_true rfl) rfl rfl rfl ?_
  refine v_al_n 6 zC dX5_openings_5 0 rfl ?_
  refine v_il_n 7 zC dX5_openings_6 1 rfl ?_
  refine v_cV (As := [.int p]) (st := []) 10 0 [0] zC dX5_openings_7 hA (c_X5_isOne (ev_l E) (ev_D E) cI (r0 := r0) (k1 := k1) (k2 := k2) (k3 := k3) (k4 := k4) (k6 := k6) (k7 := k7) (k8 := k8) (k10 := k10) (k12 := k12) (k13 := k13) (k14 := k14) (k15 := k15) (k16 := k16) (k21 := k21) (k22 := k22) (k23 := k23) (k24 := k24) (k25 := k25) (k30 := k30) (k31 := k31) (k33 := k33) (n := n) (m := m) (aw := 0) (ls := ls) (ap := ap) (sq := sq) (pl := pl) (tz := tz) (rs := rs) (bd := bd) (pd := pd) (tk := tk) (kv := kv) (sd := sd) (p := p) (hn := (by first | omega | assumption | rfl | (simp only []; omega) | decide))) cf_X5_isOne lk_X5_164 rfl rfl rfl rfl rfl (by decide +kernel) (Nat.le_of_ble_eq_true rfl) (fun rv_1 wv_2 hp_3 hm_4 => ?_)
  clear hm_4
  rcases hp_3 with ⟨hi_5, rfl, rfl⟩ | ⟨j_6, he_7, hi_8, hj_9, rfl, rfl⟩
  ·
    show VV E 0 0 10 [(0, .ref r0), (1, .int p), (2, .int w)] [.int (nI 0)] [(r0, .inr (5, [.int (nI n), .ref k1, .ref k2, .ref k3, .ref k4, .int (nI m), .ref k6, .ref k7, .ref k8, .int (nI 0), .ref k10, .int (nI 0), .ref k12, .ref k13, .ref k14, .ref k15, .ref k16, .int (nI ls), .int (nI ap), .int (bz bd), .int (nI sq), .ref k21, .ref k22, .ref k23, .ref k24, .ref k25, .int (bz pd), .int (nI pl), .int (bz tk), kv, .ref k30, .ref k31, .int (nI tz), .ref k33, .int (nI rs), .int sd])), (k1, .inl (cI, 7, .inl (nIf ki))), (k2, .inl (cI, 7, .inl (nIf op))), (k3, .inl (cI, 7, .inl (nIf (shF sh)))), (k4, .inl (cI, 7, .inl (nIf fa))), (k6, .inl (cI, 6, .inl (nIf K))), (k7, .inl (cI, 6, .inl (nIf G))), (k8, .inl (cI, 6, .inl (nIf T))), (k12, .inl (cI, 7, .inl (nIf kw))), (k13, .inl (cI, 175, .inl (nIf kn))), (k14, .inl (cI, 144, .inl (mIf M))), (k15, .inl (cI, 7, .inl (nIf mw))), (k10, .inl (cI, 7, .inl (nIf R)))]
    have hn_p := hi_5
    refine v_if_eq 22 13 zC dX5_openings_10 (fun _ => ?_) (fun z => absurd (by decide +kernel) z)
    refine v_ic (v := (-1)) 23 zC dX5_openings_22 (by decide +kernel) ?_
    refine v_is_n (lv2 := [(3, .int (-1)), (0, .ref r0), (1, .int p), (2, .int w)]) 24 zC dX5_openings_23 (by rw [hnE]; decide) rfl ?_
    refine v_il_n 25 zC dX5_openings_24 0 rfl ?_
    refine v_if_ge 34 28 zC dX5_openings_25 (fun z => absurd z (by decide +kernel)) (fun _ => ?_)
    refine v_al_n 29 zC dX5_openings_28 1 rfl ?_
    refine v_il_n 30 zC dX5_openings_29 0 rfl ?_
    refine v_cV (As := [.int (-1)]) (st := []) 33 0 [0, 12] zC dX5_openings_30 hA (c_X5_refuse (ev_l E) (ev_D E) cI (r0 := r0) (k1 := k1) (k2 := k2) (k3 := k3) (k4 := k4) (k6 := k6) (k7 := k7) (k8 := k8) (k10 := k10) (k12 := k12) (k13 := k13) (k14 := k14) (k15 := k15) (k16 := k16) (k21 := k21) (k22 := k22) (k23 := k23) (k24 := k24) (k25 := k25) (k30 := k30) (k31 := k31) (k33 := k33) (n := n) (m := m) (aw := 0) (ls := ls) (ap := ap) (sq := sq) (pl := pl) (tz := tz) (rs := rs) (bd := bd) (pd := pd) (tk := tk) (kv := kv) (sd := sd) (R := R) (v := (-1)) (j := 1) (hv := (by first | omega | assumption | rfl | (simp only []; omega) | decide)) (h1 := (by first | omega | assumption | rfl | (simp only []; omega) | decide)) (h6 := (by first | omega | assumption | rfl | (simp only []; omega) | decide))) cf_X5_refuse lk_X5_129 rfl rfl rfl rfl rfl (by decide +kernel) (Nat.le_of_ble_eq_true rfl) (fun rv_12 wv_13 hp_14 hm_15 => ?_)
    clear hm_15
    obtain ⟨rfl, rfl⟩ := hp_14
    show VV E 0 0 33 [(3, .int (-1)), (0, .ref r0), (1, .int p), (2, .int w)] [.int (-1)] [(r0, .inr (5, [.int (nI n), .ref k1, .ref k2, .ref k3, .ref k4, .int (nI m), .ref k6, .ref k7, .ref k8, .int (nI 0), .ref k10, .int (nI 0), .ref k12, .ref k13, .ref k14, .ref k15, .ref k16, .int (nI ls), .int (nI ap), .int (bz bd), .int (nI sq), .ref k21, .ref k22, .ref k23, .ref k24, .ref k25, .int (bz pd), .int (nI pl), .int (bz tk), kv, .ref k30, .ref k31, .int (nI tz), .ref k33, .int (nI rs), .int sd])), (k1, .inl (cI, 7, .inl (nIf ki))), (k2, .inl (cI, 7, .inl (nIf op))), (k3, .inl (cI, 7, .inl (nIf (shF sh)))), (k4, .inl (cI, 7, .inl (nIf fa))), (k6, .inl (cI, 6, .inl (nIf K))), (k7, .inl (cI, 6, .inl (nIf G))), (k8, .inl (cI, 6, .inl (nIf T))), (k12, .inl (cI, 7, .inl (nIf kw))), (k13, .inl (cI, 175, .inl (nIf kn))), (k14, .inl (cI, 144, .inl (mIf M))), (k15, .inl (cI, 7, .inl (nIf mw))), (k10, .inl (cI, 7, .inl (nIf (un R 1 (R 1 + 1)))))]
    refine v_iret zC zT dX5_openings_33  ?_
    first | (have g9 := hn_p; exact ⟨kw, kn, M, mw, 1, _, by unfold q_openings; rw [hn_p], hkw, hkn, hM, rfl, rfl⟩) | (have g9 := hn_w; exact ⟨kw, kn, M, mw, 2, _, by unfold q_openings; rw [hi_p]; dsimp only; rw [hn_w], hkw, hkn, hM, rfl, rfl⟩) | exact ⟨_, _, _, _, 0, _, by unfold q_openings; rw [hi_p]; dsimp only; rw [hi_w]; dsimp only; rw [show (24 : Nat) = h by omega, ← hs]; first | rw [if_pos (by assumption)] | rw [if_neg (by assumption)], hkw2, hkn2, hM2, rfl, rfl⟩
  ·
    show VV E 0 0 10 [(0, .ref r0), (1, .int p), (2, .int w)] [.int (nI 1)] [(r0, .inr (5, [.int (nI n), .ref k1, .ref k2, .ref k3, .ref k4, .int (nI m), .ref k6, .ref k7, .ref k8, .int (nI 0), .ref k10, .int (nI 0), .ref k12, .ref k13, .ref k14, .ref k15, .ref k16, .int (nI ls), .int (nI ap), .int (bz bd), .int (nI sq), .ref k21, .ref k22, .ref k23, .ref k24, .ref k25, .int (bz pd), .int (nI pl), .int (bz tk), kv, .ref k30, .ref k31, .int (nI tz), .ref k33, .int (nI rs), .int sd])), (k1, .inl (cI, 7, .inl (nIf ki))), (k2, .inl (cI, 7, .inl (nIf op))), (k3, .inl (cI, 7, .inl (nIf (shF sh)))), (k4, .inl (cI, 7, .inl (nIf fa))), (k6, .inl (cI, 6, .inl (nIf K))), (k7, .inl (cI, 6, .inl (nIf G))), (k8, .inl (cI, 6, .inl (nIf T))), (k12, .inl (cI, 7, .inl (nIf kw))), (k13, .inl (cI, 175, .inl (nIf kn))), (k14, .inl (cI, 144, .inl (mIf M))), (k15, .inl (cI, 7, .inl (nIf mw))), (k10, .inl (cI, 7, .inl (nIf R)))]
    subst he_7
    have hi_p := hi_8
    obtain ⟨jp, hx_jp⟩ : ∃ z, z = j_6 := ⟨_, rfl⟩
    subst hx_jp
    refine v_if_eq 22 13 zC dX5_openings_10 (fun z => absurd z (by decide +kernel)) (fun _ => ?_)
    refine v_ic (v := (nI 0)) 14 zC dX5_openings_13 (by decide +kernel) ?_
    refine v_il_n 15 zC dX5_openings_14 2 rfl ?_
    refine v_ic (v := (nI 1)) 16 zC dX5_openings_15 (by decide +kernel) ?_
    refine v_cS (As := [.int (nI 0), .int w, .int (nI 1)]) (st := []) 19 [] zC dX5_openings_16 hA (c_X5_wrongBit__Z (ev_l E) (ev_D E) cI (v := w) (k := 1) (hk := (by first | omega | assumption | rfl | (simp only []; omega) | decide))) cf_X5_wrongBit lk_X5_248 rfl rfl rfl (by decide +kernel) (Nat.le_of_ble_eq_true rfl) (fun rv_17 wv_18 hp_19 hm_20 => ?_)
    clear hm_20
    rcases hp_19 with ⟨hi_21, rfl, rfl⟩ | ⟨j_22, he_23, hi_24, hj_25, rfl, rfl⟩
    ·
      show VV E 0 0 19 [(0, .ref r0), (1, .int (nI jp)), (2, .int w)] [.int (-2)] [(r0, .inr (5, [.int (nI n), .ref k1, .ref k2, .ref k3, .ref k4, .int (nI m), .ref k6, .ref k7, .ref k8, .int (nI 0), .ref k10, .int (nI 0), .ref k12, .ref k13, .ref k14, .ref k15, .ref k16, .int (nI ls), .int (nI ap), .int (bz bd), .int (nI sq), .ref k21, .ref k22, .ref k23, .ref k24, .ref k25, .int (bz pd), .int (nI pl), .int (bz tk), kv, .ref k30, .ref k31, .int (nI tz), .ref k33, .int (nI rs), .int sd])), (k1, .inl (cI, 7, .inl (nIf ki))), (k2, .inl (cI, 7, .inl (nIf op))), (k3, .inl (cI, 7, .inl (nIf (shF sh)))), (k4, .inl (cI, 7, .inl (nIf fa))), (k6, .inl (cI, 6, .inl (nIf K))), (k7, .inl (cI, 6, .inl (nIf G))), (k8, .inl (cI, 6, .inl (nIf T))), (k12, .inl (cI, 7, .inl (nIf kw))), (k13, .inl (cI, 175, .inl (nIf kn))), (k14, .inl (cI, 144, .inl (mIf M))), (k15, .inl (cI, 7, .inl (nIf mw))), (k10, .inl (cI, 7, .inl (nIf R)))]
      have hn_w := hi_21
      refine v_goto 23 zC dX5_openings_19 ?_
      refine v_is_n (lv2 := [(3, .int (-2)), (0, .ref r0), (1, .int (nI jp)), (2, .int w)]) 24 zC dX5_openings_23 (by rw [hnE]; decide) rfl ?_
      refine v_il_n 25 zC dX5_openings_24 0 rfl ?_
      refine v_if_ge 34 28 zC dX5_openings_25 (fun z => absurd z (by decide +kernel)) (fun _ => ?_)
      refine v_al_n 29 zC dX5_openings_28 1 rfl ?_
      refine v_il_n 30 zC dX5_openings_29 0 rfl ?_
      refine v_cV (As := [.int (-2)]) (st := []) 33 0 [0, 12] zC dX5_openings_30 hA (c_X5_refuse (ev_l E) (ev_D E) cI (r0 := r0) (k1 := k1) (k2 := k2) (k3 := k3) (k4 := k4) (k6 := k6) (k7 := k7) (k8 := k8) (k10 := k10) (k12 := k12) (k13 := k13) (k14 := k14) (k15 := k15) (k16 := k16) (k21 := k21) (k22 := k22) (k23 := k23) (k24 := k24) (k25 := k25) (k30 := k30) (k31 := k31) (k33 := k33) (n := n) (m := m) (aw := 0) (ls := ls) (ap := ap) (sq := sq) (pl := pl) (tz := tz) (rs := rs) (bd := bd) (pd := pd) (tk := tk) (kv := kv) (sd := sd) (R := R) (v := (-2)) (j := 2) (hv := (by first | omega | assumption | rfl | (simp only []; omega) | decide)) (h1 := (by first | omega | assumption | rfl | (simp only []; omega) | decide)) (h6 := (by first | omega | assumption | rfl | (simp only []; omega) | decide))) cf_X5_refuse lk_X5_129 rfl rfl rfl rfl rfl (by decide +kernel) (Nat.le_of_ble_eq_true rfl) (fun rv_27 wv_28 hp_29 hm_30 => ?_)
      clear hm_30
      obtain ⟨rfl, rfl⟩ := hp_29
      show VV E 0 0 33 [(3, .int (-2)), (0, .ref r0), (1, .int (nI jp)), (2, .int w)] [.int (-2)] [(r0, .inr (5, [.int (nI n), .ref k1, .ref k2, .ref k3, .ref k4, .int (nI m), .ref k6, .ref k7, .ref k8, .int (nI 0), .ref k10, .int (nI 0), .ref k12, .ref k13, .ref k14, .ref k15, .ref k16, .int (nI ls), .int (nI ap), .int (bz bd), .int (nI sq), .ref k21, .ref k22, .ref k23, .ref k24, .ref k25, .int (bz pd), .int (nI pl), .int (bz tk), kv, .ref k30, .ref k31, .int (nI tz), .ref k33, .int (nI rs), .int sd])), (k1, .inl (cI, 7, .inl (nIf ki))), (k2, .inl (cI, 7, .inl (nIf op))), (k3, .inl (cI, 7, .inl (nIf (shF sh)))), (k4, .inl (cI, 7, .inl (nIf fa))), (k6, .inl (cI, 6, .inl (nIf K))), (k7, .inl (cI, 6, .inl (nIf G))), (k8, .inl (cI, 6, .inl (nIf T))), (k12, .inl (cI, 7, .inl (nIf kw))), (k13, .inl (cI, 175, .inl (nIf kn))), (k14, .inl (cI, 144, .inl (mIf M))), (k15, .inl (cI, 7, .inl (nIf mw))), (k10, .inl (cI, 7, .inl (nIf (un R 2 (R 2 + 1)))))]
      refine v_iret zC zT dX5_openings_33  ?_
      first | (have g9 := hn_p; exact ⟨kw, kn, M, mw, 1, _, by unfold q_openings; rw [hn_p], hkw, hkn, hM, rfl, rfl⟩) | (have g9 := hn_w; exact ⟨kw, kn, M, mw, 2, _, by unfold q_openings; rw [hi_p]; dsimp only; rw [hn_w], hkw, hkn, hM, rfl, rfl⟩) | exact ⟨_, _, _, _, 0, _, by unfold q_openings; rw [hi_p]; dsimp only; rw [hi_w]; dsimp only; rw [show (24 : Nat) = h by omega, ← hs]; first | rw [if_pos (by assumption)] | rw [if_neg (by assumption)], hkw2, hkn2, hM2, rfl, rfl⟩
    ·
      show VV E 0 0 19 [(0, .ref r0), (1, .int (nI jp)), (2, .int w)] [.int (nI 0)] [(r0, .inr (5, [.int (nI n), .ref k1, .ref k2, .ref k3, .ref k4, .int (nI m), .ref k6, .ref k7, .ref k8, .int (nI 0), .ref k10, .int (nI 0), .ref k12, .ref k13, .ref k14, .ref k15, .ref k16, .int (nI ls), .int (nI ap), .int (bz bd), .int (nI sq), .ref k21, .ref k22, .ref k23, .ref k24, .ref k25, .int (bz pd), .int (nI pl), .int (bz tk), kv, .ref k30, .ref k31, .int (nI tz), .ref k33, .int (nI rs), .int sd])), (k1, .inl (cI, 7, .inl (nIf ki))), (k2, .inl (cI, 7, .inl (nIf op))), (k3, .inl (cI, 7, .inl (nIf (shF sh)))), (k4, .inl (cI, 7, .inl (nIf fa))), (k6, .inl (cI, 6, .inl (nIf K))), (k7, .inl (cI, 6, .inl (nIf G))), (k8, .inl (cI, 6, .inl (nIf T))), (k12, .inl (cI, 7, .inl (nIf kw))), (k13, .inl (cI, 175, .inl (nIf kn))), (k14, .inl (cI, 144, .inl (mIf M))), (k15, .inl (cI, 7, .inl (nIf mw))), (k10, .inl (cI, 7, .inl (nIf R)))]
      subst he_23
      have hi_w := hi_24
      obtain ⟨jw, hx_jw⟩ : ∃ z, z = j_22 := ⟨_, rfl⟩
      subst hx_jw
      refine v_goto 23 zC dX5_openings_19 ?_
      refine v_is_n (lv2 := [(3, .int (nI 0)), (0, .ref r0), (1, .int (nI jp)), (2, .int (nI jw))]) 24 zC dX5_openings_23 (by rw [hnE]; decide) rfl ?_
      refine v_il_n 25 zC dX5_openings_24 0 rfl ?_
      refine v_if_ge 34 28 zC dX5_openings_25 (fun _ => ?_) (fun z => absurd (by decide +kernel) z)
      refine v_al_n 35 zC dX5_openings_34 1 rfl ?_
      refine v_cV (As := []) (st := []) 38 0 [0, 1, 2, 3, 4, 5, 6, 7, 8, 9, 10, 11] zC dX5_openings_35 hA (c_X5_allNow (ev_l E) (ev_D E) cI (r0 := r0) (k1 := k1) (k2 := k2) (k3 := k3) (k4 := k4) (k6 := k6) (k7 := k7) (k8 := k8) (k10 := k10) (k12 := k12) (k13 := k13) (k14 := k14) (k15 := k15) (k16 := k16) (k21 := k21) (k22 := k22) (k23 := k23) (k24 := k24) (k25 := k25) (k30 := k30) (k31 := k31) (k33 := k33) (n := n) (m := m) (aw := 0) (ls := ls) (ap := ap) (sq := sq) (pl := pl) (tz := tz) (rs := rs) (bd := bd) (pd := pd) (tk := tk) (kv := kv) (sd := sd) (ki := ki) (op := op) (fa := fa) (K := K) (G := G) (T := T) (sh := sh) (kw := kw) (kn := kn) (M := M) (mw := mw) (hw := (by first | omega | assumption | rfl | (simp only []; omega) | decide)) (hkw := (by first | omega | assumption | rfl | (simp only []; omega) | decide)) (hkn := (by first | omega | assumption | rfl | (simp only []; omega) | decide)) (hM := (by first | omega | assumption | rfl | (simp only []; omega) | decide))) cf_X5_allNow lk_X5_245 rfl rfl rfl rfl rfl (by decide +kernel) (Nat.le_of_ble_eq_true rfl) (fun rv_32 wv_33 hp_34 hm_35 => ?_)
      clear hm_35
      obtain ⟨kw1_36, kn1_37, M1_38, mw1_39, hR_40, hl_41, rfl, rfl⟩ := hp_34
      show VV E 0 0 38 [(3, .int (nI 0)), (0, .ref r0), (1, .int (nI jp)), (2, .int (nI jw))] [.int (nI (ALL (n, m, sh, 0, ki, op, fa, K, G, T)))] [(r0, .inr (5, [.int (nI n), .ref k1, .ref k2, .ref k3, .ref k4, .int (nI m), .ref k6, .ref k7, .ref k8, .int (nI 0), .ref k10, .int (nI 0), .ref k12, .ref k13, .ref k14, .ref k15, .ref k16, .int (nI ls), .int (nI ap), .int (bz bd), .int (nI sq), .ref k21, .ref k22, .ref k23, .ref k24, .ref k25, .int (bz pd), .int (nI pl), .int (bz tk), kv, .ref k30, .ref k31, .int (nI tz), .ref k33, .int (nI rs), .int sd])), (k1, .inl (cI, 7, .inl (nIf ki))), (k2, .inl (cI, 7, .inl (nIf op))), (k3, .inl (cI, 7, .inl (nIf (shF sh)))), (k4, .inl (cI, 7, .inl (nIf fa))), (k6, .inl (cI, 6, .inl (nIf K))), (k7, .inl (cI, 6, .inl (nIf G))), (k8, .inl (cI, 6, .inl (nIf T))), (k12, .inl (cI, 7, .inl (nIf kw1_36))), (k13, .inl (cI, 175, .inl (nIf kn1_37))), (k14, .inl (cI, 144, .inl (mIf M1_38))), (k15, .inl (cI, 7, .inl (nIf mw1_39))), (k10, .inl (cI, 7, .inl (nIf R)))]
      have hR9 := hR_40
      have ha9 := hl_41
      refine v_is (lv2 := [(4, .int (nI (ALL (n, m, sh, 0, ki, op, fa, K, G, T)))), (3, .int (nI 0)), (0, .ref r0), (1, .int (nI jp)), (2, .int (nI jw))]) 40 zC dX5_openings_38 (by rw [hnE]; decide) rfl ?_
      refine v_al_n 41 zC dX5_openings_40 2 rfl ?_
      refine v_gf 44 0 zC dX5_openings_41 gf_X5_13 rfl rfl ?_
      refine v_il_n 45 zC dX5_openings_44 3 rfl ?_
      refine v_ialn (v := (nI (op jp))) 46 2 zC dX5_openings_45 rfl (by omega) rfl ?_
      refine v_is (lv2 := [(5, .int (nI (op jp))), (4, .int (nI (ALL (n, m, sh, 0, ki, op, fa, K, G, T)))), (3, .int (nI 0)), (0, .ref r0), (1, .int (nI jp)), (2, .int (nI jw))]) 48 zC dX5_openings_46 (by rw [hnE]; decide) rfl ?_
      refine v_ic (v := (nI 0)) 49 zC dX5_openings_48 (by decide +kernel) ?_
      refine v_is (lv2 := [(6, .int (nI 0)), (5, .int (nI (op jp))), (4, .int (nI (ALL (n, m, sh, 0, ki, op, fa, K, G, T)))), (3, .int (nI 0)), (0, .ref r0), (1, .int (nI jp)), (2, .int (nI jw))]) 51 zC dX5_openings_49 (by rw [hnE]; decide) rfl ?_
      refine v_bp (v := (-9)) 53 zC dX5_openings_51 (by decide +kernel) ?_
      refine v_is (lv2 := [(7, .int (-9)), (6, .int (nI 0)), (5, .int (nI (op jp))), (4, .int (nI (ALL (n, m, sh, 0, ki, op, fa, K, G, T)))), (3, .int (nI 0)), (0, .ref r0), (1, .int (nI jp)), (2, .int (nI jw))]) 55 zC dX5_openings_53 (by rw [hnE]; decide) rfl ?_
      refine v_ic (v := (nI 0)) 56 zC dX5_openings_55 (by decide +kernel) ?_
      refine v_is (lv2 := [(8, .int (nI 0)), (7, .int (-9)), (6, .int (nI 0)), (5, .int (nI (op jp))), (4, .int (nI (ALL (n, m, sh, 0, ki, op, fa, K, G, T)))), (3, .int (nI 0)), (0, .ref r0), (1, .int (nI jp)), (2, .int (nI jw))]) 58 zC dX5_openings_56 (by rw [hnE]; decide) rfl ?_
      have lp58 : ∀ (mz : Nat) (kw2 : Nat → Nat) (kn2 : Nat → Nat) (M2 : Nat → Option Nat) (mw2 : Nat → Nat) (O : Nat → Nat) (x : Nat) (F : Option Nat) (h : Nat), (∀ z, kw2 z < 1024) → (∀ z, kn2 z < 1024) → (∀ z v, M2 z = some v → v < 7) → (∀ v, un O jp v = un op jp v) → ((x, F) = it (opsS (n, m, sh, 0, ki, op, fa, K, G, T) jp) (0, none) h) → (∀ v, F = some v → v < 24) → (h ≤ 24) → (x ≤ h) → 24 - h = mz → VV E 0 0 58 [(8, .int (nI h)), (7, .int (mI F)), (6, .int (nI x)), (5, .int (nI (op jp))), (4, .int (nI (ALL (n, m, sh, 0, ki, op, fa, K, G, T)))), (3, .int (nI 0)), (0, .ref r0), (1, .int (nI jp)), (2, .int (nI jw))] [] [(r0, .inr (5, [.int (nI n), .ref k1, .ref k2, .ref k3, .ref k4, .int (nI m), .ref k6, .ref k7, .ref k8, .int (nI 0), .ref k10, .int (nI 0), .ref k12, .ref k13, .ref k14, .ref k15, .ref k16, .int (nI ls), .int (nI ap), .int (bz bd), .int (nI sq), .ref k21, .ref k22, .ref k23, .ref k24, .ref k25, .int (bz pd), .int (nI pl), .int (bz tk), kv, .ref k30, .ref k31, .int (nI tz), .ref k33, .int (nI rs), .int sd])), (k1, .inl (cI, 7, .inl (nIf ki))), (k2, .inl (cI, 7, .inl (nIf O))), (k3, .inl (cI, 7, .inl (nIf (shF sh)))), (k4, .inl (cI, 7, .inl (nIf fa))), (k6, .inl (cI, 6, .inl (nIf K))), (k7, .inl (cI, 6, .inl (nIf G))), (k8, .inl (cI, 6, .inl (nIf T))), (k12, .inl (cI, 7, .inl (nIf kw2))), (k13, .inl (cI, 175, .inl (nIf kn2))), (k14, .inl (cI, 144, .inl (mIf M2))), (k15, .inl (cI, 7, .inl (nIf mw2))), (k10, .inl (cI, 7, .inl (nIf R)))] := by
        intro mz
        induction mz using Nat.strongRecOn with
        | _ mz ih58 =>
        intro kw2 kn2 M2 mw2 O x F h hkw2 hkn2 hM2 hO hs hFl hh hxl hm58
        refine v_il 60 zC dX5_openings_58 0 rfl ?_
        refine v_bp (v := (nI 24)) 62 zC dX5_openings_60 (by decide +kernel) ?_
        refine v_icmpn_ge 144 65 zC dX5_openings_62 (fun h_42 => ?_) (fun h_42 => ?_)
        ·
          refine v_al_n 145 zC dX5_openings_144 6 rfl ?_
          refine v_gf 148 0 zC dX5_openings_145 gf_X5_13 rfl rfl ?_
          refine v_il_n 149 zC dX5_openings_148 7 rfl ?_
          refine v_il 151 zC dX5_openings_149 3 rfl ?_
          refine v_iasn (ws2 := [(r0, .inr (5, [.int (nI n), .ref k1, .ref k2, .ref k3, .ref k4, .int (nI m), .ref k6, .ref k7, .ref k8, .int (nI 0), .ref k10, .int (nI 0), .ref k12, .ref k13, .ref k14, .ref k15, .ref k16, .int (nI ls), .int (nI ap), .int (bz bd), .int (nI sq), .ref k21, .ref k22, .ref k23, .ref k24, .ref k25, .int (bz pd), .int (nI pl), .int (bz tk), kv, .ref k30, .ref k31, .int (nI tz), .ref k33, .int (nI rs), .int sd])), (k1, .inl (cI, 7, .inl (nIf ki))), (k2, .inl (cI, 7, .inl (nIf (un O jp (op jp))))), (k3, .inl (cI, 7, .inl (nIf (shF sh)))), (k4, .inl (cI, 7, .inl (nIf fa))), (k6, .inl (cI, 6, .inl (nIf K))), (k7, .inl (cI, 6, .inl (nIf G))), (k8, .inl (cI, 6, .inl (nIf T))), (k12, .inl (cI, 7, .inl (nIf kw2))), (k13, .inl (cI, 175, .inl (nIf kn2))), (k14, .inl (cI, 144, .inl (mIf M2))), (k15, .inl (cI, 7, .inl (nIf mw2))), (k10, .inl (cI, 7, .inl (nIf R)))]) 152 2 zC dX5_openings_151 rfl (by omega) (by rw [upd_nIf]; first | done | rfl) ?_
          rw [hO, un_id]
          refine v_il_n 153 zC dX5_openings_152 8 rfl ?_
          refine v_ifn_ne 161 156 zC dX5_openings_153 (fun h_43 => ?_) (fun h_43 => ?_)
          ·
            refine v_il 163 zC dX5_openings_161 1 rfl ?_
            refine v_iret zC zT dX5_openings_163  ?_
            first | (have g9 := hn_p; exact ⟨kw, kn, M, mw, 1, _, by unfold q_openings; rw [hn_p], hkw, hkn, hM, rfl, rfl⟩) | (have g9 := hn_w; exact ⟨kw, kn, M, mw, 2, _, by unfold q_openings; rw [hi_p]; dsimp only; rw [hn_w], hkw, hkn, hM, rfl, rfl⟩) | exact ⟨_, _, _, _, 0, _, by unfold q_openings; rw [hi_p]; dsimp only; rw [hi_w]; dsimp only; rw [show (24 : Nat) = h by omega, ← hs]; first | rw [if_pos (by assumption)] | rw [if_neg (by assumption)], hkw2, hkn2, hM2, rfl, rfl⟩
          ·
            refine v_il 158 zC dX5_openings_156 2 rfl ?_
            refine v_goto 163 zC dX5_openings_158 ?_
            refine v_iret zC zT dX5_openings_163  ?_
            first | (have g9 := hn_p; exact ⟨kw, kn, M, mw, 1, _, by unfold q_openings; rw [hn_p], hkw, hkn, hM, rfl, rfl⟩) | (have g9 := hn_w; exact ⟨kw, kn, M, mw, 2, _, by unfold q_openings; rw [hi_p]; dsimp only; rw [hn_w], hkw, hkn, hM, rfl, rfl⟩) | exact ⟨_, _, _, _, 0, _, by unfold q_openings; rw [hi_p]; dsimp only; rw [hi_w]; dsimp only; rw [show (24 : Nat) = h by omega, ← hs]; first | rw [if_pos (by assumption)] | rw [if_neg (by assumption)], hkw2, hkn2, hM2, rfl, rfl⟩
        ·
          refine v_il 67 zC dX5_openings_65 3 rfl ?_
          refine v_il 69 zC dX5_openings_67 0 rfl ?_
          refine v_cS (As := [.int (nI (op jp)), .int (nI h)]) (st := []) 72 [] zC dX5_openings_69 hA (c_X5_hasBit (ev_l E) (ev_D E) cI (x := (op jp)) (k := h) (hk := (by first | omega | assumption | rfl | (simp only []; omega) | decide))) cf_X5_hasBit lk_X5_95 rfl rfl rfl (by decide +kernel) (Nat.le_of_ble_eq_true rfl) (fun rv_44 wv_45 hp_46 hm_47 => ?_)
          clear hm_47
          obtain ⟨rfl, rfl⟩ := hp_46
          show VV E 0 0 72 [(8, .int (nI h)), (7, .int (mI F)), (6, .int (nI x)), (5, .int (nI (op jp))), (4, .int (nI (ALL (n, m, sh, 0, ki, op, fa, K, G, T)))), (3, .int (nI 0)), (0, .ref r0), (1, .int (nI jp)), (2, .int (nI jw))] [.int (bz (Nat.testBit (op jp) h))] [(r0, .inr (5, [.int (nI n), .ref k1, .ref k2, .ref k3, .ref k4, .int (nI m), .ref k6, .ref k7, .ref k8, .int (nI 0), .ref k10, .int (nI 0), .ref k12, .ref k13, .ref k14, .ref k15, .ref k16, .int (nI ls), .int (nI ap), .int (bz bd), .int (nI sq), .ref k21, .ref k22, .ref k23, .ref k24, .ref k25, .int (bz pd), .int (nI pl), .int (bz tk), kv, .ref k30, .ref k31, .int (nI tz), .ref k33, .int (nI rs), .int sd])), (k1, .inl (cI, 7, .inl (nIf ki))), (k2, .inl (cI, 7, .inl (nIf O))), (k3, .inl (cI, 7, .inl (nIf (shF sh)))), (k4, .inl (cI, 7, .inl (nIf fa))), (k6, .inl (cI, 6, .inl (nIf K))), (k7, .inl (cI, 6, .inl (nIf G))), (k8, .inl (cI, 6, .inl (nIf T))), (k12, .inl (cI, 7, .inl (nIf kw2))), (k13, .inl (cI, 175, .inl (nIf kn2))), (k14, .inl (cI, 144, .inl (mIf M2))), (k15, .inl (cI, 7, .inl (nIf mw2))), (k10, .inl (cI, 7, .inl (nIf R)))]
          refine v_ifb_ne 138 75 zC dX5_openings_72 (fun h_48 => ?_) (fun h_48 => ?_)
          ·
            refine v_inc (v := (nI (h + 1))) (lv2 := [(8, .int (nI (h + 1))), (7, .int (mI F)), (6, .int (nI x)), (5, .int (nI (op jp))), (4, .int (nI (ALL (n, m, sh, 0, ki, op, fa, K, G, T)))), (3, .int (nI 0)), (0, .ref r0), (1, .int (nI jp)), (2, .int (nI jw))]) 141 zC dX5_openings_138 (j := 0) rfl (nI_add _ 1) (by rw [hnE]; decide) rfl ?_
            refine v_goto 58 zC dX5_openings_141 ?_
            refine v_lvs (lv2 := [(8, .int (nI (h + 1))), (7, .int (mI F)), (6, .int (nI x)), (5, .int (nI (op jp))), (4, .int (nI (ALL (n, m, sh, 0, ki, op, fa, K, G, T)))), (3, .int (nI 0)), (0, .ref r0), (1, .int (nI jp)), (2, .int (nI jw))]) [0, 1, 2, 3, 4, 5, 6, 7, 8] rfl ?_
            exact ih58 _ (by omega) kw2 kn2 M2 mw2 O x F (h + 1) (by first | exact hR9.2.2.2.1 | exact hkw2) (by first | exact hR9.2.2.2.2.1 | exact hkn2) (by first | exact hR9.2.2.2.2.2 | exact hM2) (by first | exact hO | exact fun _ => un_un) (it_s hs (by first | exact ops_1 (by assumption) (by assumption) (by assumption) | exact ops_2 (by assumption) (by assumption) (by assumption) | exact ops_3 (by assumption) | exact ops_4 (by assumption))) (fun v e => by first | exact hFl v e | (cases e; omega)) (by first | omega | assumption | rfl | (simp only []; omega) | decide) (by first | omega | assumption | rfl | (simp only []; omega) | decide) rfl
          ·
            refine v_al_n 76 zC dX5_openings_75 6 rfl ?_
            refine v_gf 79 0 zC dX5_openings_76 gf_X5_13 rfl rfl ?_
            refine v_il_n 80 zC dX5_openings_79 7 rfl ?_
            refine v_il 82 zC dX5_openings_80 3 rfl ?_
            refine v_ic (v := (nI 1)) 83 zC dX5_openings_82 (by decide +kernel) ?_
            refine v_il 85 zC dX5_openings_83 0 rfl ?_
            refine v_ishl (v := (nI (2 ^ h))) 86 zC dX5_openings_85 (b1n (by omega)) ?_
            refine v_ior (v := (nI ((op jp) ||| (2 ^ h)))) 87 zC dX5_openings_86 (fa_or _ _) ?_
            refine v_iasn (ws2 := [(r0, .inr (5, [.int (nI n), .ref k1, .ref k2, .ref k3, .ref k4, .int (nI m), .ref k6, .ref k7, .ref k8, .int (nI 0), .ref k10, .int (nI 0), .ref k12, .ref k13, .ref k14, .ref k15, .ref k16, .int (nI ls), .int (nI ap), .int (bz bd), .int (nI sq), .ref k21, .ref k22, .ref k23, .ref k24, .ref k25, .int (bz pd), .int (nI pl), .int (bz tk), kv, .ref k30, .ref k31, .int (nI tz), .ref k33, .int (nI rs), .int sd])), (k1, .inl (cI, 7, .inl (nIf ki))), (k2, .inl (cI, 7, .inl (nIf (un O jp ((op jp) ||| (2 ^ h)))))), (k3, .inl (cI, 7, .inl (nIf (shF sh)))), (k4, .inl (cI, 7, .inl (nIf fa))), (k6, .inl (cI, 6, .inl (nIf K))), (k7, .inl (cI, 6, .inl (nIf G))), (k8, .inl (cI, 6, .inl (nIf T))), (k12, .inl (cI, 7, .inl (nIf kw2))), (k13, .inl (cI, 175, .inl (nIf kn2))), (k14, .inl (cI, 144, .inl (mIf M2))), (k15, .inl (cI, 7, .inl (nIf mw2))), (k10, .inl (cI, 7, .inl (nIf R)))]) 88 2 zC dX5_openings_87 rfl (by omega) (by rw [upd_nIf]; first | done | rfl) ?_
            rw [hO]
            refine v_al_n 89 zC dX5_openings_88 6 rfl ?_
            refine v_cV (As := []) (st := []) 92 0 [0, 1, 2, 3, 4, 5, 6, 7, 8, 9, 10, 11] zC dX5_openings_89 hA (c_X5_allNow (ev_l E) (ev_D E) cI (r0 := r0) (k1 := k1) (k2 := k2) (k3 := k3) (k4 := k4) (k6 := k6) (k7 := k7) (k8 := k8) (k10 := k10) (k12 := k12) (k13 := k13) (k14 := k14) (k15 := k15) (k16 := k16) (k21 := k21) (k22 := k22) (k23 := k23) (k24 := k24) (k25 := k25) (k30 := k30) (k31 := k31) (k33 := k33) (n := n) (m := m) (aw := 0) (ls := ls) (ap := ap) (sq := sq) (pl := pl) (tz := tz) (rs := rs) (bd := bd) (pd := pd) (tk := tk) (kv := kv) (sd := sd) (ki := ki) (op := (un op jp ((op jp) ||| (2 ^ h)))) (fa := fa) (K := K) (G := G) (T := T) (sh := sh) (kw := kw2) (kn := kn2) (M := M2) (mw := mw2) (hw := ⟨hn, hm, hsh, hki, (un_b hop (op24 (hop jp) (show h < 24 by omega)).1), hfa, hK, hG, hT, vki, (un_v vop (show jp < 7 by omega)), vfa, vK, vG, vT⟩) (hkw := hkw2) (hkn := hkn2) (hM := hM2)) cf_X5_allNow lk_X5_245 rfl rfl rfl rfl rfl (by decide +kernel) (Nat.le_of_ble_eq_true rfl) (fun rv_49 wv_50 hp_51 hm_52 => ?_)
            clear hm_52
            obtain ⟨kw1_53, kn1_54, M1_55, mw1_56, hR_57, hl_58, rfl, rfl⟩ := hp_51
            show VV E 0 0 92 [(8, .int (nI h)), (7, .int (mI F)), (6, .int (nI x)), (5, .int (nI (op jp))), (4, .int (nI (ALL (n, m, sh, 0, ki, op, fa, K, G, T)))), (3, .int (nI 0)), (0, .ref r0), (1, .int (nI jp)), (2, .int (nI jw))] [.int (nI (ALL (n, m, sh, 0, ki, (un op jp ((op jp) ||| (2 ^ h))), fa, K, G, T)))] [(r0, .inr (5, [.int (nI n), .ref k1, .ref k2, .ref k3, .ref k4, .int (nI m), .ref k6, .ref k7, .ref k8, .int (nI 0), .ref k10, .int (nI 0), .ref k12, .ref k13, .ref k14, .ref k15, .ref k16, .int (nI ls), .int (nI ap), .int (bz bd), .int (nI sq), .ref k21, .ref k22, .ref k23, .ref k24, .ref k25, .int (bz pd), .int (nI pl), .int (bz tk), kv, .ref k30, .ref k31, .int (nI tz), .ref k33, .int (nI rs), .int sd])), (k1, .inl (cI, 7, .inl (nIf ki))), (k2, .inl (cI, 7, .inl (nIf (un op jp ((op jp) ||| (2 ^ h)))))), (k3, .inl (cI, 7, .inl (nIf (shF sh)))), (k4, .inl (cI, 7, .inl (nIf fa))), (k6, .inl (cI, 6, .inl (nIf K))), (k7, .inl (cI, 6, .inl (nIf G))), (k8, .inl (cI, 6, .inl (nIf T))), (k12, .inl (cI, 7, .inl (nIf kw1_53))), (k13, .inl (cI, 175, .inl (nIf kn1_54))), (k14, .inl (cI, 144, .inl (mIf M1_55))), (k15, .inl (cI, 7, .inl (nIf mw1_56))), (k10, .inl (cI, 7, .inl (nIf R)))]
            have hR9 := hR_57
            have hl9 := hl_58
            refine v_il 94 zC dX5_openings_92 4 rfl ?_
            refine v_icmpn_le 101 97 zC dX5_openings_94 (fun h_59 => ?_) (fun h_59 => ?_)
            ·
              refine v_ic (v := (nI 0)) 102 zC dX5_openings_101 (by decide +kernel) ?_
              refine v_is (lv2 := [(9, .int (nI 0)), (8, .int (nI h)), (7, .int (mI F)), (6, .int (nI x)), (5, .int (nI (op jp))), (4, .int (nI (ALL (n, m, sh, 0, ki, op, fa, K, G, T)))), (3, .int (nI 0)), (0, .ref r0), (1, .int (nI jp)), (2, .int (nI jw))]) 104 zC dX5_openings_102 (by rw [hnE]; decide) rfl ?_
              refine v_il 106 zC dX5_openings_104 3 rfl ?_
              refine v_il 108 zC dX5_openings_106 0 rfl ?_
              refine v_if_eq 115 111 zC dX5_openings_108 (fun _ => ?_) (fun z => absurd (by decide +kernel) z)
              refine v_ic (v := (nI 0)) 116 zC dX5_openings_115 (by decide +kernel) ?_
              refine v_iadd (v := (nI x)) 117 zC dX5_openings_116 (nI_add _ 0) ?_
              refine v_is (lv2 := [(6, .int (nI x)), (9, .int (nI 0)), (8, .int (nI h)), (7, .int (mI F)), (5, .int (nI (op jp))), (4, .int (nI (ALL (n, m, sh, 0, ki, op, fa, K, G, T)))), (3, .int (nI 0)), (0, .ref r0), (1, .int (nI jp)), (2, .int (nI jw))]) 119 zC dX5_openings_117 (by rw [hnE]; decide) rfl ?_
              refine v_il 121 zC dX5_openings_119 1 rfl ?_
              refine v_if_eq 134 124 zC dX5_openings_121 (fun _ => ?_) (fun z => absurd (by decide +kernel) z)
              refine v_il 136 zC dX5_openings_134 3 rfl ?_
              refine v_is (lv2 := [(7, .int (mI F)), (6, .int (nI x)), (9, .int (nI 0)), (8, .int (nI h)), (5, .int (nI (op jp))), (4, .int (nI (ALL (n, m, sh, 0, ki, op, fa, K, G, T)))), (3, .int (nI 0)), (0, .ref r0), (1, .int (nI jp)), (2, .int (nI jw))]) 138 zC dX5_openings_136 (by rw [hnE]; decide) rfl ?_
              refine v_inc (v := (nI (h + 1))) (lv2 := [(8, .int (nI (h + 1))), (7, .int (mI F)), (6, .int (nI x)), (9, .int (nI 0)), (5, .int (nI (op jp))), (4, .int (nI (ALL (n, m, sh, 0, ki, op, fa, K, G, T)))), (3, .int (nI 0)), (0, .ref r0), (1, .int (nI jp)), (2, .int (nI jw))]) 141 zC dX5_openings_138 (j := 3) rfl (nI_add _ 1) (by rw [hnE]; decide) rfl ?_
              refine v_goto 58 zC dX5_openings_141 ?_
              refine v_lvs (lv2 := [(8, .int (nI (h + 1))), (7, .int (mI F)), (6, .int (nI x)), (5, .int (nI (op jp))), (4, .int (nI (ALL (n, m, sh, 0, ki, op, fa, K, G, T)))), (3, .int (nI 0)), (0, .ref r0), (1, .int (nI jp)), (2, .int (nI jw))]) [0, 1, 2, 4, 5, 6, 7, 8, 9] rfl ?_
              exact ih58 _ (by omega) kw1_53 kn1_54 M1_55 mw1_56 (un op jp ((op jp) ||| (2 ^ h))) x F (h + 1) (by first | exact hR9.2.2.2.1 | exact hkw2) (by first | exact hR9.2.2.2.2.1 | exact hkn2) (by first | exact hR9.2.2.2.2.2 | exact hM2) (by first | exact hO | exact fun _ => un_un) (it_s hs (by first | exact ops_1 (by assumption) (by assumption) (by assumption) | exact ops_2 (by assumption) (by assumption) (by assumption) | exact ops_3 (by assumption) | exact ops_4 (by assumption))) (fun v e => by first | exact hFl v e | (cases e; omega)) (by first | omega | assumption | rfl | (simp only []; omega) | decide) (by first | omega | assumption | rfl | (simp only []; omega) | decide) rfl
            ·
              refine v_ic (v := (nI 1)) 98 zC dX5_openings_97 (by decide +kernel) ?_
              refine v_goto 102 zC dX5_openings_98 ?_
              refine v_is (lv2 := [(9, .int (nI 1)), (8, .int (nI h)), (7, .int (mI F)), (6, .int (nI x)), (5, .int (nI (op jp))), (4, .int (nI (ALL (n, m, sh, 0, ki, op, fa, K, G, T)))), (3, .int (nI 0)), (0, .ref r0), (1, .int (nI jp)), (2, .int (nI jw))]) 104 zC dX5_openings_102 (by rw [hnE]; decide) rfl ?_
              refine v_il 106 zC dX5_openings_104 3 rfl ?_
              refine v_il 108 zC dX5_openings_106 0 rfl ?_
              refine v_if_eq 115 111 zC dX5_openings_108 (fun z => absurd z (by decide +kernel)) (fun _ => ?_)
              refine v_ic (v := (nI 1)) 112 zC dX5_openings_111 (by decide +kernel) ?_
              refine v_goto 116 zC dX5_openings_112 ?_
              refine v_iadd (v := (nI (x + 1))) 117 zC dX5_openings_116 (nI_add _ _) ?_
              refine v_is (lv2 := [(6, .int (nI (x + 1))), (9, .int (nI 1)), (8, .int (nI h)), (7, .int (mI F)), (5, .int (nI (op jp))), (4, .int (nI (ALL (n, m, sh, 0, ki, op, fa, K, G, T)))), (3, .int (nI 0)), (0, .ref r0), (1, .int (nI jp)), (2, .int (nI jw))]) 119 zC dX5_openings_117 (by rw [hnE]; decide) rfl ?_
              refine v_il 121 zC dX5_openings_119 1 rfl ?_
              refine v_if_eq 134 124 zC dX5_openings_121 (fun z => absurd z (by decide +kernel)) (fun _ => ?_)
              refine v_il 126 zC dX5_openings_124 3 rfl ?_
              refine v_ifo_ge 134 129 zC dX5_openings_126 (fun v e => by have := hFl v e; omega) (fun h_64 => ?_) (fun h_64 => ?_)
              ·
                refine v_il 136 zC dX5_openings_134 3 rfl ?_
                refine v_is (lv2 := [(7, .int (mI F)), (6, .int (nI (x + 1))), (9, .int (nI 1)), (8, .int (nI h)), (5, .int (nI (op jp))), (4, .int (nI (ALL (n, m, sh, 0, ki, op, fa, K, G, T)))), (3, .int (nI 0)), (0, .ref r0), (1, .int (nI jp)), (2, .int (nI jw))]) 138 zC dX5_openings_136 (by rw [hnE]; decide) rfl ?_
                refine v_inc (v := (nI (h + 1))) (lv2 := [(8, .int (nI (h + 1))), (7, .int (mI F)), (6, .int (nI (x + 1))), (9, .int (nI 1)), (5, .int (nI (op jp))), (4, .int (nI (ALL (n, m, sh, 0, ki, op, fa, K, G, T)))), (3, .int (nI 0)), (0, .ref r0), (1, .int (nI jp)), (2, .int (nI jw))]) 141 zC dX5_openings_138 (j := 3) rfl (nI_add _ 1) (by rw [hnE]; decide) rfl ?_
                refine v_goto 58 zC dX5_openings_141 ?_
                refine v_lvs (lv2 := [(8, .int (nI (h + 1))), (7, .int (mI F)), (6, .int (nI (x + 1))), (5, .int (nI (op jp))), (4, .int (nI (ALL (n, m, sh, 0, ki, op, fa, K, G, T)))), (3, .int (nI 0)), (0, .ref r0), (1, .int (nI jp)), (2, .int (nI jw))]) [0, 1, 2, 4, 5, 6, 7, 8, 9] rfl ?_
                exact ih58 _ (by omega) kw1_53 kn1_54 M1_55 mw1_56 (un op jp ((op jp) ||| (2 ^ h))) (x + 1) F (h + 1) (by first | exact hR9.2.2.2.1 | exact hkw2) (by first | exact hR9.2.2.2.2.1 | exact hkn2) (by first | exact hR9.2.2.2.2.2 | exact hM2) (by first | exact hO | exact fun _ => un_un) (it_s hs (by first | exact ops_1 (by assumption) (by assumption) (by assumption) | exact ops_2 (by assumption) (by assumption) (by assumption) | exact ops_3 (by assumption) | exact ops_4 (by assumption))) (fun v e => by first | exact hFl v e | (cases e; omega)) (by first | omega | assumption | rfl | (simp only []; omega) | decide) (by first | omega | assumption | rfl | (simp only []; omega) | decide) rfl
              ·
                refine v_il 131 zC dX5_openings_129 2 rfl ?_
                refine v_goto 136 zC dX5_openings_131 ?_
                refine v_is (lv2 := [(7, .int (nI h)), (6, .int (nI (x + 1))), (9, .int (nI 1)), (8, .int (nI h)), (5, .int (nI (op jp))), (4, .int (nI (ALL (n, m, sh, 0, ki, op, fa, K, G, T)))), (3, .int (nI 0)), (0, .ref r0), (1, .int (nI jp)), (2, .int (nI jw))]) 138 zC dX5_openings_136 (by rw [hnE]; decide) rfl ?_
                refine v_inc (v := (nI (h + 1))) (lv2 := [(8, .int (nI (h + 1))), (7, .int (nI h)), (6, .int (nI (x + 1))), (9, .int (nI 1)), (5, .int (nI (op jp))), (4, .int (nI (ALL (n, m, sh, 0, ki, op, fa, K, G, T)))), (3, .int (nI 0)), (0, .ref r0), (1, .int (nI jp)), (2, .int (nI jw))]) 141 zC dX5_openings_138 (j := 3) rfl (nI_add _ 1) (by rw [hnE]; decide) rfl ?_
                refine v_goto 58 zC dX5_openings_141 ?_
                refine v_lvs (lv2 := [(8, .int (nI (h + 1))), (7, .int (mI (some h))), (6, .int (nI (x + 1))), (5, .int (nI (op jp))), (4, .int (nI (ALL (n, m, sh, 0, ki, op, fa, K, G, T)))), (3, .int (nI 0)), (0, .ref r0), (1, .int (nI jp)), (2, .int (nI jw))]) [0, 1, 2, 4, 5, 6, 7, 8, 9] rfl ?_
                exact ih58 _ (by omega) kw1_53 kn1_54 M1_55 mw1_56 (un op jp ((op jp) ||| (2 ^ h))) (x + 1) (some h) (h + 1) (by first | exact hR9.2.2.2.1 | exact hkw2) (by first | exact hR9.2.2.2.2.1 | exact hkn2) (by first | exact hR9.2.2.2.2.2 | exact hM2) (by first | exact hO | exact fun _ => un_un) (it_s hs (by first | exact ops_1 (by assumption) (by assumption) (by assumption) | exact ops_2 (by assumption) (by assumption) (by assumption) | exact ops_3 (by assumption) | exact ops_4 (by assumption))) (fun v e => by first | exact hFl v e | (cases e; omega)) (by first | omega | assumption | rfl | (simp only []; omega) | decide) (by first | omega | assumption | rfl | (simp only []; omega) | decide) rfl
      refine v_lvs (lv2 := [(8, .int (nI 0)), (7, .int (mI none)), (6, .int (nI 0)), (5, .int (nI (op jp))), (4, .int (nI (ALL (n, m, sh, 0, ki, op, fa, K, G, T)))), (3, .int (nI 0)), (0, .ref r0), (1, .int (nI jp)), (2, .int (nI jw))]) [0, 1, 2, 3, 4, 5, 6, 7, 8] rfl ?_
      exact lp58 _ kw1_36 kn1_37 M1_38 mw1_39 op 0 none 0 (by first | exact hR9.2.2.2.1 | exact hkw) (by first | exact hR9.2.2.2.2.1 | exact hkn) (by first | exact hR9.2.2.2.2.2 | exact hM) (fun _ => rfl) rfl (fun v e => by cases e) (by first | omega | assumption | rfl | (simp only []; omega) | decide) (by first | omega | assumption | rfl | (simp only []; omega) | decide) rfl
set_option maxRecDepth 100000 in
set_option maxHeartbeats 4000000 in
theorem c_X5_seat (l : Launch) (D : va_G) (cI : ClassId) (r0 k1 k2 k3 k4 k6 k7 k8 k10 k12 k13 k14 k15 k16 k21 k22 k23 k24 k25 k30 k31 k33 : Nat) (n m ls ap sq pl tz rs : Nat) (bd pd tk : Bool) (kv : Value) (sd : Int32) (ki op fa K G T : Nat → Nat) (sh : Nat) (kw kn : Nat → Nat) (M : Nat → Option Nat) (mw : Nat → Nat) (hw : FW n m sh ki op fa K G T) (hkw : ∀ z, kw z < 1024) (hkn : ∀ z, kn z < 1024) (hM : ∀ z v, M z = some v → v < 7) : CT l yX5_seat cX5_seat 6 (some .int) { frames := 7, cells := 0, slots := 0, locals := 158 } D cI [.ref r0] [(r0, .inr (5, [.int (nI n), .ref k1, .ref k2, .ref k3, .ref k4, .int (nI m), .ref k6, .ref k7, .ref k8, .int (nI 0), .ref k10, .int (nI 0), .ref k12, .ref k13, .ref k14, .ref k15, .ref k16, .int (nI ls), .int (nI ap), .int (bz bd), .int (nI sq), .ref k21, .ref k22, .ref k23, .ref k24, .ref k25, .int (bz pd), .int (nI pl), .int (bz tk), kv, .ref k30, .ref k31, .int (nI tz), .ref k33, .int (nI rs), .int sd])), (k1, .inl (cI, 7, .inl (nIf ki))), (k2, .inl (cI, 7, .inl (nIf op))), (k3, .inl (cI, 7, .inl (nIf (shF sh)))), (k4, .inl (cI, 7, .inl (nIf fa))), (k6, .inl (cI, 6, .inl (nIf K))), (k7, .inl (cI, 6, .inl (nIf G))), (k8, .inl (cI, 6, .inl (nIf T))), (k12, .inl (cI, 7, .inl (nIf kw))), (k13, .inl (cI, 175, .inl (nIf kn))), (k14, .inl (cI, 144, .inl (mIf M))), (k15, .inl (cI, 7, .inl (nIf mw)))] (fun zr zw => (∃ kw1 : Nat → Nat, ∃ kn1 : Nat → Nat, ∃ M1 : Nat → Option Nat, ∃ mw1 : Nat → Nat, (∀ z, kw1 z < 1024) ∧ (∀ z, kn1 z < 1024) ∧ (∀ z v, M1 z = some v → v < 7) ∧ zr = some (.int (mI ((SEAT (n, m, sh, 0, ki, op, fa, K, G, T)).2))) ∧ zw = [(r0, .inr (5, [.int (nI n), .ref k1, .ref k2, .ref k3, .ref k4, .int (nI m), .ref k6, .ref k7, .ref k8, .int (nI 0), .ref k10, .int (nI 0), .ref k12, .ref k13, .ref k14, .ref k15, .ref k16, .int (nI ls), .int (nI ap), .int (bz bd), .int (nI sq), .ref k21, .ref k22, .ref k23, .ref k24, .ref k25, .int (bz pd), .int (nI pl), .int (bz tk), kv, .ref k30, .ref k31, .int (nI tz), .ref k33, .int (nI rs), .int sd])), (k1, .inl (cI, 7, .inl (nIf ki))), (k2, .inl (cI, 7, .inl (nIf op))), (k3, .inl (cI, 7, .inl (nIf (shF sh)))), (k4, .inl (cI, 7, .inl (nIf fa))), (k6, .inl (cI, 6, .inl (nIf K))), (k7, .inl (cI, 6, .inl (nIf G))), (k8, .inl (cI, 6, .inl (nIf T))), (k12, .inl (cI, 7, .inl (nIf kw1))), (k13, .inl (cI, 175, .inl (nIf kn1))), (k14, .inl (cI, 144, .inl (mIf M1))), (k15, .inl (cI, 7, .inl (nIf mw1)))])) := by
  refine CT_of RX5 rfl (by decide +kernel) (Nat.le_of_ble_eq_true rfl) (fun E hnE zC zT => ?_)
  have hA : ∀ q, (ev_s E).heap.size ≤ q → ev_A E q := fun q h => by rw [zT.2]; exact Or.inr h
  obtain ⟨hn, hm, hsh, hki, hop, hfa, hK, hG, hT, vki, vop, vfa, vK, vG, vT⟩ := id hw
  have h2n : 2 ^ n ≤ 2 ^ 7 := Nat.pow_le_pow_right (by decide) hn
  show VV E 0 0 0 [(0, .ref r0)] [] [(r0, .inr (5, [.int (nI n), .ref k1, .ref k2, .ref k3, .ref k4, .int (nI m), .ref k6, .ref k7, .ref k8, .int (nI 0), .ref k10, .int (nI 0), .ref k12, .ref k13, .ref k14, .ref k15, .ref k16, .int (nI ls), .int (nI ap), .int (bz bd), .int (nI sq), .ref k21, .ref k22, .ref k23, .ref k24, .ref k25, .int (bz pd), .int (nI pl), .int (bz tk), kv, .ref k30, .ref k31, .int (nI tz), .ref k33, .int (nI rs), .int sd])), (k1, .inl (cI, 7, .inl (nIf ki))), (k2, .inl (cI, 7, .inl (nIf op))), (k3, .inl (cI, 7, .inl (nIf (shF sh)))), (k4, .inl (cI, 7, .inl (nIf fa))), (k6, .inl (cI, 6, .inl (nIf K))), (k7, .inl (cI, 6, .inl (nIf G))), (k8, .inl (cI, 6, .inl (nIf T))), (k12, .inl (cI, 7, .inl (nIf kw))), (k13, .inl (cI, 175, .inl (nIf kn))), (k14, .inl (cI, 144, .inl (mIf M))), (k15, .inl (cI, 7, .inl (nIf mw)))]
  refine v_al_n 1 zC dX5_seat_0 0 rfl ?_
  refine v_ic (v := (nI 0)) 2 zC dX5_seat_1 (by decide +kernel) ?_
  refine v_pf (ws2 := [(r0, .inr (5, [.int (nI n), .ref k1, .ref k2, .ref k3, .ref k4, .int (nI m), .ref k6, .ref k7, .ref k8, .int (nI 0), .ref k10, .int (nI 0), .ref k12, .ref k13, .ref k14, .ref k15, .ref k16, .int (nI ls), .int (nI ap), .int (bz bd), .int (nI sq), .ref k21, .ref k22, .ref k23, .ref k24, .ref k25, .int (bz pd), .int (nI pl), .int (bz tk), kv, .ref k30, .ref k31, .int (nI tz), .ref k33, .int (nI rs), .int sd])), (k1, .inl (cI, 7, .inl (nIf ki))), (k2, .inl (cI, 7, .inl (nIf op))), (k3, .inl (cI, 7, .inl (nIf (shF sh)))), (k4, .inl (cI, 7, .inl (nIf fa))), (k6, .inl (cI, 6, .inl (nIf K))), (k7, .inl (cI, 6, .inl (nIf G))), (k8, .inl (cI, 6, .inl (nIf T))), (k12, .inl (cI, 7, .inl (nIf kw))), (k13, .inl (cI, 175, .inl (nIf kn))), (k14, .inl (cI, 144, .inl (mIf M))), (k15, .inl (cI, 7, .inl (nIf mw)))]) 5 0 zC dX5_seat_2 pf_X5_73 rfl (Nat.le_of_ble_eq_true rfl) rfl rfl rfl ?_
  refine v_al_n 6 zC dX5_seat_5 0 rfl ?_
  refine v_cV (As := []) (st := []) 9 0 [0, 1, 2, 3, 4, 5, 6, 7, 8, 9, 10, 11] zC dX5_seat_6 hA (c_X5_allNow (ev_l E) (ev_D E) cI (r0 := r0) (k1 := k1) (k2 := k2) (k3 := k3) (k4 := k4) (k6 := k6) (k7 := k7) (k8 := k8) (k10 := k10) (k12 := k12) (k13 := k13) (k14 := k14) (k15 := k15) (k16 := k16) (k21 := k21) (k22 := k22) (k23 := k23) (k24 := k24) (k25 := k25) (k30 := k30) (k31 := k31) (k33 := k33) (n := n) (m := m) (aw := 0) (ls := ls) (ap := ap) (sq := sq) (pl := pl) (tz := tz) (rs := rs) (bd := bd) (pd := pd) (tk := tk) (kv := kv) (sd := sd) (ki := ki) (op := op) (fa := fa) (K := K) (G := G) (T := T) (sh := sh) (kw := kw) (kn := kn) (M := M) (mw := mw) (hw := (by first | omega | assumption | rfl | (simp only []; omega) | decide)) (hkw := (by first | omega | assumption | rfl | (simp only []; omega) | decide)) (hkn := (by first | omega | assumption | rfl | (simp only []; omega) | decide)) (hM := (by first | omega | assumption | rfl | (simp only []; omega) | decide))) cf_X5_allNow lk_X5_245 rfl rfl rfl rfl rfl (by decide +kernel) (Nat.le_of_ble_eq_true rfl) (fun rv_1 wv_2 hp_3 hm_4 => ?_)
  clear hm_4
  obtain ⟨kw1_5, kn1_6, M1_7, mw1_8, hR_9, hl_10, rfl, rfl⟩ := hp_3
  show VV E 0 0 9 [(0, .ref r0)] [.int (nI (ALL (n, m, sh, 0, ki, op, fa, K, G, T)))] [(r0, .inr (5, [.int (nI n), .ref k1, .ref k2, .ref k3, .ref k4, .int (nI m), .ref k6, .ref k7, .ref k8, .int (nI 0), .ref k10, .int (nI 0), .ref k12, .ref k13, .ref k14, .ref k15, .ref k16, .int (nI ls), .int (nI ap), .int (bz bd), .int (nI sq), .ref k21, .ref k22, .ref k23, .ref k24, .ref k25, .int (bz pd), .int (nI pl), .int (bz tk), kv, .ref k30, .ref k31, .int (nI tz), .ref k33, .int (nI rs), .int sd])), (k1, .inl (cI, 7, .inl (nIf ki))), (k2, .inl (cI, 7, .inl (nIf op))), (k3, .inl (cI, 7, .inl (nIf (shF sh)))), (k4, .inl (cI, 7, .inl (nIf fa))), (k6, .inl (cI, 6, .inl (nIf K))), (k7, .inl (cI, 6, .inl (nIf G))), (k8, .inl (cI, 6, .inl (nIf T))), (k12, .inl (cI, 7, .inl (nIf kw1_5))), (k13, .inl (cI, 175, .inl (nIf kn1_6))), (k14, .inl (cI, 144, .inl (mIf M1_7))), (k15, .inl (cI, 7, .inl (nIf mw1_8)))]
  have hR9 := hR_9
  have hl0 := hl_10
  refine v_is_n (lv2 := [(1, .int (nI (ALL (n, m, sh, 0, ki, op, fa, K, G, T)))), (0, .ref r0)]) 10 zC dX5_seat_9 (by rw [hnE]; decide) rfl ?_
  refine v_bp (v := (-9)) 12 zC dX5_seat_10 (by decide +kernel) ?_
  refine v_is_n (lv2 := [(2, .int (-9)), (1, .int (nI (ALL (n, m, sh, 0, ki, op, fa, K, G, T)))), (0, .ref r0)]) 13 zC dX5_seat_12 (by rw [hnE]; decide) rfl ?_
  refine v_ic (v := (nI 0)) 14 zC dX5_seat_13 (by decide +kernel) ?_
  refine v_is_n (lv2 := [(3, .int (nI 0)), (2, .int (-9)), (1, .int (nI (ALL (n, m, sh, 0, ki, op, fa, K, G, T)))), (0, .ref r0)]) 15 zC dX5_seat_14 (by rw [hnE]; decide) rfl ?_
  have lp15 : ∀ (mz : Nat) (kw2 : Nat → Nat) (kn2 : Nat → Nat) (M2 : Nat → Option Nat) (mw2 : Nat → Nat) (x : Nat) (B : Option Nat) (a : Nat), (∀ z, kw2 z < 1024) → (∀ z, kn2 z < 1024) → (∀ z v, M2 z = some v → v < 7) → ((x, B) = it (fun a x => it (seaS (n, m, sh, 0, ki, op, fa, K, G, T) a) x (g_n (n, m, sh, 0, ki, op, fa, K, G, T) - (a + 1))) (ALL (n, m, sh, 0, ki, op, fa, K, G, T), none) a) → (a ≤ n) → (x ≤ 70) → n - a = mz → VV E 0 0 15 [(3, .int (nI a)), (2, .int (mI B)), (1, .int (nI x)), (0, .ref r0)] [] [(r0, .inr (5, [.int (nI n), .ref k1, .ref k2, .ref k3, .ref k4, .int (nI m), .ref k6, .ref k7, .ref k8, .int (nI 0), .ref k10, .int (nI 0), .ref k12, .ref k13, .ref k14, .ref k15, .ref k16, .int (nI ls), .int (nI ap), .int (bz bd), .int (nI sq), .ref k21, .ref k22, .ref k23, .ref k24, .ref k25, .int (bz pd), .int (nI pl), .int (bz tk), kv, .ref k30, .ref k31, .int (nI tz), .ref k33, .int (nI rs), .int sd])), (k1, .inl (cI, 7, .inl (nIf ki))), (k2, .inl (cI, 7, .inl (nIf op))), (k3, .inl (cI, 7, .inl (nIf (shF sh)))), (k4, .inl (cI, 7, .inl (nIf fa))), (k6, .inl (cI, 6, .inl (nIf K))), (k7, .inl (cI, 6, .inl (nIf G))), (k8, .inl (cI, 6, .inl (nIf T))), (k12, .inl (cI, 7, .inl (nIf kw2))), (k13, .inl (cI, 175, .inl (nIf kn2))), (k14, .inl (cI, 144, .inl (mIf M2))), (k15, .inl (cI, 7, .inl (nIf mw2)))] := by
    intro mz
    induction mz using Nat.strongRecOn with
    | _ mz ih15 =>
    intro kw2 kn2 M2 mw2 x B a hkw2 hkn2 hM2 hs ha hx hm15
    refine v_il_n 16 zC dX5_seat_15 0 rfl ?_
    refine v_al_n 17 zC dX5_seat_16 3 rfl ?_
    refine v_gf 20 0 zC dX5_seat_17 gf_X5_77 rfl rfl ?_
    refine v_icmpn_ge 100 23 zC dX5_seat_20 (fun h_11 => ?_) (fun h_11 => ?_)
    ·
      refine v_il_n 101 zC dX5_seat_100 1 rfl ?_
      refine v_iret zC zT dX5_seat_101  ?_
      exact ⟨_, _, _, _, hkw2, hkn2, hM2, by have e9 : n = a := (by omega); subst e9; exact congrArg (fun z => some (Value.int (mI z.2))) hs, rfl⟩
    ·
      refine v_il_n 24 zC dX5_seat_23 0 rfl ?_
      refine v_ic (v := (nI 1)) 25 zC dX5_seat_24 (by decide +kernel) ?_
      refine v_iadd (v := (nI (a + 1))) 26 zC dX5_seat_25 (nI_add _ _) ?_
      refine v_is (lv2 := [(4, .int (nI (a + 1))), (3, .int (nI a)), (2, .int (mI B)), (1, .int (nI x)), (0, .ref r0)]) 28 zC dX5_seat_26 (by rw [hnE]; decide) rfl ?_
      have lp28 : ∀ (mz : Nat) (kw3 : Nat → Nat) (kn3 : Nat → Nat) (M3 : Nat → Option Nat) (mw3 : Nat → Nat) (x2 : Nat) (B2 : Option Nat) (b : Nat), (∀ z, kw3 z < 1024) → (∀ z, kn3 z < 1024) → (∀ z v, M3 z = some v → v < 7) → ((x2, B2) = it (seaS (n, m, sh, 0, ki, op, fa, K, G, T) a) (x, B) (b - (a + 1))) → (a + 1 ≤ b) → (b ≤ n) → (x2 ≤ 70) → n - b = mz → VV E 0 0 28 [(4, .int (nI b)), (3, .int (nI a)), (2, .int (mI B2)), (1, .int (nI x2)), (0, .ref r0)] [] [(r0, .inr (5, [.int (nI n), .ref k1, .ref k2, .ref k3, .ref k4, .int (nI m), .ref k6, .ref k7, .ref k8, .int (nI 0), .ref k10, .int (nI 0), .ref k12, .ref k13, .ref k14, .ref k15, .ref k16, .int (nI ls), .int (nI ap), .int (bz bd), .int (nI sq), .ref k21, .ref k22, .ref k23, .ref k24, .ref k25, .int (bz pd), .int (nI pl), .int (bz tk), kv, .ref k30, .ref k31, .int (nI tz), .ref k33, .int (nI rs), .int sd])), (k1, .inl (cI, 7, .inl (nIf ki))), (k2, .inl (cI, 7, .inl (nIf op))), (k3, .inl (cI, 7, .inl (nIf (shF sh)))), (k4, .inl (cI, 7, .inl (nIf fa))), (k6, .inl (cI, 6, .inl (nIf K))), (k7, .inl (cI, 6, .inl (nIf G))), (k8, .inl (cI, 6, .inl (nIf T))), (k12, .inl (cI, 7, .inl (nIf kw3))), (k13, .inl (cI, 175, .inl (nIf kn3))), (k14, .inl (cI, 144, .inl (mIf M3))), (k15, .inl (cI, 7, .inl (nIf mw3)))] := by
        intro mz
        induction mz using Nat.strongRecOn with
        | _ mz ih28 =>
        intro kw3 kn3 M3 mw3 x2 B2 b hkw3 hkn3 hM3 hs2 hb1 hbm hx2 hm28
        refine v_il 30 zC dX5_seat_28 0 rfl ?_
        refine v_al_n 31 zC dX5_seat_30 4 rfl ?_
        refine v_gf 34 0 zC dX5_seat_31 gf_X5_77 rfl rfl ?_
        refine v_icmpn_ge 94 37 zC dX5_seat_34 (fun h_12 => ?_) (fun h_12 => ?_)
        ·
          refine v_inc (v := (nI (a + 1))) (lv2 := [(3, .int (nI (a + 1))), (4, .int (nI b)), (2, .int (mI B2)), (1, .int (nI x2)), (0, .ref r0)]) 97 zC dX5_seat_94 (j := 1) rfl (nI_add _ 1) (by rw [hnE]; decide) rfl ?_
          refine v_goto 15 zC dX5_seat_97 ?_
          refine v_lvs (lv2 := [(3, .int (nI (a + 1))), (2, .int (mI B2)), (1, .int (nI x2)), (0, .ref r0)]) [0, 2, 3, 4] rfl ?_
          exact ih15 _ (by omega) kw3 kn3 M3 mw3 x2 B2 (a + 1) hkw3 hkn3 hM3 (it_s hs (by show it (seaS (n, m, sh, 0, ki, op, fa, K, G, T) a) (x, B) (g_n (n, m, sh, 0, ki, op, fa, K, G, T) - (a + 1)) = _; rw [show g_n (n, m, sh, 0, ki, op, fa, K, G, T) = b from (by show n = b; omega)]; exact hs2.symm)) (by first | omega | assumption | rfl | (simp only []; omega) | decide) (by first | omega | assumption | rfl | (simp only []; omega) | decide) rfl
        ·
          refine v_al_n 38 zC dX5_seat_37 4 rfl ?_
          refine v_il_n 39 zC dX5_seat_38 1 rfl ?_
          refine v_il 41 zC dX5_seat_39 0 rfl ?_
          refine v_cV (As := [.int (nI a), .int (nI b)]) (st := []) 44 0 [0, 1, 2, 3, 4] zC dX5_seat_41 hA (c_X5_change (ev_l E) (ev_D E) cI (r0 := r0) (k1 := k1) (k2 := k2) (k3 := k3) (k4 := k4) (k6 := k6) (k7 := k7) (k8 := k8) (k10 := k10) (k12 := k12) (k13 := k13) (k14 := k14) (k15 := k15) (k16 := k16) (k21 := k21) (k22 := k22) (k23 := k23) (k24 := k24) (k25 := k25) (k30 := k30) (k31 := k31) (k33 := k33) (n := n) (m := m) (aw := 0) (ls := ls) (ap := ap) (sq := sq) (pl := pl) (tz := tz) (rs := rs) (bd := bd) (pd := pd) (tk := tk) (kv := kv) (sd := sd) (ki := ki) (op := op) (fa := fa) (sh := sh) (a := a) (b := b) (ha := (by first | omega | assumption | rfl | (simp only []; omega) | decide)) (hb := (by first | omega | assumption | rfl | (simp only []; omega) | decide))) cf_X5_change lk_X5_264 rfl rfl rfl rfl rfl (by decide +kernel) (Nat.le_of_ble_eq_true rfl) (fun rv_13 wv_14 hp_15 hm_16 => ?_)
          clear hm_16
          obtain ⟨rfl, rfl⟩ := hp_15
          show VV E 0 0 44 [(4, .int (nI b)), (3, .int (nI a)), (2, .int (mI B2)), (1, .int (nI x2)), (0, .ref r0)] [] [(r0, .inr (5, [.int (nI n), .ref k1, .ref k2, .ref k3, .ref k4, .int (nI m), .ref k6, .ref k7, .ref k8, .int (nI 0), .ref k10, .int (nI 0), .ref k12, .ref k13, .ref k14, .ref k15, .ref k16, .int (nI ls), .int (nI ap), .int (bz bd), .int (nI sq), .ref k21, .ref k22, .ref k23, .ref k24, .ref k25, .int (bz pd), .int (nI pl), .int (bz tk), kv, .ref k30, .ref k31, .int (nI tz), .ref k33, .int (nI rs), .int sd])), (k1, .inl (cI, 7, .inl (nIf (sw ki a b)))), (k2, .inl (cI, 7, .inl (nIf (sw op a b)))), (k3, .inl (cI, 7, .inl (nIf (shF (if Nat.testBit sh a = Nat.testBit sh b then sh else sh ^^^ (2 ^ a ||| 2 ^ b)))))), (k4, .inl (cI, 7, .inl (nIf (sw fa a b)))), (k6, .inl (cI, 6, .inl (nIf K))), (k7, .inl (cI, 6, .inl (nIf G))), (k8, .inl (cI, 6, .inl (nIf T))), (k12, .inl (cI, 7, .inl (nIf kw3))), (k13, .inl (cI, 175, .inl (nIf kn3))), (k14, .inl (cI, 144, .inl (mIf M3))), (k15, .inl (cI, 7, .inl (nIf mw3)))]
          refine v_al_n 45 zC dX5_seat_44 4 rfl ?_
          refine v_cV (As := []) (st := []) 48 0 [0, 1, 2, 3, 4, 5, 6, 7, 8, 9, 10, 11] zC dX5_seat_45 hA (c_X5_allNow (ev_l E) (ev_D E) cI (r0 := r0) (k1 := k1) (k2 := k2) (k3 := k3) (k4 := k4) (k6 := k6) (k7 := k7) (k8 := k8) (k10 := k10) (k12 := k12) (k13 := k13) (k14 := k14) (k15 := k15) (k16 := k16) (k21 := k21) (k22 := k22) (k23 := k23) (k24 := k24) (k25 := k25) (k30 := k30) (k31 := k31) (k33 := k33) (n := n) (m := m) (aw := 0) (ls := ls) (ap := ap) (sq := sq) (pl := pl) (tz := tz) (rs := rs) (bd := bd) (pd := pd) (tk := tk) (kv := kv) (sd := sd) (ki := (sw ki a b)) (op := (sw op a b)) (fa := (sw fa a b)) (K := K) (G := G) (T := T) (sh := (if Nat.testBit sh a = Nat.testBit sh b then sh else sh ^^^ (2 ^ a ||| 2 ^ b))) (kw := kw3) (kn := kn3) (M := M3) (mw := mw3) (hw := ⟨hn, hm, sw_h hsh (by omega) (by omega), sw_b hki, sw_b hop, sw_b hfa, hK, hG, hT, sw_v vki (by omega) (by omega), sw_v vop (by omega) (by omega), sw_v vfa (by omega) (by omega), vK, vG, vT⟩) (hkw := hkw3) (hkn := hkn3) (hM := hM3)) cf_X5_allNow lk_X5_245 rfl rfl rfl rfl rfl (by decide +kernel) (Nat.le_of_ble_eq_true rfl) (fun rv_17 wv_18 hp_19 hm_20 => ?_)
          clear hm_20
          obtain ⟨kw1_21, kn1_22, M1_23, mw1_24, hR_25, hl_26, rfl, rfl⟩ := hp_19
          show VV E 0 0 48 [(4, .int (nI b)), (3, .int (nI a)), (2, .int (mI B2)), (1, .int (nI x2)), (0, .ref r0)] [.int (nI (ALL (n, m, (if Nat.testBit sh a = Nat.testBit sh b then sh else sh ^^^ (2 ^ a ||| 2 ^ b)), 0, (sw ki a b), (sw op a b), (sw fa a b), K, G, T)))] [(r0, .inr (5, [.int (nI n), .ref k1, .ref k2, .ref k3, .ref k4, .int (nI m), .ref k6, .ref k7, .ref k8, .int (nI 0), .ref k10, .int (nI 0), .ref k12, .ref k13, .ref k14, .ref k15, .ref k16, .int (nI ls), .int (nI ap), .int (bz bd), .int (nI sq), .ref k21, .ref k22, .ref k23, .ref k24, .ref k25, .int (bz pd), .int (nI pl), .int (bz tk), kv, .ref k30, .ref k31, .int (nI tz), .ref k33, .int (nI rs), .int sd])), (k1, .inl (cI, 7, .inl (nIf (sw ki a b)))), (k2, .inl (cI, 7, .inl (nIf (sw op a b)))), (k3, .inl (cI, 7, .inl (nIf (shF (if Nat.testBit sh a = Nat.testBit sh b then sh else sh ^^^ (2 ^ a ||| 2 ^ b)))))), (k4, .inl (cI, 7, .inl (nIf (sw fa a b)))), (k6, .inl (cI, 6, .inl (nIf K))), (k7, .inl (cI, 6, .inl (nIf G))), (k8, .inl (cI, 6, .inl (nIf T))), (k12, .inl (cI, 7, .inl (nIf kw1_21))), (k13, .inl (cI, 175, .inl (nIf kn1_22))), (k14, .inl (cI, 144, .inl (mIf M1_23))), (k15, .inl (cI, 7, .inl (nIf mw1_24)))]
          have hR9 := hR_25
          have hl9 := hl_26
          refine v_is (lv2 := [(5, .int (nI (ALL (n, m, (if Nat.testBit sh a = Nat.testBit sh b then sh else sh ^^^ (2 ^ a ||| 2 ^ b)), 0, (sw ki a b), (sw op a b), (sw fa a b), K, G, T)))), (4, .int (nI b)), (3, .int (nI a)), (2, .int (mI B2)), (1, .int (nI x2)), (0, .ref r0)]) 50 zC dX5_seat_48 (by rw [hnE]; decide) rfl ?_
          refine v_al_n 51 zC dX5_seat_50 5 rfl ?_
          refine v_il_n 52 zC dX5_seat_51 2 rfl ?_
          refine v_il 54 zC dX5_seat_52 1 rfl ?_
          refine v_cV (As := [.int (nI a), .int (nI b)]) (st := []) 57 0 [0, 1, 2, 3, 4] zC dX5_seat_54 hA (c_X5_change (ev_l E) (ev_D E) cI (r0 := r0) (k1 := k1) (k2 := k2) (k3 := k3) (k4 := k4) (k6 := k6) (k7 := k7) (k8 := k8) (k10 := k10) (k12 := k12) (k13 := k13) (k14 := k14) (k15 := k15) (k16 := k16) (k21 := k21) (k22 := k22) (k23 := k23) (k24 := k24) (k25 := k25) (k30 := k30) (k31 := k31) (k33 := k33) (n := n) (m := m) (aw := 0) (ls := ls) (ap := ap) (sq := sq) (pl := pl) (tz := tz) (rs := rs) (bd := bd) (pd := pd) (tk := tk) (kv := kv) (sd := sd) (ki := (sw ki a b)) (op := (sw op a b)) (fa := (sw fa a b)) (sh := (if Nat.testBit sh a = Nat.testBit sh b then sh else sh ^^^ (2 ^ a ||| 2 ^ b))) (a := a) (b := b) (ha := (by first | omega | assumption | rfl | (simp only []; omega) | decide)) (hb := (by first | omega | assumption | rfl | (simp only []; omega) | decide))) cf_X5_change lk_X5_264 rfl rfl rfl rfl rfl (by decide +kernel) (Nat.le_of_ble_eq_true rfl) (fun rv_27 wv_28 hp_29 hm_30 => ?_)
          clear hm_30
          obtain ⟨rfl, rfl⟩ := hp_29
          show VV E 0 0 57 [(5, .int (nI (ALL (n, m, (if Nat.testBit sh a = Nat.testBit sh b then sh else sh ^^^ (2 ^ a ||| 2 ^ b)), 0, (sw ki a b), (sw op a b), (sw fa a b), K, G, T)))), (4, .int (nI b)), (3, .int (nI a)), (2, .int (mI B2)), (1, .int (nI x2)), (0, .ref r0)] [] [(r0, .inr (5, [.int (nI n), .ref k1, .ref k2, .ref k3, .ref k4, .int (nI m), .ref k6, .ref k7, .ref k8, .int (nI 0), .ref k10, .int (nI 0), .ref k12, .ref k13, .ref k14, .ref k15, .ref k16, .int (nI ls), .int (nI ap), .int (bz bd), .int (nI sq), .ref k21, .ref k22, .ref k23, .ref k24, .ref k25, .int (bz pd), .int (nI pl), .int (bz tk), kv, .ref k30, .ref k31, .int (nI tz), .ref k33, .int (nI rs), .int sd])), (k1, .inl (cI, 7, .inl (nIf (sw (sw ki a b) a b)))), (k2, .inl (cI, 7, .inl (nIf (sw (sw op a b) a b)))), (k3, .inl (cI, 7, .inl (nIf (shF (if Nat.testBit (if Nat.testBit sh a = Nat.testBit sh b then sh else sh ^^^ (2 ^ a ||| 2 ^ b)) a = Nat.testBit (if Nat.testBit sh a = Nat.testBit sh b then sh else sh ^^^ (2 ^ a ||| 2 ^ b)) b then (if Nat.testBit sh a = Nat.testBit sh b then sh else sh ^^^ (2 ^ a ||| 2 ^ b)) else (if Nat.testBit sh a = Nat.testBit sh b then sh else sh ^^^ (2 ^ a ||| 2 ^ b)) ^^^ (2 ^ a ||| 2 ^ b)))))), (k4, .inl (cI, 7, .inl (nIf (sw (sw fa a b) a b)))), (k6, .inl (cI, 6, .inl (nIf K))), (k7, .inl (cI, 6, .inl (nIf G))), (k8, .inl (cI, 6, .inl (nIf T))), (k12, .inl (cI, 7, .inl (nIf kw1_21))), (k13, .inl (cI, 175, .inl (nIf kn1_22))), (k14, .inl (cI, 144, .inl (mIf M1_23))), (k15, .inl (cI, 7, .inl (nIf mw1_24)))]
          rw [sw_sw (f := ki), sw_sw (f := op), sw_sw (f := fa), shw_shw]
          refine v_il 59 zC dX5_seat_57 0 rfl ?_
          refine v_il_n 60 zC dX5_seat_59 4 rfl ?_
          refine v_icmpn_le 73 63 zC dX5_seat_60 (fun h_31 => ?_) (fun h_31 => ?_)
          ·
            have hv9 := h_31
            refine v_il_n 74 zC dX5_seat_73 3 rfl ?_
            refine v_is_n (lv2 := [(2, .int (mI B2)), (5, .int (nI (ALL (n, m, (if Nat.testBit sh a = Nat.testBit sh b then sh else sh ^^^ (2 ^ a ||| 2 ^ b)), 0, (sw ki a b), (sw op a b), (sw fa a b), K, G, T)))), (4, .int (nI b)), (3, .int (nI a)), (1, .int (nI x2)), (0, .ref r0)]) 75 zC dX5_seat_74 (by rw [hnE]; decide) rfl ?_
            refine v_il 77 zC dX5_seat_75 1 rfl ?_
            refine v_il_n 78 zC dX5_seat_77 4 rfl ?_
            refine v_icmpn_le 86 81 zC dX5_seat_78 (fun h_32 => ?_) (fun h_32 => False.elim (by first | omega | exact bcon h_32 (by assumption) | exact bcon (by assumption) h_32))
            refine v_il_n 87 zC dX5_seat_86 4 rfl ?_
            refine v_is_n (lv2 := [(1, .int (nI x2)), (2, .int (mI B2)), (5, .int (nI (ALL (n, m, (if Nat.testBit sh a = Nat.testBit sh b then sh else sh ^^^ (2 ^ a ||| 2 ^ b)), 0, (sw ki a b), (sw op a b), (sw fa a b), K, G, T)))), (4, .int (nI b)), (3, .int (nI a)), (0, .ref r0)]) 88 zC dX5_seat_87 (by rw [hnE]; decide) rfl ?_
            refine v_inc (v := (nI (b + 1))) (lv2 := [(4, .int (nI (b + 1))), (1, .int (nI x2)), (2, .int (mI B2)), (5, .int (nI (ALL (n, m, (if Nat.testBit sh a = Nat.testBit sh b then sh else sh ^^^ (2 ^ a ||| 2 ^ b)), 0, (sw ki a b), (sw op a b), (sw fa a b), K, G, T)))), (3, .int (nI a)), (0, .ref r0)]) 91 zC dX5_seat_88 (j := 3) rfl (nI_add _ 1) (by rw [hnE]; decide) rfl ?_
            refine v_goto 28 zC dX5_seat_91 ?_
            refine v_lvs (lv2 := [(4, .int (nI (b + 1))), (3, .int (nI a)), (2, .int (mI B2)), (1, .int (nI x2)), (0, .ref r0)]) [0, 4, 2, 1, 5] rfl ?_
            exact ih28 _ (by omega) kw1_21 kn1_22 M1_23 mw1_24 x2 B2 (b + 1) hR9.2.2.2.1 hR9.2.2.2.2.1 hR9.2.2.2.2.2 (it_r hs2 hb1 (by first | exact sea_1 hb1 hu9 | exact sea_0 hb1 hv9)) (by first | omega | assumption | rfl | (simp only []; omega) | decide) (by first | omega | assumption | rfl | (simp only []; omega) | decide) (by first | omega | assumption | rfl | (simp only []; omega) | decide) rfl
          ·
            have hu9 := h_31
            refine v_bp (v := (nI 10)) 65 zC dX5_seat_63 (by decide +kernel) ?_
            refine v_il_n 66 zC dX5_seat_65 2 rfl ?_
            refine v_imul (v := (nI (10 * a))) 67 zC dX5_seat_66 (pk_mul _ _) ?_
            refine v_il 69 zC dX5_seat_67 1 rfl ?_
            refine v_iadd (v := (nI ((10 * a) + b))) 70 zC dX5_seat_69 (nI_add _ _) ?_
            refine v_goto 74 zC dX5_seat_70 ?_
            refine v_is_n (lv2 := [(2, .int (nI ((10 * a) + b))), (5, .int (nI (ALL (n, m, (if Nat.testBit sh a = Nat.testBit sh b then sh else sh ^^^ (2 ^ a ||| 2 ^ b)), 0, (sw ki a b), (sw op a b), (sw fa a b), K, G, T)))), (4, .int (nI b)), (3, .int (nI a)), (1, .int (nI x2)), (0, .ref r0)]) 75 zC dX5_seat_74 (by rw [hnE]; decide) rfl ?_
            refine v_il 77 zC dX5_seat_75 1 rfl ?_
            refine v_il_n 78 zC dX5_seat_77 4 rfl ?_
            refine v_icmpn_le 86 81 zC dX5_seat_78 (fun h_33 => False.elim (by first | omega | exact bcon h_33 (by assumption) | exact bcon (by assumption) h_33)) (fun h_33 => ?_)
            refine v_il 83 zC dX5_seat_81 1 rfl ?_
            refine v_goto 87 zC dX5_seat_83 ?_
            refine v_is_n (lv2 := [(1, .int (nI (ALL (n, m, (if Nat.testBit sh a = Nat.testBit sh b then sh else sh ^^^ (2 ^ a ||| 2 ^ b)), 0, (sw ki a b), (sw op a b), (sw fa a b), K, G, T)))), (2, .int (nI ((10 * a) + b))), (5, .int (nI (ALL (n, m, (if Nat.testBit sh a = Nat.testBit sh b then sh else sh ^^^ (2 ^ a ||| 2 ^ b)), 0, (sw ki a b), (sw op a b), (sw fa a b), K, G, T)))), (4, .int (nI b)), (3, .int (nI a)), (0, .ref r0)]) 88 zC dX5_seat_87 (by rw [hnE]; decide) rfl ?_
            refine v_inc (v := (nI (b + 1))) (lv2 := [(4, .int (nI (b + 1))), (1, .int (nI (ALL (n, m, (if Nat.testBit sh a = Nat.testBit sh b then sh else sh ^^^ (2 ^ a ||| 2 ^ b)), 0, (sw ki a b), (sw op a b), (sw fa a b), K, G, T)))), (2, .int (nI ((10 * a) + b))), (5, .int (nI (ALL (n, m, (if Nat.testBit sh a = Nat.testBit sh b then sh else sh ^^^ (2 ^ a ||| 2 ^ b)), 0, (sw ki a b), (sw op a b), (sw fa a b), K, G, T)))), (3, .int (nI a)), (0, .ref r0)]) 91 zC dX5_seat_88 (j := 3) rfl (nI_add _ 1) (by rw [hnE]; decide) rfl ?_
            refine v_goto 28 zC dX5_seat_91 ?_
            refine v_lvs (lv2 := [(4, .int (nI (b + 1))), (3, .int (nI a)), (2, .int (mI (some ((10 * a) + b)))), (1, .int (nI (ALL (n, m, (if Nat.testBit sh a = Nat.testBit sh b then sh else sh ^^^ (2 ^ a ||| 2 ^ b)), 0, (sw ki a b), (sw op a b), (sw fa a b), K, G, T)))), (0, .ref r0)]) [0, 4, 2, 1, 5] rfl ?_
            exact ih28 _ (by omega) kw1_21 kn1_22 M1_23 mw1_24 (ALL (n, m, (if Nat.testBit sh a = Nat.testBit sh b then sh else sh ^^^ (2 ^ a ||| 2 ^ b)), 0, (sw ki a b), (sw op a b), (sw fa a b), K, G, T)) (some ((10 * a) + b)) (b + 1) hR9.2.2.2.1 hR9.2.2.2.2.1 hR9.2.2.2.2.2 (it_r hs2 hb1 (by first | exact sea_1 hb1 hu9 | exact sea_0 hb1 hv9)) (by first | omega | assumption | rfl | (simp only []; omega) | decide) (by first | omega | assumption | rfl | (simp only []; omega) | decide) (by first | omega | assumption | rfl | (simp only []; omega) | decide) rfl
      refine v_lvs (lv2 := [(4, .int (nI (a + 1))), (3, .int (nI a)), (2, .int (mI B)), (1, .int (nI x)), (0, .ref r0)]) [0, 1, 2, 3, 4] rfl ?_
      exact lp28 _ kw2 kn2 M2 mw2 x B (a + 1) hkw2 hkn2 hM2 it_z (by first | omega | assumption | rfl | (simp only []; omega) | decide) (by first | omega | assumption | rfl | (simp only []; omega) | decide) (by first | omega | assumption | rfl | (simp only []; omega) | decide) rfl
  refine v_lvs (lv2 := [(3, .int (nI 0)), (2, .int (mI none)), (1, .int (nI (ALL (n, m, sh, 0, ki, op, fa, K, G, T)))), (0, .ref r0)]) [0, 1, 2, 3] rfl ?_
  exact lp15 _ kw1_5 kn1_6 M1_7 mw1_8 (ALL (n, m, sh, 0, ki, op, fa, K, G, T)) none 0 (by first | exact hR9.2.2.2.1 | exact hkw) (by first | exact hR9.2.2.2.2.1 | exact hkn) (by first | exact hR9.2.2.2.2.2 | exact hM) rfl (by first | omega | assumption | rfl | (simp only []; omega) | decide) (by first | omega | assumption | rfl | (simp only []; omega) | decide) rfl
set_option maxRecDepth 100000 in
set_option maxHeartbeats 4000000 in
theorem c_X5_quarrels (l : Launch) (D : va_G) (cI : ClassId) (r0 k1 k2 k3 k4 k6 k7 k8 k10 k12 k13 k14 k15 k16 k21 k22 k23 k24 k25 k30 k31 k33 : Nat) (n m ls ap sq pl tz rs : Nat) (bd pd tk : Bool) (kv : Value) (sd : Int32) (ki op fa K G T : Nat → Nat) (sh : Nat) (kw kn : Nat → Nat) (M : Nat → Option Nat) (mw : Nat → Nat) (R : Nat → Nat) (w : Int32) (hw : FW n m sh ki op fa K G T) (hkw : ∀ z, kw z < 1024) (hkn : ∀ z, kn z < 1024) (hM : ∀ z v, M z = some v → v < 7) : CT l yX5_quarrels cX5_quarrels 5 (some .int) { frames := 7, cells := 0, slots := 0, locals := 162 } D cI [.ref r0, .int w] [(r0, .inr (5, [.int (nI n), .ref k1, .ref k2, .ref k3, .ref k4, .int (nI m), .ref k6, .ref k7, .ref k8, .int (nI 0), .ref k10, .int (nI 0), .ref k12, .ref k13, .ref k14, .ref k15, .ref k16, .int (nI ls), .int (nI ap), .int (bz bd), .int (nI sq), .ref k21, .ref k22, .ref k23, .ref k24, .ref k25, .int (bz pd), .int (nI pl), .int (bz tk), kv, .ref k30, .ref k31, .int (nI tz), .ref k33, .int (nI rs), .int sd])), (k1, .inl (cI, 7, .inl (nIf ki))), (k2, .inl (cI, 7, .inl (nIf op))), (k3, .inl (cI, 7, .inl (nIf (shF sh)))), (k4, .inl (cI, 7, .inl (nIf fa))), (k6, .inl (cI, 6, .inl (nIf K))), (k7, .inl (cI, 6, .inl (nIf G))), (k8, .inl (cI, 6, .inl (nIf T))), (k12, .inl (cI, 7, .inl (nIf kw))), (k13, .inl (cI, 175, .inl (nIf kn))), (k14, .inl (cI, 144, .inl (mIf M))), (k15, .inl (cI, 7, .inl (nIf mw))), (k10, .inl (cI, 7, .inl (nIf R)))] (fun zr zw => (∃ kw1 : Nat → Nat, ∃ kn1 : Nat → Nat, ∃ M1 : Nat → Option Nat, ∃ mw1 : Nat → Nat, ∃ rc : Nat, ∃ rv : Int32, (q_quarrels (n, m, sh, 0, ki, op, fa, K, G, T) w = (rc, rv)) ∧ (∀ z, kw1 z < 1024) ∧ (∀ z, kn1 z < 1024) ∧ (∀ z v, M1 z = some v → v < 7) ∧ zr = some (.int rv) ∧ zw = [(r0, .inr (5, [.int (nI n), .ref k1, .ref k2, .ref k3, .ref k4, .int (nI m), .ref k6, .ref k7, .ref k8, .int (nI 0), .ref k10, .int (nI 0), .ref k12, .ref k13, .ref k14, .ref k15, .ref k16, .int (nI ls), .int (nI ap), .int (bz bd), .int (nI sq), .ref k21, .ref k22, .ref k23, .ref k24, .ref k25, .int (bz pd), .int (nI pl), .int (bz tk), kv, .ref k30, .ref k31, .int (nI tz), .ref k33, .int (nI rs), .int sd])), (k1, .inl (cI, 7, .inl (nIf ki))), (k2, .inl (cI, 7, .inl (nIf op))), (k3, .inl (cI, 7, .inl (nIf (shF sh)))), (k4, .inl (cI, 7, .inl (nIf fa))), (k6, .inl (cI, 6, .inl (nIf K))), (k7, .inl (cI, 6, .inl (nIf G))), (k8, .inl (cI, 6, .inl (nIf T))), (k12, .inl (cI, 7, .inl (nIf kw1))), (k13, .inl (cI, 175, .inl (nIf kn1))), (k14, .inl (cI, 144, .inl (mIf M1))), (k15, .inl (cI, 7, .inl (nIf mw1))), (k10, .inl (cI, 7, .inl (nIf (rf R rc))))])) := by
  refine CT_of RX5 rfl (by decide +kernel) (Nat.le_of_ble_eq_true rfl) (fun E hnE zC zT => ?_)
  have hA : ∀ q, (ev_s E).heap.size ≤ q → ev_A E q := fun q h => by rw [zT.2]; exact Or.inr h
  obtain ⟨hn, hm, hsh, hki, hop, hfa, hK, hG, hT, vki, vop, vfa, vK, vG, vT⟩ := id hw
  have h2n : 2 ^ n ≤ 2 ^ 7 := Nat.pow_le_pow_right (by decide) hn
  have h2m : 2 ^ m ≤ 2 ^ 6 := Nat.pow_le_pow_right (by decide) hm
  show VV E 0 0 0 [(0, .ref r0), (1, .int w)] [] [(r0, .inr (5, [.int (nI n), .ref k1, .ref k2, .ref k3, .ref k4, .int (nI m), .ref k6, .ref k7, .ref k8, .int (nI 0), .ref k10, .int (nI 0), .ref k12, .ref k13, .ref k14, .ref k15, .ref k16, .int (nI ls), .int (nI ap), .int (bz bd), .int (nI sq), .ref k21, .ref k22, .ref k23, .ref k24, .ref k25, .int (bz pd), .int (nI pl), .int (bz tk), kv, .ref k30, .ref k31, .int (nI tz), .ref k33, .int (nI rs), .int sd])), (k1, .inl (cI, 7, .inl (nIf ki))), (k2, .inl (cI, 7, .inl (nIf op))), (k3, .inl (cI, 7, .inl (nIf (shF sh)))), (k4, .inl (cI, 7, .inl (nIf fa))), (k6, .inl (cI, 6, .inl (nIf K))), (k7, .inl (cI, 6, .inl (nIf G))), (k8, .inl (cI, 6, .inl (nIf T))), (k12, .inl (cI, 7, .inl (nIf kw))), (k13, .inl (cI, 175, .inl (nIf kn))), (k14, .inl (cI, 144, .inl (mIf M))), (k15, .inl (cI, 7, .inl (nIf mw))), (k10, .inl (cI, 7, .inl (nIf R)))]
  refine v_al_n 1 zC dX5_quarrels_0 0 rfl ?_
  refine v_ic (v := (nI 0)) 2 zC dX5_quarrels_1 (by decide +kernel) ?_
  refine v_pf (ws2 := [(r0, .inr (5, [.int (nI n), .ref k1, .ref k2, .ref k3, .ref k4, .int (nI m), .ref k6, .ref k7, .ref k8, .int (nI 0), .ref k10, .int (nI 0), .ref k12, .ref k13, .ref k14, .ref k15, .ref k16, .int (nI ls), .int (nI ap), .int (bz bd), .int (nI sq), .ref k21, .ref k22, .ref k23, .ref k24, .ref k25, .int (bz pd), .int (nI pl), .int (bz tk), kv, .ref k30, .ref k31, .int (nI tz), .ref k33, .int (nI rs), .int sd])), (k1, .inl (cI, 7, .inl (nIf ki))), (k2, .inl (cI, 7, .inl (nIf op))), (k3, .inl (cI, 7, .inl (nIf (shF sh)))), (k4, .inl (cI, 7, .inl (nIf fa))), (k6, .inl (cI, 6, .inl (nIf K))), (k7, .inl (cI, 6, .inl (nIf G))), (k8, .inl (cI, 6, .inl (nIf T))), (k12, .inl (cI, 7, .inl (nIf kw))), (k13, .inl (cI, 175, .inl (nIf kn))), (k14, .inl (cI, 144, .inl (mIf M))), (k15, .inl (cI, 7, .inl (nIf mw))), (k10, .inl (cI, 7, .inl (nIf R)))]) 5 0 zC dX5_quarrels_2 pf_X5_73 rfl (Nat.le_of_ble_eq_true rfl) rfl rfl rfl ?_
  refine v_il_n 6 zC dX5_quarrels_5 1 rfl ?_
  refine v_i2l (v := (Int32.toInt64 w)) 7 zC dX5_quarrels_6 rfl ?_
  refine v_lc (v := lN 0) 8 zC dX5_quarrels_7 (by decide +kernel) ?_
  refine v_lc (v := lN 1) 9 zC dX5_quarrels_8 (by decide +kernel) ?_
  refine v_cS (As := [.long (Int32.toInt64 w), .long (lN 0), .long (lN 1)]) (st := []) 12 [] zC dX5_quarrels_9 hA (c_X5_in (ev_l E) (ev_D E) cI (x := (Int32.toInt64 w)) (y := (lN 0)) (z := (lN 1)) ) cf_X5_in lk_X5_80 rfl rfl rfl (by decide +kernel) (Nat.le_of_ble_eq_true rfl) (fun rv_1 wv_2 hp_3 hm_4 => ?_)
  clear hm_4
  obtain ⟨rfl, rfl⟩ := hp_3
  show VV E 0 0 12 [(0, .ref r0), (1, .int w)] [.int (bz (inB (Int32.toInt64 w) (lN 0) (lN 1)))] [(r0, .inr (5, [.int (nI n), .ref k1, .ref k2, .ref k3, .ref k4, .int (nI m), .ref k6, .ref k7, .ref k8, .int (nI 0), .ref k10, .int (nI 0), .ref k12, .ref k13, .ref k14, .ref k15, .ref k16, .int (nI ls), .int (nI ap), .int (bz bd), .int (nI sq), .ref k21, .ref k22, .ref k23, .ref k24, .ref k25, .int (bz pd), .int (nI pl), .int (bz tk), kv, .ref k30, .ref k31, .int (nI tz), .ref k33, .int (nI rs), .int sd])), (k1, .inl (cI, 7, .inl (nIf ki))), (k2, .inl (cI, 7, .inl (nIf op))), (k3, .inl (cI, 7, .inl (nIf (shF sh)))), (k4, .inl (cI, 7, .inl (nIf fa))), (k6, .inl (cI, 6, .inl (nIf K))), (k7, .inl (cI, 6, .inl (nIf G))), (k8, .inl (cI, 6, .inl (nIf T))), (k12, .inl (cI, 7, .inl (nIf kw))), (k13, .inl (cI, 175, .inl (nIf kn))), (k14, .inl (cI, 144, .inl (mIf M))), (k15, .inl (cI, 7, .inl (nIf mw))), (k10, .inl (cI, 7, .inl (nIf R)))]
  rcases in_ix1 (N := 2) (p := w) (show 1 < 2 ^ 29 by decide) rfl with ⟨e9, b9⟩ | ⟨jw, e9, i9, l9, b9⟩
  ·
    rw [b9]
    have hn_w := e9
    refine v_ifb_ne 22 15 zC dX5_quarrels_12 (fun z => absurd z (by decide)) (fun _ => ?_)
    refine v_al_n 16 zC dX5_quarrels_15 0 rfl ?_
    refine v_bp (v := (-2)) 18 zC dX5_quarrels_16 (by decide +kernel) ?_
    refine v_cV (As := [.int (-2)]) (st := []) 21 0 [0, 12] zC dX5_quarrels_18 hA (c_X5_refuse (ev_l E) (ev_D E) cI (r0 := r0) (k1 := k1) (k2 := k2) (k3 := k3) (k4 := k4) (k6 := k6) (k7 := k7) (k8 := k8) (k10 := k10) (k12 := k12) (k13 := k13) (k14 := k14) (k15 := k15) (k16 := k16) (k21 := k21) (k22 := k22) (k23 := k23) (k24 := k24) (k25 := k25) (k30 := k30) (k31 := k31) (k33 := k33) (n := n) (m := m) (aw := 0) (ls := ls) (ap := ap) (sq := sq) (pl := pl) (tz := tz) (rs := rs) (bd := bd) (pd := pd) (tk := tk) (kv := kv) (sd := sd) (R := R) (v := (-2)) (j := 2) (hv := (by first | omega | assumption | rfl | (simp only []; omega) | decide)) (h1 := (by first | omega | assumption | rfl | (simp only []; omega) | decide)) (h6 := (by first | omega | assumption | rfl | (simp only []; omega) | decide))) cf_X5_refuse lk_X5_129 rfl rfl rfl rfl rfl (by decide +kernel) (Nat.le_of_ble_eq_true rfl) (fun rv_6 wv_7 hp_8 hm_9 => ?_)
    clear hm_9
    obtain ⟨rfl, rfl⟩ := hp_8
    show VV E 0 0 21 [(0, .ref r0), (1, .int w)] [.int (-2)] [(r0, .inr (5, [.int (nI n), .ref k1, .ref k2, .ref k3, .ref k4, .int (nI m), .ref k6, .ref k7, .ref k8, .int (nI 0), .ref k10, .int (nI 0), .ref k12, .ref k13, .ref k14, .ref k15, .ref k16, .int (nI ls), .int (nI ap), .int (bz bd), .int (nI sq), .ref k21, .ref k22, .ref k23, .ref k24, .ref k25, .int (bz pd), .int (nI pl), .int (bz tk), kv, .ref k30, .ref k31, .int (nI tz), .ref k33, .int (nI rs), .int sd])), (k1, .inl (cI, 7, .inl (nIf ki))), (k2, .inl (cI, 7, .inl (nIf op))), (k3, .inl (cI, 7, .inl (nIf (shF sh)))), (k4, .inl (cI, 7, .inl (nIf fa))), (k6, .inl (cI, 6, .inl (nIf K))), (k7, .inl (cI, 6, .inl (nIf G))), (k8, .inl (cI, 6, .inl (nIf T))), (k12, .inl (cI, 7, .inl (nIf kw))), (k13, .inl (cI, 175, .inl (nIf kn))), (k14, .inl (cI, 144, .inl (mIf M))), (k15, .inl (cI, 7, .inl (nIf mw))), (k10, .inl (cI, 7, .inl (nIf (un R 2 (R 2 + 1)))))]
    refine v_iret zC zT dX5_quarrels_21  ?_
    first | (have g9 := hone9; exact ⟨_, _, _, _, 0, _, by unfold q_quarrels; rw [hi_w]; dsimp only; rw [if_neg (show ¬ jw = 1 by omega)], hkw2, hkn2, hM2, rfl, rfl⟩) | (have g9 := hn_w; exact ⟨kw, kn, M, mw, 2, _, by unfold q_quarrels; rw [hn_w], hkw, hkn, hM, rfl, rfl⟩) | exact ⟨_, _, _, _, 0, _, by unfold q_quarrels; rw [hi_w]; dsimp only; rw [if_pos (show jw = 1 by omega), ← hBp]; rfl, hkw2, hkn2, hM2, rfl, rfl⟩
  ·
    rw [b9]
    subst e9
    have hi_w := i9
    have hl_w := l9
    refine v_ifb_ne 22 15 zC dX5_quarrels_12 (fun _ => ?_) (fun z => absurd z (by decide))
    refine v_il_n 23 zC dX5_quarrels_22 1 rfl ?_
    refine v_ifn_ne 31 26 zC dX5_quarrels_23 (fun h_11 => ?_) (fun h_11 => ?_)
    ·
      refine v_ic (v := (nI 0)) 32 zC dX5_quarrels_31 (by decide +kernel) ?_
      refine v_is_n (lv2 := [(2, .int (nI 0)), (0, .ref r0), (1, .int (nI jw))]) 33 zC dX5_quarrels_32 (by rw [hnE]; decide) rfl ?_
      refine v_ic (v := (nI 0)) 34 zC dX5_quarrels_33 (by decide +kernel) ?_
      refine v_is_n (lv2 := [(3, .int (nI 0)), (2, .int (nI 0)), (0, .ref r0), (1, .int (nI jw))]) 35 zC dX5_quarrels_34 (by rw [hnE]; decide) rfl ?_
      have lp35 : ∀ (mz : Nat) (x : Nat) (d : Nat), (x = mkn (fun d => decide (g_K (n, m, sh, 0, ki, op, fa, K, G, T) d = 3)) d) → (d ≤ m) → m - d = mz → VV E 0 0 35 [(3, .int (nI d)), (2, .int (nI x)), (0, .ref r0), (1, .int (nI jw))] [] [(r0, .inr (5, [.int (nI n), .ref k1, .ref k2, .ref k3, .ref k4, .int (nI m), .ref k6, .ref k7, .ref k8, .int (nI 0), .ref k10, .int (nI 0), .ref k12, .ref k13, .ref k14, .ref k15, .ref k16, .int (nI ls), .int (nI ap), .int (bz bd), .int (nI sq), .ref k21, .ref k22, .ref k23, .ref k24, .ref k25, .int (bz pd), .int (nI pl), .int (bz tk), kv, .ref k30, .ref k31, .int (nI tz), .ref k33, .int (nI rs), .int sd])), (k1, .inl (cI, 7, .inl (nIf ki))), (k2, .inl (cI, 7, .inl (nIf op))), (k3, .inl (cI, 7, .inl (nIf (shF sh)))), (k4, .inl (cI, 7, .inl (nIf fa))), (k6, .inl (cI, 6, .inl (nIf K))), (k7, .inl (cI, 6, .inl (nIf G))), (k8, .inl (cI, 6, .inl (nIf T))), (k12, .inl (cI, 7, .inl (nIf kw))), (k13, .inl (cI, 175, .inl (nIf kn))), (k14, .inl (cI, 144, .inl (mIf M))), (k15, .inl (cI, 7, .inl (nIf mw))), (k10, .inl (cI, 7, .inl (nIf R)))] := by
        intro mz
        induction mz using Nat.strongRecOn with
        | _ mz ih35 =>
        intro x d hx hd hm35
        refine v_il_n 36 zC dX5_quarrels_35 0 rfl ?_
        refine v_al_n 37 zC dX5_quarrels_36 2 rfl ?_
        refine v_gf 40 0 zC dX5_quarrels_37 gf_X5_84 rfl rfl ?_
        refine v_icmpn_ge 69 43 zC dX5_quarrels_40 (fun h_12 => ?_) (fun h_12 => ?_)
        ·
          have hx8 : x = KS (n, m, sh, 0, ki, op, fa, K, G, T) 3 := by rw [hx, show d = m by omega]; rfl
          refine v_ic (v := (-1)) 70 zC dX5_quarrels_69 (by decide +kernel) ?_
          refine v_is_n (lv2 := [(3, .int (-1)), (2, .int (nI x)), (0, .ref r0), (1, .int (nI jw))]) 71 zC dX5_quarrels_70 (by rw [hnE]; decide) rfl ?_
          refine v_ic (v := (nI 0)) 72 zC dX5_quarrels_71 (by decide +kernel) ?_
          refine v_is (lv2 := [(4, .int (nI 0)), (3, .int (-1)), (2, .int (nI x)), (0, .ref r0), (1, .int (nI jw))]) 74 zC dX5_quarrels_72 (by rw [hnE]; decide) rfl ?_
          have lp74 : ∀ (mz : Nat) (kw2 : Nat → Nat) (kn2 : Nat → Nat) (M2 : Nat → Option Nat) (mw2 : Nat → Nat) (w1 : Nat) (B : Option Nat) (z : Nat), (∀ z, kw2 z < 1024) → (∀ z, kn2 z < 1024) → (∀ z v, M2 z = some v → v < 7) → (B = it (quaS (n, m, sh, 0, ki, op, fa, K, G, T) (KS (n, m, sh, 0, ki, op, fa, K, G, T) 3)) none z) → (∀ v, B = some v → v < z) → (z ≤ x + 1) → (x < 2 ^ 6) → x + 1 - z = mz → VV E 0 0 74 [(4, .int (nI z)), (3, .int (mJ B)), (2, .int (nI x)), (0, .ref r0), (1, .int (nI jw))] [] [(r0, .inr (5, [.int (nI n), .ref k1, .ref k2, .ref k3, .ref k4, .int (nI m), .ref k6, .ref k7, .ref k8, .int (nI 0), .ref k10, .int (nI w1), .ref k12, .ref k13, .ref k14, .ref k15, .ref k16, .int (nI ls), .int (nI ap), .int (bz bd), .int (nI sq), .ref k21, .ref k22, .ref k23, .ref k24, .ref k25, .int (bz pd), .int (nI pl), .int (bz tk), kv, .ref k30, .ref k31, .int (nI tz), .ref k33, .int (nI rs), .int sd])), (k1, .inl (cI, 7, .inl (nIf ki))), (k2, .inl (cI, 7, .inl (nIf op))), (k3, .inl (cI, 7, .inl (nIf (shF sh)))), (k4, .inl (cI, 7, .inl (nIf fa))), (k6, .inl (cI, 6, .inl (nIf K))), (k7, .inl (cI, 6, .inl (nIf G))), (k8, .inl (cI, 6, .inl (nIf T))), (k12, .inl (cI, 7, .inl (nIf kw2))), (k13, .inl (cI, 175, .inl (nIf kn2))), (k14, .inl (cI, 144, .inl (mIf M2))), (k15, .inl (cI, 7, .inl (nIf mw2))), (k10, .inl (cI, 7, .inl (nIf R)))] := by
            intro mz
            induction mz using Nat.strongRecOn with
            | _ mz ih74 =>
            intro kw2 kn2 M2 mw2 w1 B z hkw2 hkn2 hM2 hBe hBl hz hxm hm74
            refine v_il 76 zC dX5_quarrels_74 0 rfl ?_
            refine v_il_n 77 zC dX5_quarrels_76 2 rfl ?_
            refine v_icmpn_gt 131 80 zC dX5_quarrels_77 (fun h_13 => ?_) (fun h_13 => ?_)
            ·
              have hz8 : z = KS (n, m, sh, 0, ki, op, fa, K, G, T) 3 + 1 := by rw [← hx8]; omega
              have hBp : B = PEAC (n, m, sh, 0, ki, op, fa, K, G, T) := by rw [hBe, hz8]; exact pea_e.symm
              have hsome9 : B.isSome = true := by rw [hBe, hz8]; exact pea_some
              obtain ⟨b, he_b⟩ := Option.isSome_iff_exists.mp hsome9
              subst he_b
              have hb8 := hBl _ rfl
              refine v_al_n 132 zC dX5_quarrels_131 3 rfl ?_
              refine v_ic (v := (nI 0)) 133 zC dX5_quarrels_132 (by decide +kernel) ?_
              refine v_pf (ws2 := [(r0, .inr (5, [.int (nI n), .ref k1, .ref k2, .ref k3, .ref k4, .int (nI m), .ref k6, .ref k7, .ref k8, .int (nI 0), .ref k10, .int (nI 0), .ref k12, .ref k13, .ref k14, .ref k15, .ref k16, .int (nI ls), .int (nI ap), .int (bz bd), .int (nI sq), .ref k21, .ref k22, .ref k23, .ref k24, .ref k25, .int (bz pd), .int (nI pl), .int (bz tk), kv, .ref k30, .ref k31, .int (nI tz), .ref k33, .int (nI rs), .int sd])), (k1, .inl (cI, 7, .inl (nIf ki))), (k2, .inl (cI, 7, .inl (nIf op))), (k3, .inl (cI, 7, .inl (nIf (shF sh)))), (k4, .inl (cI, 7, .inl (nIf fa))), (k6, .inl (cI, 6, .inl (nIf K))), (k7, .inl (cI, 6, .inl (nIf G))), (k8, .inl (cI, 6, .inl (nIf T))), (k12, .inl (cI, 7, .inl (nIf kw2))), (k13, .inl (cI, 175, .inl (nIf kn2))), (k14, .inl (cI, 144, .inl (mIf M2))), (k15, .inl (cI, 7, .inl (nIf mw2))), (k10, .inl (cI, 7, .inl (nIf R)))]) 136 0 zC dX5_quarrels_133 pf_X5_109 rfl (Nat.le_of_ble_eq_true rfl) rfl rfl rfl ?_
              refine v_il_n 137 zC dX5_quarrels_136 1 rfl ?_
              refine v_iret zC zT dX5_quarrels_137  ?_
              first | (have g9 := hone9; exact ⟨_, _, _, _, 0, _, by unfold q_quarrels; rw [hi_w]; dsimp only; rw [if_neg (show ¬ jw = 1 by omega)], hkw2, hkn2, hM2, rfl, rfl⟩) | (have g9 := hn_w; exact ⟨kw, kn, M, mw, 2, _, by unfold q_quarrels; rw [hn_w], hkw, hkn, hM, rfl, rfl⟩) | exact ⟨_, _, _, _, 0, _, by unfold q_quarrels; rw [hi_w]; dsimp only; rw [if_pos (show jw = 1 by omega), ← hBp]; rfl, hkw2, hkn2, hM2, rfl, rfl⟩
            ·
              refine v_il 82 zC dX5_quarrels_80 0 rfl ?_
              refine v_il_n 83 zC dX5_quarrels_82 2 rfl ?_
              refine v_ic (v := (-1)) 84 zC dX5_quarrels_83 (by decide +kernel) ?_
              refine v_ixor (v := ((nI x) ^^^ (-1))) 85 zC dX5_quarrels_84 rfl ?_
              refine v_iand (v := (nI (andn z x))) 86 zC dX5_quarrels_85 (andn_of _ _) ?_
              have hal9 : (andn z x) < 2 ^ 7 := andn_lt (by omega)
              refine v_ifn_ne 125 89 zC dX5_quarrels_86 (fun h_14 => ?_) (fun h_14 => ?_)
              ·
                have h19 : andn z (KS (n, m, sh, 0, ki, op, fa, K, G, T) 3) ≠ 0 := by rw [← hx8]; exact h_14
                refine v_inc (v := (nI (z + 1))) (lv2 := [(4, .int (nI (z + 1))), (3, .int (mJ B)), (2, .int (nI x)), (0, .ref r0), (1, .int (nI jw))]) 128 zC dX5_quarrels_125 (j := 0) rfl (nI_add _ 1) (by rw [hnE]; decide) rfl ?_
                refine v_goto 74 zC dX5_quarrels_128 ?_
                refine v_lvs (lv2 := [(4, .int (nI (z + 1))), (3, .int (mJ B)), (2, .int (nI x)), (0, .ref r0), (1, .int (nI jw))]) [0, 1, 2, 3, 4] rfl ?_
                exact ih74 _ (by omega) kw2 kn2 M2 mw2 w1 B (z + 1) (by first | exact hkw8 | exact hkw2) (by first | exact hkn8 | exact hkn2) (by first | exact hM8 | exact hM2) (it_s hBe (by first | exact qua_1 h19 | exact qua_3 h29 rfl h39 | exact qua_4 h29 rfl h49 | exact qua_3 h29 (decide_eq_true hq9) h39 | exact qua_4 h29 (decide_eq_true hq9) h49 | exact qua_2 (decide_eq_false (Nat.not_lt.mpr hq9)))) (fun v e => by first | (cases e; done) | (cases e; omega) | (have := hBl v e; omega)) (by first | omega | assumption | rfl | (simp only []; omega) | decide) (by first | omega | assumption | rfl | (simp only []; omega) | decide) rfl
              ·
                have h29 : andn z (KS (n, m, sh, 0, ki, op, fa, K, G, T) 3) = 0 := by rw [← hx8]; exact h_14
                refine v_il_n 90 zC dX5_quarrels_89 1 rfl ?_
                refine v_ifj_lt 105 93 zC dX5_quarrels_90 (fun v e => by have := hBl v e; omega) (fun h_15 => ?_) (fun h_15 => ?_)
                ·
                  have hz9 : B = none := by cases B with | none => rfl | some _ => cases h_15
                  subst hz9
                  refine v_al_n 106 zC dX5_quarrels_105 3 rfl ?_
                  refine v_il 108 zC dX5_quarrels_106 0 rfl ?_
                  refine v_pf (ws2 := [(r0, .inr (5, [.int (nI n), .ref k1, .ref k2, .ref k3, .ref k4, .int (nI m), .ref k6, .ref k7, .ref k8, .int (nI 0), .ref k10, .int (nI z), .ref k12, .ref k13, .ref k14, .ref k15, .ref k16, .int (nI ls), .int (nI ap), .int (bz bd), .int (nI sq), .ref k21, .ref k22, .ref k23, .ref k24, .ref k25, .int (bz pd), .int (nI pl), .int (bz tk), kv, .ref k30, .ref k31, .int (nI tz), .ref k33, .int (nI rs), .int sd])), (k1, .inl (cI, 7, .inl (nIf ki))), (k2, .inl (cI, 7, .inl (nIf op))), (k3, .inl (cI, 7, .inl (nIf (shF sh)))), (k4, .inl (cI, 7, .inl (nIf fa))), (k6, .inl (cI, 6, .inl (nIf K))), (k7, .inl (cI, 6, .inl (nIf G))), (k8, .inl (cI, 6, .inl (nIf T))), (k12, .inl (cI, 7, .inl (nIf kw2))), (k13, .inl (cI, 175, .inl (nIf kn2))), (k14, .inl (cI, 144, .inl (mIf M2))), (k15, .inl (cI, 7, .inl (nIf mw2))), (k10, .inl (cI, 7, .inl (nIf R)))]) 111 0 zC dX5_quarrels_108 pf_X5_109 rfl (Nat.le_of_ble_eq_true rfl) rfl rfl rfl ?_
                  refine v_al_n 112 zC dX5_quarrels_111 3 rfl ?_
                  refine v_cV (As := []) (st := []) 115 0 [0, 1, 2, 3, 4, 5, 6, 7, 8, 9, 10, 11] zC dX5_quarrels_112 hA (c_X5_quarrelHours (ev_l E) (ev_D E) cI (r0 := r0) (k1 := k1) (k2 := k2) (k3 := k3) (k4 := k4) (k6 := k6) (k7 := k7) (k8 := k8) (k10 := k10) (k12 := k12) (k13 := k13) (k14 := k14) (k15 := k15) (k16 := k16) (k21 := k21) (k22 := k22) (k23 := k23) (k24 := k24) (k25 := k25) (k30 := k30) (k31 := k31) (k33 := k33) (n := n) (m := m) (aw := z) (ls := ls) (ap := ap) (sq := sq) (pl := pl) (tz := tz) (rs := rs) (bd := bd) (pd := pd) (tk := tk) (kv := kv) (sd := sd) (ki := ki) (op := op) (fa := fa) (K := K) (G := G) (T := T) (sh := sh) (kw := kw2) (kn := kn2) (M := M2) (mw := mw2) (hw := hw) (hkw := hkw2) (hkn := hkn2) (hM := hM2)) cf_X5_quarrelHours lk_X5_273 rfl rfl rfl rfl rfl (by decide +kernel) (Nat.le_of_ble_eq_true rfl) (fun rv_16 wv_17 hp_18 hm_19 => ?_)
                  clear hm_19
                  obtain ⟨kw1_20, kn1_21, M1_22, mw1_23, hkw1_24, hkn1_25, hM1_26, hl_27, rfl, rfl⟩ := hp_18
                  show VV E 0 0 115 [(4, .int (nI z)), (3, .int (-1)), (2, .int (nI x)), (0, .ref r0), (1, .int (nI jw))] [.int (nI (QUAH (n, m, sh, z, ki, op, fa, K, G, T)))] [(r0, .inr (5, [.int (nI n), .ref k1, .ref k2, .ref k3, .ref k4, .int (nI m), .ref k6, .ref k7, .ref k8, .int (nI 0), .ref k10, .int (nI z), .ref k12, .ref k13, .ref k14, .ref k15, .ref k16, .int (nI ls), .int (nI ap), .int (bz bd), .int (nI sq), .ref k21, .ref k22, .ref k23, .ref k24, .ref k25, .int (bz pd), .int (nI pl), .int (bz tk), kv, .ref k30, .ref k31, .int (nI tz), .ref k33, .int (nI rs), .int sd])), (k1, .inl (cI, 7, .inl (nIf ki))), (k2, .inl (cI, 7, .inl (nIf op))), (k3, .inl (cI, 7, .inl (nIf (shF sh)))), (k4, .inl (cI, 7, .inl (nIf fa))), (k6, .inl (cI, 6, .inl (nIf K))), (k7, .inl (cI, 6, .inl (nIf G))), (k8, .inl (cI, 6, .inl (nIf T))), (k12, .inl (cI, 7, .inl (nIf kw1_20))), (k13, .inl (cI, 175, .inl (nIf kn1_21))), (k14, .inl (cI, 144, .inl (mIf M1_22))), (k15, .inl (cI, 7, .inl (nIf mw1_23))), (k10, .inl (cI, 7, .inl (nIf R)))]
                  have hkw8 := hkw1_24
                  have hkn8 := hkn1_25
                  have hM8 := hM1_26
                  have hl9 := hl_27
                  refine v_ifn_ne 123 118 zC dX5_quarrels_115 (fun h_28 => ?_) (fun h_28 => ?_)
                  ·
                    have h49 : QUAH (waw (n, m, sh, 0, ki, op, fa, K, G, T) z) ≠ 0 := h_28
                    refine v_il_n 124 zC dX5_quarrels_123 1 rfl ?_
                    refine v_is_n (lv2 := [(3, .int (-1)), (4, .int (nI z)), (2, .int (nI x)), (0, .ref r0), (1, .int (nI jw))]) 125 zC dX5_quarrels_124 (by rw [hnE]; decide) rfl ?_
                    refine v_inc (v := (nI (z + 1))) (lv2 := [(4, .int (nI (z + 1))), (3, .int (-1)), (2, .int (nI x)), (0, .ref r0), (1, .int (nI jw))]) 128 zC dX5_quarrels_125 (j := 1) rfl (nI_add _ 1) (by rw [hnE]; decide) rfl ?_
                    refine v_goto 74 zC dX5_quarrels_128 ?_
                    refine v_lvs (lv2 := [(4, .int (nI (z + 1))), (3, .int (mJ none)), (2, .int (nI x)), (0, .ref r0), (1, .int (nI jw))]) [0, 1, 2, 3, 4] rfl ?_
                    exact ih74 _ (by omega) kw1_20 kn1_21 M1_22 mw1_23 z none (z + 1) (by first | exact hkw8 | exact hkw2) (by first | exact hkn8 | exact hkn2) (by first | exact hM8 | exact hM2) (it_s hBe (by first | exact qua_1 h19 | exact qua_3 h29 rfl h39 | exact qua_4 h29 rfl h49 | exact qua_3 h29 (decide_eq_true hq9) h39 | exact qua_4 h29 (decide_eq_true hq9) h49 | exact qua_2 (decide_eq_false (Nat.not_lt.mpr hq9)))) (fun v e => by first | (cases e; done) | (cases e; omega) | (have := hBl v e; omega)) (by first | omega | assumption | rfl | (simp only []; omega) | decide) (by first | omega | assumption | rfl | (simp only []; omega) | decide) rfl
                  ·
                    have h39 : QUAH (waw (n, m, sh, 0, ki, op, fa, K, G, T) z) = 0 := h_28
                    refine v_il 120 zC dX5_quarrels_118 0 rfl ?_
                    refine v_goto 124 zC dX5_quarrels_120 ?_
                    refine v_is_n (lv2 := [(3, .int (nI z)), (4, .int (nI z)), (2, .int (nI x)), (0, .ref r0), (1, .int (nI jw))]) 125 zC dX5_quarrels_124 (by rw [hnE]; decide) rfl ?_
                    refine v_inc (v := (nI (z + 1))) (lv2 := [(4, .int (nI (z + 1))), (3, .int (nI z)), (2, .int (nI x)), (0, .ref r0), (1, .int (nI jw))]) 128 zC dX5_quarrels_125 (j := 1) rfl (nI_add _ 1) (by rw [hnE]; decide) rfl ?_
                    refine v_goto 74 zC dX5_quarrels_128 ?_
                    refine v_lvs (lv2 := [(4, .int (nI (z + 1))), (3, .int (mJ (some z))), (2, .int (nI x)), (0, .ref r0), (1, .int (nI jw))]) [0, 1, 2, 3, 4] rfl ?_
                    exact ih74 _ (by omega) kw1_20 kn1_21 M1_22 mw1_23 z (some z) (z + 1) (by first | exact hkw8 | exact hkw2) (by first | exact hkn8 | exact hkn2) (by first | exact hM8 | exact hM2) (it_s hBe (by first | exact qua_1 h19 | exact qua_3 h29 rfl h39 | exact qua_4 h29 rfl h49 | exact qua_3 h29 (decide_eq_true hq9) h39 | exact qua_4 h29 (decide_eq_true hq9) h49 | exact qua_2 (decide_eq_false (Nat.not_lt.mpr hq9)))) (fun v e => by first | (cases e; done) | (cases e; omega) | (have := hBl v e; omega)) (by first | omega | assumption | rfl | (simp only []; omega) | decide) (by first | omega | assumption | rfl | (simp only []; omega) | decide) rfl
                ·
                  obtain ⟨b, he_b⟩ := Option.isSome_iff_exists.mp h_15
                  subst he_b
                  have hb9 := hBl _ rfl
                  refine v_il 95 zC dX5_quarrels_93 0 rfl ?_
                  refine v_cS (As := [.int (nI z)]) (st := []) 98 [] zC dX5_quarrels_95 hA (c_X5_onesOf (ev_l E) (ev_D E) cI (x := z) (hx := (by omega))) cf_X5_onesOf lk_X5_120 rfl rfl rfl (by decide +kernel) (Nat.le_of_ble_eq_true rfl) (fun rv_29 wv_30 hp_31 hm_32 => ?_)
                  clear hm_32
                  obtain ⟨rfl, rfl⟩ := hp_31
                  show VV E 0 0 98 [(4, .int (nI z)), (3, .int (nI b)), (2, .int (nI x)), (0, .ref r0), (1, .int (nI jw))] [.int (nI (pcn z))] [(r0, .inr (5, [.int (nI n), .ref k1, .ref k2, .ref k3, .ref k4, .int (nI m), .ref k6, .ref k7, .ref k8, .int (nI 0), .ref k10, .int (nI w1), .ref k12, .ref k13, .ref k14, .ref k15, .ref k16, .int (nI ls), .int (nI ap), .int (bz bd), .int (nI sq), .ref k21, .ref k22, .ref k23, .ref k24, .ref k25, .int (bz pd), .int (nI pl), .int (bz tk), kv, .ref k30, .ref k31, .int (nI tz), .ref k33, .int (nI rs), .int sd])), (k1, .inl (cI, 7, .inl (nIf ki))), (k2, .inl (cI, 7, .inl (nIf op))), (k3, .inl (cI, 7, .inl (nIf (shF sh)))), (k4, .inl (cI, 7, .inl (nIf fa))), (k6, .inl (cI, 6, .inl (nIf K))), (k7, .inl (cI, 6, .inl (nIf G))), (k8, .inl (cI, 6, .inl (nIf T))), (k12, .inl (cI, 7, .inl (nIf kw2))), (k13, .inl (cI, 175, .inl (nIf kn2))), (k14, .inl (cI, 144, .inl (mIf M2))), (k15, .inl (cI, 7, .inl (nIf mw2))), (k10, .inl (cI, 7, .inl (nIf R)))]
                  refine v_il_n 99 zC dX5_quarrels_98 1 rfl ?_
                  refine v_cS (As := [.int (nI b)]) (st := [.int (nI (pcn z))]) 102 [] zC dX5_quarrels_99 hA (c_X5_onesOf (ev_l E) (ev_D E) cI (x := b) (hx := (by omega))) cf_X5_onesOf lk_X5_120 rfl rfl rfl (by decide +kernel) (Nat.le_of_ble_eq_true rfl) (fun rv_33 wv_34 hp_35 hm_36 => ?_)
                  clear hm_36
                  obtain ⟨rfl, rfl⟩ := hp_35
                  show VV E 0 0 102 [(4, .int (nI z)), (3, .int (nI b)), (2, .int (nI x)), (0, .ref r0), (1, .int (nI jw))] [.int (nI (pcn b)), .int (nI (pcn z))] [(r0, .inr (5, [.int (nI n), .ref k1, .ref k2, .ref k3, .ref k4, .int (nI m), .ref k6, .ref k7, .ref k8, .int (nI 0), .ref k10, .int (nI w1), .ref k12, .ref k13, .ref k14, .ref k15, .ref k16, .int (nI ls), .int (nI ap), .int (bz bd), .int (nI sq), .ref k21, .ref k22, .ref k23, .ref k24, .ref k25, .int (bz pd), .int (nI pl), .int (bz tk), kv, .ref k30, .ref k31, .int (nI tz), .ref k33, .int (nI rs), .int sd])), (k1, .inl (cI, 7, .inl (nIf ki))), (k2, .inl (cI, 7, .inl (nIf op))), (k3, .inl (cI, 7, .inl (nIf (shF sh)))), (k4, .inl (cI, 7, .inl (nIf fa))), (k6, .inl (cI, 6, .inl (nIf K))), (k7, .inl (cI, 6, .inl (nIf G))), (k8, .inl (cI, 6, .inl (nIf T))), (k12, .inl (cI, 7, .inl (nIf kw2))), (k13, .inl (cI, 175, .inl (nIf kn2))), (k14, .inl (cI, 144, .inl (mIf M2))), (k15, .inl (cI, 7, .inl (nIf mw2))), (k10, .inl (cI, 7, .inl (nIf R)))]
                  have hp8 := pcn_k 6 z (by omega)
                  have hp7 := pcn_k 6 b (by omega)
                  refine v_icmpn_ge 125 105 zC dX5_quarrels_102 (fun h_37 => ?_) (fun h_37 => ?_)
                  ·
                    have hq9 := h_37
                    refine v_inc (v := (nI (z + 1))) (lv2 := [(4, .int (nI (z + 1))), (3, .int (nI b)), (2, .int (nI x)), (0, .ref r0), (1, .int (nI jw))]) 128 zC dX5_quarrels_125 (j := 0) rfl (nI_add _ 1) (by rw [hnE]; decide) rfl ?_
                    refine v_goto 74 zC dX5_quarrels_128 ?_
                    refine v_lvs (lv2 := [(4, .int (nI (z + 1))), (3, .int (mJ (some b))), (2, .int (nI x)), (0, .ref r0), (1, .int (nI jw))]) [0, 1, 2, 3, 4] rfl ?_
                    exact ih74 _ (by omega) kw2 kn2 M2 mw2 w1 (some b) (z + 1) (by first | exact hkw8 | exact hkw2) (by first | exact hkn8 | exact hkn2) (by first | exact hM8 | exact hM2) (it_s hBe (by first | exact qua_1 h19 | exact qua_3 h29 rfl h39 | exact qua_4 h29 rfl h49 | exact qua_3 h29 (decide_eq_true hq9) h39 | exact qua_4 h29 (decide_eq_true hq9) h49 | exact qua_2 (decide_eq_false (Nat.not_lt.mpr hq9)))) (fun v e => by first | (cases e; done) | (cases e; omega) | (have := hBl v e; omega)) (by first | omega | assumption | rfl | (simp only []; omega) | decide) (by first | omega | assumption | rfl | (simp only []; omega) | decide) rfl
                  ·
                    have hq9 := h_37
                    refine v_al_n 106 zC dX5_quarrels_105 3 rfl ?_
                    refine v_il 108 zC dX5_quarrels_106 0 rfl ?_
                    refine v_pf (ws2 := [(r0, .inr (5, [.int (nI n), .ref k1, .ref k2, .ref k3, .ref k4, .int (nI m), .ref k6, .ref k7, .ref k8, .int (nI 0), .ref k10, .int (nI z), .ref k12, .ref k13, .ref k14, .ref k15, .ref k16, .int (nI ls), .int (nI ap), .int (bz bd), .int (nI sq), .ref k21, .ref k22, .ref k23, .ref k24, .ref k25, .int (bz pd), .int (nI pl), .int (bz tk), kv, .ref k30, .ref k31, .int (nI tz), .ref k33, .int (nI rs), .int sd])), (k1, .inl (cI, 7, .inl (nIf ki))), (k2, .inl (cI, 7, .inl (nIf op))), (k3, .inl (cI, 7, .inl (nIf (shF sh)))), (k4, .inl (cI, 7, .inl (nIf fa))), (k6, .inl (cI, 6, .inl (nIf K))), (k7, .inl (cI, 6, .inl (nIf G))), (k8, .inl (cI, 6, .inl (nIf T))), (k12, .inl (cI, 7, .inl (nIf kw2))), (k13, .inl (cI, 175, .inl (nIf kn2))), (k14, .inl (cI, 144, .inl (mIf M2))), (k15, .inl (cI, 7, .inl (nIf mw2))), (k10, .inl (cI, 7, .inl (nIf R)))]) 111 0 zC dX5_quarrels_108 pf_X5_109 rfl (Nat.le_of_ble_eq_true rfl) rfl rfl rfl ?_
                    refine v_al_n 112 zC dX5_quarrels_111 3 rfl ?_
                    refine v_cV (As := []) (st := []) 115 0 [0, 1, 2, 3, 4, 5, 6, 7, 8, 9, 10, 11] zC dX5_quarrels_112 hA (c_X5_quarrelHours (ev_l E) (ev_D E) cI (r0 := r0) (k1 := k1) (k2 := k2) (k3 := k3) (k4 := k4) (k6 := k6) (k7 := k7) (k8 := k8) (k10 := k10) (k12 := k12) (k13 := k13) (k14 := k14) (k15 := k15) (k16 := k16) (k21 := k21) (k22 := k22) (k23 := k23) (k24 := k24) (k25 := k25) (k30 := k30) (k31 := k31) (k33 := k33) (n := n) (m := m) (aw := z) (ls := ls) (ap := ap) (sq := sq) (pl := pl) (tz := tz) (rs := rs) (bd := bd) (pd := pd) (tk := tk) (kv := kv) (sd := sd) (ki := ki) (op := op) (fa := fa) (K := K) (G := G) (T := T) (sh := sh) (kw := kw2) (kn := kn2) (M := M2) (mw := mw2) (hw := hw) (hkw := hkw2) (hkn := hkn2) (hM := hM2)) cf_X5_quarrelHours lk_X5_273 rfl rfl rfl rfl rfl (by decide +kernel) (Nat.le_of_ble_eq_true rfl) (fun rv_38 wv_39 hp_40 hm_41 => ?_)
                    clear hm_41
                    obtain ⟨kw1_42, kn1_43, M1_44, mw1_45, hkw1_46, hkn1_47, hM1_48, hl_49, rfl, rfl⟩ := hp_40
                    show VV E 0 0 115 [(4, .int (nI z)), (3, .int (nI b)), (2, .int (nI x)), (0, .ref r0), (1, .int (nI jw))] [.int (nI (QUAH (n, m, sh, z, ki, op, fa, K, G, T)))] [(r0, .inr (5, [.int (nI n), .ref k1, .ref k2, .ref k3, .ref k4, .int (nI m), .ref k6, .ref k7, .ref k8, .int (nI 0), .ref k10, .int (nI z), .ref k12, .ref k13, .ref k14, .ref k15, .ref k16, .int (nI ls), .int (nI ap), .int (bz bd), .int (nI sq), .ref k21, .ref k22, .ref k23, .ref k24, .ref k25, .int (bz pd), .int (nI pl), .int (bz tk), kv, .ref k30, .ref k31, .int (nI tz), .ref k33, .int (nI rs), .int sd])), (k1, .inl (cI, 7, .inl (nIf ki))), (k2, .inl (cI, 7, .inl (nIf op))), (k3, .inl (cI, 7, .inl (nIf (shF sh)))), (k4, .inl (cI, 7, .inl (nIf fa))), (k6, .inl (cI, 6, .inl (nIf K))), (k7, .inl (cI, 6, .inl (nIf G))), (k8, .inl (cI, 6, .inl (nIf T))), (k12, .inl (cI, 7, .inl (nIf kw1_42))), (k13, .inl (cI, 175, .inl (nIf kn1_43))), (k14, .inl (cI, 144, .inl (mIf M1_44))), (k15, .inl (cI, 7, .inl (nIf mw1_45))), (k10, .inl (cI, 7, .inl (nIf R)))]
                    have hkw8 := hkw1_46
                    have hkn8 := hkn1_47
                    have hM8 := hM1_48
                    have hl9 := hl_49
                    refine v_ifn_ne 123 118 zC dX5_quarrels_115 (fun h_50 => ?_) (fun h_50 => ?_)
                    ·
                      have h49 : QUAH (waw (n, m, sh, 0, ki, op, fa, K, G, T) z) ≠ 0 := h_50
                      refine v_il_n 124 zC dX5_quarrels_123 1 rfl ?_
                      refine v_is_n (lv2 := [(3, .int (nI b)), (4, .int (nI z)), (2, .int (nI x)), (0, .ref r0), (1, .int (nI jw))]) 125 zC dX5_quarrels_124 (by rw [hnE]; decide) rfl ?_
                      refine v_inc (v := (nI (z + 1))) (lv2 := [(4, .int (nI (z + 1))), (3, .int (nI b)), (2, .int (nI x)), (0, .ref r0), (1, .int (nI jw))]) 128 zC dX5_quarrels_125 (j := 1) rfl (nI_add _ 1) (by rw [hnE]; decide) rfl ?_
                      refine v_goto 74 zC dX5_quarrels_128 ?_
                      refine v_lvs (lv2 := [(4, .int (nI (z + 1))), (3, .int (mJ (some b))), (2, .int (nI x)), (0, .ref r0), (1, .int (nI jw))]) [0, 1, 2, 3, 4] rfl ?_
                      exact ih74 _ (by omega) kw1_42 kn1_43 M1_44 mw1_45 z (some b) (z + 1) (by first | exact hkw8 | exact hkw2) (by first | exact hkn8 | exact hkn2) (by first | exact hM8 | exact hM2) (it_s hBe (by first | exact qua_1 h19 | exact qua_3 h29 rfl h39 | exact qua_4 h29 rfl h49 | exact qua_3 h29 (decide_eq_true hq9) h39 | exact qua_4 h29 (decide_eq_true hq9) h49 | exact qua_2 (decide_eq_false (Nat.not_lt.mpr hq9)))) (fun v e => by first | (cases e; done) | (cases e; omega) | (have := hBl v e; omega)) (by first | omega | assumption | rfl | (simp only []; omega) | decide) (by first | omega | assumption | rfl | (simp only []; omega) | decide) rfl
                    ·
                      have h39 : QUAH (waw (n, m, sh, 0, ki, op, fa, K, G, T) z) = 0 := h_50
                      refine v_il 120 zC dX5_quarrels_118 0 rfl ?_
                      refine v_goto 124 zC dX5_quarrels_120 ?_
                      refine v_is_n (lv2 := [(3, .int (nI z)), (4, .int (nI z)), (2, .int (nI x)), (0, .ref r0), (1, .int (nI jw))]) 125 zC dX5_quarrels_124 (by rw [hnE]; decide) rfl ?_
                      refine v_inc (v := (nI (z + 1))) (lv2 := [(4, .int (nI (z + 1))), (3, .int (nI z)), (2, .int (nI x)), (0, .ref r0), (1, .int (nI jw))]) 128 zC dX5_quarrels_125 (j := 1) rfl (nI_add _ 1) (by rw [hnE]; decide) rfl ?_
                      refine v_goto 74 zC dX5_quarrels_128 ?_
                      refine v_lvs (lv2 := [(4, .int (nI (z + 1))), (3, .int (mJ (some z))), (2, .int (nI x)), (0, .ref r0), (1, .int (nI jw))]) [0, 1, 2, 3, 4] rfl ?_
                      exact ih74 _ (by omega) kw1_42 kn1_43 M1_44 mw1_45 z (some z) (z + 1) (by first | exact hkw8 | exact hkw2) (by first | exact hkn8 | exact hkn2) (by first | exact hM8 | exact hM2) (it_s hBe (by first | exact qua_1 h19 | exact qua_3 h29 rfl h39 | exact qua_4 h29 rfl h49 | exact qua_3 h29 (decide_eq_true hq9) h39 | exact qua_4 h29 (decide_eq_true hq9) h49 | exact qua_2 (decide_eq_false (Nat.not_lt.mpr hq9)))) (fun v e => by first | (cases e; done) | (cases e; omega) | (have := hBl v e; omega)) (by first | omega | assumption | rfl | (simp only []; omega) | decide) (by first | omega | assumption | rfl | (simp only []; omega) | decide) rfl
          refine v_lvs (lv2 := [(4, .int (nI 0)), (3, .int (mJ none)), (2, .int (nI x)), (0, .ref r0), (1, .int (nI jw))]) [0, 1, 2, 3, 4] rfl ?_
          exact lp74 _ kw kn M mw 0 none 0 (by first | exact hR9.2.2.2.1 | exact hkw) (by first | exact hR9.2.2.2.2.1 | exact hkn) (by first | exact hR9.2.2.2.2.2 | exact hM) rfl (fun v e => by cases e) (by first | omega | assumption | rfl | (simp only []; omega) | decide) (by rw [hx8]; exact Nat.lt_of_lt_of_le (mkn_lt _ _) h2m) rfl
        ·
          refine v_il_n 44 zC dX5_quarrels_43 1 rfl ?_
          refine v_al_n 45 zC dX5_quarrels_44 2 rfl ?_
          refine v_gf 48 0 zC dX5_quarrels_45 gf_X5_22 rfl rfl ?_
          refine v_il_n 49 zC dX5_quarrels_48 0 rfl ?_
          refine v_ialn (v := (nI (K d))) 50 5 zC dX5_quarrels_49 rfl (by omega) rfl ?_
          have hb_51 := hK d
          refine v_ic (v := (nI 3)) 51 zC dX5_quarrels_50 (by decide +kernel) ?_
          refine v_icmpn_ne 60 54 zC dX5_quarrels_51 (fun h_52 => ?_) (fun h_52 => ?_)
          ·
            have hv9 : (fun d => decide (g_K (n, m, sh, 0, ki, op, fa, K, G, T) d = 3)) d = false := decide_eq_false h_52
            refine v_ic (v := (nI 0)) 61 zC dX5_quarrels_60 (by decide +kernel) ?_
            refine v_ior (v := (nI x)) 62 zC dX5_quarrels_61 (by rw [fa_or, Nat.or_zero]) ?_
            refine v_is_n (lv2 := [(2, .int (nI x)), (3, .int (nI d)), (0, .ref r0), (1, .int (nI jw))]) 63 zC dX5_quarrels_62 (by rw [hnE]; decide) rfl ?_
            refine v_inc (v := (nI (d + 1))) (lv2 := [(3, .int (nI (d + 1))), (2, .int (nI x)), (0, .ref r0), (1, .int (nI jw))]) 66 zC dX5_quarrels_63 (j := 1) rfl (nI_add _ 1) (by rw [hnE]; decide) rfl ?_
            refine v_goto 35 zC dX5_quarrels_66 ?_
            refine v_lvs (lv2 := [(3, .int (nI (d + 1))), (2, .int (nI x)), (0, .ref r0), (1, .int (nI jw))]) [0, 1, 2, 3] rfl ?_
            exact ih35 _ (by omega) x (d + 1) (by first | (rw [hx]; exact (mkn_1 hu9).symm) | (rw [hx]; exact (mkn_0 hv9).symm)) (by first | omega | assumption | rfl | (simp only []; omega) | decide) rfl
          ·
            have hu9 : (fun d => decide (g_K (n, m, sh, 0, ki, op, fa, K, G, T) d = 3)) d = true := decide_eq_true h_52
            refine v_ic (v := (nI 1)) 55 zC dX5_quarrels_54 (by decide +kernel) ?_
            refine v_il_n 56 zC dX5_quarrels_55 0 rfl ?_
            refine v_ishl (v := (nI (2 ^ d))) 57 zC dX5_quarrels_56 (b1n (by omega)) ?_
            refine v_goto 61 zC dX5_quarrels_57 ?_
            refine v_ior (v := (nI (x ||| (2 ^ d)))) 62 zC dX5_quarrels_61 (fa_or _ _) ?_
            refine v_is_n (lv2 := [(2, .int (nI (x ||| (2 ^ d)))), (3, .int (nI d)), (0, .ref r0), (1, .int (nI jw))]) 63 zC dX5_quarrels_62 (by rw [hnE]; decide) rfl ?_
            refine v_inc (v := (nI (d + 1))) (lv2 := [(3, .int (nI (d + 1))), (2, .int (nI (x ||| (2 ^ d)))), (0, .ref r0), (1, .int (nI jw))]) 66 zC dX5_quarrels_63 (j := 1) rfl (nI_add _ 1) (by rw [hnE]; decide) rfl ?_
            refine v_goto 35 zC dX5_quarrels_66 ?_
            refine v_lvs (lv2 := [(3, .int (nI (d + 1))), (2, .int (nI (x ||| (2 ^ d)))), (0, .ref r0), (1, .int (nI jw))]) [0, 1, 2, 3] rfl ?_
            exact ih35 _ (by omega) (x ||| (2 ^ d)) (d + 1) (by first | (rw [hx]; exact (mkn_1 hu9).symm) | (rw [hx]; exact (mkn_0 hv9).symm)) (by first | omega | assumption | rfl | (simp only []; omega) | decide) rfl
      refine v_lvs (lv2 := [(3, .int (nI 0)), (2, .int (nI 0)), (0, .ref r0), (1, .int (nI jw))]) [0, 1, 2, 3] rfl ?_
      exact lp35 _ 0 0 rfl (by first | omega | assumption | rfl | (simp only []; omega) | decide) rfl
    ·
      refine v_al_n 27 zC dX5_quarrels_26 0 rfl ?_
      refine v_cV (As := []) (st := []) 30 0 [0, 1, 2, 3, 4, 5, 6, 7, 8, 9, 10, 11] zC dX5_quarrels_27 hA (c_X5_quarrelHours (ev_l E) (ev_D E) cI (r0 := r0) (k1 := k1) (k2 := k2) (k3 := k3) (k4 := k4) (k6 := k6) (k7 := k7) (k8 := k8) (k10 := k10) (k12 := k12) (k13 := k13) (k14 := k14) (k15 := k15) (k16 := k16) (k21 := k21) (k22 := k22) (k23 := k23) (k24 := k24) (k25 := k25) (k30 := k30) (k31 := k31) (k33 := k33) (n := n) (m := m) (aw := 0) (ls := ls) (ap := ap) (sq := sq) (pl := pl) (tz := tz) (rs := rs) (bd := bd) (pd := pd) (tk := tk) (kv := kv) (sd := sd) (ki := ki) (op := op) (fa := fa) (K := K) (G := G) (T := T) (sh := sh) (kw := kw) (kn := kn) (M := M) (mw := mw) (hw := (by first | omega | assumption | rfl | (simp only []; omega) | decide)) (hkw := (by first | omega | assumption | rfl | (simp only []; omega) | decide)) (hkn := (by first | omega | assumption | rfl | (simp only []; omega) | decide)) (hM := (by first | omega | assumption | rfl | (simp only []; omega) | decide))) cf_X5_quarrelHours lk_X5_273 rfl rfl rfl rfl rfl (by decide +kernel) (Nat.le_of_ble_eq_true rfl) (fun rv_53 wv_54 hp_55 hm_56 => ?_)
      clear hm_56
      obtain ⟨kw1_57, kn1_58, M1_59, mw1_60, hkw1_61, hkn1_62, hM1_63, hl_64, rfl, rfl⟩ := hp_55
      show VV E 0 0 30 [(0, .ref r0), (1, .int (nI jw))] [.int (nI (QUAH (n, m, sh, 0, ki, op, fa, K, G, T)))] [(r0, .inr (5, [.int (nI n), .ref k1, .ref k2, .ref k3, .ref k4, .int (nI m), .ref k6, .ref k7, .ref k8, .int (nI 0), .ref k10, .int (nI 0), .ref k12, .ref k13, .ref k14, .ref k15, .ref k16, .int (nI ls), .int (nI ap), .int (bz bd), .int (nI sq), .ref k21, .ref k22, .ref k23, .ref k24, .ref k25, .int (bz pd), .int (nI pl), .int (bz tk), kv, .ref k30, .ref k31, .int (nI tz), .ref k33, .int (nI rs), .int sd])), (k1, .inl (cI, 7, .inl (nIf ki))), (k2, .inl (cI, 7, .inl (nIf op))), (k3, .inl (cI, 7, .inl (nIf (shF sh)))), (k4, .inl (cI, 7, .inl (nIf fa))), (k6, .inl (cI, 6, .inl (nIf K))), (k7, .inl (cI, 6, .inl (nIf G))), (k8, .inl (cI, 6, .inl (nIf T))), (k12, .inl (cI, 7, .inl (nIf kw1_57))), (k13, .inl (cI, 175, .inl (nIf kn1_58))), (k14, .inl (cI, 144, .inl (mIf M1_59))), (k15, .inl (cI, 7, .inl (nIf mw1_60))), (k10, .inl (cI, 7, .inl (nIf R)))]
      have hkw2 := hkw1_61
      have hkn2 := hkn1_62
      have hM2 := hM1_63
      have hone9 := True.intro
      refine v_iret zC zT dX5_quarrels_30  ?_
      first | (have g9 := hone9; exact ⟨_, _, _, _, 0, _, by unfold q_quarrels; rw [hi_w]; dsimp only; rw [if_neg (show ¬ jw = 1 by omega)], hkw2, hkn2, hM2, rfl, rfl⟩) | (have g9 := hn_w; exact ⟨kw, kn, M, mw, 2, _, by unfold q_quarrels; rw [hn_w], hkw, hkn, hM, rfl, rfl⟩) | exact ⟨_, _, _, _, 0, _, by unfold q_quarrels; rw [hi_w]; dsimp only; rw [if_pos (show jw = 1 by omega), ← hBp]; rfl, hkw2, hkn2, hM2, rfl, rfl⟩
set_option maxRecDepth 100000 in
set_option maxHeartbeats 4000000 in
theorem c_X5_needed (l : Launch) (D : va_G) (cI : ClassId) (r0 k1 k2 k3 k4 k6 k7 k8 k10 k12 k13 k14 k15 k16 k21 k22 k23 k24 k25 k30 k31 k33 : Nat) (n m ls ap sq pl tz rs : Nat) (bd pd tk : Bool) (kv : Value) (sd : Int32) (ki op fa K G T : Nat → Nat) (sh : Nat) (kw kn : Nat → Nat) (M : Nat → Option Nat) (mw : Nat → Nat) (hw : FW n m sh ki op fa K G T) (hkw : ∀ z, kw z < 1024) (hkn : ∀ z, kn z < 1024) (hM : ∀ z v, M z = some v → v < 7) : CT l yX5_needed cX5_needed 4 (some .int) { frames := 7, cells := 0, slots := 0, locals := 158 } D cI [.ref r0] [(r0, .inr (5, [.int (nI n), .ref k1, .ref k2, .ref k3, .ref k4, .int (nI m), .ref k6, .ref k7, .ref k8, .int (nI 0), .ref k10, .int (nI 0), .ref k12, .ref k13, .ref k14, .ref k15, .ref k16, .int (nI ls), .int (nI ap), .int (bz bd), .int (nI sq), .ref k21, .ref k22, .ref k23, .ref k24, .ref k25, .int (bz pd), .int (nI pl), .int (bz tk), kv, .ref k30, .ref k31, .int (nI tz), .ref k33, .int (nI rs), .int sd])), (k1, .inl (cI, 7, .inl (nIf ki))), (k2, .inl (cI, 7, .inl (nIf op))), (k3, .inl (cI, 7, .inl (nIf (shF sh)))), (k4, .inl (cI, 7, .inl (nIf fa))), (k6, .inl (cI, 6, .inl (nIf K))), (k7, .inl (cI, 6, .inl (nIf G))), (k8, .inl (cI, 6, .inl (nIf T))), (k12, .inl (cI, 7, .inl (nIf kw))), (k13, .inl (cI, 175, .inl (nIf kn))), (k14, .inl (cI, 144, .inl (mIf M))), (k15, .inl (cI, 7, .inl (nIf mw)))] (fun zr zw => (∃ kw1 : Nat → Nat, ∃ kn1 : Nat → Nat, ∃ M1 : Nat → Option Nat, ∃ mw1 : Nat → Nat, (∀ z, kw1 z < 1024) ∧ (∀ z, kn1 z < 1024) ∧ (∀ z v, M1 z = some v → v < 7) ∧ zr = some (.int (nI (NEED (n, m, sh, 0, ki, op, fa, K, G, T)))) ∧ zw = [(r0, .inr (5, [.int (nI n), .ref k1, .ref k2, .ref k3, .ref k4, .int (nI m), .ref k6, .ref k7, .ref k8, .int (nI 0), .ref k10, .int (nI 0), .ref k12, .ref k13, .ref k14, .ref k15, .ref k16, .int (nI ls), .int (nI ap), .int (bz bd), .int (nI sq), .ref k21, .ref k22, .ref k23, .ref k24, .ref k25, .int (bz pd), .int (nI pl), .int (bz tk), kv, .ref k30, .ref k31, .int (nI tz), .ref k33, .int (nI rs), .int sd])), (k1, .inl (cI, 7, .inl (nIf ki))), (k2, .inl (cI, 7, .inl (nIf op))), (k3, .inl (cI, 7, .inl (nIf (shF sh)))), (k4, .inl (cI, 7, .inl (nIf fa))), (k6, .inl (cI, 6, .inl (nIf K))), (k7, .inl (cI, 6, .inl (nIf G))), (k8, .inl (cI, 6, .inl (nIf T))), (k12, .inl (cI, 7, .inl (nIf kw1))), (k13, .inl (cI, 175, .inl (nIf kn1))), (k14, .inl (cI, 144, .inl (mIf M1))), (k15, .inl (cI, 7, .inl (nIf mw1)))])) := by
  refine CT_of RX5 rfl (by decide +kernel) (Nat.le_of_ble_eq_true rfl) (fun E hnE zC zT => ?_)
  have hA : ∀ q, (ev_s E).heap.size ≤ q → ev_A E q := fun q h => by rw [zT.2]; exact Or.inr h
  obtain ⟨hn, hm, hsh, hki, hop, hfa, hK, hG, hT, vki, vop, vfa, vK, vG, vT⟩ := id hw
  have h2n : 2 ^ n ≤ 2 ^ 7 := Nat.pow_le_pow_right (by decide) hn
  show VV E 0 0 0 [(0, .ref r0)] [] [(r0, .inr (5, [.int (nI n), .ref k1, .ref k2, .ref k3, .ref k4, .int (nI m), .ref k6, .ref k7, .ref k8, .int (nI 0), .ref k10, .int (nI 0), .ref k12, .ref k13, .ref k14, .ref k15, .ref k16, .int (nI ls), .int (nI ap), .int (bz bd), .int (nI sq), .ref k21, .ref k22, .ref k23, .ref k24, .ref k25, .int (bz pd), .int (nI pl), .int (bz tk), kv, .ref k30, .ref k31, .int (nI tz), .ref k33, .int (nI rs), .int sd])), (k1, .inl (cI, 7, .inl (nIf ki))), (k2, .inl (cI, 7, .inl (nIf op))), (k3, .inl (cI, 7, .inl (nIf (shF sh)))), (k4, .inl (cI, 7, .inl (nIf fa))), (k6, .inl (cI, 6, .inl (nIf K))), (k7, .inl (cI, 6, .inl (nIf G))), (k8, .inl (cI, 6, .inl (nIf T))), (k12, .inl (cI, 7, .inl (nIf kw))), (k13, .inl (cI, 175, .inl (nIf kn))), (k14, .inl (cI, 144, .inl (mIf M))), (k15, .inl (cI, 7, .inl (nIf mw)))]
  refine v_al_n 1 zC dX5_needed_0 0 rfl ?_
  refine v_ic (v := (nI 0)) 2 zC dX5_needed_1 (by decide +kernel) ?_
  refine v_pf (ws2 := [(r0, .inr (5, [.int (nI n), .ref k1, .ref k2, .ref k3, .ref k4, .int (nI m), .ref k6, .ref k7, .ref k8, .int (nI 0), .ref k10, .int (nI 0), .ref k12, .ref k13, .ref k14, .ref k15, .ref k16, .int (nI ls), .int (nI ap), .int (bz bd), .int (nI sq), .ref k21, .ref k22, .ref k23, .ref k24, .ref k25, .int (bz pd), .int (nI pl), .int (bz tk), kv, .ref k30, .ref k31, .int (nI tz), .ref k33, .int (nI rs), .int sd])), (k1, .inl (cI, 7, .inl (nIf ki))), (k2, .inl (cI, 7, .inl (nIf op))), (k3, .inl (cI, 7, .inl (nIf (shF sh)))), (k4, .inl (cI, 7, .inl (nIf fa))), (k6, .inl (cI, 6, .inl (nIf K))), (k7, .inl (cI, 6, .inl (nIf G))), (k8, .inl (cI, 6, .inl (nIf T))), (k12, .inl (cI, 7, .inl (nIf kw))), (k13, .inl (cI, 175, .inl (nIf kn))), (k14, .inl (cI, 144, .inl (mIf M))), (k15, .inl (cI, 7, .inl (nIf mw)))]) 5 0 zC dX5_needed_2 pf_X5_73 rfl (Nat.le_of_ble_eq_true rfl) rfl rfl rfl ?_
  refine v_al_n 6 zC dX5_needed_5 0 rfl ?_
  refine v_cV (As := []) (st := []) 9 0 [0, 1, 2, 3, 4, 5, 6, 7, 8, 9, 10, 11] zC dX5_needed_6 hA (c_X5_allNow (ev_l E) (ev_D E) cI (r0 := r0) (k1 := k1) (k2 := k2) (k3 := k3) (k4 := k4) (k6 := k6) (k7 := k7) (k8 := k8) (k10 := k10) (k12 := k12) (k13 := k13) (k14 := k14) (k15 := k15) (k16 := k16) (k21 := k21) (k22 := k22) (k23 := k23) (k24 := k24) (k25 := k25) (k30 := k30) (k31 := k31) (k33 := k33) (n := n) (m := m) (aw := 0) (ls := ls) (ap := ap) (sq := sq) (pl := pl) (tz := tz) (rs := rs) (bd := bd) (pd := pd) (tk := tk) (kv := kv) (sd := sd) (ki := ki) (op := op) (fa := fa) (K := K) (G := G) (T := T) (sh := sh) (kw := kw) (kn := kn) (M := M) (mw := mw) (hw := (by first | omega | assumption | rfl | (simp only []; omega) | decide)) (hkw := (by first | omega | assumption | rfl | (simp only []; omega) | decide)) (hkn := (by first | omega | assumption | rfl | (simp only []; omega) | decide)) (hM := (by first | omega | assumption | rfl | (simp only []; omega) | decide))) cf_X5_allNow lk_X5_245 rfl rfl rfl rfl rfl (by decide +kernel) (Nat.le_of_ble_eq_true rfl) (fun rv_1 wv_2 hp_3 hm_4 => ?_)
  clear hm_4
  obtain ⟨kw1_5, kn1_6, M1_7, mw1_8, hR_9, hl_10, rfl, rfl⟩ := hp_3
  show VV E 0 0 9 [(0, .ref r0)] [.int (nI (ALL (n, m, sh, 0, ki, op, fa, K, G, T)))] [(r0, .inr (5, [.int (nI n), .ref k1, .ref k2, .ref k3, .ref k4, .int (nI m), .ref k6, .ref k7, .ref k8, .int (nI 0), .ref k10, .int (nI 0), .ref k12, .ref k13, .ref k14, .ref k15, .ref k16, .int (nI ls), .int (nI ap), .int (bz bd), .int (nI sq), .ref k21, .ref k22, .ref k23, .ref k24, .ref k25, .int (bz pd), .int (nI pl), .int (bz tk), kv, .ref k30, .ref k31, .int (nI tz), .ref k33, .int (nI rs), .int sd])), (k1, .inl (cI, 7, .inl (nIf ki))), (k2, .inl (cI, 7, .inl (nIf op))), (k3, .inl (cI, 7, .inl (nIf (shF sh)))), (k4, .inl (cI, 7, .inl (nIf fa))), (k6, .inl (cI, 6, .inl (nIf K))), (k7, .inl (cI, 6, .inl (nIf G))), (k8, .inl (cI, 6, .inl (nIf T))), (k12, .inl (cI, 7, .inl (nIf kw1_5))), (k13, .inl (cI, 175, .inl (nIf kn1_6))), (k14, .inl (cI, 144, .inl (mIf M1_7))), (k15, .inl (cI, 7, .inl (nIf mw1_8)))]
  have hR9 := hR_9
  have hl0 := hl_10
  refine v_is_n (lv2 := [(1, .int (nI (ALL (n, m, sh, 0, ki, op, fa, K, G, T)))), (0, .ref r0)]) 10 zC dX5_needed_9 (by rw [hnE]; decide) rfl ?_
  refine v_ic (v := (nI 0)) 11 zC dX5_needed_10 (by decide +kernel) ?_
  refine v_is_n (lv2 := [(2, .int (nI 0)), (1, .int (nI (ALL (n, m, sh, 0, ki, op, fa, K, G, T)))), (0, .ref r0)]) 12 zC dX5_needed_11 (by rw [hnE]; decide) rfl ?_
  refine v_ic (v := (nI 0)) 13 zC dX5_needed_12 (by decide +kernel) ?_
  refine v_is_n (lv2 := [(3, .int (nI 0)), (2, .int (nI 0)), (1, .int (nI (ALL (n, m, sh, 0, ki, op, fa, K, G, T)))), (0, .ref r0)]) 14 zC dX5_needed_13 (by rw [hnE]; decide) rfl ?_
  have lp14 : ∀ (mz : Nat) (kw2 : Nat → Nat) (kn2 : Nat → Nat) (M2 : Nat → Option Nat) (mw2 : Nat → Nat) (w1 : Nat) (x : Nat) (d : Nat), (∀ z, kw2 z < 1024) → (∀ z, kn2 z < 1024) → (∀ z v, M2 z = some v → v < 7) → (x = mkn (fun d => decide (ALL (waw (n, m, sh, 0, ki, op, fa, K, G, T) (2 ^ d)) < ALL (n, m, sh, 0, ki, op, fa, K, G, T))) d) → (d ≤ m) → m - d = mz → VV E 0 0 14 [(3, .int (nI d)), (2, .int (nI x)), (1, .int (nI (ALL (n, m, sh, 0, ki, op, fa, K, G, T)))), (0, .ref r0)] [] [(r0, .inr (5, [.int (nI n), .ref k1, .ref k2, .ref k3, .ref k4, .int (nI m), .ref k6, .ref k7, .ref k8, .int (nI 0), .ref k10, .int (nI w1), .ref k12, .ref k13, .ref k14, .ref k15, .ref k16, .int (nI ls), .int (nI ap), .int (bz bd), .int (nI sq), .ref k21, .ref k22, .ref k23, .ref k24, .ref k25, .int (bz pd), .int (nI pl), .int (bz tk), kv, .ref k30, .ref k31, .int (nI tz), .ref k33, .int (nI rs), .int sd])), (k1, .inl (cI, 7, .inl (nIf ki))), (k2, .inl (cI, 7, .inl (nIf op))), (k3, .inl (cI, 7, .inl (nIf (shF sh)))), (k4, .inl (cI, 7, .inl (nIf fa))), (k6, .inl (cI, 6, .inl (nIf K))), (k7, .inl (cI, 6, .inl (nIf G))), (k8, .inl (cI, 6, .inl (nIf T))), (k12, .inl (cI, 7, .inl (nIf kw2))), (k13, .inl (cI, 175, .inl (nIf kn2))), (k14, .inl (cI, 144, .inl (mIf M2))), (k15, .inl (cI, 7, .inl (nIf mw2)))] := by
    intro mz
    induction mz using Nat.strongRecOn with
    | _ mz ih14 =>
    intro kw2 kn2 M2 mw2 w1 x d hkw2 hkn2 hM2 hx hd hm14
    refine v_il_n 15 zC dX5_needed_14 0 rfl ?_
    refine v_al_n 16 zC dX5_needed_15 3 rfl ?_
    refine v_gf 19 0 zC dX5_needed_16 gf_X5_84 rfl rfl ?_
    refine v_icmpn_ge 53 22 zC dX5_needed_19 (fun h_11 => ?_) (fun h_11 => ?_)
    ·
      refine v_al_n 54 zC dX5_needed_53 3 rfl ?_
      refine v_ic (v := (nI 0)) 55 zC dX5_needed_54 (by decide +kernel) ?_
      refine v_pf (ws2 := [(r0, .inr (5, [.int (nI n), .ref k1, .ref k2, .ref k3, .ref k4, .int (nI m), .ref k6, .ref k7, .ref k8, .int (nI 0), .ref k10, .int (nI 0), .ref k12, .ref k13, .ref k14, .ref k15, .ref k16, .int (nI ls), .int (nI ap), .int (bz bd), .int (nI sq), .ref k21, .ref k22, .ref k23, .ref k24, .ref k25, .int (bz pd), .int (nI pl), .int (bz tk), kv, .ref k30, .ref k31, .int (nI tz), .ref k33, .int (nI rs), .int sd])), (k1, .inl (cI, 7, .inl (nIf ki))), (k2, .inl (cI, 7, .inl (nIf op))), (k3, .inl (cI, 7, .inl (nIf (shF sh)))), (k4, .inl (cI, 7, .inl (nIf fa))), (k6, .inl (cI, 6, .inl (nIf K))), (k7, .inl (cI, 6, .inl (nIf G))), (k8, .inl (cI, 6, .inl (nIf T))), (k12, .inl (cI, 7, .inl (nIf kw2))), (k13, .inl (cI, 175, .inl (nIf kn2))), (k14, .inl (cI, 144, .inl (mIf M2))), (k15, .inl (cI, 7, .inl (nIf mw2)))]) 58 0 zC dX5_needed_55 pf_X5_109 rfl (Nat.le_of_ble_eq_true rfl) rfl rfl rfl ?_
      refine v_il_n 59 zC dX5_needed_58 1 rfl ?_
      refine v_iret zC zT dX5_needed_59  ?_
      exact ⟨_, _, _, _, hkw2, hkn2, hM2, sn (by rw [hx, show d = m by omega]; rfl), rfl⟩
    ·
      refine v_al_n 23 zC dX5_needed_22 3 rfl ?_
      refine v_ic (v := (nI 1)) 24 zC dX5_needed_23 (by decide +kernel) ?_
      refine v_il_n 25 zC dX5_needed_24 0 rfl ?_
      refine v_ishl (v := (nI (2 ^ d))) 26 zC dX5_needed_25 (b1n (by omega)) ?_
      refine v_pf (ws2 := [(r0, .inr (5, [.int (nI n), .ref k1, .ref k2, .ref k3, .ref k4, .int (nI m), .ref k6, .ref k7, .ref k8, .int (nI 0), .ref k10, .int (nI (2 ^ d)), .ref k12, .ref k13, .ref k14, .ref k15, .ref k16, .int (nI ls), .int (nI ap), .int (bz bd), .int (nI sq), .ref k21, .ref k22, .ref k23, .ref k24, .ref k25, .int (bz pd), .int (nI pl), .int (bz tk), kv, .ref k30, .ref k31, .int (nI tz), .ref k33, .int (nI rs), .int sd])), (k1, .inl (cI, 7, .inl (nIf ki))), (k2, .inl (cI, 7, .inl (nIf op))), (k3, .inl (cI, 7, .inl (nIf (shF sh)))), (k4, .inl (cI, 7, .inl (nIf fa))), (k6, .inl (cI, 6, .inl (nIf K))), (k7, .inl (cI, 6, .inl (nIf G))), (k8, .inl (cI, 6, .inl (nIf T))), (k12, .inl (cI, 7, .inl (nIf kw2))), (k13, .inl (cI, 175, .inl (nIf kn2))), (k14, .inl (cI, 144, .inl (mIf M2))), (k15, .inl (cI, 7, .inl (nIf mw2)))]) 29 0 zC dX5_needed_26 pf_X5_109 rfl (Nat.le_of_ble_eq_true rfl) rfl rfl rfl ?_
      refine v_il_n 30 zC dX5_needed_29 1 rfl ?_
      refine v_al_n 31 zC dX5_needed_30 3 rfl ?_
      refine v_cV (As := []) (st := [.int (nI x)]) 34 0 [0, 1, 2, 3, 4, 5, 6, 7, 8, 9, 10, 11] zC dX5_needed_31 hA (c_X5_allNow (ev_l E) (ev_D E) cI (r0 := r0) (k1 := k1) (k2 := k2) (k3 := k3) (k4 := k4) (k6 := k6) (k7 := k7) (k8 := k8) (k10 := k10) (k12 := k12) (k13 := k13) (k14 := k14) (k15 := k15) (k16 := k16) (k21 := k21) (k22 := k22) (k23 := k23) (k24 := k24) (k25 := k25) (k30 := k30) (k31 := k31) (k33 := k33) (n := n) (m := m) (aw := (2 ^ d)) (ls := ls) (ap := ap) (sq := sq) (pl := pl) (tz := tz) (rs := rs) (bd := bd) (pd := pd) (tk := tk) (kv := kv) (sd := sd) (ki := ki) (op := op) (fa := fa) (K := K) (G := G) (T := T) (sh := sh) (kw := kw2) (kn := kn2) (M := M2) (mw := mw2) (hw := hw) (hkw := hkw2) (hkn := hkn2) (hM := hM2)) cf_X5_allNow lk_X5_245 rfl rfl rfl rfl rfl (by decide +kernel) (Nat.le_of_ble_eq_true rfl) (fun rv_12 wv_13 hp_14 hm_15 => ?_)
      clear hm_15
      obtain ⟨kw1_16, kn1_17, M1_18, mw1_19, hR_20, hl_21, rfl, rfl⟩ := hp_14
      show VV E 0 0 34 [(3, .int (nI d)), (2, .int (nI x)), (1, .int (nI (ALL (n, m, sh, 0, ki, op, fa, K, G, T)))), (0, .ref r0)] [.int (nI (ALL (n, m, sh, (2 ^ d), ki, op, fa, K, G, T))), .int (nI x)] [(r0, .inr (5, [.int (nI n), .ref k1, .ref k2, .ref k3, .ref k4, .int (nI m), .ref k6, .ref k7, .ref k8, .int (nI 0), .ref k10, .int (nI (2 ^ d)), .ref k12, .ref k13, .ref k14, .ref k15, .ref k16, .int (nI ls), .int (nI ap), .int (bz bd), .int (nI sq), .ref k21, .ref k22, .ref k23, .ref k24, .ref k25, .int (bz pd), .int (nI pl), .int (bz tk), kv, .ref k30, .ref k31, .int (nI tz), .ref k33, .int (nI rs), .int sd])), (k1, .inl (cI, 7, .inl (nIf ki))), (k2, .inl (cI, 7, .inl (nIf op))), (k3, .inl (cI, 7, .inl (nIf (shF sh)))), (k4, .inl (cI, 7, .inl (nIf fa))), (k6, .inl (cI, 6, .inl (nIf K))), (k7, .inl (cI, 6, .inl (nIf G))), (k8, .inl (cI, 6, .inl (nIf T))), (k12, .inl (cI, 7, .inl (nIf kw1_16))), (k13, .inl (cI, 175, .inl (nIf kn1_17))), (k14, .inl (cI, 144, .inl (mIf M1_18))), (k15, .inl (cI, 7, .inl (nIf mw1_19)))]
      have hR9 := hR_20
      have hl9 := hl_21
      refine v_il_n 35 zC dX5_needed_34 2 rfl ?_
      refine v_icmpn_ge 44 38 zC dX5_needed_35 (fun h_22 => ?_) (fun h_22 => ?_)
      ·
        have hv9 : (fun d => decide (ALL (waw (n, m, sh, 0, ki, op, fa, K, G, T) (2 ^ d)) < ALL (n, m, sh, 0, ki, op, fa, K, G, T))) d = false := decide_eq_false (Nat.not_lt.mpr h_22)
        refine v_ic (v := (nI 0)) 45 zC dX5_needed_44 (by decide +kernel) ?_
        refine v_ior (v := (nI x)) 46 zC dX5_needed_45 (by rw [fa_or, Nat.or_zero]) ?_
        refine v_is_n (lv2 := [(2, .int (nI x)), (3, .int (nI d)), (1, .int (nI (ALL (n, m, sh, 0, ki, op, fa, K, G, T)))), (0, .ref r0)]) 47 zC dX5_needed_46 (by rw [hnE]; decide) rfl ?_
        refine v_inc (v := (nI (d + 1))) (lv2 := [(3, .int (nI (d + 1))), (2, .int (nI x)), (1, .int (nI (ALL (n, m, sh, 0, ki, op, fa, K, G, T)))), (0, .ref r0)]) 50 zC dX5_needed_47 (j := 1) rfl (nI_add _ 1) (by rw [hnE]; decide) rfl ?_
        refine v_goto 14 zC dX5_needed_50 ?_
        refine v_lvs (lv2 := [(3, .int (nI (d + 1))), (2, .int (nI x)), (1, .int (nI (ALL (n, m, sh, 0, ki, op, fa, K, G, T)))), (0, .ref r0)]) [0, 1, 2, 3] rfl ?_
        exact ih14 _ (by omega) kw1_16 kn1_17 M1_18 mw1_19 (2 ^ d) x (d + 1) (by first | exact hR9.2.2.2.1 | exact hkw2) (by first | exact hR9.2.2.2.2.1 | exact hkn2) (by first | exact hR9.2.2.2.2.2 | exact hM2) (by first | (rw [hx]; exact (mkn_1 hu9).symm) | (rw [hx]; exact (mkn_0 hv9).symm)) (by first | omega | assumption | rfl | (simp only []; omega) | decide) rfl
      ·
        have hu9 : (fun d => decide (ALL (waw (n, m, sh, 0, ki, op, fa, K, G, T) (2 ^ d)) < ALL (n, m, sh, 0, ki, op, fa, K, G, T))) d = true := decide_eq_true h_22
        refine v_ic (v := (nI 1)) 39 zC dX5_needed_38 (by decide +kernel) ?_
        refine v_il_n 40 zC dX5_needed_39 0 rfl ?_
        refine v_ishl (v := (nI (2 ^ d))) 41 zC dX5_needed_40 (b1n (by omega)) ?_
        refine v_goto 45 zC dX5_needed_41 ?_
        refine v_ior (v := (nI (x ||| (2 ^ d)))) 46 zC dX5_needed_45 (fa_or _ _) ?_
        refine v_is_n (lv2 := [(2, .int (nI (x ||| (2 ^ d)))), (3, .int (nI d)), (1, .int (nI (ALL (n, m, sh, 0, ki, op, fa, K, G, T)))), (0, .ref r0)]) 47 zC dX5_needed_46 (by rw [hnE]; decide) rfl ?_
        refine v_inc (v := (nI (d + 1))) (lv2 := [(3, .int (nI (d + 1))), (2, .int (nI (x ||| (2 ^ d)))), (1, .int (nI (ALL (n, m, sh, 0, ki, op, fa, K, G, T)))), (0, .ref r0)]) 50 zC dX5_needed_47 (j := 1) rfl (nI_add _ 1) (by rw [hnE]; decide) rfl ?_
        refine v_goto 14 zC dX5_needed_50 ?_
        refine v_lvs (lv2 := [(3, .int (nI (d + 1))), (2, .int (nI (x ||| (2 ^ d)))), (1, .int (nI (ALL (n, m, sh, 0, ki, op, fa, K, G, T)))), (0, .ref r0)]) [0, 1, 2, 3] rfl ?_
        exact ih14 _ (by omega) kw1_16 kn1_17 M1_18 mw1_19 (2 ^ d) (x ||| (2 ^ d)) (d + 1) (by first | exact hR9.2.2.2.1 | exact hkw2) (by first | exact hR9.2.2.2.2.1 | exact hkn2) (by first | exact hR9.2.2.2.2.2 | exact hM2) (by first | (rw [hx]; exact (mkn_1 hu9).symm) | (rw [hx]; exact (mkn_0 hv9).symm)) (by first | omega | assumption | rfl | (simp only []; omega) | decide) rfl
  refine v_lvs (lv2 := [(3, .int (nI 0)), (2, .int (nI 0)), (1, .int (nI (ALL (n, m, sh, 0, ki, op, fa, K, G, T)))), (0, .ref r0)]) [0, 1, 2, 3] rfl ?_
  exact lp14 _ kw1_5 kn1_6 M1_7 mw1_8 0 0 0 (by first | exact hR9.2.2.2.1 | exact hkw) (by first | exact hR9.2.2.2.2.1 | exact hkn) (by first | exact hR9.2.2.2.2.2 | exact hM) rfl (by first | omega | assumption | rfl | (simp only []; omega) | decide) rfl
set_option maxRecDepth 100000 in
set_option maxHeartbeats 4000000 in
theorem c_X5_key (l : Launch) (D : va_G) (cI : ClassId) (r0 k1 k2 k3 k4 k6 k7 k8 k10 k12 k13 k14 k15 k16 k21 k22 k23 k24 k25 k30 k31 k33 : Nat) (n m ls ap sq pl tz rs : Nat) (bd pd tk : Bool) (kv : Value) (sd : Int32) (ki op fa K G T : Nat → Nat) (sh : Nat) (kw kn : Nat → Nat) (M : Nat → Option Nat) (mw : Nat → Nat) (kp : Nat → Nat) (hw : FW n m sh ki op fa K G T) (hkw : ∀ z, kw z < 1024) (hkn : ∀ z, kn z < 1024) (hM : ∀ z v, M z = some v → v < 7) : CT l yX5_key cX5_key 5 (some .int) { frames := 7, cells := 0, slots := 0, locals := 158 } D cI [.ref r0] [(r0, .inr (5, [.int (nI n), .ref k1, .ref k2, .ref k3, .ref k4, .int (nI m), .ref k6, .ref k7, .ref k8, .int (nI 0), .ref k10, .int (nI 0), .ref k12, .ref k13, .ref k14, .ref k15, .ref k16, .int (nI ls), .int (nI ap), .int (bz bd), .int (nI sq), .ref k21, .ref k22, .ref k23, .ref k24, .ref k25, .int (bz pd), .int (nI pl), .int (bz tk), kv, .ref k30, .ref k31, .int (nI tz), .ref k33, .int (nI rs), .int sd])), (k1, .inl (cI, 7, .inl (nIf ki))), (k2, .inl (cI, 7, .inl (nIf op))), (k3, .inl (cI, 7, .inl (nIf (shF sh)))), (k4, .inl (cI, 7, .inl (nIf fa))), (k6, .inl (cI, 6, .inl (nIf K))), (k7, .inl (cI, 6, .inl (nIf G))), (k8, .inl (cI, 6, .inl (nIf T))), (k12, .inl (cI, 7, .inl (nIf kw))), (k13, .inl (cI, 175, .inl (nIf kn))), (k14, .inl (cI, 144, .inl (mIf M))), (k15, .inl (cI, 7, .inl (nIf mw))), (k24, .inl (cI, 48, .inl (nIf kp)))] (fun zr zw => (∃ kw1 : Nat → Nat, ∃ kn1 : Nat → Nat, ∃ M1 : Nat → Option Nat, ∃ mw1 : Nat → Nat, ∃ kp1 : Nat → Nat, ∃ pl1 : Nat, ∃ tk1 : Bool, ∃ kv1 : Value, (∀ z, kw1 z < 1024) ∧ (∀ z, kn1 z < 1024) ∧ (∀ z v, M1 z = some v → v < 7) ∧ zr = some (.int (nI (KEY (n, m, sh, 0, ki, op, fa, K, G, T)))) ∧ zw = [(r0, .inr (5, [.int (nI n), .ref k1, .ref k2, .ref k3, .ref k4, .int (nI m), .ref k6, .ref k7, .ref k8, .int (nI 0), .ref k10, .int (nI 0), .ref k12, .ref k13, .ref k14, .ref k15, .ref k16, .int (nI ls), .int (nI ap), .int (bz bd), .int (nI sq), .ref k21, .ref k22, .ref k23, .ref k24, .ref k25, .int (bz pd), .int (nI pl1), .int (bz tk1), kv1, .ref k30, .ref k31, .int (nI tz), .ref k33, .int (nI rs), .int sd])), (k1, .inl (cI, 7, .inl (nIf ki))), (k2, .inl (cI, 7, .inl (nIf op))), (k3, .inl (cI, 7, .inl (nIf (shF sh)))), (k4, .inl (cI, 7, .inl (nIf fa))), (k6, .inl (cI, 6, .inl (nIf K))), (k7, .inl (cI, 6, .inl (nIf G))), (k8, .inl (cI, 6, .inl (nIf T))), (k12, .inl (cI, 7, .inl (nIf kw1))), (k13, .inl (cI, 175, .inl (nIf kn1))), (k14, .inl (cI, 144, .inl (mIf M1))), (k15, .inl (cI, 7, .inl (nIf mw1))), (k24, .inl (cI, 48, .inl (nIf kp1)))])) := by
  refine CT_of RX5 rfl (by decide +kernel) (Nat.le_of_ble_eq_true rfl) (fun E hnE zC zT => ?_)
  have hA : ∀ q, (ev_s E).heap.size ≤ q → ev_A E q := fun q h => by rw [zT.2]; exact Or.inr h
  obtain ⟨hn, hm, hsh, hki, hop, hfa, hK, hG, hT, vki, vop, vfa, vK, vG, vT⟩ := id hw
  have h2n : 2 ^ n ≤ 2 ^ 7 := Nat.pow_le_pow_right (by decide) hn
  show VV E 0 0 0 [(0, .ref r0)] [] [(r0, .inr (5, [.int (nI n), .ref k1, .ref k2, .ref k3, .ref k4, .int (nI m), .ref k6, .ref k7, .ref k8, .int (nI 0), .ref k10, .int (nI 0), .ref k12, .ref k13, .ref k14, .ref k15, .ref k16, .int (nI ls), .int (nI ap), .int (bz bd), .int (nI sq), .ref k21, .ref k22, .ref k23, .ref k24, .ref k25, .int (bz pd), .int (nI pl), .int (bz tk), kv, .ref k30, .ref k31, .int (nI tz), .ref k33, .int (nI rs), .int sd])), (k1, .inl (cI, 7, .inl (nIf ki))), (k2, .inl (cI, 7, .inl (nIf op))), (k3, .inl (cI, 7, .inl (nIf (shF sh)))), (k4, .inl (cI, 7, .inl (nIf fa))), (k6, .inl (cI, 6, .inl (nIf K))), (k7, .inl (cI, 6, .inl (nIf G))), (k8, .inl (cI, 6, .inl (nIf T))), (k12, .inl (cI, 7, .inl (nIf kw))), (k13, .inl (cI, 175, .inl (nIf kn))), (k14, .inl (cI, 144, .inl (mIf M))), (k15, .inl (cI, 7, .inl (nIf mw))), (k24, .inl (cI, 48, .inl (nIf kp)))]
  refine v_al_n 1 zC dX5_key_0 0 rfl ?_
  refine v_ic (v := (nI 0)) 2 zC dX5_key_1 (by decide +kernel) ?_
  refine v_pf (ws2 := [(r0, .inr (5, [.int (nI n), .ref k1, .ref k2, .ref k3, .ref k4, .int (nI m), .ref k6, .ref k7, .ref k8, .int (nI 0), .ref k10, .int (nI 0), .ref k12, .ref k13, .ref k14, .ref k15, .ref k16, .int (nI ls), .int (nI ap), .int (bz bd), .int (nI sq), .ref k21, .ref k22, .ref k23, .ref k24, .ref k25, .int (bz pd), .int (nI pl), .int (bz tk), kv, .ref k30, .ref k31, .int (nI tz), .ref k33, .int (nI rs), .int sd])), (k1, .inl (cI, 7, .inl (nIf ki))), (k2, .inl (cI, 7, .inl (nIf op))), (k3, .inl (cI, 7, .inl (nIf (shF sh)))), (k4, .inl (cI, 7, .inl (nIf fa))), (k6, .inl (cI, 6, .inl (nIf K))), (k7, .inl (cI, 6, .inl (nIf G))), (k8, .inl (cI, 6, .inl (nIf T))), (k12, .inl (cI, 7, .inl (nIf kw))), (k13, .inl (cI, 175, .inl (nIf kn))), (k14, .inl (cI, 144, .inl (mIf M))), (k15, .inl (cI, 7, .inl (nIf mw))), (k24, .inl (cI, 48, .inl (nIf kp)))]) 5 0 zC dX5_key_2 pf_X5_73 rfl (Nat.le_of_ble_eq_true rfl) rfl rfl rfl ?_
  refine v_ic (v := (nI 0)) 6 zC dX5_key_5 (by decide +kernel) ?_
  refine v_is_n (lv2 := [(1, .int (nI 0)), (0, .ref r0)]) 7 zC dX5_key_6 (by rw [hnE]; decide) rfl ?_
  refine v_ic (v := (-1)) 8 zC dX5_key_7 (by decide +kernel) ?_
  refine v_is_n (lv2 := [(2, .int (-1)), (1, .int (nI 0)), (0, .ref r0)]) 9 zC dX5_key_8 (by rw [hnE]; decide) rfl ?_
  refine v_al_n 10 zC dX5_key_9 2 rfl ?_
  refine v_cV (As := []) (st := []) 13 0 [0, 1, 2, 3, 4, 5, 6, 7, 12] zC dX5_key_10 hA (c_X5_think (ev_l E) (ev_D E) cI (r0 := r0) (k1 := k1) (k2 := k2) (k3 := k3) (k4 := k4) (k6 := k6) (k7 := k7) (k8 := k8) (k10 := k10) (k12 := k12) (k13 := k13) (k14 := k14) (k15 := k15) (k16 := k16) (k21 := k21) (k22 := k22) (k23 := k23) (k24 := k24) (k25 := k25) (k30 := k30) (k31 := k31) (k33 := k33) (n := n) (m := m) (aw := 0) (ls := ls) (ap := ap) (sq := sq) (pl := pl) (tz := tz) (rs := rs) (bd := bd) (pd := pd) (tk := tk) (kv := kv) (sd := sd) (ki := ki) (op := op) (fa := fa) (K := K) (G := G) (T := T) (sh := sh) (kp := kp) ) cf_X5_think lk_X5_254 rfl rfl rfl rfl rfl (by decide +kernel) (Nat.le_of_ble_eq_true rfl) (fun rv_1 wv_2 hp_3 hm_4 => ?_)
  clear hm_4
  obtain ⟨kp1_5, hE_6, rfl, rfl⟩ := hp_3
  show VV E 0 0 13 [(2, .int (-1)), (1, .int (nI 0)), (0, .ref r0)] [] [(r0, .inr (5, [.int (nI n), .ref k1, .ref k2, .ref k3, .ref k4, .int (nI m), .ref k6, .ref k7, .ref k8, .int (nI 0), .ref k10, .int (nI 0), .ref k12, .ref k13, .ref k14, .ref k15, .ref k16, .int (nI ls), .int (nI ap), .int (bz bd), .int (nI sq), .ref k21, .ref k22, .ref k23, .ref k24, .ref k25, .int (bz pd), .int (nI 48), .int (bz true), .ref k24, .ref k30, .ref k31, .int (nI tz), .ref k33, .int (nI rs), .int sd])), (k1, .inl (cI, 7, .inl (nIf ki))), (k2, .inl (cI, 7, .inl (nIf op))), (k3, .inl (cI, 7, .inl (nIf (shF sh)))), (k4, .inl (cI, 7, .inl (nIf fa))), (k6, .inl (cI, 6, .inl (nIf K))), (k7, .inl (cI, 6, .inl (nIf G))), (k8, .inl (cI, 6, .inl (nIf T))), (k12, .inl (cI, 7, .inl (nIf kw))), (k13, .inl (cI, 175, .inl (nIf kn))), (k14, .inl (cI, 144, .inl (mIf M))), (k15, .inl (cI, 7, .inl (nIf mw))), (k24, .inl (cI, 48, .inl (nIf kp1_5)))]
  have hE9 := hE_6
  refine v_ic (v := (nI 0)) 14 zC dX5_key_13 (by decide +kernel) ?_
  refine v_is_n (lv2 := [(3, .int (nI 0)), (2, .int (-1)), (1, .int (nI 0)), (0, .ref r0)]) 15 zC dX5_key_14 (by rw [hnE]; decide) rfl ?_
  have lp15 : ∀ (mz : Nat) (kw2 : Nat → Nat) (kn2 : Nat → Nat) (M2 : Nat → Option Nat) (mw2 : Nat → Nat) (tk2 : Bool) (b : Nat) (U : Option Nat) (f : Nat), (∀ z, kw2 z < 1024) → (∀ z, kn2 z < 1024) → (∀ z v, M2 z = some v → v < 7) → ((b, U) = it (keyS (n, m, sh, 0, ki, op, fa, K, G, T)) (0, none) f) → (∀ v, U = some v → v ≤ 70) → (f ≤ 10) → (b ≤ 10) → 10 - f = mz → VV E 0 0 15 [(3, .int (nI f)), (2, .int (mJ U)), (1, .int (nI b)), (0, .ref r0)] [] [(r0, .inr (5, [.int (nI n), .ref k1, .ref k2, .ref k3, .ref k4, .int (nI m), .ref k6, .ref k7, .ref k8, .int (nI 0), .ref k10, .int (nI 0), .ref k12, .ref k13, .ref k14, .ref k15, .ref k16, .int (nI ls), .int (nI ap), .int (bz bd), .int (nI sq), .ref k21, .ref k22, .ref k23, .ref k24, .ref k25, .int (bz pd), .int (nI 48), .int (bz tk2), .ref k24, .ref k30, .ref k31, .int (nI tz), .ref k33, .int (nI rs), .int sd])), (k1, .inl (cI, 7, .inl (nIf ki))), (k2, .inl (cI, 7, .inl (nIf op))), (k3, .inl (cI, 7, .inl (nIf (shF sh)))), (k4, .inl (cI, 7, .inl (nIf fa))), (k6, .inl (cI, 6, .inl (nIf K))), (k7, .inl (cI, 6, .inl (nIf G))), (k8, .inl (cI, 6, .inl (nIf T))), (k12, .inl (cI, 7, .inl (nIf kw2))), (k13, .inl (cI, 175, .inl (nIf kn2))), (k14, .inl (cI, 144, .inl (mIf M2))), (k15, .inl (cI, 7, .inl (nIf mw2))), (k24, .inl (cI, 48, .inl (nIf kp1_5)))] := by
    intro mz
    induction mz using Nat.strongRecOn with
    | _ mz ih15 =>
    intro kw2 kn2 M2 mw2 tk2 b U f hkw2 hkn2 hM2 hs hU hf hbl hm15
    refine v_il_n 16 zC dX5_key_15 0 rfl ?_
    refine v_bp (v := (nI 10)) 18 zC dX5_key_16 (by decide +kernel) ?_
    refine v_icmpn_ge 93 21 zC dX5_key_18 (fun h_7 => ?_) (fun h_7 => ?_)
    ·
      refine v_il_n 94 zC dX5_key_93 2 rfl ?_
      refine v_iret zC zT dX5_key_94  ?_
      exact ⟨_, _, _, _, _, _, _, _, hkw2, hkn2, hM2, sn (by have e9 : f = 10 := (by omega); subst e9; exact congrArg Prod.fst hs), rfl⟩
    ·
      refine v_ic (v := (nI 0)) 22 zC dX5_key_21 (by decide +kernel) ?_
      refine v_is (lv2 := [(4, .int (nI 0)), (3, .int (nI f)), (2, .int (mJ U)), (1, .int (nI b)), (0, .ref r0)]) 24 zC dX5_key_22 (by rw [hnE]; decide) rfl ?_
      have lp24 : ∀ (mz : Nat) (F : Nat → Nat) (p : Nat), (∀ z, F z = if z < p then (fun z => fa z ||| 2 ^ f) z else fa z) → (∀ z, F z < 1024) → (VZ 7 F) → (p ≤ n) → n - p = mz → VV E 0 0 24 [(4, .int (nI p)), (3, .int (nI f)), (2, .int (mJ U)), (1, .int (nI b)), (0, .ref r0)] [] [(r0, .inr (5, [.int (nI n), .ref k1, .ref k2, .ref k3, .ref k4, .int (nI m), .ref k6, .ref k7, .ref k8, .int (nI 0), .ref k10, .int (nI 0), .ref k12, .ref k13, .ref k14, .ref k15, .ref k16, .int (nI ls), .int (nI ap), .int (bz bd), .int (nI sq), .ref k21, .ref k22, .ref k23, .ref k24, .ref k25, .int (bz pd), .int (nI 48), .int (bz tk2), .ref k24, .ref k30, .ref k31, .int (nI tz), .ref k33, .int (nI rs), .int sd])), (k1, .inl (cI, 7, .inl (nIf ki))), (k2, .inl (cI, 7, .inl (nIf op))), (k3, .inl (cI, 7, .inl (nIf (shF sh)))), (k4, .inl (cI, 7, .inl (nIf F))), (k6, .inl (cI, 6, .inl (nIf K))), (k7, .inl (cI, 6, .inl (nIf G))), (k8, .inl (cI, 6, .inl (nIf T))), (k12, .inl (cI, 7, .inl (nIf kw2))), (k13, .inl (cI, 175, .inl (nIf kn2))), (k14, .inl (cI, 144, .inl (mIf M2))), (k15, .inl (cI, 7, .inl (nIf mw2))), (k24, .inl (cI, 48, .inl (nIf kp1_5)))] := by
        intro mz
        induction mz using Nat.strongRecOn with
        | _ mz ih24 =>
        intro F p hF hFb hFv hp hm24
        refine v_il 26 zC dX5_key_24 0 rfl ?_
        refine v_al_n 27 zC dX5_key_26 4 rfl ?_
        refine v_gf 30 0 zC dX5_key_27 gf_X5_77 rfl rfl ?_
        refine v_icmpn_ge 52 33 zC dX5_key_30 (fun h_8 => ?_) (fun h_8 => ?_)
        ·
          refine v_al_n 53 zC dX5_key_52 4 rfl ?_
          have e9 : F = keF fa n f := tf_n hF (show p = n by omega)
          subst e9
          refine v_cV (As := []) (st := []) 56 0 [0, 1, 2, 3, 4, 5, 6, 7, 8, 9, 10, 11] zC dX5_key_53 hA (c_X5_allNow (ev_l E) (ev_D E) cI (r0 := r0) (k1 := k1) (k2 := k2) (k3 := k3) (k4 := k4) (k6 := k6) (k7 := k7) (k8 := k8) (k10 := k10) (k12 := k12) (k13 := k13) (k14 := k14) (k15 := k15) (k16 := k16) (k21 := k21) (k22 := k22) (k23 := k23) (k24 := k24) (k25 := k25) (k30 := k30) (k31 := k31) (k33 := k33) (n := n) (m := m) (aw := 0) (ls := ls) (ap := ap) (sq := sq) (pl := 48) (tz := tz) (rs := rs) (bd := bd) (pd := pd) (tk := tk2) (kv := (.ref k24 : Value)) (sd := sd) (ki := ki) (op := op) (fa := (keF fa n f)) (K := K) (G := G) (T := T) (sh := sh) (kw := kw2) (kn := kn2) (M := M2) (mw := mw2) (hw := ⟨hn, hm, hsh, hki, hop, hFb, hK, hG, hT, vki, vop, hFv, vK, vG, vT⟩) (hkw := hkw2) (hkn := hkn2) (hM := hM2)) cf_X5_allNow lk_X5_245 rfl rfl rfl rfl rfl (by decide +kernel) (Nat.le_of_ble_eq_true rfl) (fun rv_9 wv_10 hp_11 hm_12 => ?_)
          clear hm_12
          obtain ⟨kw1_13, kn1_14, M1_15, mw1_16, hR_17, hl_18, rfl, rfl⟩ := hp_11
          show VV E 0 0 56 [(4, .int (nI p)), (3, .int (nI f)), (2, .int (mJ U)), (1, .int (nI b)), (0, .ref r0)] [.int (nI (ALL (n, m, sh, 0, ki, op, (keF fa n f), K, G, T)))] [(r0, .inr (5, [.int (nI n), .ref k1, .ref k2, .ref k3, .ref k4, .int (nI m), .ref k6, .ref k7, .ref k8, .int (nI 0), .ref k10, .int (nI 0), .ref k12, .ref k13, .ref k14, .ref k15, .ref k16, .int (nI ls), .int (nI ap), .int (bz bd), .int (nI sq), .ref k21, .ref k22, .ref k23, .ref k24, .ref k25, .int (bz pd), .int (nI 48), .int (bz tk2), .ref k24, .ref k30, .ref k31, .int (nI tz), .ref k33, .int (nI rs), .int sd])), (k1, .inl (cI, 7, .inl (nIf ki))), (k2, .inl (cI, 7, .inl (nIf op))), (k3, .inl (cI, 7, .inl (nIf (shF sh)))), (k4, .inl (cI, 7, .inl (nIf (keF fa n f)))), (k6, .inl (cI, 6, .inl (nIf K))), (k7, .inl (cI, 6, .inl (nIf G))), (k8, .inl (cI, 6, .inl (nIf T))), (k12, .inl (cI, 7, .inl (nIf kw1_13))), (k13, .inl (cI, 175, .inl (nIf kn1_14))), (k14, .inl (cI, 144, .inl (mIf M1_15))), (k15, .inl (cI, 7, .inl (nIf mw1_16))), (k24, .inl (cI, 48, .inl (nIf kp1_5)))]
          have hR9 := hR_17
          have hl9 := hl_18
          refine v_is (lv2 := [(4, .int (nI (ALL (n, m, sh, 0, ki, op, (keF fa n f), K, G, T)))), (3, .int (nI f)), (2, .int (mJ U)), (1, .int (nI b)), (0, .ref r0)]) 58 zC dX5_key_56 (by rw [hnE]; decide) rfl ?_
          refine v_al_n 59 zC dX5_key_58 4 rfl ?_
          refine v_cV (As := []) (st := []) 62 0 [0, 1, 2, 3, 4, 5, 6, 7, 12] zC dX5_key_59 hA (c_X5_again (ev_l E) (ev_D E) cI (r0 := r0) (k1 := k1) (k2 := k2) (k3 := k3) (k4 := k4) (k6 := k6) (k7 := k7) (k8 := k8) (k10 := k10) (k12 := k12) (k13 := k13) (k14 := k14) (k15 := k15) (k16 := k16) (k21 := k21) (k22 := k22) (k23 := k23) (k24 := k24) (k25 := k25) (k30 := k30) (k31 := k31) (k33 := k33) (n := n) (m := m) (aw := 0) (ls := ls) (ap := ap) (sq := sq) (pl := 48) (tz := tz) (rs := rs) (bd := bd) (pd := pd) (tk := tk2) (kv := (.ref k24 : Value)) (sd := sd) (ki := ki) (op := op) (fa := (keF fa n f)) (K := K) (G := G) (T := T) (sh := sh) (kp := kp1_5) (n1 := n) (m1 := m) (sh1 := sh) (aw1 := 0) (ki1 := ki) (op1 := op) (fa1 := fa) (K1 := K) (G1 := G) (T1 := T) (hw := ⟨hn, hm, hsh, hki, hop, hFb, hK, hG, hT, vki, vop, hFv, vK, vG, vT⟩) (hw1 := hw) (hE := hE9)) cf_X5_again lk_X5_260 rfl rfl rfl rfl rfl (by decide +kernel) (Nat.le_of_ble_eq_true rfl) (fun rv_19 wv_20 hp_21 hm_22 => ?_)
          clear hm_22
          obtain ⟨rfl, rfl⟩ := hp_21
          show VV E 0 0 62 [(4, .int (nI (ALL (n, m, sh, 0, ki, op, (keF fa n f), K, G, T)))), (3, .int (nI f)), (2, .int (mJ U)), (1, .int (nI b)), (0, .ref r0)] [] [(r0, .inr (5, [.int (nI n), .ref k1, .ref k2, .ref k3, .ref k4, .int (nI m), .ref k6, .ref k7, .ref k8, .int (nI 0), .ref k10, .int (nI 0), .ref k12, .ref k13, .ref k14, .ref k15, .ref k16, .int (nI ls), .int (nI ap), .int (bz bd), .int (nI sq), .ref k21, .ref k22, .ref k23, .ref k24, .ref k25, .int (bz pd), .int (nI 48), .int (bz false), .ref k24, .ref k30, .ref k31, .int (nI tz), .ref k33, .int (nI rs), .int sd])), (k1, .inl (cI, 7, .inl (nIf ki))), (k2, .inl (cI, 7, .inl (nIf op))), (k3, .inl (cI, 7, .inl (nIf (shF sh)))), (k4, .inl (cI, 7, .inl (nIf fa))), (k6, .inl (cI, 6, .inl (nIf K))), (k7, .inl (cI, 6, .inl (nIf G))), (k8, .inl (cI, 6, .inl (nIf T))), (k12, .inl (cI, 7, .inl (nIf kw1_13))), (k13, .inl (cI, 175, .inl (nIf kn1_14))), (k14, .inl (cI, 144, .inl (mIf M1_15))), (k15, .inl (cI, 7, .inl (nIf mw1_16))), (k24, .inl (cI, 48, .inl (nIf kp1_5)))]
          refine v_il 64 zC dX5_key_62 0 rfl ?_
          refine v_il_n 65 zC dX5_key_64 2 rfl ?_
          refine v_icmpj_le 72 68 zC dX5_key_65 (fun v e => by have := hU v e; omega) (fun h_23 => ?_) (fun h_23 => ?_)
          ·
            have hv9 := h_23
            refine v_il_n 73 zC dX5_key_72 3 rfl ?_
            refine v_is_n (lv2 := [(1, .int (nI b)), (4, .int (nI (ALL (n, m, sh, 0, ki, op, (keF fa n f), K, G, T)))), (3, .int (nI f)), (2, .int (mJ U)), (0, .ref r0)]) 74 zC dX5_key_73 (by rw [hnE]; decide) rfl ?_
            refine v_il 76 zC dX5_key_74 1 rfl ?_
            refine v_il_n 77 zC dX5_key_76 3 rfl ?_
            refine v_icmpj_le 85 80 zC dX5_key_77 (fun v e => by have := hU v e; omega) (fun h_24 => ?_) (fun h_24 => False.elim (by first | omega | exact bcon h_24 (by assumption) | exact bcon (by assumption) h_24))
            refine v_il_n 86 zC dX5_key_85 3 rfl ?_
            refine v_is_n (lv2 := [(2, .int (mJ U)), (1, .int (nI b)), (4, .int (nI (ALL (n, m, sh, 0, ki, op, (keF fa n f), K, G, T)))), (3, .int (nI f)), (0, .ref r0)]) 87 zC dX5_key_86 (by rw [hnE]; decide) rfl ?_
            refine v_inc (v := (nI (f + 1))) (lv2 := [(3, .int (nI (f + 1))), (2, .int (mJ U)), (1, .int (nI b)), (4, .int (nI (ALL (n, m, sh, 0, ki, op, (keF fa n f), K, G, T)))), (0, .ref r0)]) 90 zC dX5_key_87 (j := 3) rfl (nI_add _ 1) (by rw [hnE]; decide) rfl ?_
            refine v_goto 15 zC dX5_key_90 ?_
            refine v_lvs (lv2 := [(3, .int (nI (f + 1))), (2, .int (mJ U)), (1, .int (nI b)), (0, .ref r0)]) [0, 1, 2, 4] rfl ?_
            exact ih15 _ (by omega) kw1_13 kn1_14 M1_15 mw1_16 false b U (f + 1) (by first | exact hR9.2.2.2.1 | exact hkw2) (by first | exact hR9.2.2.2.2.1 | exact hkn2) (by first | exact hR9.2.2.2.2.2 | exact hM2) (it_s hs (by first | exact key_1 hu9 | exact key_0 hv9)) (fun v e => by first | exact hU v e | (cases e; exact hl9)) (by first | omega | assumption | rfl | (simp only []; omega) | decide) (by first | omega | assumption | rfl | (simp only []; omega) | decide) rfl
          ·
            have hu9 := h_23
            refine v_il_n 69 zC dX5_key_68 1 rfl ?_
            refine v_goto 73 zC dX5_key_69 ?_
            refine v_is_n (lv2 := [(1, .int (nI f)), (4, .int (nI (ALL (n, m, sh, 0, ki, op, (keF fa n f), K, G, T)))), (3, .int (nI f)), (2, .int (mJ U)), (0, .ref r0)]) 74 zC dX5_key_73 (by rw [hnE]; decide) rfl ?_
            refine v_il 76 zC dX5_key_74 1 rfl ?_
            refine v_il_n 77 zC dX5_key_76 3 rfl ?_
            refine v_icmpj_le 85 80 zC dX5_key_77 (fun v e => by have := hU v e; omega) (fun h_25 => False.elim (by first | omega | exact bcon h_25 (by assumption) | exact bcon (by assumption) h_25)) (fun h_25 => ?_)
            refine v_il 82 zC dX5_key_80 1 rfl ?_
            refine v_goto 86 zC dX5_key_82 ?_
            refine v_is_n (lv2 := [(2, .int (nI (ALL (n, m, sh, 0, ki, op, (keF fa n f), K, G, T)))), (1, .int (nI f)), (4, .int (nI (ALL (n, m, sh, 0, ki, op, (keF fa n f), K, G, T)))), (3, .int (nI f)), (0, .ref r0)]) 87 zC dX5_key_86 (by rw [hnE]; decide) rfl ?_
            refine v_inc (v := (nI (f + 1))) (lv2 := [(3, .int (nI (f + 1))), (2, .int (nI (ALL (n, m, sh, 0, ki, op, (keF fa n f), K, G, T)))), (1, .int (nI f)), (4, .int (nI (ALL (n, m, sh, 0, ki, op, (keF fa n f), K, G, T)))), (0, .ref r0)]) 90 zC dX5_key_87 (j := 3) rfl (nI_add _ 1) (by rw [hnE]; decide) rfl ?_
            refine v_goto 15 zC dX5_key_90 ?_
            refine v_lvs (lv2 := [(3, .int (nI (f + 1))), (2, .int (mJ (some (ALL (n, m, sh, 0, ki, op, (keF fa n f), K, G, T))))), (1, .int (nI f)), (0, .ref r0)]) [0, 1, 2, 4] rfl ?_
            exact ih15 _ (by omega) kw1_13 kn1_14 M1_15 mw1_16 false f (some (ALL (n, m, sh, 0, ki, op, (keF fa n f), K, G, T))) (f + 1) (by first | exact hR9.2.2.2.1 | exact hkw2) (by first | exact hR9.2.2.2.2.1 | exact hkn2) (by first | exact hR9.2.2.2.2.2 | exact hM2) (it_s hs (by first | exact key_1 hu9 | exact key_0 hv9)) (fun v e => by first | exact hU v e | (cases e; exact hl9)) (by first | omega | assumption | rfl | (simp only []; omega) | decide) (by first | omega | assumption | rfl | (simp only []; omega) | decide) rfl
        ·
          refine v_al_n 34 zC dX5_key_33 4 rfl ?_
          refine v_gf 37 0 zC dX5_key_34 gf_X5_19 rfl rfl ?_
          refine v_il 39 zC dX5_key_37 0 rfl ?_
          refine v_dup2 40 zC dX5_key_39 rfl rfl ?_
          refine v_ialn (v := (nI (F p))) 41 4 zC dX5_key_40 rfl (by omega) rfl ?_
          refine v_ic (v := (nI 1)) 42 zC dX5_key_41 (by decide +kernel) ?_
          refine v_il_n 43 zC dX5_key_42 1 rfl ?_
          refine v_ishl (v := (nI (2 ^ f))) 44 zC dX5_key_43 (b1n (by omega)) ?_
          refine v_ior (v := (nI ((F p) ||| (2 ^ f)))) 45 zC dX5_key_44 (fa_or _ _) ?_
          refine v_iasn (ws2 := [(r0, .inr (5, [.int (nI n), .ref k1, .ref k2, .ref k3, .ref k4, .int (nI m), .ref k6, .ref k7, .ref k8, .int (nI 0), .ref k10, .int (nI 0), .ref k12, .ref k13, .ref k14, .ref k15, .ref k16, .int (nI ls), .int (nI ap), .int (bz bd), .int (nI sq), .ref k21, .ref k22, .ref k23, .ref k24, .ref k25, .int (bz pd), .int (nI 48), .int (bz tk2), .ref k24, .ref k30, .ref k31, .int (nI tz), .ref k33, .int (nI rs), .int sd])), (k1, .inl (cI, 7, .inl (nIf ki))), (k2, .inl (cI, 7, .inl (nIf op))), (k3, .inl (cI, 7, .inl (nIf (shF sh)))), (k4, .inl (cI, 7, .inl (nIf (un F p ((F p) ||| (2 ^ f)))))), (k6, .inl (cI, 6, .inl (nIf K))), (k7, .inl (cI, 6, .inl (nIf G))), (k8, .inl (cI, 6, .inl (nIf T))), (k12, .inl (cI, 7, .inl (nIf kw2))), (k13, .inl (cI, 175, .inl (nIf kn2))), (k14, .inl (cI, 144, .inl (mIf M2))), (k15, .inl (cI, 7, .inl (nIf mw2))), (k24, .inl (cI, 48, .inl (nIf kp1_5)))]) 46 4 zC dX5_key_45 rfl (by omega) (by rw [upd_nIf]; first | done | rfl) ?_
          refine v_inc (v := (nI (p + 1))) (lv2 := [(4, .int (nI (p + 1))), (3, .int (nI f)), (2, .int (mJ U)), (1, .int (nI b)), (0, .ref r0)]) 49 zC dX5_key_46 (j := 0) rfl (nI_add _ 1) (by rw [hnE]; decide) rfl ?_
          refine v_goto 24 zC dX5_key_49 ?_
          refine v_lvs (lv2 := [(4, .int (nI (p + 1))), (3, .int (nI f)), (2, .int (mJ U)), (1, .int (nI b)), (0, .ref r0)]) [0, 1, 2, 3, 4] rfl ?_
          exact ih24 _ (by omega) (un F p ((F p) ||| (2 ^ f))) (p + 1) (tf_s hF (by rw [tf_i hF])) (un_b hFb (Nat.or_lt_two_pow (n := 10) (hFb _) (pow_lt2 (by omega)))) (un_v hFv (by omega)) (by first | omega | assumption | rfl | (simp only []; omega) | decide) rfl
      refine v_lvs (lv2 := [(4, .int (nI 0)), (3, .int (nI f)), (2, .int (mJ U)), (1, .int (nI b)), (0, .ref r0)]) [0, 1, 2, 3, 4] rfl ?_
      exact lp24 _ fa 0 (fun z => by rw [if_neg (Nat.not_lt_zero _)]) hfa vfa (by first | omega | assumption | rfl | (simp only []; omega) | decide) rfl
  refine v_lvs (lv2 := [(3, .int (nI 0)), (2, .int (mJ none)), (1, .int (nI 0)), (0, .ref r0)]) [0, 1, 2, 3] rfl ?_
  exact lp15 _ kw kn M mw true 0 none 0 (by first | exact hR9.2.2.2.1 | exact hkw) (by first | exact hR9.2.2.2.2.1 | exact hkn) (by first | exact hR9.2.2.2.2.2 | exact hM) rfl (fun v e => by cases e) (by first | omega | assumption | rfl | (simp only []; omega) | decide) (by first | omega | assumption | rfl | (simp only []; omega) | decide) rfl
set_option maxRecDepth 100000 in
set_option maxHeartbeats 4000000 in
theorem c_X5_turned (l : Launch) (D : va_G) (cI : ClassId) (r0 k1 k2 k3 k4 k6 k7 k8 k10 k12 k13 k14 k15 k16 k21 k22 k23 k24 k25 k30 k31 k33 : Nat) (n m ls ap sq pl tz rs : Nat) (bd pd tk : Bool) (kv : Value) (sd : Int32) (ki op fa K G T : Nat → Nat) (sh : Nat) (kw kn : Nat → Nat) (M : Nat → Option Nat) (mw : Nat → Nat) (kp : Nat → Nat) (hw : FW n m sh ki op fa K G T) (hkw : ∀ z, kw z < 1024) (hkn : ∀ z, kn z < 1024) (hM : ∀ z v, M z = some v → v < 7) : CT l yX5_turned cX5_turned 4 (some .int) { frames := 7, cells := 0, slots := 0, locals := 158 } D cI [.ref r0] [(r0, .inr (5, [.int (nI n), .ref k1, .ref k2, .ref k3, .ref k4, .int (nI m), .ref k6, .ref k7, .ref k8, .int (nI 0), .ref k10, .int (nI 0), .ref k12, .ref k13, .ref k14, .ref k15, .ref k16, .int (nI ls), .int (nI ap), .int (bz bd), .int (nI sq), .ref k21, .ref k22, .ref k23, .ref k24, .ref k25, .int (bz pd), .int (nI pl), .int (bz tk), kv, .ref k30, .ref k31, .int (nI tz), .ref k33, .int (nI rs), .int sd])), (k1, .inl (cI, 7, .inl (nIf ki))), (k2, .inl (cI, 7, .inl (nIf op))), (k3, .inl (cI, 7, .inl (nIf (shF sh)))), (k4, .inl (cI, 7, .inl (nIf fa))), (k6, .inl (cI, 6, .inl (nIf K))), (k7, .inl (cI, 6, .inl (nIf G))), (k8, .inl (cI, 6, .inl (nIf T))), (k12, .inl (cI, 7, .inl (nIf kw))), (k13, .inl (cI, 175, .inl (nIf kn))), (k14, .inl (cI, 144, .inl (mIf M))), (k15, .inl (cI, 7, .inl (nIf mw))), (k24, .inl (cI, 48, .inl (nIf kp)))] (fun zr zw => (∃ kw1 : Nat → Nat, ∃ kn1 : Nat → Nat, ∃ M1 : Nat → Option Nat, ∃ mw1 : Nat → Nat, ∃ kp1 : Nat → Nat, ∃ pl1 : Nat, ∃ tk1 : Bool, ∃ kv1 : Value, (∀ z, kw1 z < 1024) ∧ (∀ z, kn1 z < 1024) ∧ (∀ z v, M1 z = some v → v < 7) ∧ zr = some (.int (nI (TURN (n, m, sh, 0, ki, op, fa, K, G, T)))) ∧ zw = [(r0, .inr (5, [.int (nI n), .ref k1, .ref k2, .ref k3, .ref k4, .int (nI m), .ref k6, .ref k7, .ref k8, .int (nI 0), .ref k10, .int (nI 0), .ref k12, .ref k13, .ref k14, .ref k15, .ref k16, .int (nI ls), .int (nI ap), .int (bz bd), .int (nI sq), .ref k21, .ref k22, .ref k23, .ref k24, .ref k25, .int (bz pd), .int (nI pl1), .int (bz tk1), kv1, .ref k30, .ref k31, .int (nI tz), .ref k33, .int (nI rs), .int sd])), (k1, .inl (cI, 7, .inl (nIf ki))), (k2, .inl (cI, 7, .inl (nIf op))), (k3, .inl (cI, 7, .inl (nIf (shF sh)))), (k4, .inl (cI, 7, .inl (nIf fa))), (k6, .inl (cI, 6, .inl (nIf K))), (k7, .inl (cI, 6, .inl (nIf G))), (k8, .inl (cI, 6, .inl (nIf T))), (k12, .inl (cI, 7, .inl (nIf kw1))), (k13, .inl (cI, 175, .inl (nIf kn1))), (k14, .inl (cI, 144, .inl (mIf M1))), (k15, .inl (cI, 7, .inl (nIf mw1))), (k24, .inl (cI, 48, .inl (nIf kp1)))])) := by
  refine CT_of RX5 rfl (by decide +kernel) (Nat.le_of_ble_eq_true rfl) (fun E hnE zC zT => ?_)
  have hA : ∀ q, (ev_s E).heap.size ≤ q → ev_A E q := fun q h => by rw [zT.2]; exact Or.inr h
  obtain ⟨hn, hm, hsh, hki, hop, hfa, hK, hG, hT, vki, vop, vfa, vK, vG, vT⟩ := id hw
  have h2n : 2 ^ n ≤ 2 ^ 7 := Nat.pow_le_pow_right (by decide) hn
  show VV E 0 0 0 [(0, .ref r0)] [] [(r0, .inr (5, [.int (nI n), .ref k1, .ref k2, .ref k3, .ref k4, .int (nI m), .ref k6, .ref k7, .ref k8, .int (nI 0), .ref k10, .int (nI 0), .ref k12, .ref k13, .ref k14, .ref k15, .ref k16, .int (nI ls), .int (nI ap), .int (bz bd), .int (nI sq), .ref k21, .ref k22, .ref k23, .ref k24, .ref k25, .int (bz pd), .int (nI pl), .int (bz tk), kv, .ref k30, .ref k31, .int (nI tz), .ref k33, .int (nI rs), .int sd])), (k1, .inl (cI, 7, .inl (nIf ki))), (k2, .inl (cI, 7, .inl (nIf op))), (k3, .inl (cI, 7, .inl (nIf (shF sh)))), (k4, .inl (cI, 7, .inl (nIf fa))), (k6, .inl (cI, 6, .inl (nIf K))), (k7, .inl (cI, 6, .inl (nIf G))), (k8, .inl (cI, 6, .inl (nIf T))), (k12, .inl (cI, 7, .inl (nIf kw))), (k13, .inl (cI, 175, .inl (nIf kn))), (k14, .inl (cI, 144, .inl (mIf M))), (k15, .inl (cI, 7, .inl (nIf mw))), (k24, .inl (cI, 48, .inl (nIf kp)))]
  refine v_al_n 1 zC dX5_turned_0 0 rfl ?_
  refine v_ic (v := (nI 0)) 2 zC dX5_turned_1 (by decide +kernel) ?_
  refine v_pf (ws2 := [(r0, .inr (5, [.int (nI n), .ref k1, .ref k2, .ref k3, .ref k4, .int (nI m), .ref k6, .ref k7, .ref k8, .int (nI 0), .ref k10, .int (nI 0), .ref k12, .ref k13, .ref k14, .ref k15, .ref k16, .int (nI ls), .int (nI ap), .int (bz bd), .int (nI sq), .ref k21, .ref k22, .ref k23, .ref k24, .ref k25, .int (bz pd), .int (nI pl), .int (bz tk), kv, .ref k30, .ref k31, .int (nI tz), .ref k33, .int (nI rs), .int sd])), (k1, .inl (cI, 7, .inl (nIf ki))), (k2, .inl (cI, 7, .inl (nIf op))), (k3, .inl (cI, 7, .inl (nIf (shF sh)))), (k4, .inl (cI, 7, .inl (nIf fa))), (k6, .inl (cI, 6, .inl (nIf K))), (k7, .inl (cI, 6, .inl (nIf G))), (k8, .inl (cI, 6, .inl (nIf T))), (k12, .inl (cI, 7, .inl (nIf kw))), (k13, .inl (cI, 175, .inl (nIf kn))), (k14, .inl (cI, 144, .inl (mIf M))), (k15, .inl (cI, 7, .inl (nIf mw))), (k24, .inl (cI, 48, .inl (nIf kp)))]) 5 0 zC dX5_turned_2 pf_X5_73 rfl (Nat.le_of_ble_eq_true rfl) rfl rfl rfl ?_
  refine v_al_n 6 zC dX5_turned_5 0 rfl ?_
  refine v_cV (As := []) (st := []) 9 0 [0, 1, 2, 3, 4, 5, 6, 7, 12] zC dX5_turned_6 hA (c_X5_think (ev_l E) (ev_D E) cI (r0 := r0) (k1 := k1) (k2 := k2) (k3 := k3) (k4 := k4) (k6 := k6) (k7 := k7) (k8 := k8) (k10 := k10) (k12 := k12) (k13 := k13) (k14 := k14) (k15 := k15) (k16 := k16) (k21 := k21) (k22 := k22) (k23 := k23) (k24 := k24) (k25 := k25) (k30 := k30) (k31 := k31) (k33 := k33) (n := n) (m := m) (aw := 0) (ls := ls) (ap := ap) (sq := sq) (pl := pl) (tz := tz) (rs := rs) (bd := bd) (pd := pd) (tk := tk) (kv := kv) (sd := sd) (ki := ki) (op := op) (fa := fa) (K := K) (G := G) (T := T) (sh := sh) (kp := kp) ) cf_X5_think lk_X5_254 rfl rfl rfl rfl rfl (by decide +kernel) (Nat.le_of_ble_eq_true rfl) (fun rv_1 wv_2 hp_3 hm_4 => ?_)
  clear hm_4
  obtain ⟨kp1_5, hE_6, rfl, rfl⟩ := hp_3
  show VV E 0 0 9 [(0, .ref r0)] [] [(r0, .inr (5, [.int (nI n), .ref k1, .ref k2, .ref k3, .ref k4, .int (nI m), .ref k6, .ref k7, .ref k8, .int (nI 0), .ref k10, .int (nI 0), .ref k12, .ref k13, .ref k14, .ref k15, .ref k16, .int (nI ls), .int (nI ap), .int (bz bd), .int (nI sq), .ref k21, .ref k22, .ref k23, .ref k24, .ref k25, .int (bz pd), .int (nI 48), .int (bz true), .ref k24, .ref k30, .ref k31, .int (nI tz), .ref k33, .int (nI rs), .int sd])), (k1, .inl (cI, 7, .inl (nIf ki))), (k2, .inl (cI, 7, .inl (nIf op))), (k3, .inl (cI, 7, .inl (nIf (shF sh)))), (k4, .inl (cI, 7, .inl (nIf fa))), (k6, .inl (cI, 6, .inl (nIf K))), (k7, .inl (cI, 6, .inl (nIf G))), (k8, .inl (cI, 6, .inl (nIf T))), (k12, .inl (cI, 7, .inl (nIf kw))), (k13, .inl (cI, 175, .inl (nIf kn))), (k14, .inl (cI, 144, .inl (mIf M))), (k15, .inl (cI, 7, .inl (nIf mw))), (k24, .inl (cI, 48, .inl (nIf kp1_5)))]
  have hE9 := hE_6
  refine v_ic (v := (nI 0)) 10 zC dX5_turned_9 (by decide +kernel) ?_
  refine v_is_n (lv2 := [(1, .int (nI 0)), (0, .ref r0)]) 11 zC dX5_turned_10 (by rw [hnE]; decide) rfl ?_
  have lp11 : ∀ (mz : Nat) (O : Nat → Nat) (p : Nat), (∀ z, O z = if z < p then (fun z => RV (op z)) z else op z) → (∀ z, O z < 2 ^ 24) → (VZ 7 O) → (p ≤ n) → n - p = mz → VV E 0 0 11 [(1, .int (nI p)), (0, .ref r0)] [] [(r0, .inr (5, [.int (nI n), .ref k1, .ref k2, .ref k3, .ref k4, .int (nI m), .ref k6, .ref k7, .ref k8, .int (nI 0), .ref k10, .int (nI 0), .ref k12, .ref k13, .ref k14, .ref k15, .ref k16, .int (nI ls), .int (nI ap), .int (bz bd), .int (nI sq), .ref k21, .ref k22, .ref k23, .ref k24, .ref k25, .int (bz pd), .int (nI 48), .int (bz true), .ref k24, .ref k30, .ref k31, .int (nI tz), .ref k33, .int (nI rs), .int sd])), (k1, .inl (cI, 7, .inl (nIf ki))), (k2, .inl (cI, 7, .inl (nIf O))), (k3, .inl (cI, 7, .inl (nIf (shF sh)))), (k4, .inl (cI, 7, .inl (nIf fa))), (k6, .inl (cI, 6, .inl (nIf K))), (k7, .inl (cI, 6, .inl (nIf G))), (k8, .inl (cI, 6, .inl (nIf T))), (k12, .inl (cI, 7, .inl (nIf kw))), (k13, .inl (cI, 175, .inl (nIf kn))), (k14, .inl (cI, 144, .inl (mIf M))), (k15, .inl (cI, 7, .inl (nIf mw))), (k24, .inl (cI, 48, .inl (nIf kp1_5)))] := by
    intro mz
    induction mz using Nat.strongRecOn with
    | _ mz ih11 =>
    intro O p hO hOb hOv hp hm11
    refine v_il_n 12 zC dX5_turned_11 0 rfl ?_
    refine v_al_n 13 zC dX5_turned_12 1 rfl ?_
    refine v_gf 16 0 zC dX5_turned_13 gf_X5_77 rfl rfl ?_
    refine v_icmpn_ge 74 19 zC dX5_turned_16 (fun h_7 => ?_) (fun h_7 => ?_)
    ·
      refine v_al_n 75 zC dX5_turned_74 1 rfl ?_
      refine v_cV (As := []) (st := []) 78 0 [0, 1, 2, 3, 4, 5, 6, 7, 8, 9, 10, 11] zC dX5_turned_75 hA (c_X5_allNow (ev_l E) (ev_D E) cI (r0 := r0) (k1 := k1) (k2 := k2) (k3 := k3) (k4 := k4) (k6 := k6) (k7 := k7) (k8 := k8) (k10 := k10) (k12 := k12) (k13 := k13) (k14 := k14) (k15 := k15) (k16 := k16) (k21 := k21) (k22 := k22) (k23 := k23) (k24 := k24) (k25 := k25) (k30 := k30) (k31 := k31) (k33 := k33) (n := n) (m := m) (aw := 0) (ls := ls) (ap := ap) (sq := sq) (pl := 48) (tz := tz) (rs := rs) (bd := bd) (pd := pd) (tk := true) (kv := (.ref k24 : Value)) (sd := sd) (ki := ki) (op := O) (fa := fa) (K := K) (G := G) (T := T) (sh := sh) (kw := kw) (kn := kn) (M := M) (mw := mw) (hw := ⟨hn, hm, hsh, hki, hOb, hfa, hK, hG, hT, vki, hOv, vfa, vK, vG, vT⟩) (hkw := hkw) (hkn := hkn) (hM := hM)) cf_X5_allNow lk_X5_245 rfl rfl rfl rfl rfl (by decide +kernel) (Nat.le_of_ble_eq_true rfl) (fun rv_8 wv_9 hp_10 hm_11 => ?_)
      clear hm_11
      obtain ⟨kw1_12, kn1_13, M1_14, mw1_15, hR_16, hl_17, rfl, rfl⟩ := hp_10
      show VV E 0 0 78 [(1, .int (nI p)), (0, .ref r0)] [.int (nI (ALL (n, m, sh, 0, ki, O, fa, K, G, T)))] [(r0, .inr (5, [.int (nI n), .ref k1, .ref k2, .ref k3, .ref k4, .int (nI m), .ref k6, .ref k7, .ref k8, .int (nI 0), .ref k10, .int (nI 0), .ref k12, .ref k13, .ref k14, .ref k15, .ref k16, .int (nI ls), .int (nI ap), .int (bz bd), .int (nI sq), .ref k21, .ref k22, .ref k23, .ref k24, .ref k25, .int (bz pd), .int (nI 48), .int (bz true), .ref k24, .ref k30, .ref k31, .int (nI tz), .ref k33, .int (nI rs), .int sd])), (k1, .inl (cI, 7, .inl (nIf ki))), (k2, .inl (cI, 7, .inl (nIf O))), (k3, .inl (cI, 7, .inl (nIf (shF sh)))), (k4, .inl (cI, 7, .inl (nIf fa))), (k6, .inl (cI, 6, .inl (nIf K))), (k7, .inl (cI, 6, .inl (nIf G))), (k8, .inl (cI, 6, .inl (nIf T))), (k12, .inl (cI, 7, .inl (nIf kw1_12))), (k13, .inl (cI, 175, .inl (nIf kn1_13))), (k14, .inl (cI, 144, .inl (mIf M1_14))), (k15, .inl (cI, 7, .inl (nIf mw1_15))), (k24, .inl (cI, 48, .inl (nIf kp1_5)))]
      have hR9 := hR_16
      have hl9 := hl_17
      refine v_is_n (lv2 := [(1, .int (nI (ALL (n, m, sh, 0, ki, O, fa, K, G, T)))), (0, .ref r0)]) 79 zC dX5_turned_78 (by rw [hnE]; decide) rfl ?_
      refine v_al_n 80 zC dX5_turned_79 1 rfl ?_
      refine v_cV (As := []) (st := []) 83 0 [0, 1, 2, 3, 4, 5, 6, 7, 12] zC dX5_turned_80 hA (c_X5_again (ev_l E) (ev_D E) cI (r0 := r0) (k1 := k1) (k2 := k2) (k3 := k3) (k4 := k4) (k6 := k6) (k7 := k7) (k8 := k8) (k10 := k10) (k12 := k12) (k13 := k13) (k14 := k14) (k15 := k15) (k16 := k16) (k21 := k21) (k22 := k22) (k23 := k23) (k24 := k24) (k25 := k25) (k30 := k30) (k31 := k31) (k33 := k33) (n := n) (m := m) (aw := 0) (ls := ls) (ap := ap) (sq := sq) (pl := 48) (tz := tz) (rs := rs) (bd := bd) (pd := pd) (tk := true) (kv := (.ref k24 : Value)) (sd := sd) (ki := ki) (op := O) (fa := fa) (K := K) (G := G) (T := T) (sh := sh) (kp := kp1_5) (n1 := n) (m1 := m) (sh1 := sh) (aw1 := 0) (ki1 := ki) (op1 := op) (fa1 := fa) (K1 := K) (G1 := G) (T1 := T) (hw := ⟨hn, hm, hsh, hki, hOb, hfa, hK, hG, hT, vki, hOv, vfa, vK, vG, vT⟩) (hw1 := hw) (hE := hE9)) cf_X5_again lk_X5_260 rfl rfl rfl rfl rfl (by decide +kernel) (Nat.le_of_ble_eq_true rfl) (fun rv_18 wv_19 hp_20 hm_21 => ?_)
      clear hm_21
      obtain ⟨rfl, rfl⟩ := hp_20
      show VV E 0 0 83 [(1, .int (nI (ALL (n, m, sh, 0, ki, O, fa, K, G, T)))), (0, .ref r0)] [] [(r0, .inr (5, [.int (nI n), .ref k1, .ref k2, .ref k3, .ref k4, .int (nI m), .ref k6, .ref k7, .ref k8, .int (nI 0), .ref k10, .int (nI 0), .ref k12, .ref k13, .ref k14, .ref k15, .ref k16, .int (nI ls), .int (nI ap), .int (bz bd), .int (nI sq), .ref k21, .ref k22, .ref k23, .ref k24, .ref k25, .int (bz pd), .int (nI 48), .int (bz false), .ref k24, .ref k30, .ref k31, .int (nI tz), .ref k33, .int (nI rs), .int sd])), (k1, .inl (cI, 7, .inl (nIf ki))), (k2, .inl (cI, 7, .inl (nIf op))), (k3, .inl (cI, 7, .inl (nIf (shF sh)))), (k4, .inl (cI, 7, .inl (nIf fa))), (k6, .inl (cI, 6, .inl (nIf K))), (k7, .inl (cI, 6, .inl (nIf G))), (k8, .inl (cI, 6, .inl (nIf T))), (k12, .inl (cI, 7, .inl (nIf kw1_12))), (k13, .inl (cI, 175, .inl (nIf kn1_13))), (k14, .inl (cI, 144, .inl (mIf M1_14))), (k15, .inl (cI, 7, .inl (nIf mw1_15))), (k24, .inl (cI, 48, .inl (nIf kp1_5)))]
      refine v_il_n 84 zC dX5_turned_83 0 rfl ?_
      refine v_iret zC zT dX5_turned_84  ?_
      exact ⟨_, _, _, _, _, _, _, _, hR9.2.2.2.1, hR9.2.2.2.2.1, hR9.2.2.2.2.2, sn (congrArg (fun o => ALL (n, m, sh, 0, ki, o, fa, K, G, T)) (tf_n hO (show p = n by omega))), rfl⟩
    ·
      refine v_ic (v := (nI 0)) 20 zC dX5_turned_19 (by decide +kernel) ?_
      refine v_is_n (lv2 := [(2, .int (nI 0)), (1, .int (nI p)), (0, .ref r0)]) 21 zC dX5_turned_20 (by rw [hnE]; decide) rfl ?_
      refine v_ic (v := (nI 0)) 22 zC dX5_turned_21 (by decide +kernel) ?_
      refine v_is_n (lv2 := [(3, .int (nI 0)), (2, .int (nI 0)), (1, .int (nI p)), (0, .ref r0)]) 23 zC dX5_turned_22 (by rw [hnE]; decide) rfl ?_
      have lp23 : ∀ (mz : Nat) (x : Nat) (h : Nat), (x = it (rvS (O p)) 0 h) → (x < 2 ^ 24) → (h ≤ 24) → 24 - h = mz → VV E 0 0 23 [(3, .int (nI h)), (2, .int (nI x)), (1, .int (nI p)), (0, .ref r0)] [] [(r0, .inr (5, [.int (nI n), .ref k1, .ref k2, .ref k3, .ref k4, .int (nI m), .ref k6, .ref k7, .ref k8, .int (nI 0), .ref k10, .int (nI 0), .ref k12, .ref k13, .ref k14, .ref k15, .ref k16, .int (nI ls), .int (nI ap), .int (bz bd), .int (nI sq), .ref k21, .ref k22, .ref k23, .ref k24, .ref k25, .int (bz pd), .int (nI 48), .int (bz true), .ref k24, .ref k30, .ref k31, .int (nI tz), .ref k33, .int (nI rs), .int sd])), (k1, .inl (cI, 7, .inl (nIf ki))), (k2, .inl (cI, 7, .inl (nIf O))), (k3, .inl (cI, 7, .inl (nIf (shF sh)))), (k4, .inl (cI, 7, .inl (nIf fa))), (k6, .inl (cI, 6, .inl (nIf K))), (k7, .inl (cI, 6, .inl (nIf G))), (k8, .inl (cI, 6, .inl (nIf T))), (k12, .inl (cI, 7, .inl (nIf kw))), (k13, .inl (cI, 175, .inl (nIf kn))), (k14, .inl (cI, 144, .inl (mIf M))), (k15, .inl (cI, 7, .inl (nIf mw))), (k24, .inl (cI, 48, .inl (nIf kp1_5)))] := by
        intro mz
        induction mz using Nat.strongRecOn with
        | _ mz ih23 =>
        intro x h hx hxl hh hm23
        refine v_il_n 24 zC dX5_turned_23 0 rfl ?_
        refine v_bp (v := (nI 24)) 26 zC dX5_turned_24 (by decide +kernel) ?_
        refine v_icmpn_ge 61 29 zC dX5_turned_26 (fun h_22 => ?_) (fun h_22 => ?_)
        ·
          refine v_al_n 62 zC dX5_turned_61 3 rfl ?_
          refine v_gf 65 0 zC dX5_turned_62 gf_X5_13 rfl rfl ?_
          refine v_il_n 66 zC dX5_turned_65 2 rfl ?_
          refine v_il_n 67 zC dX5_turned_66 1 rfl ?_
          refine v_iasn (ws2 := [(r0, .inr (5, [.int (nI n), .ref k1, .ref k2, .ref k3, .ref k4, .int (nI m), .ref k6, .ref k7, .ref k8, .int (nI 0), .ref k10, .int (nI 0), .ref k12, .ref k13, .ref k14, .ref k15, .ref k16, .int (nI ls), .int (nI ap), .int (bz bd), .int (nI sq), .ref k21, .ref k22, .ref k23, .ref k24, .ref k25, .int (bz pd), .int (nI 48), .int (bz true), .ref k24, .ref k30, .ref k31, .int (nI tz), .ref k33, .int (nI rs), .int sd])), (k1, .inl (cI, 7, .inl (nIf ki))), (k2, .inl (cI, 7, .inl (nIf (un O p x)))), (k3, .inl (cI, 7, .inl (nIf (shF sh)))), (k4, .inl (cI, 7, .inl (nIf fa))), (k6, .inl (cI, 6, .inl (nIf K))), (k7, .inl (cI, 6, .inl (nIf G))), (k8, .inl (cI, 6, .inl (nIf T))), (k12, .inl (cI, 7, .inl (nIf kw))), (k13, .inl (cI, 175, .inl (nIf kn))), (k14, .inl (cI, 144, .inl (mIf M))), (k15, .inl (cI, 7, .inl (nIf mw))), (k24, .inl (cI, 48, .inl (nIf kp1_5)))]) 68 2 zC dX5_turned_67 rfl (by omega) (by rw [upd_nIf]; first | done | rfl) ?_
          refine v_inc (v := (nI (p + 1))) (lv2 := [(1, .int (nI (p + 1))), (3, .int (nI h)), (2, .int (nI x)), (0, .ref r0)]) 71 zC dX5_turned_68 (j := 2) rfl (nI_add _ 1) (by rw [hnE]; decide) rfl ?_
          refine v_goto 11 zC dX5_turned_71 ?_
          refine v_lvs (lv2 := [(1, .int (nI (p + 1))), (0, .ref r0)]) [0, 3] rfl ?_
          exact ih11 _ (by omega) (un O p x) (p + 1) (tf_s hO (by rw [hx, show h = 24 by omega, tf_i hO]; rfl)) (un_b hOb hxl) (un_v hOv (by omega)) (by first | omega | assumption | rfl | (simp only []; omega) | decide) rfl
        ·
          refine v_il_n 30 zC dX5_turned_29 1 rfl ?_
          refine v_al_n 31 zC dX5_turned_30 3 rfl ?_
          refine v_gf 34 0 zC dX5_turned_31 gf_X5_13 rfl rfl ?_
          refine v_il_n 35 zC dX5_turned_34 2 rfl ?_
          refine v_ialn (v := (nI (O p))) 36 2 zC dX5_turned_35 rfl (by omega) rfl ?_
          refine v_il_n 37 zC dX5_turned_36 0 rfl ?_
          refine v_cS (As := [.int (nI (O p)), .int (nI h)]) (st := [.int (nI x)]) 40 [] zC dX5_turned_37 hA (c_X5_hasBit (ev_l E) (ev_D E) cI (x := (O p)) (k := h) (hk := (by first | omega | assumption | rfl | (simp only []; omega) | decide))) cf_X5_hasBit lk_X5_95 rfl rfl rfl (by decide +kernel) (Nat.le_of_ble_eq_true rfl) (fun rv_23 wv_24 hp_25 hm_26 => ?_)
          clear hm_26
          obtain ⟨rfl, rfl⟩ := hp_25
          show VV E 0 0 40 [(3, .int (nI h)), (2, .int (nI x)), (1, .int (nI p)), (0, .ref r0)] [.int (bz (Nat.testBit (O p) h)), .int (nI x)] [(r0, .inr (5, [.int (nI n), .ref k1, .ref k2, .ref k3, .ref k4, .int (nI m), .ref k6, .ref k7, .ref k8, .int (nI 0), .ref k10, .int (nI 0), .ref k12, .ref k13, .ref k14, .ref k15, .ref k16, .int (nI ls), .int (nI ap), .int (bz bd), .int (nI sq), .ref k21, .ref k22, .ref k23, .ref k24, .ref k25, .int (bz pd), .int (nI 48), .int (bz true), .ref k24, .ref k30, .ref k31, .int (nI tz), .ref k33, .int (nI rs), .int sd])), (k1, .inl (cI, 7, .inl (nIf ki))), (k2, .inl (cI, 7, .inl (nIf O))), (k3, .inl (cI, 7, .inl (nIf (shF sh)))), (k4, .inl (cI, 7, .inl (nIf fa))), (k6, .inl (cI, 6, .inl (nIf K))), (k7, .inl (cI, 6, .inl (nIf G))), (k8, .inl (cI, 6, .inl (nIf T))), (k12, .inl (cI, 7, .inl (nIf kw))), (k13, .inl (cI, 175, .inl (nIf kn))), (k14, .inl (cI, 144, .inl (mIf M))), (k15, .inl (cI, 7, .inl (nIf mw))), (k24, .inl (cI, 48, .inl (nIf kp1_5)))]
          refine v_ifb_eq 52 43 zC dX5_turned_40 (fun h_27 => ?_) (fun h_27 => ?_)
          ·
            have hv9 := h_27
            refine v_ic (v := (nI 0)) 53 zC dX5_turned_52 (by decide +kernel) ?_
            refine v_ior (v := (nI x)) 54 zC dX5_turned_53 (by rw [fa_or, Nat.or_zero]) ?_
            refine v_is_n (lv2 := [(2, .int (nI x)), (3, .int (nI h)), (1, .int (nI p)), (0, .ref r0)]) 55 zC dX5_turned_54 (by rw [hnE]; decide) rfl ?_
            refine v_inc (v := (nI (h + 1))) (lv2 := [(3, .int (nI (h + 1))), (2, .int (nI x)), (1, .int (nI p)), (0, .ref r0)]) 58 zC dX5_turned_55 (j := 1) rfl (nI_add _ 1) (by rw [hnE]; decide) rfl ?_
            refine v_goto 23 zC dX5_turned_58 ?_
            refine v_lvs (lv2 := [(3, .int (nI (h + 1))), (2, .int (nI x)), (1, .int (nI p)), (0, .ref r0)]) [0, 1, 2, 3] rfl ?_
            exact ih23 _ (by omega) x (h + 1) (it_s hx (by first | exact rv_1 hu9 | exact rv_0 hv9)) (by first | exact hxl | exact Nat.or_lt_two_pow hxl (Nat.pow_lt_pow_right (by decide) (by omega))) (by first | omega | assumption | rfl | (simp only []; omega) | decide) rfl
          ·
            have hu9 := h_27
            refine v_ic (v := (nI 1)) 44 zC dX5_turned_43 (by decide +kernel) ?_
            refine v_bp (v := (nI 23)) 46 zC dX5_turned_44 (by decide +kernel) ?_
            refine v_il_n 47 zC dX5_turned_46 0 rfl ?_
            refine v_isub (v := (nI (23 - h))) 48 zC dX5_turned_47 (pk_sub (by first | omega | exact Nat.one_le_two_pow)) ?_
            refine v_ishl (v := (nI (2 ^ (23 - h)))) 49 zC dX5_turned_48 (b1n (by omega)) ?_
            refine v_goto 53 zC dX5_turned_49 ?_
            refine v_ior (v := (nI (x ||| (2 ^ (23 - h))))) 54 zC dX5_turned_53 (fa_or _ _) ?_
            refine v_is_n (lv2 := [(2, .int (nI (x ||| (2 ^ (23 - h))))), (3, .int (nI h)), (1, .int (nI p)), (0, .ref r0)]) 55 zC dX5_turned_54 (by rw [hnE]; decide) rfl ?_
            refine v_inc (v := (nI (h + 1))) (lv2 := [(3, .int (nI (h + 1))), (2, .int (nI (x ||| (2 ^ (23 - h))))), (1, .int (nI p)), (0, .ref r0)]) 58 zC dX5_turned_55 (j := 1) rfl (nI_add _ 1) (by rw [hnE]; decide) rfl ?_
            refine v_goto 23 zC dX5_turned_58 ?_
            refine v_lvs (lv2 := [(3, .int (nI (h + 1))), (2, .int (nI (x ||| (2 ^ (23 - h))))), (1, .int (nI p)), (0, .ref r0)]) [0, 1, 2, 3] rfl ?_
            exact ih23 _ (by omega) (x ||| (2 ^ (23 - h))) (h + 1) (it_s hx (by first | exact rv_1 hu9 | exact rv_0 hv9)) (by first | exact hxl | exact Nat.or_lt_two_pow hxl (Nat.pow_lt_pow_right (by decide) (by omega))) (by first | omega | assumption | rfl | (simp only []; omega) | decide) rfl
      refine v_lvs (lv2 := [(3, .int (nI 0)), (2, .int (nI 0)), (1, .int (nI p)), (0, .ref r0)]) [0, 1, 2, 3] rfl ?_
      exact lp23 _ 0 0 rfl (by first | omega | assumption | rfl | (simp only []; omega) | decide) (by first | omega | assumption | rfl | (simp only []; omega) | decide) rfl
  refine v_lvs (lv2 := [(1, .int (nI 0)), (0, .ref r0)]) [0, 1] rfl ?_
  exact lp11 _ op 0 (fun z => by rw [if_neg (Nat.not_lt_zero _)]) hop vop (by first | omega | assumption | rfl | (simp only []; omega) | decide) rfl
set_option maxRecDepth 100000 in
set_option maxHeartbeats 4000000 in
theorem c_X5_keeper (l : Launch) (D : va_G) (cI : ClassId) (r0 k1 k2 k3 k4 k6 k7 k8 k10 k12 k13 k14 k15 k16 k21 k22 k23 k24 k25 k30 k31 k33 : Nat) (n m ls ap sq pl tz rs : Nat) (bd pd tk : Bool) (kv : Value) (sd : Int32) (ki op fa K G T : Nat → Nat) (sh : Nat) (kw kn : Nat → Nat) (M : Nat → Option Nat) (mw : Nat → Nat) (R : Nat → Nat) (w : Int32) (hw : FW n m sh ki op fa K G T) (hkw : ∀ z, kw z < 1024) (hkn : ∀ z, kn z < 1024) (hM : ∀ z v, M z = some v → v < 7) : CT l yX5_keeper cX5_keeper 8 (some .int) { frames := 7, cells := 0, slots := 0, locals := 158 } D cI [.ref r0, .int w] [(r0, .inr (5, [.int (nI n), .ref k1, .ref k2, .ref k3, .ref k4, .int (nI m), .ref k6, .ref k7, .ref k8, .int (nI 0), .ref k10, .int (nI 0), .ref k12, .ref k13, .ref k14, .ref k15, .ref k16, .int (nI ls), .int (nI ap), .int (bz bd), .int (nI sq), .ref k21, .ref k22, .ref k23, .ref k24, .ref k25, .int (bz pd), .int (nI pl), .int (bz tk), kv, .ref k30, .ref k31, .int (nI tz), .ref k33, .int (nI rs), .int sd])), (k1, .inl (cI, 7, .inl (nIf ki))), (k2, .inl (cI, 7, .inl (nIf op))), (k3, .inl (cI, 7, .inl (nIf (shF sh)))), (k4, .inl (cI, 7, .inl (nIf fa))), (k6, .inl (cI, 6, .inl (nIf K))), (k7, .inl (cI, 6, .inl (nIf G))), (k8, .inl (cI, 6, .inl (nIf T))), (k12, .inl (cI, 7, .inl (nIf kw))), (k13, .inl (cI, 175, .inl (nIf kn))), (k14, .inl (cI, 144, .inl (mIf M))), (k15, .inl (cI, 7, .inl (nIf mw))), (k10, .inl (cI, 7, .inl (nIf R)))] (fun zr zw => (∃ kw1 : Nat → Nat, ∃ kn1 : Nat → Nat, ∃ M1 : Nat → Option Nat, ∃ mw1 : Nat → Nat, ∃ rc : Nat, ∃ rv : Int32, (q_keeper (n, m, sh, 0, ki, op, fa, K, G, T) w = (rc, rv)) ∧ (∀ z, kw1 z < 1024) ∧ (∀ z, kn1 z < 1024) ∧ (∀ z v, M1 z = some v → v < 7) ∧ zr = some (.int rv) ∧ zw = [(r0, .inr (5, [.int (nI n), .ref k1, .ref k2, .ref k3, .ref k4, .int (nI m), .ref k6, .ref k7, .ref k8, .int (nI 0), .ref k10, .int (nI 0), .ref k12, .ref k13, .ref k14, .ref k15, .ref k16, .int (nI ls), .int (nI ap), .int (bz bd), .int (nI sq), .ref k21, .ref k22, .ref k23, .ref k24, .ref k25, .int (bz pd), .int (nI pl), .int (bz tk), kv, .ref k30, .ref k31, .int (nI tz), .ref k33, .int (nI rs), .int sd])), (k1, .inl (cI, 7, .inl (nIf ki))), (k2, .inl (cI, 7, .inl (nIf op))), (k3, .inl (cI, 7, .inl (nIf (shF sh)))), (k4, .inl (cI, 7, .inl (nIf fa))), (k6, .inl (cI, 6, .inl (nIf K))), (k7, .inl (cI, 6, .inl (nIf G))), (k8, .inl (cI, 6, .inl (nIf T))), (k12, .inl (cI, 7, .inl (nIf kw1))), (k13, .inl (cI, 175, .inl (nIf kn1))), (k14, .inl (cI, 144, .inl (mIf M1))), (k15, .inl (cI, 7, .inl (nIf mw1))), (k10, .inl (cI, 7, .inl (nIf (rf R rc))))])) := by
  refine CT_of RX5 rfl (by decide +kernel) (Nat.le_of_ble_eq_true rfl) (fun E hnE zC zT => ?_)
  have hA : ∀ q, (ev_s E).heap.size ≤ q → ev_A E q := fun q h => by rw [zT.2]; exact Or.inr h
  obtain ⟨hn, hm, hsh, hki, hop, hfa, hK, hG, hT, vki, vop, vfa, vK, vG, vT⟩ := id hw
  have h2n : 2 ^ n ≤ 2 ^ 7 := Nat.pow_le_pow_right (by decide) hn
  show VV E 0 0 0 [(0, .ref r0), (1, .int w)] [] [(r0, .inr (5, [.int (nI n), .ref k1, .ref k2, .ref k3, .ref k4, .int (nI m), .ref k6, .ref k7, .ref k8, .int (nI 0), .ref k10, .int (nI 0), .ref k12, .ref k13, .ref k14, .ref k15, .ref k16, .int (nI ls), .int (nI ap), .int (bz bd), .int (nI sq), .ref k21, .ref k22, .ref k23, .ref k24, .ref k25, .int (bz pd), .int (nI pl), .int (bz tk), kv, .ref k30, .ref k31, .int (nI tz), .ref k33, .int (nI rs), .int sd])), (k1, .inl (cI, 7, .inl (nIf ki))), (k2, .inl (cI, 7, .inl (nIf op))), (k3, .inl (cI, 7, .inl (nIf (shF sh)))), (k4, .inl (cI, 7, .inl (nIf fa))), (k6, .inl (cI, 6, .inl (nIf K))), (k7, .inl (cI, 6, .inl (nIf G))), (k8, .inl (cI, 6, .inl (nIf T))), (k12, .inl (cI, 7, .inl (nIf kw))), (k13, .inl (cI, 175, .inl (nIf kn))), (k14, .inl (cI, 144, .inl (mIf M))), (k15, .inl (cI, 7, .inl (nIf mw))), (k10, .inl (cI, 7, .inl (nIf R)))]
  refine v_al_n 1 zC dX5_keeper_0 0 rfl ?_
  refine v_ic (v := (nI 0)) 2 zC dX5_keeper_1 (by decide +kernel) ?_
  refine v_pf (ws2 := [(r0, .inr (5, [.int (nI n), .ref k1, .ref k2, .ref k3, .ref k4, .int (nI m), .ref k6, .ref k7, .ref k8, .int (nI 0), .ref k10, .int (nI 0), .ref k12, .ref k13, .ref k14, .ref k15, .ref k16, .int (nI ls), .int (nI ap), .int (bz bd), .int (nI sq), .ref k21, .ref k22, .ref k23, .ref k24, .ref k25, .int (bz pd), .int (nI pl), .int (bz tk), kv, .ref k30, .ref k31, .int (nI tz), .ref k33, .int (nI rs), .int sd])), (k1, .inl (cI, 7, .inl (nIf ki))), (k2, .inl (cI, 7, .inl (nIf op))), (k3, .inl (cI, 7, .inl (nIf (shF sh)))), (k4, .inl (cI, 7, .inl (nIf fa))), (k6, .inl (cI, 6, .inl (nIf K))), (k7, .inl (cI, 6, .inl (nIf G))), (k8, .inl (cI, 6, .inl (nIf T))), (k12, .inl (cI, 7, .inl (nIf kw))), (k13, .inl (cI, 175, .inl (nIf kn))), (k14, .inl (cI, 144, .inl (mIf M))), (k15, .inl (cI, 7, .inl (nIf mw))), (k10, .inl (cI, 7, .inl (nIf R)))]) 5 0 zC dX5_keeper_2 pf_X5_73 rfl (Nat.le_of_ble_eq_true rfl) rfl rfl rfl ?_
  refine v_il_n 6 zC dX5_keeper_5 1 rfl ?_
  refine v_i2l (v := (Int32.toInt64 w)) 7 zC dX5_keeper_6 rfl ?_
  refine v_lc (v := lN 0) 8 zC dX5_keeper_7 (by decide +kernel) ?_
  refine v_lc (v := lN 1) 9 zC dX5_keeper_8 (by decide +kernel) ?_
  refine v_cS (As := [.long (Int32.toInt64 w), .long (lN 0), .long (lN 1)]) (st := []) 12 [] zC dX5_keeper_9 hA (c_X5_in (ev_l E) (ev_D E) cI (x := (Int32.toInt64 w)) (y := (lN 0)) (z := (lN 1)) ) cf_X5_in lk_X5_80 rfl rfl rfl (by decide +kernel) (Nat.le_of_ble_eq_true rfl) (fun rv_1 wv_2 hp_3 hm_4 => ?_)
  clear hm_4
  obtain ⟨rfl, rfl⟩ := hp_3
  show VV E 0 0 12 [(0, .ref r0), (1, .int w)] [.int (bz (inB (Int32.toInt64 w) (lN 0) (lN 1)))] [(r0, .inr (5, [.int (nI n), .ref k1, .ref k2, .ref k3, .ref k4, .int (nI m), .ref k6, .ref k7, .ref k8, .int (nI 0), .ref k10, .int (nI 0), .ref k12, .ref k13, .ref k14, .ref k15, .ref k16, .int (nI ls), .int (nI ap), .int (bz bd), .int (nI sq), .ref k21, .ref k22, .ref k23, .ref k24, .ref k25, .int (bz pd), .int (nI pl), .int (bz tk), kv, .ref k30, .ref k31, .int (nI tz), .ref k33, .int (nI rs), .int sd])), (k1, .inl (cI, 7, .inl (nIf ki))), (k2, .inl (cI, 7, .inl (nIf op))), (k3, .inl (cI, 7, .inl (nIf (shF sh)))), (k4, .inl (cI, 7, .inl (nIf fa))), (k6, .inl (cI, 6, .inl (nIf K))), (k7, .inl (cI, 6, .inl (nIf G))), (k8, .inl (cI, 6, .inl (nIf T))), (k12, .inl (cI, 7, .inl (nIf kw))), (k13, .inl (cI, 175, .inl (nIf kn))), (k14, .inl (cI, 144, .inl (mIf M))), (k15, .inl (cI, 7, .inl (nIf mw))), (k10, .inl (cI, 7, .inl (nIf R)))]
  rcases in_ix1 (N := 2) (p := w) (show 1 < 2 ^ 29 by decide) rfl with ⟨e9, b9⟩ | ⟨jw, e9, i9, l9, b9⟩
  ·
    rw [b9]
    have hn_w := e9
    refine v_ifb_ne 22 15 zC dX5_keeper_12 (fun z => absurd z (by decide)) (fun _ => ?_)
    refine v_al_n 16 zC dX5_keeper_15 0 rfl ?_
    refine v_bp (v := (-2)) 18 zC dX5_keeper_16 (by decide +kernel) ?_
    refine v_cV (As := [.int (-2)]) (st := []) 21 0 [0, 12] zC dX5_keeper_18 hA (c_X5_refuse (ev_l E) (ev_D E) cI (r0 := r0) (k1 := k1) (k2 := k2) (k3 := k3) (k4 := k4) (k6 := k6) (k7 := k7) (k8 := k8) (k10 := k10) (k12 := k12) (k13 := k13) (k14 := k14) (k15 := k15) (k16 := k16) (k21 := k21) (k22 := k22) (k23 := k23) (k24 := k24) (k25 := k25) (k30 := k30) (k31 := k31) (k33 := k33) (n := n) (m := m) (aw := 0) (ls := ls) (ap := ap) (sq := sq) (pl := pl) (tz := tz) (rs := rs) (bd := bd) (pd := pd) (tk := tk) (kv := kv) (sd := sd) (R := R) (v := (-2)) (j := 2) (hv := (by first | omega | assumption | rfl | (simp only []; omega) | decide)) (h1 := (by first | omega | assumption | rfl | (simp only []; omega) | decide)) (h6 := (by first | omega | assumption | rfl | (simp only []; omega) | decide))) cf_X5_refuse lk_X5_129 rfl rfl rfl rfl rfl (by decide +kernel) (Nat.le_of_ble_eq_true rfl) (fun rv_6 wv_7 hp_8 hm_9 => ?_)
    clear hm_9
    obtain ⟨rfl, rfl⟩ := hp_8
    show VV E 0 0 21 [(0, .ref r0), (1, .int w)] [.int (-2)] [(r0, .inr (5, [.int (nI n), .ref k1, .ref k2, .ref k3, .ref k4, .int (nI m), .ref k6, .ref k7, .ref k8, .int (nI 0), .ref k10, .int (nI 0), .ref k12, .ref k13, .ref k14, .ref k15, .ref k16, .int (nI ls), .int (nI ap), .int (bz bd), .int (nI sq), .ref k21, .ref k22, .ref k23, .ref k24, .ref k25, .int (bz pd), .int (nI pl), .int (bz tk), kv, .ref k30, .ref k31, .int (nI tz), .ref k33, .int (nI rs), .int sd])), (k1, .inl (cI, 7, .inl (nIf ki))), (k2, .inl (cI, 7, .inl (nIf op))), (k3, .inl (cI, 7, .inl (nIf (shF sh)))), (k4, .inl (cI, 7, .inl (nIf fa))), (k6, .inl (cI, 6, .inl (nIf K))), (k7, .inl (cI, 6, .inl (nIf G))), (k8, .inl (cI, 6, .inl (nIf T))), (k12, .inl (cI, 7, .inl (nIf kw))), (k13, .inl (cI, 175, .inl (nIf kn))), (k14, .inl (cI, 144, .inl (mIf M))), (k15, .inl (cI, 7, .inl (nIf mw))), (k10, .inl (cI, 7, .inl (nIf (un R 2 (R 2 + 1)))))]
    refine v_iret zC zT dX5_keeper_21  ?_
    first | (have g9 := hn_w; exact ⟨kw, kn, M, mw, 2, _, by unfold q_keeper; rw [hn_w], hkw, hkn, hM, rfl, rfl⟩) | exact ⟨_, _, _, _, 0, _, by unfold q_keeper; rw [hi_w]; dsimp only; rw [show g_n (n, m, sh, 0, ki, op, fa, K, G, T) = p from (by show n = p; omega), ← hs]; first | rw [if_pos (by assumption)] | rw [if_neg (by assumption)], hkw2, hkn2, hM2, rfl, rfl⟩
  ·
    rw [b9]
    subst e9
    have hi_w := i9
    have hl_w := l9
    refine v_ifb_ne 22 15 zC dX5_keeper_12 (fun _ => ?_) (fun z => absurd z (by decide))
    refine v_bp (v := (-9)) 24 zC dX5_keeper_22 (by decide +kernel) ?_
    refine v_is_n (lv2 := [(2, .int (-9)), (0, .ref r0), (1, .int (nI jw))]) 25 zC dX5_keeper_24 (by rw [hnE]; decide) rfl ?_
    refine v_bp (v := (-9)) 27 zC dX5_keeper_25 (by decide +kernel) ?_
    refine v_is_n (lv2 := [(3, .int (-9)), (2, .int (-9)), (0, .ref r0), (1, .int (nI jw))]) 28 zC dX5_keeper_27 (by rw [hnE]; decide) rfl ?_
    refine v_ic (v := (nI 0)) 29 zC dX5_keeper_28 (by decide +kernel) ?_
    refine v_is (lv2 := [(4, .int (nI 0)), (3, .int (-9)), (2, .int (-9)), (0, .ref r0), (1, .int (nI jw))]) 31 zC dX5_keeper_29 (by rw [hnE]; decide) rfl ?_
    have lp31 : ∀ (mz : Nat) (kw2 : Nat → Nat) (kn2 : Nat → Nat) (M2 : Nat → Option Nat) (mw2 : Nat → Nat) (B : Option Nat) (L : Option Nat) (p : Nat), (∀ z, kw2 z < 1024) → (∀ z, kn2 z < 1024) → (∀ z v, M2 z = some v → v < 7) → ((B, L) = it (keeS (n, m, sh, 0, ki, op, fa, K, G, T)) (none, none) p) → (B.isSome = L.isSome) → (∀ v, B = some v → v < 7) → (∀ v, L = some v → v ≤ 70) → (p ≤ n) → n - p = mz → VV E 0 0 31 [(4, .int (nI p)), (3, .int (mI L)), (2, .int (mI B)), (0, .ref r0), (1, .int (nI jw))] [] [(r0, .inr (5, [.int (nI n), .ref k1, .ref k2, .ref k3, .ref k4, .int (nI m), .ref k6, .ref k7, .ref k8, .int (nI 0), .ref k10, .int (nI 0), .ref k12, .ref k13, .ref k14, .ref k15, .ref k16, .int (nI ls), .int (nI ap), .int (bz bd), .int (nI sq), .ref k21, .ref k22, .ref k23, .ref k24, .ref k25, .int (bz pd), .int (nI pl), .int (bz tk), kv, .ref k30, .ref k31, .int (nI tz), .ref k33, .int (nI rs), .int sd])), (k1, .inl (cI, 7, .inl (nIf ki))), (k2, .inl (cI, 7, .inl (nIf op))), (k3, .inl (cI, 7, .inl (nIf (shF sh)))), (k4, .inl (cI, 7, .inl (nIf fa))), (k6, .inl (cI, 6, .inl (nIf K))), (k7, .inl (cI, 6, .inl (nIf G))), (k8, .inl (cI, 6, .inl (nIf T))), (k12, .inl (cI, 7, .inl (nIf kw2))), (k13, .inl (cI, 175, .inl (nIf kn2))), (k14, .inl (cI, 144, .inl (mIf M2))), (k15, .inl (cI, 7, .inl (nIf mw2))), (k10, .inl (cI, 7, .inl (nIf R)))] := by
      intro mz
      induction mz using Nat.strongRecOn with
      | _ mz ih31 =>
      intro kw2 kn2 M2 mw2 B L p hkw2 hkn2 hM2 hs hBL hBl hLl hp hm31
      refine v_il 33 zC dX5_keeper_31 0 rfl ?_
      refine v_al_n 34 zC dX5_keeper_33 3 rfl ?_
      refine v_gf 37 0 zC dX5_keeper_34 gf_X5_77 rfl rfl ?_
      refine v_icmpn_ge 119 40 zC dX5_keeper_37 (fun h_11 => ?_) (fun h_11 => ?_)
      ·
        refine v_il_n 120 zC dX5_keeper_119 4 rfl ?_
        refine v_ifn_ne 127 123 zC dX5_keeper_120 (fun h_12 => ?_) (fun h_12 => ?_)
        ·
          refine v_il_n 128 zC dX5_keeper_127 1 rfl ?_
          refine v_iret zC zT dX5_keeper_128  ?_
          first | (have g9 := hn_w; exact ⟨kw, kn, M, mw, 2, _, by unfold q_keeper; rw [hn_w], hkw, hkn, hM, rfl, rfl⟩) | exact ⟨_, _, _, _, 0, _, by unfold q_keeper; rw [hi_w]; dsimp only; rw [show g_n (n, m, sh, 0, ki, op, fa, K, G, T) = p from (by show n = p; omega), ← hs]; first | rw [if_pos (by assumption)] | rw [if_neg (by assumption)], hkw2, hkn2, hM2, rfl, rfl⟩
        ·
          refine v_il_n 124 zC dX5_keeper_123 2 rfl ?_
          refine v_goto 128 zC dX5_keeper_124 ?_
          refine v_iret zC zT dX5_keeper_128  ?_
          first | (have g9 := hn_w; exact ⟨kw, kn, M, mw, 2, _, by unfold q_keeper; rw [hn_w], hkw, hkn, hM, rfl, rfl⟩) | exact ⟨_, _, _, _, 0, _, by unfold q_keeper; rw [hi_w]; dsimp only; rw [show g_n (n, m, sh, 0, ki, op, fa, K, G, T) = p from (by show n = p; omega), ← hs]; first | rw [if_pos (by assumption)] | rw [if_neg (by assumption)], hkw2, hkn2, hM2, rfl, rfl⟩
      ·
        refine v_al_n 41 zC dX5_keeper_40 3 rfl ?_
        refine v_gf 44 0 zC dX5_keeper_41 gf_X5_16 rfl rfl ?_
        refine v_il 46 zC dX5_keeper_44 0 rfl ?_
        refine v_ialn (v := (nI ((shF sh) p))) 47 3 zC dX5_keeper_46 rfl (by omega) rfl ?_
        refine v_is (lv2 := [(5, .int (nI ((shF sh) p))), (4, .int (nI p)), (3, .int (mI L)), (2, .int (mI B)), (0, .ref r0), (1, .int (nI jw))]) 49 zC dX5_keeper_47 (by rw [hnE]; decide) rfl ?_
        refine v_al_n 50 zC dX5_keeper_49 4 rfl ?_
        refine v_gf 53 0 zC dX5_keeper_50 gf_X5_16 rfl rfl ?_
        refine v_il 55 zC dX5_keeper_53 1 rfl ?_
        refine v_ic (v := (nI 1)) 56 zC dX5_keeper_55 (by decide +kernel) ?_
        refine v_iasn (ws2 := [(r0, .inr (5, [.int (nI n), .ref k1, .ref k2, .ref k3, .ref k4, .int (nI m), .ref k6, .ref k7, .ref k8, .int (nI 0), .ref k10, .int (nI 0), .ref k12, .ref k13, .ref k14, .ref k15, .ref k16, .int (nI ls), .int (nI ap), .int (bz bd), .int (nI sq), .ref k21, .ref k22, .ref k23, .ref k24, .ref k25, .int (bz pd), .int (nI pl), .int (bz tk), kv, .ref k30, .ref k31, .int (nI tz), .ref k33, .int (nI rs), .int sd])), (k1, .inl (cI, 7, .inl (nIf ki))), (k2, .inl (cI, 7, .inl (nIf op))), (k3, .inl (cI, 7, .inl (nIf (un (shF sh) p 1)))), (k4, .inl (cI, 7, .inl (nIf fa))), (k6, .inl (cI, 6, .inl (nIf K))), (k7, .inl (cI, 6, .inl (nIf G))), (k8, .inl (cI, 6, .inl (nIf T))), (k12, .inl (cI, 7, .inl (nIf kw2))), (k13, .inl (cI, 175, .inl (nIf kn2))), (k14, .inl (cI, 144, .inl (mIf M2))), (k15, .inl (cI, 7, .inl (nIf mw2))), (k10, .inl (cI, 7, .inl (nIf R)))]) 57 3 zC dX5_keeper_56 rfl (by omega) (by rw [upd_nIf]; first | done | rfl) ?_
        rw [shf_o]
        refine v_al_n 58 zC dX5_keeper_57 4 rfl ?_
        refine v_cV (As := []) (st := []) 61 0 [0, 1, 2, 3, 4, 5, 6, 7, 8, 9, 10, 11] zC dX5_keeper_58 hA (c_X5_allNow (ev_l E) (ev_D E) cI (r0 := r0) (k1 := k1) (k2 := k2) (k3 := k3) (k4 := k4) (k6 := k6) (k7 := k7) (k8 := k8) (k10 := k10) (k12 := k12) (k13 := k13) (k14 := k14) (k15 := k15) (k16 := k16) (k21 := k21) (k22 := k22) (k23 := k23) (k24 := k24) (k25 := k25) (k30 := k30) (k31 := k31) (k33 := k33) (n := n) (m := m) (aw := 0) (ls := ls) (ap := ap) (sq := sq) (pl := pl) (tz := tz) (rs := rs) (bd := bd) (pd := pd) (tk := tk) (kv := kv) (sd := sd) (ki := ki) (op := op) (fa := fa) (K := K) (G := G) (T := T) (sh := (sh ||| 2 ^ p)) (kw := kw2) (kn := kn2) (M := M2) (mw := mw2) (hw := ⟨hn, hm, (Nat.or_lt_two_pow hsh (pow_lt2 (by omega))), hki, hop, hfa, hK, hG, hT, vki, vop, vfa, vK, vG, vT⟩) (hkw := hkw2) (hkn := hkn2) (hM := hM2)) cf_X5_allNow lk_X5_245 rfl rfl rfl rfl rfl (by decide +kernel) (Nat.le_of_ble_eq_true rfl) (fun rv_13 wv_14 hp_15 hm_16 => ?_)
        clear hm_16
        obtain ⟨kw1_17, kn1_18, M1_19, mw1_20, hR_21, hl_22, rfl, rfl⟩ := hp_15
        show VV E 0 0 61 [(5, .int (nI ((shF sh) p))), (4, .int (nI p)), (3, .int (mI L)), (2, .int (mI B)), (0, .ref r0), (1, .int (nI jw))] [.int (nI (ALL (n, m, (sh ||| 2 ^ p), 0, ki, op, fa, K, G, T)))] [(r0, .inr (5, [.int (nI n), .ref k1, .ref k2, .ref k3, .ref k4, .int (nI m), .ref k6, .ref k7, .ref k8, .int (nI 0), .ref k10, .int (nI 0), .ref k12, .ref k13, .ref k14, .ref k15, .ref k16, .int (nI ls), .int (nI ap), .int (bz bd), .int (nI sq), .ref k21, .ref k22, .ref k23, .ref k24, .ref k25, .int (bz pd), .int (nI pl), .int (bz tk), kv, .ref k30, .ref k31, .int (nI tz), .ref k33, .int (nI rs), .int sd])), (k1, .inl (cI, 7, .inl (nIf ki))), (k2, .inl (cI, 7, .inl (nIf op))), (k3, .inl (cI, 7, .inl (nIf (shF (sh ||| 2 ^ p))))), (k4, .inl (cI, 7, .inl (nIf fa))), (k6, .inl (cI, 6, .inl (nIf K))), (k7, .inl (cI, 6, .inl (nIf G))), (k8, .inl (cI, 6, .inl (nIf T))), (k12, .inl (cI, 7, .inl (nIf kw1_17))), (k13, .inl (cI, 175, .inl (nIf kn1_18))), (k14, .inl (cI, 144, .inl (mIf M1_19))), (k15, .inl (cI, 7, .inl (nIf mw1_20))), (k10, .inl (cI, 7, .inl (nIf R)))]
        have hR9 := hR_21
        have hl9 := hl_22
        refine v_is (lv2 := [(6, .int (nI (ALL (n, m, (sh ||| 2 ^ p), 0, ki, op, fa, K, G, T)))), (5, .int (nI ((shF sh) p))), (4, .int (nI p)), (3, .int (mI L)), (2, .int (mI B)), (0, .ref r0), (1, .int (nI jw))]) 63 zC dX5_keeper_61 (by rw [hnE]; decide) rfl ?_
        refine v_al_n 64 zC dX5_keeper_63 5 rfl ?_
        refine v_gf 67 0 zC dX5_keeper_64 gf_X5_16 rfl rfl ?_
        refine v_il 69 zC dX5_keeper_67 2 rfl ?_
        refine v_il 71 zC dX5_keeper_69 1 rfl ?_
        refine v_iasn (ws2 := [(r0, .inr (5, [.int (nI n), .ref k1, .ref k2, .ref k3, .ref k4, .int (nI m), .ref k6, .ref k7, .ref k8, .int (nI 0), .ref k10, .int (nI 0), .ref k12, .ref k13, .ref k14, .ref k15, .ref k16, .int (nI ls), .int (nI ap), .int (bz bd), .int (nI sq), .ref k21, .ref k22, .ref k23, .ref k24, .ref k25, .int (bz pd), .int (nI pl), .int (bz tk), kv, .ref k30, .ref k31, .int (nI tz), .ref k33, .int (nI rs), .int sd])), (k1, .inl (cI, 7, .inl (nIf ki))), (k2, .inl (cI, 7, .inl (nIf op))), (k3, .inl (cI, 7, .inl (nIf (un (shF (sh ||| 2 ^ p)) p ((shF sh) p))))), (k4, .inl (cI, 7, .inl (nIf fa))), (k6, .inl (cI, 6, .inl (nIf K))), (k7, .inl (cI, 6, .inl (nIf G))), (k8, .inl (cI, 6, .inl (nIf T))), (k12, .inl (cI, 7, .inl (nIf kw1_17))), (k13, .inl (cI, 175, .inl (nIf kn1_18))), (k14, .inl (cI, 144, .inl (mIf M1_19))), (k15, .inl (cI, 7, .inl (nIf mw1_20))), (k10, .inl (cI, 7, .inl (nIf R)))]) 72 3 zC dX5_keeper_71 rfl (by omega) (by rw [upd_nIf]; first | done | rfl) ?_
        rw [shf_r]
        refine v_il_n 73 zC dX5_keeper_72 4 rfl ?_
        refine v_ifo_lt 82 76 zC dX5_keeper_73 (fun v e => by have := hBl v e; omega) (fun h_23 => ?_) (fun h_23 => ?_)
        ·
          have hk9 := keL_n (hBL.symm.trans h_23)
          refine v_ic (v := (nI 1)) 83 zC dX5_keeper_82 (by decide +kernel) ?_
          refine v_goto 87 zC dX5_keeper_83 ?_
          refine v_is (lv2 := [(7, .int (nI 1)), (6, .int (nI (ALL (n, m, (sh ||| 2 ^ p), 0, ki, op, fa, K, G, T)))), (5, .int (nI ((shF sh) p))), (4, .int (nI p)), (3, .int (mI L)), (2, .int (mI B)), (0, .ref r0), (1, .int (nI jw))]) 89 zC dX5_keeper_87 (by rw [hnE]; decide) rfl ?_
          refine v_il 91 zC dX5_keeper_89 0 rfl ?_
          refine v_if_eq 99 94 zC dX5_keeper_91 (fun z => absurd z (by decide +kernel)) (fun _ => ?_)
          refine v_il 96 zC dX5_keeper_94 3 rfl ?_
          refine v_goto 100 zC dX5_keeper_96 ?_
          refine v_is_n (lv2 := [(2, .int (nI p)), (7, .int (nI 1)), (6, .int (nI (ALL (n, m, (sh ||| 2 ^ p), 0, ki, op, fa, K, G, T)))), (5, .int (nI ((shF sh) p))), (4, .int (nI p)), (3, .int (mI L)), (0, .ref r0), (1, .int (nI jw))]) 101 zC dX5_keeper_100 (by rw [hnE]; decide) rfl ?_
          refine v_il 103 zC dX5_keeper_101 1 rfl ?_
          refine v_if_eq 111 106 zC dX5_keeper_103 (fun z => absurd z (by decide +kernel)) (fun _ => ?_)
          refine v_il 108 zC dX5_keeper_106 2 rfl ?_
          refine v_goto 112 zC dX5_keeper_108 ?_
          refine v_is_n (lv2 := [(3, .int (nI (ALL (n, m, (sh ||| 2 ^ p), 0, ki, op, fa, K, G, T)))), (2, .int (nI p)), (7, .int (nI 1)), (6, .int (nI (ALL (n, m, (sh ||| 2 ^ p), 0, ki, op, fa, K, G, T)))), (5, .int (nI ((shF sh) p))), (4, .int (nI p)), (0, .ref r0), (1, .int (nI jw))]) 113 zC dX5_keeper_112 (by rw [hnE]; decide) rfl ?_
          refine v_inc (v := (nI (p + 1))) (lv2 := [(4, .int (nI (p + 1))), (3, .int (nI (ALL (n, m, (sh ||| 2 ^ p), 0, ki, op, fa, K, G, T)))), (2, .int (nI p)), (7, .int (nI 1)), (6, .int (nI (ALL (n, m, (sh ||| 2 ^ p), 0, ki, op, fa, K, G, T)))), (5, .int (nI ((shF sh) p))), (0, .ref r0), (1, .int (nI jw))]) 116 zC dX5_keeper_113 (j := 5) rfl (nI_add _ 1) (by rw [hnE]; decide) rfl ?_
          refine v_goto 31 zC dX5_keeper_116 ?_
          refine v_lvs (lv2 := [(4, .int (nI (p + 1))), (3, .int (mI (some (ALL (n, m, (sh ||| 2 ^ p), 0, ki, op, fa, K, G, T))))), (2, .int (mI (some p))), (0, .ref r0), (1, .int (nI jw))]) [0, 1, 2, 6, 7] rfl ?_
          exact ih31 _ (by omega) kw1_17 kn1_18 M1_19 mw1_20 (some p) (some (ALL (n, m, (sh ||| 2 ^ p), 0, ki, op, fa, K, G, T))) (p + 1) (by first | exact hR9.2.2.2.1 | exact hkw2) (by first | exact hR9.2.2.2.2.1 | exact hkn2) (by first | exact hR9.2.2.2.2.2 | exact hM2) (it_s hs (by first | exact kee_1 (hk9 _) | exact kee_1 hk9 | exact kee_0 hk9)) (by first | exact hBL | rfl) (fun v e => by first | exact hBl v e | (cases e; omega)) (fun v e => by first | exact hLl v e | (cases e; exact hl9)) (by first | omega | assumption | rfl | (simp only []; omega) | decide) rfl
        ·
          obtain ⟨l9, he_l9⟩ := Option.isSome_iff_exists.mp (hBL.symm.trans h_23)
          subst he_l9
          have hl8 := hLl _ rfl
          refine v_il 78 zC dX5_keeper_76 0 rfl ?_
          refine v_il_n 79 zC dX5_keeper_78 3 rfl ?_
          refine v_icmpn_ge 86 82 zC dX5_keeper_79 (fun h_26 => ?_) (fun h_26 => ?_)
          ·
            have hk9 : keL (some l9) _ = false := decide_eq_false (Nat.not_lt.mpr h_26)
            refine v_ic (v := (nI 0)) 87 zC dX5_keeper_86 (by decide +kernel) ?_
            refine v_is (lv2 := [(7, .int (nI 0)), (6, .int (nI (ALL (n, m, (sh ||| 2 ^ p), 0, ki, op, fa, K, G, T)))), (5, .int (nI ((shF sh) p))), (4, .int (nI p)), (3, .int (nI l9)), (2, .int (mI B)), (0, .ref r0), (1, .int (nI jw))]) 89 zC dX5_keeper_87 (by rw [hnE]; decide) rfl ?_
            refine v_il 91 zC dX5_keeper_89 0 rfl ?_
            refine v_if_eq 99 94 zC dX5_keeper_91 (fun _ => ?_) (fun z => absurd (by decide +kernel) z)
            refine v_il_n 100 zC dX5_keeper_99 5 rfl ?_
            refine v_is_n (lv2 := [(2, .int (mI B)), (7, .int (nI 0)), (6, .int (nI (ALL (n, m, (sh ||| 2 ^ p), 0, ki, op, fa, K, G, T)))), (5, .int (nI ((shF sh) p))), (4, .int (nI p)), (3, .int (nI l9)), (0, .ref r0), (1, .int (nI jw))]) 101 zC dX5_keeper_100 (by rw [hnE]; decide) rfl ?_
            refine v_il 103 zC dX5_keeper_101 1 rfl ?_
            refine v_if_eq 111 106 zC dX5_keeper_103 (fun _ => ?_) (fun z => absurd (by decide +kernel) z)
            refine v_il_n 112 zC dX5_keeper_111 5 rfl ?_
            refine v_is_n (lv2 := [(3, .int (nI l9)), (2, .int (mI B)), (7, .int (nI 0)), (6, .int (nI (ALL (n, m, (sh ||| 2 ^ p), 0, ki, op, fa, K, G, T)))), (5, .int (nI ((shF sh) p))), (4, .int (nI p)), (0, .ref r0), (1, .int (nI jw))]) 113 zC dX5_keeper_112 (by rw [hnE]; decide) rfl ?_
            refine v_inc (v := (nI (p + 1))) (lv2 := [(4, .int (nI (p + 1))), (3, .int (nI l9)), (2, .int (mI B)), (7, .int (nI 0)), (6, .int (nI (ALL (n, m, (sh ||| 2 ^ p), 0, ki, op, fa, K, G, T)))), (5, .int (nI ((shF sh) p))), (0, .ref r0), (1, .int (nI jw))]) 116 zC dX5_keeper_113 (j := 5) rfl (nI_add _ 1) (by rw [hnE]; decide) rfl ?_
            refine v_goto 31 zC dX5_keeper_116 ?_
            refine v_lvs (lv2 := [(4, .int (nI (p + 1))), (3, .int (mI (some l9))), (2, .int (mI B)), (0, .ref r0), (1, .int (nI jw))]) [0, 1, 2, 6, 7] rfl ?_
            exact ih31 _ (by omega) kw1_17 kn1_18 M1_19 mw1_20 B (some l9) (p + 1) (by first | exact hR9.2.2.2.1 | exact hkw2) (by first | exact hR9.2.2.2.2.1 | exact hkn2) (by first | exact hR9.2.2.2.2.2 | exact hM2) (it_s hs (by first | exact kee_1 (hk9 _) | exact kee_1 hk9 | exact kee_0 hk9)) (by first | exact hBL | rfl) (fun v e => by first | exact hBl v e | (cases e; omega)) (fun v e => by first | exact hLl v e | (cases e; exact hl9)) (by first | omega | assumption | rfl | (simp only []; omega) | decide) rfl
          ·
            have hk9 : keL (some l9) _ = true := decide_eq_true h_26
            refine v_ic (v := (nI 1)) 83 zC dX5_keeper_82 (by decide +kernel) ?_
            refine v_goto 87 zC dX5_keeper_83 ?_
            refine v_is (lv2 := [(7, .int (nI 1)), (6, .int (nI (ALL (n, m, (sh ||| 2 ^ p), 0, ki, op, fa, K, G, T)))), (5, .int (nI ((shF sh) p))), (4, .int (nI p)), (3, .int (nI l9)), (2, .int (mI B)), (0, .ref r0), (1, .int (nI jw))]) 89 zC dX5_keeper_87 (by rw [hnE]; decide) rfl ?_
            refine v_il 91 zC dX5_keeper_89 0 rfl ?_
            refine v_if_eq 99 94 zC dX5_keeper_91 (fun z => absurd z (by decide +kernel)) (fun _ => ?_)
            refine v_il 96 zC dX5_keeper_94 3 rfl ?_
            refine v_goto 100 zC dX5_keeper_96 ?_
            refine v_is_n (lv2 := [(2, .int (nI p)), (7, .int (nI 1)), (6, .int (nI (ALL (n, m, (sh ||| 2 ^ p), 0, ki, op, fa, K, G, T)))), (5, .int (nI ((shF sh) p))), (4, .int (nI p)), (3, .int (nI l9)), (0, .ref r0), (1, .int (nI jw))]) 101 zC dX5_keeper_100 (by rw [hnE]; decide) rfl ?_
            refine v_il 103 zC dX5_keeper_101 1 rfl ?_
            refine v_if_eq 111 106 zC dX5_keeper_103 (fun z => absurd z (by decide +kernel)) (fun _ => ?_)
            refine v_il 108 zC dX5_keeper_106 2 rfl ?_
            refine v_goto 112 zC dX5_keeper_108 ?_
            refine v_is_n (lv2 := [(3, .int (nI (ALL (n, m, (sh ||| 2 ^ p), 0, ki, op, fa, K, G, T)))), (2, .int (nI p)), (7, .int (nI 1)), (6, .int (nI (ALL (n, m, (sh ||| 2 ^ p), 0, ki, op, fa, K, G, T)))), (5, .int (nI ((shF sh) p))), (4, .int (nI p)), (0, .ref r0), (1, .int (nI jw))]) 113 zC dX5_keeper_112 (by rw [hnE]; decide) rfl ?_
            refine v_inc (v := (nI (p + 1))) (lv2 := [(4, .int (nI (p + 1))), (3, .int (nI (ALL (n, m, (sh ||| 2 ^ p), 0, ki, op, fa, K, G, T)))), (2, .int (nI p)), (7, .int (nI 1)), (6, .int (nI (ALL (n, m, (sh ||| 2 ^ p), 0, ki, op, fa, K, G, T)))), (5, .int (nI ((shF sh) p))), (0, .ref r0), (1, .int (nI jw))]) 116 zC dX5_keeper_113 (j := 5) rfl (nI_add _ 1) (by rw [hnE]; decide) rfl ?_
            refine v_goto 31 zC dX5_keeper_116 ?_
            refine v_lvs (lv2 := [(4, .int (nI (p + 1))), (3, .int (mI (some (ALL (n, m, (sh ||| 2 ^ p), 0, ki, op, fa, K, G, T))))), (2, .int (mI (some p))), (0, .ref r0), (1, .int (nI jw))]) [0, 1, 2, 6, 7] rfl ?_
            exact ih31 _ (by omega) kw1_17 kn1_18 M1_19 mw1_20 (some p) (some (ALL (n, m, (sh ||| 2 ^ p), 0, ki, op, fa, K, G, T))) (p + 1) (by first | exact hR9.2.2.2.1 | exact hkw2) (by first | exact hR9.2.2.2.2.1 | exact hkn2) (by first | exact hR9.2.2.2.2.2 | exact hM2) (it_s hs (by first | exact kee_1 (hk9 _) | exact kee_1 hk9 | exact kee_0 hk9)) (by first | exact hBL | rfl) (fun v e => by first | exact hBl v e | (cases e; omega)) (fun v e => by first | exact hLl v e | (cases e; exact hl9)) (by first | omega | assumption | rfl | (simp only []; omega) | decide) rfl
    refine v_lvs (lv2 := [(4, .int (nI 0)), (3, .int (mI none)), (2, .int (mI none)), (0, .ref r0), (1, .int (nI jw))]) [0, 1, 2, 3, 4] rfl ?_
    exact lp31 _ kw kn M mw none none 0 (by first | exact hR9.2.2.2.1 | exact hkw) (by first | exact hR9.2.2.2.2.1 | exact hkn) (by first | exact hR9.2.2.2.2.2 | exact hM) rfl rfl (fun v e => by cases e) (fun v e => by cases e) (by first | omega | assumption | rfl | (simp only []; omega) | decide) rfl
set_option maxRecDepth 100000 in
set_option maxHeartbeats 4000000 in
theorem c_X5_bridge (l : Launch) (D : va_G) (cI : ClassId) (r0 k1 k2 k3 k4 k6 k7 k8 k10 k12 k13 k14 k15 k16 k21 k22 k23 k24 k25 k30 k31 k33 : Nat) (n m ls ap sq pl tz rs : Nat) (bd pd tk : Bool) (kv : Value) (sd : Int32) (ki op fa K G T : Nat → Nat) (sh : Nat) (kw kn : Nat → Nat) (M : Nat → Option Nat) (mw : Nat → Nat) (hw : FW n m sh ki op fa K G T) (hkw : ∀ z, kw z < 1024) (hkn : ∀ z, kn z < 1024) (hM : ∀ z v, M z = some v → v < 7) : CT l yX5_bridge cX5_bridge 6 (some .int) { frames := 7, cells := 0, slots := 0, locals := 158 } D cI [.ref r0] [(r0, .inr (5, [.int (nI n), .ref k1, .ref k2, .ref k3, .ref k4, .int (nI m), .ref k6, .ref k7, .ref k8, .int (nI 0), .ref k10, .int (nI 0), .ref k12, .ref k13, .ref k14, .ref k15, .ref k16, .int (nI ls), .int (nI ap), .int (bz bd), .int (nI sq), .ref k21, .ref k22, .ref k23, .ref k24, .ref k25, .int (bz pd), .int (nI pl), .int (bz tk), kv, .ref k30, .ref k31, .int (nI tz), .ref k33, .int (nI rs), .int sd])), (k1, .inl (cI, 7, .inl (nIf ki))), (k2, .inl (cI, 7, .inl (nIf op))), (k3, .inl (cI, 7, .inl (nIf (shF sh)))), (k4, .inl (cI, 7, .inl (nIf fa))), (k6, .inl (cI, 6, .inl (nIf K))), (k7, .inl (cI, 6, .inl (nIf G))), (k8, .inl (cI, 6, .inl (nIf T))), (k12, .inl (cI, 7, .inl (nIf kw))), (k13, .inl (cI, 175, .inl (nIf kn))), (k14, .inl (cI, 144, .inl (mIf M))), (k15, .inl (cI, 7, .inl (nIf mw)))] (fun zr zw => (∃ kw1 : Nat → Nat, ∃ kn1 : Nat → Nat, ∃ M1 : Nat → Option Nat, ∃ mw1 : Nat → Nat, (∀ z, kw1 z < 1024) ∧ (∀ z, kn1 z < 1024) ∧ (∀ z v, M1 z = some v → v < 7) ∧ zr = some (.int (mI ((BRID (n, m, sh, 0, ki, op, fa, K, G, T)).1))) ∧ zw = [(r0, .inr (5, [.int (nI n), .ref k1, .ref k2, .ref k3, .ref k4, .int (nI m), .ref k6, .ref k7, .ref k8, .int (nI 0), .ref k10, .int (nI 0), .ref k12, .ref k13, .ref k14, .ref k15, .ref k16, .int (nI ls), .int (nI ap), .int (bz bd), .int (nI sq), .ref k21, .ref k22, .ref k23, .ref k24, .ref k25, .int (bz pd), .int (nI pl), .int (bz tk), kv, .ref k30, .ref k31, .int (nI tz), .ref k33, .int (nI rs), .int sd])), (k1, .inl (cI, 7, .inl (nIf ki))), (k2, .inl (cI, 7, .inl (nIf op))), (k3, .inl (cI, 7, .inl (nIf (shF sh)))), (k4, .inl (cI, 7, .inl (nIf fa))), (k6, .inl (cI, 6, .inl (nIf K))), (k7, .inl (cI, 6, .inl (nIf G))), (k8, .inl (cI, 6, .inl (nIf T))), (k12, .inl (cI, 7, .inl (nIf kw1))), (k13, .inl (cI, 175, .inl (nIf kn1))), (k14, .inl (cI, 144, .inl (mIf M1))), (k15, .inl (cI, 7, .inl (nIf mw1)))])) := by
  refine CT_of RX5 rfl (by decide +kernel) (Nat.le_of_ble_eq_true rfl) (fun E hnE zC zT => ?_)
  have hA : ∀ q, (ev_s E).heap.size ≤ q → ev_A E q := fun q h => by rw [zT.2]; exact Or.inr h
  obtain ⟨hn, hm, hsh, hki, hop, hfa, hK, hG, hT, vki, vop, vfa, vK, vG, vT⟩ := id hw
  have h2n : 2 ^ n ≤ 2 ^ 7 := Nat.pow_le_pow_right (by decide) hn
  show VV E 0 0 0 [(0, .ref r0)] [] [(r0, .inr (5, [.int (nI n), .ref k1, .ref k2, .ref k3, .ref k4, .int (nI m), .ref k6, .ref k7, .ref k8, .int (nI 0), .ref k10, .int (nI 0), .ref k12, .ref k13, .ref k14, .ref k15, .ref k16, .int (nI ls), .int (nI ap), .int (bz bd), .int (nI sq), .ref k21, .ref k22, .ref k23, .ref k24, .ref k25, .int (bz pd), .int (nI pl), .int (bz tk), kv, .ref k30, .ref k31, .int (nI tz), .ref k33, .int (nI rs), .int sd])), (k1, .inl (cI, 7, .inl (nIf ki))), (k2, .inl (cI, 7, .inl (nIf op))), (k3, .inl (cI, 7, .inl (nIf (shF sh)))), (k4, .inl (cI, 7, .inl (nIf fa))), (k6, .inl (cI, 6, .inl (nIf K))), (k7, .inl (cI, 6, .inl (nIf G))), (k8, .inl (cI, 6, .inl (nIf T))), (k12, .inl (cI, 7, .inl (nIf kw))), (k13, .inl (cI, 175, .inl (nIf kn))), (k14, .inl (cI, 144, .inl (mIf M))), (k15, .inl (cI, 7, .inl (nIf mw)))]
  refine v_al_n 1 zC dX5_bridge_0 0 rfl ?_
  refine v_ic (v := (nI 0)) 2 zC dX5_bridge_1 (by decide +kernel) ?_
  refine v_pf (ws2 := [(r0, .inr (5, [.int (nI n), .ref k1, .ref k2, .ref k3, .ref k4, .int (nI m), .ref k6, .ref k7, .ref k8, .int (nI 0), .ref k10, .int (nI 0), .ref k12, .ref k13, .ref k14, .ref k15, .ref k16, .int (nI ls), .int (nI ap), .int (bz bd), .int (nI sq), .ref k21, .ref k22, .ref k23, .ref k24, .ref k25, .int (bz pd), .int (nI pl), .int (bz tk), kv, .ref k30, .ref k31, .int (nI tz), .ref k33, .int (nI rs), .int sd])), (k1, .inl (cI, 7, .inl (nIf ki))), (k2, .inl (cI, 7, .inl (nIf op))), (k3, .inl (cI, 7, .inl (nIf (shF sh)))), (k4, .inl (cI, 7, .inl (nIf fa))), (k6, .inl (cI, 6, .inl (nIf K))), (k7, .inl (cI, 6, .inl (nIf G))), (k8, .inl (cI, 6, .inl (nIf T))), (k12, .inl (cI, 7, .inl (nIf kw))), (k13, .inl (cI, 175, .inl (nIf kn))), (k14, .inl (cI, 144, .inl (mIf M))), (k15, .inl (cI, 7, .inl (nIf mw)))]) 5 0 zC dX5_bridge_2 pf_X5_73 rfl (Nat.le_of_ble_eq_true rfl) rfl rfl rfl ?_
  refine v_bp (v := (-9)) 7 zC dX5_bridge_5 (by decide +kernel) ?_
  refine v_is_n (lv2 := [(1, .int (-9)), (0, .ref r0)]) 8 zC dX5_bridge_7 (by rw [hnE]; decide) rfl ?_
  refine v_sp (v := (nI 999)) 11 zC dX5_bridge_8 (by decide +kernel) ?_
  refine v_is_n (lv2 := [(2, .int (nI 999)), (1, .int (-9)), (0, .ref r0)]) 12 zC dX5_bridge_11 (by rw [hnE]; decide) rfl ?_
  refine v_ic (v := (nI 0)) 13 zC dX5_bridge_12 (by decide +kernel) ?_
  refine v_is_n (lv2 := [(3, .int (nI 0)), (2, .int (nI 999)), (1, .int (-9)), (0, .ref r0)]) 14 zC dX5_bridge_13 (by rw [hnE]; decide) rfl ?_
  have lp14 : ∀ (mz : Nat) (kw2 : Nat → Nat) (kn2 : Nat → Nat) (M2 : Nat → Option Nat) (mw2 : Nat → Nat) (w1 : Nat) (B : Option Nat) (x : Nat) (a : Nat), (∀ z, kw2 z < 1024) → (∀ z, kn2 z < 1024) → (∀ z v, M2 z = some v → v < 7) → (BRD (it (fun a x => it (briS (n, m, sh, 0, ki, op, fa, K, G, T) a) x (g_m (n, m, sh, 0, ki, op, fa, K, G, T) - (a + 1))) (none, 0) a) B x) → (a ≤ m) → (x ≤ 999) → m - a = mz → VV E 0 0 14 [(3, .int (nI a)), (2, .int (nI x)), (1, .int (mI B)), (0, .ref r0)] [] [(r0, .inr (5, [.int (nI n), .ref k1, .ref k2, .ref k3, .ref k4, .int (nI m), .ref k6, .ref k7, .ref k8, .int (nI 0), .ref k10, .int (nI w1), .ref k12, .ref k13, .ref k14, .ref k15, .ref k16, .int (nI ls), .int (nI ap), .int (bz bd), .int (nI sq), .ref k21, .ref k22, .ref k23, .ref k24, .ref k25, .int (bz pd), .int (nI pl), .int (bz tk), kv, .ref k30, .ref k31, .int (nI tz), .ref k33, .int (nI rs), .int sd])), (k1, .inl (cI, 7, .inl (nIf ki))), (k2, .inl (cI, 7, .inl (nIf op))), (k3, .inl (cI, 7, .inl (nIf (shF sh)))), (k4, .inl (cI, 7, .inl (nIf fa))), (k6, .inl (cI, 6, .inl (nIf K))), (k7, .inl (cI, 6, .inl (nIf G))), (k8, .inl (cI, 6, .inl (nIf T))), (k12, .inl (cI, 7, .inl (nIf kw2))), (k13, .inl (cI, 175, .inl (nIf kn2))), (k14, .inl (cI, 144, .inl (mIf M2))), (k15, .inl (cI, 7, .inl (nIf mw2)))] := by
    intro mz
    induction mz using Nat.strongRecOn with
    | _ mz ih14 =>
    intro kw2 kn2 M2 mw2 w1 B x a hkw2 hkn2 hM2 hs ha hx hm14
    refine v_il_n 15 zC dX5_bridge_14 0 rfl ?_
    refine v_al_n 16 zC dX5_bridge_15 3 rfl ?_
    refine v_gf 19 0 zC dX5_bridge_16 gf_X5_84 rfl rfl ?_
    refine v_icmpn_ge 97 22 zC dX5_bridge_19 (fun h_1 => ?_) (fun h_1 => ?_)
    ·
      refine v_al_n 98 zC dX5_bridge_97 3 rfl ?_
      refine v_ic (v := (nI 0)) 99 zC dX5_bridge_98 (by decide +kernel) ?_
      refine v_pf (ws2 := [(r0, .inr (5, [.int (nI n), .ref k1, .ref k2, .ref k3, .ref k4, .int (nI m), .ref k6, .ref k7, .ref k8, .int (nI 0), .ref k10, .int (nI 0), .ref k12, .ref k13, .ref k14, .ref k15, .ref k16, .int (nI ls), .int (nI ap), .int (bz bd), .int (nI sq), .ref k21, .ref k22, .ref k23, .ref k24, .ref k25, .int (bz pd), .int (nI pl), .int (bz tk), kv, .ref k30, .ref k31, .int (nI tz), .ref k33, .int (nI rs), .int sd])), (k1, .inl (cI, 7, .inl (nIf ki))), (k2, .inl (cI, 7, .inl (nIf op))), (k3, .inl (cI, 7, .inl (nIf (shF sh)))), (k4, .inl (cI, 7, .inl (nIf fa))), (k6, .inl (cI, 6, .inl (nIf K))), (k7, .inl (cI, 6, .inl (nIf G))), (k8, .inl (cI, 6, .inl (nIf T))), (k12, .inl (cI, 7, .inl (nIf kw2))), (k13, .inl (cI, 175, .inl (nIf kn2))), (k14, .inl (cI, 144, .inl (mIf M2))), (k15, .inl (cI, 7, .inl (nIf mw2)))]) 102 0 zC dX5_bridge_99 pf_X5_109 rfl (Nat.le_of_ble_eq_true rfl) rfl rfl rfl ?_
      refine v_il_n 103 zC dX5_bridge_102 2 rfl ?_
      refine v_iret zC zT dX5_bridge_103  ?_
      exact ⟨_, _, _, _, hkw2, hkn2, hM2, by have e9 : m = a := (by omega); subst e9; exact congrArg (fun z => some (Value.int (mI z))) (brd_e hs).symm, rfl⟩
    ·
      refine v_il_n 23 zC dX5_bridge_22 0 rfl ?_
      refine v_ic (v := (nI 1)) 24 zC dX5_bridge_23 (by decide +kernel) ?_
      refine v_iadd (v := (nI (a + 1))) 25 zC dX5_bridge_24 (nI_add _ _) ?_
      refine v_is (lv2 := [(4, .int (nI (a + 1))), (3, .int (nI a)), (2, .int (nI x)), (1, .int (mI B)), (0, .ref r0)]) 27 zC dX5_bridge_25 (by rw [hnE]; decide) rfl ?_
      have lp27 : ∀ (mz : Nat) (kw3 : Nat → Nat) (kn3 : Nat → Nat) (M3 : Nat → Option Nat) (mw3 : Nat → Nat) (w3 : Nat) (B2 : Option Nat) (x2 : Nat) (b : Nat), (∀ z, kw3 z < 1024) → (∀ z, kn3 z < 1024) → (∀ z v, M3 z = some v → v < 7) → (BRD (it (briS (n, m, sh, 0, ki, op, fa, K, G, T) a) (it (fun a x => it (briS (n, m, sh, 0, ki, op, fa, K, G, T) a) x (g_m (n, m, sh, 0, ki, op, fa, K, G, T) - (a + 1))) (none, 0) a) (b - (a + 1))) B2 x2) → (a + 1 ≤ b) → (b ≤ m) → (x2 ≤ 999) → m - b = mz → VV E 0 0 27 [(4, .int (nI b)), (3, .int (nI a)), (2, .int (nI x2)), (1, .int (mI B2)), (0, .ref r0)] [] [(r0, .inr (5, [.int (nI n), .ref k1, .ref k2, .ref k3, .ref k4, .int (nI m), .ref k6, .ref k7, .ref k8, .int (nI 0), .ref k10, .int (nI w3), .ref k12, .ref k13, .ref k14, .ref k15, .ref k16, .int (nI ls), .int (nI ap), .int (bz bd), .int (nI sq), .ref k21, .ref k22, .ref k23, .ref k24, .ref k25, .int (bz pd), .int (nI pl), .int (bz tk), kv, .ref k30, .ref k31, .int (nI tz), .ref k33, .int (nI rs), .int sd])), (k1, .inl (cI, 7, .inl (nIf ki))), (k2, .inl (cI, 7, .inl (nIf op))), (k3, .inl (cI, 7, .inl (nIf (shF sh)))), (k4, .inl (cI, 7, .inl (nIf fa))), (k6, .inl (cI, 6, .inl (nIf K))), (k7, .inl (cI, 6, .inl (nIf G))), (k8, .inl (cI, 6, .inl (nIf T))), (k12, .inl (cI, 7, .inl (nIf kw3))), (k13, .inl (cI, 175, .inl (nIf kn3))), (k14, .inl (cI, 144, .inl (mIf M3))), (k15, .inl (cI, 7, .inl (nIf mw3)))] := by
        intro mz
        induction mz using Nat.strongRecOn with
        | _ mz ih27 =>
        intro kw3 kn3 M3 mw3 w3 B2 x2 b hkw3 hkn3 hM3 hs2 hb1 hbm hx2 hm27
        refine v_il 29 zC dX5_bridge_27 0 rfl ?_
        refine v_al_n 30 zC dX5_bridge_29 4 rfl ?_
        refine v_gf 33 0 zC dX5_bridge_30 gf_X5_84 rfl rfl ?_
        refine v_icmpn_ge 91 36 zC dX5_bridge_33 (fun h_2 => ?_) (fun h_2 => ?_)
        ·
          refine v_inc (v := (nI (a + 1))) (lv2 := [(3, .int (nI (a + 1))), (4, .int (nI b)), (2, .int (nI x2)), (1, .int (mI B2)), (0, .ref r0)]) 94 zC dX5_bridge_91 (j := 1) rfl (nI_add _ 1) (by rw [hnE]; decide) rfl ?_
          refine v_goto 14 zC dX5_bridge_94 ?_
          refine v_lvs (lv2 := [(3, .int (nI (a + 1))), (2, .int (nI x2)), (1, .int (mI B2)), (0, .ref r0)]) [0, 2, 3, 4] rfl ?_
          exact ih14 _ (by omega) kw3 kn3 M3 mw3 w3 B2 x2 (a + 1) hkw3 hkn3 hM3 (by show BRD (it (briS (n, m, sh, 0, ki, op, fa, K, G, T) a) (it (fun a x => it (briS (n, m, sh, 0, ki, op, fa, K, G, T) a) x (g_m (n, m, sh, 0, ki, op, fa, K, G, T) - (a + 1))) (none, 0) a) (g_m (n, m, sh, 0, ki, op, fa, K, G, T) - (a + 1))) _ _; have e9 : b - (a + 1) = g_m (n, m, sh, 0, ki, op, fa, K, G, T) - (a + 1) := (by show b - (a + 1) = m - (a + 1); omega); rw [e9] at hs2; exact hs2) (by first | omega | assumption | rfl | (simp only []; omega) | decide) (by first | omega | assumption | rfl | (simp only []; omega) | decide) rfl
        ·
          refine v_al_n 37 zC dX5_bridge_36 4 rfl ?_
          refine v_ic (v := (nI 1)) 38 zC dX5_bridge_37 (by decide +kernel) ?_
          refine v_il_n 39 zC dX5_bridge_38 1 rfl ?_
          refine v_ishl (v := (nI (2 ^ a))) 40 zC dX5_bridge_39 (b1n (by omega)) ?_
          refine v_ic (v := (nI 1)) 41 zC dX5_bridge_40 (by decide +kernel) ?_
          refine v_il 43 zC dX5_bridge_41 0 rfl ?_
          refine v_ishl (v := (nI (2 ^ b))) 44 zC dX5_bridge_43 (b1n (by omega)) ?_
          refine v_ior (v := (nI ((2 ^ a) ||| (2 ^ b)))) 45 zC dX5_bridge_44 (fa_or _ _) ?_
          refine v_pf (ws2 := [(r0, .inr (5, [.int (nI n), .ref k1, .ref k2, .ref k3, .ref k4, .int (nI m), .ref k6, .ref k7, .ref k8, .int (nI 0), .ref k10, .int (nI ((2 ^ a) ||| (2 ^ b))), .ref k12, .ref k13, .ref k14, .ref k15, .ref k16, .int (nI ls), .int (nI ap), .int (bz bd), .int (nI sq), .ref k21, .ref k22, .ref k23, .ref k24, .ref k25, .int (bz pd), .int (nI pl), .int (bz tk), kv, .ref k30, .ref k31, .int (nI tz), .ref k33, .int (nI rs), .int sd])), (k1, .inl (cI, 7, .inl (nIf ki))), (k2, .inl (cI, 7, .inl (nIf op))), (k3, .inl (cI, 7, .inl (nIf (shF sh)))), (k4, .inl (cI, 7, .inl (nIf fa))), (k6, .inl (cI, 6, .inl (nIf K))), (k7, .inl (cI, 6, .inl (nIf G))), (k8, .inl (cI, 6, .inl (nIf T))), (k12, .inl (cI, 7, .inl (nIf kw3))), (k13, .inl (cI, 175, .inl (nIf kn3))), (k14, .inl (cI, 144, .inl (mIf M3))), (k15, .inl (cI, 7, .inl (nIf mw3)))]) 48 0 zC dX5_bridge_45 pf_X5_109 rfl (Nat.le_of_ble_eq_true rfl) rfl rfl rfl ?_
          refine v_al_n 49 zC dX5_bridge_48 4 rfl ?_
          refine v_cV (As := []) (st := []) 52 0 [0, 1, 2, 3, 4, 5, 6, 7, 8, 9, 10, 11] zC dX5_bridge_49 hA (c_X5_allNow (ev_l E) (ev_D E) cI (r0 := r0) (k1 := k1) (k2 := k2) (k3 := k3) (k4 := k4) (k6 := k6) (k7 := k7) (k8 := k8) (k10 := k10) (k12 := k12) (k13 := k13) (k14 := k14) (k15 := k15) (k16 := k16) (k21 := k21) (k22 := k22) (k23 := k23) (k24 := k24) (k25 := k25) (k30 := k30) (k31 := k31) (k33 := k33) (n := n) (m := m) (aw := ((2 ^ a) ||| (2 ^ b))) (ls := ls) (ap := ap) (sq := sq) (pl := pl) (tz := tz) (rs := rs) (bd := bd) (pd := pd) (tk := tk) (kv := kv) (sd := sd) (ki := ki) (op := op) (fa := fa) (K := K) (G := G) (T := T) (sh := sh) (kw := kw3) (kn := kn3) (M := M3) (mw := mw3) (hw := hw) (hkw := hkw3) (hkn := hkn3) (hM := hM3)) cf_X5_allNow lk_X5_245 rfl rfl rfl rfl rfl (by decide +kernel) (Nat.le_of_ble_eq_true rfl) (fun rv_3 wv_4 hp_5 hm_6 => ?_)
          clear hm_6
          obtain ⟨kw1_7, kn1_8, M1_9, mw1_10, hR_11, hl_12, rfl, rfl⟩ := hp_5
          show VV E 0 0 52 [(4, .int (nI b)), (3, .int (nI a)), (2, .int (nI x2)), (1, .int (mI B2)), (0, .ref r0)] [.int (nI (ALL (n, m, sh, ((2 ^ a) ||| (2 ^ b)), ki, op, fa, K, G, T)))] [(r0, .inr (5, [.int (nI n), .ref k1, .ref k2, .ref k3, .ref k4, .int (nI m), .ref k6, .ref k7, .ref k8, .int (nI 0), .ref k10, .int (nI ((2 ^ a) ||| (2 ^ b))), .ref k12, .ref k13, .ref k14, .ref k15, .ref k16, .int (nI ls), .int (nI ap), .int (bz bd), .int (nI sq), .ref k21, .ref k22, .ref k23, .ref k24, .ref k25, .int (bz pd), .int (nI pl), .int (bz tk), kv, .ref k30, .ref k31, .int (nI tz), .ref k33, .int (nI rs), .int sd])), (k1, .inl (cI, 7, .inl (nIf ki))), (k2, .inl (cI, 7, .inl (nIf op))), (k3, .inl (cI, 7, .inl (nIf (shF sh)))), (k4, .inl (cI, 7, .inl (nIf fa))), (k6, .inl (cI, 6, .inl (nIf K))), (k7, .inl (cI, 6, .inl (nIf G))), (k8, .inl (cI, 6, .inl (nIf T))), (k12, .inl (cI, 7, .inl (nIf kw1_7))), (k13, .inl (cI, 175, .inl (nIf kn1_8))), (k14, .inl (cI, 144, .inl (mIf M1_9))), (k15, .inl (cI, 7, .inl (nIf mw1_10)))]
          have hR9 := hR_11
          have hl9 := hl_12
          refine v_is (lv2 := [(5, .int (nI (ALL (n, m, sh, ((2 ^ a) ||| (2 ^ b)), ki, op, fa, K, G, T)))), (4, .int (nI b)), (3, .int (nI a)), (2, .int (nI x2)), (1, .int (mI B2)), (0, .ref r0)]) 54 zC dX5_bridge_52 (by rw [hnE]; decide) rfl ?_
          refine v_il 56 zC dX5_bridge_54 0 rfl ?_
          refine v_il_n 57 zC dX5_bridge_56 3 rfl ?_
          refine v_icmpn_ge 70 60 zC dX5_bridge_57 (fun h_13 => ?_) (fun h_13 => ?_)
          ·
            have hv9 := h_13
            refine v_il_n 71 zC dX5_bridge_70 4 rfl ?_
            refine v_is_n (lv2 := [(1, .int (mI B2)), (5, .int (nI (ALL (n, m, sh, ((2 ^ a) ||| (2 ^ b)), ki, op, fa, K, G, T)))), (4, .int (nI b)), (3, .int (nI a)), (2, .int (nI x2)), (0, .ref r0)]) 72 zC dX5_bridge_71 (by rw [hnE]; decide) rfl ?_
            refine v_il 74 zC dX5_bridge_72 1 rfl ?_
            refine v_il_n 75 zC dX5_bridge_74 4 rfl ?_
            refine v_icmpn_ge 83 78 zC dX5_bridge_75 (fun h_14 => ?_) (fun h_14 => False.elim (by first | omega | exact bcon h_14 (by assumption) | exact bcon (by assumption) h_14))
            refine v_il_n 84 zC dX5_bridge_83 4 rfl ?_
            refine v_is_n (lv2 := [(2, .int (nI x2)), (1, .int (mI B2)), (5, .int (nI (ALL (n, m, sh, ((2 ^ a) ||| (2 ^ b)), ki, op, fa, K, G, T)))), (4, .int (nI b)), (3, .int (nI a)), (0, .ref r0)]) 85 zC dX5_bridge_84 (by rw [hnE]; decide) rfl ?_
            refine v_inc (v := (nI (b + 1))) (lv2 := [(4, .int (nI (b + 1))), (2, .int (nI x2)), (1, .int (mI B2)), (5, .int (nI (ALL (n, m, sh, ((2 ^ a) ||| (2 ^ b)), ki, op, fa, K, G, T)))), (3, .int (nI a)), (0, .ref r0)]) 88 zC dX5_bridge_85 (j := 3) rfl (nI_add _ 1) (by rw [hnE]; decide) rfl ?_
            refine v_goto 27 zC dX5_bridge_88 ?_
            refine v_lvs (lv2 := [(4, .int (nI (b + 1))), (3, .int (nI a)), (2, .int (nI x2)), (1, .int (mI B2)), (0, .ref r0)]) [0, 4, 1, 2, 5] rfl ?_
            exact ih27 _ (by omega) kw1_7 kn1_8 M1_9 mw1_10 ((2 ^ a) ||| (2 ^ b)) B2 x2 (b + 1) hR9.2.2.2.1 hR9.2.2.2.2.1 hR9.2.2.2.2.2 (by rw [show b + 1 - (a + 1) = (b - (a + 1)) + 1 by omega]; first | exact brd_1 hs2 hb1 rfl hu9 | exact brd_0 hs2 hb1 rfl hl9 hv9) (by first | omega | assumption | rfl | (simp only []; omega) | decide) (by first | omega | assumption | rfl | (simp only []; omega) | decide) (by first | omega | assumption | rfl | (simp only []; omega) | decide) rfl
          ·
            have hu9 := h_13
            refine v_bp (v := (nI 10)) 62 zC dX5_bridge_60 (by decide +kernel) ?_
            refine v_il_n 63 zC dX5_bridge_62 2 rfl ?_
            refine v_imul (v := (nI (10 * a))) 64 zC dX5_bridge_63 (pk_mul _ _) ?_
            refine v_il 66 zC dX5_bridge_64 1 rfl ?_
            refine v_iadd (v := (nI ((10 * a) + b))) 67 zC dX5_bridge_66 (nI_add _ _) ?_
            refine v_goto 71 zC dX5_bridge_67 ?_
            refine v_is_n (lv2 := [(1, .int (nI ((10 * a) + b))), (5, .int (nI (ALL (n, m, sh, ((2 ^ a) ||| (2 ^ b)), ki, op, fa, K, G, T)))), (4, .int (nI b)), (3, .int (nI a)), (2, .int (nI x2)), (0, .ref r0)]) 72 zC dX5_bridge_71 (by rw [hnE]; decide) rfl ?_
            refine v_il 74 zC dX5_bridge_72 1 rfl ?_
            refine v_il_n 75 zC dX5_bridge_74 4 rfl ?_
            refine v_icmpn_ge 83 78 zC dX5_bridge_75 (fun h_15 => False.elim (by first | omega | exact bcon h_15 (by assumption) | exact bcon (by assumption) h_15)) (fun h_15 => ?_)
            refine v_il 80 zC dX5_bridge_78 1 rfl ?_
            refine v_goto 84 zC dX5_bridge_80 ?_
            refine v_is_n (lv2 := [(2, .int (nI (ALL (n, m, sh, ((2 ^ a) ||| (2 ^ b)), ki, op, fa, K, G, T)))), (1, .int (nI ((10 * a) + b))), (5, .int (nI (ALL (n, m, sh, ((2 ^ a) ||| (2 ^ b)), ki, op, fa, K, G, T)))), (4, .int (nI b)), (3, .int (nI a)), (0, .ref r0)]) 85 zC dX5_bridge_84 (by rw [hnE]; decide) rfl ?_
            refine v_inc (v := (nI (b + 1))) (lv2 := [(4, .int (nI (b + 1))), (2, .int (nI (ALL (n, m, sh, ((2 ^ a) ||| (2 ^ b)), ki, op, fa, K, G, T)))), (1, .int (nI ((10 * a) + b))), (5, .int (nI (ALL (n, m, sh, ((2 ^ a) ||| (2 ^ b)), ki, op, fa, K, G, T)))), (3, .int (nI a)), (0, .ref r0)]) 88 zC dX5_bridge_85 (j := 3) rfl (nI_add _ 1) (by rw [hnE]; decide) rfl ?_
            refine v_goto 27 zC dX5_bridge_88 ?_
            refine v_lvs (lv2 := [(4, .int (nI (b + 1))), (3, .int (nI a)), (2, .int (nI (ALL (n, m, sh, ((2 ^ a) ||| (2 ^ b)), ki, op, fa, K, G, T)))), (1, .int (mI (some ((10 * a) + b)))), (0, .ref r0)]) [0, 4, 1, 2, 5] rfl ?_
            exact ih27 _ (by omega) kw1_7 kn1_8 M1_9 mw1_10 ((2 ^ a) ||| (2 ^ b)) (some ((10 * a) + b)) (ALL (n, m, sh, ((2 ^ a) ||| (2 ^ b)), ki, op, fa, K, G, T)) (b + 1) hR9.2.2.2.1 hR9.2.2.2.2.1 hR9.2.2.2.2.2 (by rw [show b + 1 - (a + 1) = (b - (a + 1)) + 1 by omega]; first | exact brd_1 hs2 hb1 rfl hu9 | exact brd_0 hs2 hb1 rfl hl9 hv9) (by first | omega | assumption | rfl | (simp only []; omega) | decide) (by first | omega | assumption | rfl | (simp only []; omega) | decide) (by first | omega | assumption | rfl | (simp only []; omega) | decide) rfl
      refine v_lvs (lv2 := [(4, .int (nI (a + 1))), (3, .int (nI a)), (2, .int (nI x)), (1, .int (mI B)), (0, .ref r0)]) [0, 1, 2, 3, 4] rfl ?_
      exact lp27 _ kw2 kn2 M2 mw2 w1 B x (a + 1) hkw2 hkn2 hM2 (by rw [Nat.sub_self]; exact hs) (by first | omega | assumption | rfl | (simp only []; omega) | decide) (by first | omega | assumption | rfl | (simp only []; omega) | decide) (by first | omega | assumption | rfl | (simp only []; omega) | decide) rfl
  refine v_lvs (lv2 := [(3, .int (nI 0)), (2, .int (nI 999)), (1, .int (mI none)), (0, .ref r0)]) [0, 1, 2, 3] rfl ?_
  exact lp14 _ kw kn M mw 0 none 999 0 (by first | exact hR9.2.2.2.1 | exact hkw) (by first | exact hR9.2.2.2.2.1 | exact hkn) (by first | exact hR9.2.2.2.2.2 | exact hM) (Or.inl ⟨rfl, rfl, rfl⟩) (by first | omega | assumption | rfl | (simp only []; omega) | decide) (by first | omega | assumption | rfl | (simp only []; omega) | decide) rfl
set_option maxRecDepth 100000 in
set_option maxHeartbeats 4000000 in
theorem c_X5_heir (l : Launch) (D : va_G) (cI : ClassId) (r0 k1 k2 k3 k4 k6 k7 k8 k10 k12 k13 k14 k15 k16 k21 k22 k23 k24 k25 k30 k31 k33 : Nat) (n m ls ap sq pl tz rs : Nat) (bd pd tk : Bool) (kv : Value) (sd : Int32) (ki op fa K G T : Nat → Nat) (sh : Nat) (kw kn : Nat → Nat) (M : Nat → Option Nat) (mw : Nat → Nat) (R : Nat → Nat) (d : Int32) (hw : FW n m sh ki op fa K G T) (hkw : ∀ z, kw z < 1024) (hkn : ∀ z, kn z < 1024) (hM : ∀ z v, M z = some v → v < 7) : CT l yX5_heir cX5_heir 6 (some .int) { frames := 6, cells := 0, slots := 0, locals := 138 } D cI [.ref r0, .int d] [(r0, .inr (5, [.int (nI n), .ref k1, .ref k2, .ref k3, .ref k4, .int (nI m), .ref k6, .ref k7, .ref k8, .int (nI 0), .ref k10, .int (nI 0), .ref k12, .ref k13, .ref k14, .ref k15, .ref k16, .int (nI ls), .int (nI ap), .int (bz bd), .int (nI sq), .ref k21, .ref k22, .ref k23, .ref k24, .ref k25, .int (bz pd), .int (nI pl), .int (bz tk), kv, .ref k30, .ref k31, .int (nI tz), .ref k33, .int (nI rs), .int sd])), (k1, .inl (cI, 7, .inl (nIf ki))), (k2, .inl (cI, 7, .inl (nIf op))), (k3, .inl (cI, 7, .inl (nIf (shF sh)))), (k4, .inl (cI, 7, .inl (nIf fa))), (k6, .inl (cI, 6, .inl (nIf K))), (k7, .inl (cI, 6, .inl (nIf G))), (k8, .inl (cI, 6, .inl (nIf T))), (k12, .inl (cI, 7, .inl (nIf kw))), (k13, .inl (cI, 175, .inl (nIf kn))), (k14, .inl (cI, 144, .inl (mIf M))), (k15, .inl (cI, 7, .inl (nIf mw))), (k10, .inl (cI, 7, .inl (nIf R)))] (fun zr zw => (∃ kw1 : Nat → Nat, ∃ kn1 : Nat → Nat, ∃ M1 : Nat → Option Nat, ∃ mw1 : Nat → Nat, ∃ rc : Nat, ∃ rv : Int32, (q_heir (n, m, sh, 0, ki, op, fa, K, G, T) d = (rc, rv)) ∧ (∀ z, kw1 z < 1024) ∧ (∀ z, kn1 z < 1024) ∧ (∀ z v, M1 z = some v → v < 7) ∧ zr = some (.int rv) ∧ zw = [(r0, .inr (5, [.int (nI n), .ref k1, .ref k2, .ref k3, .ref k4, .int (nI m), .ref k6, .ref k7, .ref k8, .int (nI 0), .ref k10, .int (nI 0), .ref k12, .ref k13, .ref k14, .ref k15, .ref k16, .int (nI ls), .int (nI ap), .int (bz bd), .int (nI sq), .ref k21, .ref k22, .ref k23, .ref k24, .ref k25, .int (bz pd), .int (nI pl), .int (bz tk), kv, .ref k30, .ref k31, .int (nI tz), .ref k33, .int (nI rs), .int sd])), (k1, .inl (cI, 7, .inl (nIf ki))), (k2, .inl (cI, 7, .inl (nIf op))), (k3, .inl (cI, 7, .inl (nIf (shF sh)))), (k4, .inl (cI, 7, .inl (nIf fa))), (k6, .inl (cI, 6, .inl (nIf K))), (k7, .inl (cI, 6, .inl (nIf G))), (k8, .inl (cI, 6, .inl (nIf T))), (k12, .inl (cI, 7, .inl (nIf kw1))), (k13, .inl (cI, 175, .inl (nIf kn1))), (k14, .inl (cI, 144, .inl (mIf M1))), (k15, .inl (cI, 7, .inl (nIf mw1))), (k10, .inl (cI, 7, .inl (nIf (rf R rc))))])) := by
  refine CT_of RX5 rfl (by decide +kernel) (Nat.le_of_ble_eq_true rfl) (fun E hnE zC zT => ?_)
  have hA : ∀ q, (ev_s E).heap.size ≤ q → ev_A E q := fun q h => by rw [zT.2]; exact Or.inr h
  obtain ⟨hn, hm, hsh, hki, hop, hfa, hK, hG, hT, vki, vop, vfa, vK, vG, vT⟩ := id hw
  have h2n : 2 ^ n ≤ 2 ^ 7 := Nat.pow_le_pow_right (by decide) hn
  show VV E 0 0 0 [(0, .ref r0), (1, .int d)] [] [(r0, .inr (5, [.int (nI n), .ref k1, .ref k2, .ref k3, .ref k4, .int (nI m), .ref k6, .ref k7, .ref k8, .int (nI 0), .ref k10, .int (nI 0), .ref k12, .ref k13, .ref k14, .ref k15, .ref k16, .int (nI ls), .int (nI ap), .int (bz bd), .int (nI sq), .ref k21, .ref k22, .ref k23, .ref k24, .ref k25, .int (bz pd), .int (nI pl), .int (bz tk), kv, .ref k30, .ref k31, .int (nI tz), .ref k33, .int (nI rs), .int sd])), (k1, .inl (cI, 7, .inl (nIf ki))), (k2, .inl (cI, 7, .inl (nIf op))), (k3, .inl (cI, 7, .inl (nIf (shF sh)))), (k4, .inl (cI, 7, .inl (nIf fa))), (k6, .inl (cI, 6, .inl (nIf K))), (k7, .inl (cI, 6, .inl (nIf G))), (k8, .inl (cI, 6, .inl (nIf T))), (k12, .inl (cI, 7, .inl (nIf kw))), (k13, .inl (cI, 175, .inl (nIf kn))), (k14, .inl (cI, 144, .inl (mIf M))), (k15, .inl (cI, 7, .inl (nIf mw))), (k10, .inl (cI, 7, .inl (nIf R)))]
  refine v_al_n 1 zC dX5_heir_0 0 rfl ?_
  refine v_ic (v := (nI 0)) 2 zC dX5_heir_1 (by decide +kernel) ?_
  refine v_pf (ws2 := [(r0, .inr (5, [.int (nI n), .ref k1, .ref k2, .ref k3, .ref k4, .int (nI m), .ref k6, .ref k7, .ref k8, .int (nI 0), .ref k10, .int (nI 0), .ref k12, .ref k13, .ref k14, .ref k15, .ref k16, .int (nI ls), .int (nI ap), .int (bz bd), .int (nI sq), .ref k21, .ref k22, .ref k23, .ref k24, .ref k25, .int (bz pd), .int (nI pl), .int (bz tk), kv, .ref k30, .ref k31, .int (nI tz), .ref k33, .int (nI rs), .int sd])), (k1, .inl (cI, 7, .inl (nIf ki))), (k2, .inl (cI, 7, .inl (nIf op))), (k3, .inl (cI, 7, .inl (nIf (shF sh)))), (k4, .inl (cI, 7, .inl (nIf fa))), (k6, .inl (cI, 6, .inl (nIf K))), (k7, .inl (cI, 6, .inl (nIf G))), (k8, .inl (cI, 6, .inl (nIf T))), (k12, .inl (cI, 7, .inl (nIf kw))), (k13, .inl (cI, 175, .inl (nIf kn))), (k14, .inl (cI, 144, .inl (mIf M))), (k15, .inl (cI, 7, .inl (nIf mw))), (k10, .inl (cI, 7, .inl (nIf R)))]) 5 0 zC dX5_heir_2 pf_X5_73 rfl (Nat.le_of_ble_eq_true rfl) rfl rfl rfl ?_
  refine v_al_n 6 zC dX5_heir_5 0 rfl ?_
  refine v_il_n 7 zC dX5_heir_6 1 rfl ?_
  refine v_cV (As := [.int d]) (st := []) 10 0 [0] zC dX5_heir_7 hA (c_X5_isDead (ev_l E) (ev_D E) cI (r0 := r0) (k1 := k1) (k2 := k2) (k3 := k3) (k4 := k4) (k6 := k6) (k7 := k7) (k8 := k8) (k10 := k10) (k12 := k12) (k13 := k13) (k14 := k14) (k15 := k15) (k16 := k16) (k21 := k21) (k22 := k22) (k23 := k23) (k24 := k24) (k25 := k25) (k30 := k30) (k31 := k31) (k33 := k33) (n := n) (m := m) (aw := 0) (ls := ls) (ap := ap) (sq := sq) (pl := pl) (tz := tz) (rs := rs) (bd := bd) (pd := pd) (tk := tk) (kv := kv) (sd := sd) (p := d) (hn := (by first | omega | assumption | rfl | (simp only []; omega) | decide))) cf_X5_isDead lk_X5_208 rfl rfl rfl rfl rfl (by decide +kernel) (Nat.le_of_ble_eq_true rfl) (fun rv_1 wv_2 hp_3 hm_4 => ?_)
  clear hm_4
  rcases hp_3 with ⟨hi_5, rfl, rfl⟩ | ⟨j_6, he_7, hi_8, hj_9, rfl, rfl⟩
  ·
    show VV E 0 0 10 [(0, .ref r0), (1, .int d)] [.int (nI 0)] [(r0, .inr (5, [.int (nI n), .ref k1, .ref k2, .ref k3, .ref k4, .int (nI m), .ref k6, .ref k7, .ref k8, .int (nI 0), .ref k10, .int (nI 0), .ref k12, .ref k13, .ref k14, .ref k15, .ref k16, .int (nI ls), .int (nI ap), .int (bz bd), .int (nI sq), .ref k21, .ref k22, .ref k23, .ref k24, .ref k25, .int (bz pd), .int (nI pl), .int (bz tk), kv, .ref k30, .ref k31, .int (nI tz), .ref k33, .int (nI rs), .int sd])), (k1, .inl (cI, 7, .inl (nIf ki))), (k2, .inl (cI, 7, .inl (nIf op))), (k3, .inl (cI, 7, .inl (nIf (shF sh)))), (k4, .inl (cI, 7, .inl (nIf fa))), (k6, .inl (cI, 6, .inl (nIf K))), (k7, .inl (cI, 6, .inl (nIf G))), (k8, .inl (cI, 6, .inl (nIf T))), (k12, .inl (cI, 7, .inl (nIf kw))), (k13, .inl (cI, 175, .inl (nIf kn))), (k14, .inl (cI, 144, .inl (mIf M))), (k15, .inl (cI, 7, .inl (nIf mw))), (k10, .inl (cI, 7, .inl (nIf R)))]
    have hn_d := hi_5
    refine v_if_ne 19 13 zC dX5_heir_10 (fun z => absurd (by decide +kernel) z) (fun _ => ?_)
    refine v_al_n 14 zC dX5_heir_13 0 rfl ?_
    refine v_ic (v := (-1)) 15 zC dX5_heir_14 (by decide +kernel) ?_
    refine v_cV (As := [.int (-1)]) (st := []) 18 0 [0, 12] zC dX5_heir_15 hA (c_X5_refuse (ev_l E) (ev_D E) cI (r0 := r0) (k1 := k1) (k2 := k2) (k3 := k3) (k4 := k4) (k6 := k6) (k7 := k7) (k8 := k8) (k10 := k10) (k12 := k12) (k13 := k13) (k14 := k14) (k15 := k15) (k16 := k16) (k21 := k21) (k22 := k22) (k23 := k23) (k24 := k24) (k25 := k25) (k30 := k30) (k31 := k31) (k33 := k33) (n := n) (m := m) (aw := 0) (ls := ls) (ap := ap) (sq := sq) (pl := pl) (tz := tz) (rs := rs) (bd := bd) (pd := pd) (tk := tk) (kv := kv) (sd := sd) (R := R) (v := (-1)) (j := 1) (hv := (by first | omega | assumption | rfl | (simp only []; omega) | decide)) (h1 := (by first | omega | assumption | rfl | (simp only []; omega) | decide)) (h6 := (by first | omega | assumption | rfl | (simp only []; omega) | decide))) cf_X5_refuse lk_X5_129 rfl rfl rfl rfl rfl (by decide +kernel) (Nat.le_of_ble_eq_true rfl) (fun rv_11 wv_12 hp_13 hm_14 => ?_)
    clear hm_14
    obtain ⟨rfl, rfl⟩ := hp_13
    show VV E 0 0 18 [(0, .ref r0), (1, .int d)] [.int (-1)] [(r0, .inr (5, [.int (nI n), .ref k1, .ref k2, .ref k3, .ref k4, .int (nI m), .ref k6, .ref k7, .ref k8, .int (nI 0), .ref k10, .int (nI 0), .ref k12, .ref k13, .ref k14, .ref k15, .ref k16, .int (nI ls), .int (nI ap), .int (bz bd), .int (nI sq), .ref k21, .ref k22, .ref k23, .ref k24, .ref k25, .int (bz pd), .int (nI pl), .int (bz tk), kv, .ref k30, .ref k31, .int (nI tz), .ref k33, .int (nI rs), .int sd])), (k1, .inl (cI, 7, .inl (nIf ki))), (k2, .inl (cI, 7, .inl (nIf op))), (k3, .inl (cI, 7, .inl (nIf (shF sh)))), (k4, .inl (cI, 7, .inl (nIf fa))), (k6, .inl (cI, 6, .inl (nIf K))), (k7, .inl (cI, 6, .inl (nIf G))), (k8, .inl (cI, 6, .inl (nIf T))), (k12, .inl (cI, 7, .inl (nIf kw))), (k13, .inl (cI, 175, .inl (nIf kn))), (k14, .inl (cI, 144, .inl (mIf M))), (k15, .inl (cI, 7, .inl (nIf mw))), (k10, .inl (cI, 7, .inl (nIf (un R 1 (R 1 + 1)))))]
    refine v_iret zC zT dX5_heir_18  ?_
    first | (have g9 := hn_d; exact ⟨kw, kn, M, mw, 1, _, by unfold q_heir; rw [hn_d], hkw, hkn, hM, rfl, rfl⟩) | exact ⟨_, _, _, _, 0, _, by unfold q_heir; rw [hi_d]; dsimp only; rw [show (10 : Nat) = v by omega, ← hs], hkw2, hkn2, hM2, rfl, rfl⟩
  ·
    show VV E 0 0 10 [(0, .ref r0), (1, .int d)] [.int (nI 1)] [(r0, .inr (5, [.int (nI n), .ref k1, .ref k2, .ref k3, .ref k4, .int (nI m), .ref k6, .ref k7, .ref k8, .int (nI 0), .ref k10, .int (nI 0), .ref k12, .ref k13, .ref k14, .ref k15, .ref k16, .int (nI ls), .int (nI ap), .int (bz bd), .int (nI sq), .ref k21, .ref k22, .ref k23, .ref k24, .ref k25, .int (bz pd), .int (nI pl), .int (bz tk), kv, .ref k30, .ref k31, .int (nI tz), .ref k33, .int (nI rs), .int sd])), (k1, .inl (cI, 7, .inl (nIf ki))), (k2, .inl (cI, 7, .inl (nIf op))), (k3, .inl (cI, 7, .inl (nIf (shF sh)))), (k4, .inl (cI, 7, .inl (nIf fa))), (k6, .inl (cI, 6, .inl (nIf K))), (k7, .inl (cI, 6, .inl (nIf G))), (k8, .inl (cI, 6, .inl (nIf T))), (k12, .inl (cI, 7, .inl (nIf kw))), (k13, .inl (cI, 175, .inl (nIf kn))), (k14, .inl (cI, 144, .inl (mIf M))), (k15, .inl (cI, 7, .inl (nIf mw))), (k10, .inl (cI, 7, .inl (nIf R)))]
    subst he_7
    have hi_d := hi_8
    obtain ⟨je, hx_je⟩ : ∃ z, z = j_6 := ⟨_, rfl⟩
    subst hx_je
    refine v_if_ne 19 13 zC dX5_heir_10 (fun _ => ?_) (fun z => absurd z (by decide +kernel))
    refine v_al_n 20 zC dX5_heir_19 0 rfl ?_
    refine v_gf 23 0 zC dX5_heir_20 gf_X5_25 rfl rfl ?_
    refine v_il_n 24 zC dX5_heir_23 1 rfl ?_
    refine v_ialn (v := (nI (G je))) 25 6 zC dX5_heir_24 rfl (by omega) rfl ?_
    have hb_16 := hG je
    refine v_is_n (lv2 := [(2, .int (nI (G je))), (0, .ref r0), (1, .int (nI je))]) 26 zC dX5_heir_25 (by rw [hnE]; decide) rfl ?_
    refine v_ic (v := (nI 0)) 27 zC dX5_heir_26 (by decide +kernel) ?_
    refine v_is_n (lv2 := [(3, .int (nI 0)), (2, .int (nI (G je))), (0, .ref r0), (1, .int (nI je))]) 28 zC dX5_heir_27 (by rw [hnE]; decide) rfl ?_
    refine v_ic (v := (-1)) 29 zC dX5_heir_28 (by decide +kernel) ?_
    refine v_is (lv2 := [(4, .int (-1)), (3, .int (nI 0)), (2, .int (nI (G je))), (0, .ref r0), (1, .int (nI je))]) 31 zC dX5_heir_29 (by rw [hnE]; decide) rfl ?_
    refine v_ic (v := (nI 0)) 32 zC dX5_heir_31 (by decide +kernel) ?_
    refine v_is (lv2 := [(5, .int (nI 0)), (4, .int (-1)), (3, .int (nI 0)), (2, .int (nI (G je))), (0, .ref r0), (1, .int (nI je))]) 34 zC dX5_heir_32 (by rw [hnE]; decide) rfl ?_
    have lp34 : ∀ (mz : Nat) (kw2 : Nat → Nat) (kn2 : Nat → Nat) (M2 : Nat → Option Nat) (mw2 : Nat → Nat) (H : Nat → Nat) (b : Nat) (U : Option Nat) (v : Nat), (∀ z, kw2 z < 1024) → (∀ z, kn2 z < 1024) → (∀ z v, M2 z = some v → v < 7) → (∀ x, un H je x = un G je x) → ((b, U) = it (heiS (n, m, sh, 0, ki, op, fa, K, G, T) je) (0, none) v) → (∀ v, U = some v → v ≤ 24) → (v ≤ 10) → (b ≤ 10) → 10 - v = mz → VV E 0 0 34 [(5, .int (nI v)), (4, .int (mJ U)), (3, .int (nI b)), (2, .int (nI (G je))), (0, .ref r0), (1, .int (nI je))] [] [(r0, .inr (5, [.int (nI n), .ref k1, .ref k2, .ref k3, .ref k4, .int (nI m), .ref k6, .ref k7, .ref k8, .int (nI 0), .ref k10, .int (nI 0), .ref k12, .ref k13, .ref k14, .ref k15, .ref k16, .int (nI ls), .int (nI ap), .int (bz bd), .int (nI sq), .ref k21, .ref k22, .ref k23, .ref k24, .ref k25, .int (bz pd), .int (nI pl), .int (bz tk), kv, .ref k30, .ref k31, .int (nI tz), .ref k33, .int (nI rs), .int sd])), (k1, .inl (cI, 7, .inl (nIf ki))), (k2, .inl (cI, 7, .inl (nIf op))), (k3, .inl (cI, 7, .inl (nIf (shF sh)))), (k4, .inl (cI, 7, .inl (nIf fa))), (k6, .inl (cI, 6, .inl (nIf K))), (k7, .inl (cI, 6, .inl (nIf H))), (k8, .inl (cI, 6, .inl (nIf T))), (k12, .inl (cI, 7, .inl (nIf kw2))), (k13, .inl (cI, 175, .inl (nIf kn2))), (k14, .inl (cI, 144, .inl (mIf M2))), (k15, .inl (cI, 7, .inl (nIf mw2))), (k10, .inl (cI, 7, .inl (nIf R)))] := by
      intro mz
      induction mz using Nat.strongRecOn with
      | _ mz ih34 =>
      intro kw2 kn2 M2 mw2 H b U v hkw2 hkn2 hM2 hO hs hU hv hbl hm34
      refine v_il 36 zC dX5_heir_34 0 rfl ?_
      refine v_bp (v := (nI 9)) 38 zC dX5_heir_36 (by decide +kernel) ?_
      refine v_icmpn_gt 98 41 zC dX5_heir_38 (fun h_17 => ?_) (fun h_17 => ?_)
      ·
        refine v_al_n 99 zC dX5_heir_98 4 rfl ?_
        refine v_gf 102 0 zC dX5_heir_99 gf_X5_25 rfl rfl ?_
        refine v_il_n 103 zC dX5_heir_102 5 rfl ?_
        refine v_il_n 104 zC dX5_heir_103 3 rfl ?_
        refine v_iasn (ws2 := [(r0, .inr (5, [.int (nI n), .ref k1, .ref k2, .ref k3, .ref k4, .int (nI m), .ref k6, .ref k7, .ref k8, .int (nI 0), .ref k10, .int (nI 0), .ref k12, .ref k13, .ref k14, .ref k15, .ref k16, .int (nI ls), .int (nI ap), .int (bz bd), .int (nI sq), .ref k21, .ref k22, .ref k23, .ref k24, .ref k25, .int (bz pd), .int (nI pl), .int (bz tk), kv, .ref k30, .ref k31, .int (nI tz), .ref k33, .int (nI rs), .int sd])), (k1, .inl (cI, 7, .inl (nIf ki))), (k2, .inl (cI, 7, .inl (nIf op))), (k3, .inl (cI, 7, .inl (nIf (shF sh)))), (k4, .inl (cI, 7, .inl (nIf fa))), (k6, .inl (cI, 6, .inl (nIf K))), (k7, .inl (cI, 6, .inl (nIf (un H je (G je))))), (k8, .inl (cI, 6, .inl (nIf T))), (k12, .inl (cI, 7, .inl (nIf kw2))), (k13, .inl (cI, 175, .inl (nIf kn2))), (k14, .inl (cI, 144, .inl (mIf M2))), (k15, .inl (cI, 7, .inl (nIf mw2))), (k10, .inl (cI, 7, .inl (nIf R)))]) 105 6 zC dX5_heir_104 rfl (by omega) (by rw [upd_nIf]; first | done | rfl) ?_
        rw [hO, un_id]
        refine v_il_n 106 zC dX5_heir_105 2 rfl ?_
        refine v_iret zC zT dX5_heir_106  ?_
        first | (have g9 := hn_d; exact ⟨kw, kn, M, mw, 1, _, by unfold q_heir; rw [hn_d], hkw, hkn, hM, rfl, rfl⟩) | exact ⟨_, _, _, _, 0, _, by unfold q_heir; rw [hi_d]; dsimp only; rw [show (10 : Nat) = v by omega, ← hs], hkw2, hkn2, hM2, rfl, rfl⟩
      ·
        refine v_al_n 42 zC dX5_heir_41 4 rfl ?_
        refine v_gf 45 0 zC dX5_heir_42 gf_X5_25 rfl rfl ?_
        refine v_il_n 46 zC dX5_heir_45 5 rfl ?_
        refine v_il 48 zC dX5_heir_46 0 rfl ?_
        refine v_iasn (ws2 := [(r0, .inr (5, [.int (nI n), .ref k1, .ref k2, .ref k3, .ref k4, .int (nI m), .ref k6, .ref k7, .ref k8, .int (nI 0), .ref k10, .int (nI 0), .ref k12, .ref k13, .ref k14, .ref k15, .ref k16, .int (nI ls), .int (nI ap), .int (bz bd), .int (nI sq), .ref k21, .ref k22, .ref k23, .ref k24, .ref k25, .int (bz pd), .int (nI pl), .int (bz tk), kv, .ref k30, .ref k31, .int (nI tz), .ref k33, .int (nI rs), .int sd])), (k1, .inl (cI, 7, .inl (nIf ki))), (k2, .inl (cI, 7, .inl (nIf op))), (k3, .inl (cI, 7, .inl (nIf (shF sh)))), (k4, .inl (cI, 7, .inl (nIf fa))), (k6, .inl (cI, 6, .inl (nIf K))), (k7, .inl (cI, 6, .inl (nIf (un H je v)))), (k8, .inl (cI, 6, .inl (nIf T))), (k12, .inl (cI, 7, .inl (nIf kw2))), (k13, .inl (cI, 175, .inl (nIf kn2))), (k14, .inl (cI, 144, .inl (mIf M2))), (k15, .inl (cI, 7, .inl (nIf mw2))), (k10, .inl (cI, 7, .inl (nIf R)))]) 49 6 zC dX5_heir_48 rfl (by omega) (by rw [upd_nIf]; first | done | rfl) ?_
        rw [hO]
        refine v_al_n 50 zC dX5_heir_49 4 rfl ?_
        refine v_cV (As := []) (st := []) 53 0 [0, 1, 2, 3, 4, 5, 6, 7, 8, 9, 10, 11] zC dX5_heir_50 hA (c_X5_day (ev_l E) (ev_D E) cI (r0 := r0) (k1 := k1) (k2 := k2) (k3 := k3) (k4 := k4) (k6 := k6) (k7 := k7) (k8 := k8) (k10 := k10) (k12 := k12) (k13 := k13) (k14 := k14) (k15 := k15) (k16 := k16) (k21 := k21) (k22 := k22) (k23 := k23) (k24 := k24) (k25 := k25) (k30 := k30) (k31 := k31) (k33 := k33) (n := n) (m := m) (aw := 0) (ls := ls) (ap := ap) (sq := sq) (pl := pl) (tz := tz) (rs := rs) (bd := bd) (pd := pd) (tk := tk) (kv := kv) (sd := sd) (ki := ki) (op := op) (fa := fa) (K := K) (G := (un G je v)) (T := T) (sh := sh) (kw := kw2) (kn := kn2) (M := M2) (mw := mw2) (hw := ⟨hn, hm, hsh, hki, hop, hfa, hK, (un_b hG (show v < 10 by omega)), hT, vki, vop, vfa, vK, (un_v vG (show je < 6 by omega)), vT⟩) (hkw := hkw2) (hkn := hkn2) (hM := hM2)) cf_X5_day lk_X5_123 rfl rfl rfl rfl rfl (by decide +kernel) (Nat.le_of_ble_eq_true rfl) (fun rv_18 wv_19 hp_20 hm_21 => ?_)
        clear hm_21
        obtain ⟨kw1_22, kn1_23, M1_24, mw1_25, hR_26, rfl, rfl⟩ := hp_20
        show VV E 0 0 53 [(5, .int (nI v)), (4, .int (mJ U)), (3, .int (nI b)), (2, .int (nI (G je))), (0, .ref r0), (1, .int (nI je))] [] [(r0, .inr (5, [.int (nI n), .ref k1, .ref k2, .ref k3, .ref k4, .int (nI m), .ref k6, .ref k7, .ref k8, .int (nI 0), .ref k10, .int (nI 0), .ref k12, .ref k13, .ref k14, .ref k15, .ref k16, .int (nI ls), .int (nI ap), .int (bz bd), .int (nI sq), .ref k21, .ref k22, .ref k23, .ref k24, .ref k25, .int (bz pd), .int (nI pl), .int (bz tk), kv, .ref k30, .ref k31, .int (nI tz), .ref k33, .int (nI rs), .int sd])), (k1, .inl (cI, 7, .inl (nIf ki))), (k2, .inl (cI, 7, .inl (nIf op))), (k3, .inl (cI, 7, .inl (nIf (shF sh)))), (k4, .inl (cI, 7, .inl (nIf fa))), (k6, .inl (cI, 6, .inl (nIf K))), (k7, .inl (cI, 6, .inl (nIf (un G je v)))), (k8, .inl (cI, 6, .inl (nIf T))), (k12, .inl (cI, 7, .inl (nIf kw1_22))), (k13, .inl (cI, 175, .inl (nIf kn1_23))), (k14, .inl (cI, 144, .inl (mIf M1_24))), (k15, .inl (cI, 7, .inl (nIf mw1_25))), (k10, .inl (cI, 7, .inl (nIf R)))]
        have hR9 := hR_26
        refine v_al_n 54 zC dX5_heir_53 4 rfl ?_
        refine v_il_n 55 zC dX5_heir_54 5 rfl ?_
        refine v_cV (As := [.int (nI je)]) (st := []) 58 0 [0, 10] zC dX5_heir_55 hA (c_X5_spokeOf (ev_l E) (ev_D E) cI (r0 := r0) (k1 := k1) (k2 := k2) (k3 := k3) (k4 := k4) (k6 := k6) (k7 := k7) (k8 := k8) (k10 := k10) (k12 := k12) (k13 := k13) (k14 := k14) (k15 := k15) (k16 := k16) (k21 := k21) (k22 := k22) (k23 := k23) (k24 := k24) (k25 := k25) (k30 := k30) (k31 := k31) (k33 := k33) (n := n) (m := m) (aw := 0) (ls := ls) (ap := ap) (sq := sq) (pl := pl) (tz := tz) (rs := rs) (bd := bd) (pd := pd) (tk := tk) (kv := kv) (sd := sd) (ki := ki) (op := op) (fa := fa) (K := K) (G := (un G je v)) (T := T) (sh := sh) (kw := kw1_22) (kn := kn1_23) (M := M1_24) (d := je) (hn := (by first | omega | assumption | rfl | (simp only []; omega) | decide)) (hm := (by first | omega | assumption | rfl | (simp only []; omega) | decide)) (hR := hR9) (hd := (by first | omega | assumption | rfl | (simp only []; omega) | decide))) cf_X5_spokeOf lk_X5_239 rfl rfl rfl rfl rfl (by decide +kernel) (Nat.le_of_ble_eq_true rfl) (fun rv_27 wv_28 hp_29 hm_30 => ?_)
        clear hm_30
        obtain ⟨rfl, rfl⟩ := hp_29
        show VV E 0 0 58 [(5, .int (nI v)), (4, .int (mJ U)), (3, .int (nI b)), (2, .int (nI (G je))), (0, .ref r0), (1, .int (nI je))] [.int (nI (SPOKE (n, m, sh, 0, ki, op, fa, K, (un G je v), T) je))] [(r0, .inr (5, [.int (nI n), .ref k1, .ref k2, .ref k3, .ref k4, .int (nI m), .ref k6, .ref k7, .ref k8, .int (nI 0), .ref k10, .int (nI 0), .ref k12, .ref k13, .ref k14, .ref k15, .ref k16, .int (nI ls), .int (nI ap), .int (bz bd), .int (nI sq), .ref k21, .ref k22, .ref k23, .ref k24, .ref k25, .int (bz pd), .int (nI pl), .int (bz tk), kv, .ref k30, .ref k31, .int (nI tz), .ref k33, .int (nI rs), .int sd])), (k1, .inl (cI, 7, .inl (nIf ki))), (k2, .inl (cI, 7, .inl (nIf op))), (k3, .inl (cI, 7, .inl (nIf (shF sh)))), (k4, .inl (cI, 7, .inl (nIf fa))), (k6, .inl (cI, 6, .inl (nIf K))), (k7, .inl (cI, 6, .inl (nIf (un G je v)))), (k8, .inl (cI, 6, .inl (nIf T))), (k12, .inl (cI, 7, .inl (nIf kw1_22))), (k13, .inl (cI, 175, .inl (nIf kn1_23))), (k14, .inl (cI, 144, .inl (mIf M1_24))), (k15, .inl (cI, 7, .inl (nIf mw1_25))), (k10, .inl (cI, 7, .inl (nIf R)))]
        have hc9 : (SPOKE (n, m, sh, 0, ki, op, fa, K, (un G je v), T) je) ≤ 24 := spo_le
        refine v_il 60 zC dX5_heir_58 1 rfl ?_
        refine v_icmpj_le 68 63 zC dX5_heir_60 (fun v e => by have := hU v e; omega) (fun h_31 => ?_) (fun h_31 => ?_)
        ·
          have hv9 := h_31
          refine v_il_n 69 zC dX5_heir_68 2 rfl ?_
          refine v_is_n (lv2 := [(3, .int (nI b)), (5, .int (nI v)), (4, .int (mJ U)), (2, .int (nI (G je))), (0, .ref r0), (1, .int (nI je))]) 70 zC dX5_heir_69 (by rw [hnE]; decide) rfl ?_
          refine v_al_n 71 zC dX5_heir_70 4 rfl ?_
          refine v_il_n 72 zC dX5_heir_71 5 rfl ?_
          refine v_cV (As := [.int (nI je)]) (st := []) 75 0 [0, 10] zC dX5_heir_72 hA (c_X5_spokeOf (ev_l E) (ev_D E) cI (r0 := r0) (k1 := k1) (k2 := k2) (k3 := k3) (k4 := k4) (k6 := k6) (k7 := k7) (k8 := k8) (k10 := k10) (k12 := k12) (k13 := k13) (k14 := k14) (k15 := k15) (k16 := k16) (k21 := k21) (k22 := k22) (k23 := k23) (k24 := k24) (k25 := k25) (k30 := k30) (k31 := k31) (k33 := k33) (n := n) (m := m) (aw := 0) (ls := ls) (ap := ap) (sq := sq) (pl := pl) (tz := tz) (rs := rs) (bd := bd) (pd := pd) (tk := tk) (kv := kv) (sd := sd) (ki := ki) (op := op) (fa := fa) (K := K) (G := (un G je v)) (T := T) (sh := sh) (kw := kw1_22) (kn := kn1_23) (M := M1_24) (d := je) (hn := (by first | omega | assumption | rfl | (simp only []; omega) | decide)) (hm := (by first | omega | assumption | rfl | (simp only []; omega) | decide)) (hR := hR9) (hd := (by first | omega | assumption | rfl | (simp only []; omega) | decide))) cf_X5_spokeOf lk_X5_239 rfl rfl rfl rfl rfl (by decide +kernel) (Nat.le_of_ble_eq_true rfl) (fun rv_32 wv_33 hp_34 hm_35 => ?_)
          clear hm_35
          obtain ⟨rfl, rfl⟩ := hp_34
          show VV E 0 0 75 [(3, .int (nI b)), (5, .int (nI v)), (4, .int (mJ U)), (2, .int (nI (G je))), (0, .ref r0), (1, .int (nI je))] [.int (nI (SPOKE (n, m, sh, 0, ki, op, fa, K, (un G je v), T) je))] [(r0, .inr (5, [.int (nI n), .ref k1, .ref k2, .ref k3, .ref k4, .int (nI m), .ref k6, .ref k7, .ref k8, .int (nI 0), .ref k10, .int (nI 0), .ref k12, .ref k13, .ref k14, .ref k15, .ref k16, .int (nI ls), .int (nI ap), .int (bz bd), .int (nI sq), .ref k21, .ref k22, .ref k23, .ref k24, .ref k25, .int (bz pd), .int (nI pl), .int (bz tk), kv, .ref k30, .ref k31, .int (nI tz), .ref k33, .int (nI rs), .int sd])), (k1, .inl (cI, 7, .inl (nIf ki))), (k2, .inl (cI, 7, .inl (nIf op))), (k3, .inl (cI, 7, .inl (nIf (shF sh)))), (k4, .inl (cI, 7, .inl (nIf fa))), (k6, .inl (cI, 6, .inl (nIf K))), (k7, .inl (cI, 6, .inl (nIf (un G je v)))), (k8, .inl (cI, 6, .inl (nIf T))), (k12, .inl (cI, 7, .inl (nIf kw1_22))), (k13, .inl (cI, 175, .inl (nIf kn1_23))), (k14, .inl (cI, 144, .inl (mIf M1_24))), (k15, .inl (cI, 7, .inl (nIf mw1_25))), (k10, .inl (cI, 7, .inl (nIf R)))]
          refine v_il 77 zC dX5_heir_75 2 rfl ?_
          refine v_icmpj_le 88 80 zC dX5_heir_77 (fun v e => by have := hU v e; omega) (fun h_36 => ?_) (fun h_36 => False.elim (by first | omega | exact bcon h_36 (by assumption) | exact bcon (by assumption) h_36))
          refine v_il 90 zC dX5_heir_88 2 rfl ?_
          refine v_is (lv2 := [(4, .int (mJ U)), (3, .int (nI b)), (5, .int (nI v)), (2, .int (nI (G je))), (0, .ref r0), (1, .int (nI je))]) 92 zC dX5_heir_90 (by rw [hnE]; decide) rfl ?_
          refine v_inc (v := (nI (v + 1))) (lv2 := [(5, .int (nI (v + 1))), (4, .int (mJ U)), (3, .int (nI b)), (2, .int (nI (G je))), (0, .ref r0), (1, .int (nI je))]) 95 zC dX5_heir_92 (j := 2) rfl (nI_add _ 1) (by rw [hnE]; decide) rfl ?_
          refine v_goto 34 zC dX5_heir_95 ?_
          refine v_lvs (lv2 := [(5, .int (nI (v + 1))), (4, .int (mJ U)), (3, .int (nI b)), (2, .int (nI (G je))), (0, .ref r0), (1, .int (nI je))]) [0, 1, 2, 3, 4, 5] rfl ?_
          exact ih34 _ (by omega) kw1_22 kn1_23 M1_24 mw1_25 (un G je v) b U (v + 1) (by first | exact hR9.2.2.2.1 | exact hkw2) (by first | exact hR9.2.2.2.2.1 | exact hkn2) (by first | exact hR9.2.2.2.2.2 | exact hM2) (fun _ => un_un) (it_s hs (by first | exact hei_1 hu9 | exact hei_0 hv9)) (fun v e => by first | exact hU v e | (cases e; exact hc9)) (by first | omega | assumption | rfl | (simp only []; omega) | decide) (by first | omega | assumption | rfl | (simp only []; omega) | decide) rfl
        ·
          have hu9 := h_31
          refine v_il 65 zC dX5_heir_63 0 rfl ?_
          refine v_goto 69 zC dX5_heir_65 ?_
          refine v_is_n (lv2 := [(3, .int (nI v)), (5, .int (nI v)), (4, .int (mJ U)), (2, .int (nI (G je))), (0, .ref r0), (1, .int (nI je))]) 70 zC dX5_heir_69 (by rw [hnE]; decide) rfl ?_
          refine v_al_n 71 zC dX5_heir_70 4 rfl ?_
          refine v_il_n 72 zC dX5_heir_71 5 rfl ?_
          refine v_cV (As := [.int (nI je)]) (st := []) 75 0 [0, 10] zC dX5_heir_72 hA (c_X5_spokeOf (ev_l E) (ev_D E) cI (r0 := r0) (k1 := k1) (k2 := k2) (k3 := k3) (k4 := k4) (k6 := k6) (k7 := k7) (k8 := k8) (k10 := k10) (k12 := k12) (k13 := k13) (k14 := k14) (k15 := k15) (k16 := k16) (k21 := k21) (k22 := k22) (k23 := k23) (k24 := k24) (k25 := k25) (k30 := k30) (k31 := k31) (k33 := k33) (n := n) (m := m) (aw := 0) (ls := ls) (ap := ap) (sq := sq) (pl := pl) (tz := tz) (rs := rs) (bd := bd) (pd := pd) (tk := tk) (kv := kv) (sd := sd) (ki := ki) (op := op) (fa := fa) (K := K) (G := (un G je v)) (T := T) (sh := sh) (kw := kw1_22) (kn := kn1_23) (M := M1_24) (d := je) (hn := (by first | omega | assumption | rfl | (simp only []; omega) | decide)) (hm := (by first | omega | assumption | rfl | (simp only []; omega) | decide)) (hR := hR9) (hd := (by first | omega | assumption | rfl | (simp only []; omega) | decide))) cf_X5_spokeOf lk_X5_239 rfl rfl rfl rfl rfl (by decide +kernel) (Nat.le_of_ble_eq_true rfl) (fun rv_37 wv_38 hp_39 hm_40 => ?_)
          clear hm_40
          obtain ⟨rfl, rfl⟩ := hp_39
          show VV E 0 0 75 [(3, .int (nI v)), (5, .int (nI v)), (4, .int (mJ U)), (2, .int (nI (G je))), (0, .ref r0), (1, .int (nI je))] [.int (nI (SPOKE (n, m, sh, 0, ki, op, fa, K, (un G je v), T) je))] [(r0, .inr (5, [.int (nI n), .ref k1, .ref k2, .ref k3, .ref k4, .int (nI m), .ref k6, .ref k7, .ref k8, .int (nI 0), .ref k10, .int (nI 0), .ref k12, .ref k13, .ref k14, .ref k15, .ref k16, .int (nI ls), .int (nI ap), .int (bz bd), .int (nI sq), .ref k21, .ref k22, .ref k23, .ref k24, .ref k25, .int (bz pd), .int (nI pl), .int (bz tk), kv, .ref k30, .ref k31, .int (nI tz), .ref k33, .int (nI rs), .int sd])), (k1, .inl (cI, 7, .inl (nIf ki))), (k2, .inl (cI, 7, .inl (nIf op))), (k3, .inl (cI, 7, .inl (nIf (shF sh)))), (k4, .inl (cI, 7, .inl (nIf fa))), (k6, .inl (cI, 6, .inl (nIf K))), (k7, .inl (cI, 6, .inl (nIf (un G je v)))), (k8, .inl (cI, 6, .inl (nIf T))), (k12, .inl (cI, 7, .inl (nIf kw1_22))), (k13, .inl (cI, 175, .inl (nIf kn1_23))), (k14, .inl (cI, 144, .inl (mIf M1_24))), (k15, .inl (cI, 7, .inl (nIf mw1_25))), (k10, .inl (cI, 7, .inl (nIf R)))]
          refine v_il 77 zC dX5_heir_75 2 rfl ?_
          refine v_icmpj_le 88 80 zC dX5_heir_77 (fun v e => by have := hU v e; omega) (fun h_41 => False.elim (by first | omega | exact bcon h_41 (by assumption) | exact bcon (by assumption) h_41)) (fun h_41 => ?_)
          refine v_al_n 81 zC dX5_heir_80 4 rfl ?_
          refine v_il_n 82 zC dX5_heir_81 5 rfl ?_
          refine v_cV (As := [.int (nI je)]) (st := []) 85 0 [0, 10] zC dX5_heir_82 hA (c_X5_spokeOf (ev_l E) (ev_D E) cI (r0 := r0) (k1 := k1) (k2 := k2) (k3 := k3) (k4 := k4) (k6 := k6) (k7 := k7) (k8 := k8) (k10 := k10) (k12 := k12) (k13 := k13) (k14 := k14) (k15 := k15) (k16 := k16) (k21 := k21) (k22 := k22) (k23 := k23) (k24 := k24) (k25 := k25) (k30 := k30) (k31 := k31) (k33 := k33) (n := n) (m := m) (aw := 0) (ls := ls) (ap := ap) (sq := sq) (pl := pl) (tz := tz) (rs := rs) (bd := bd) (pd := pd) (tk := tk) (kv := kv) (sd := sd) (ki := ki) (op := op) (fa := fa) (K := K) (G := (un G je v)) (T := T) (sh := sh) (kw := kw1_22) (kn := kn1_23) (M := M1_24) (d := je) (hn := (by first | omega | assumption | rfl | (simp only []; omega) | decide)) (hm := (by first | omega | assumption | rfl | (simp only []; omega) | decide)) (hR := hR9) (hd := (by first | omega | assumption | rfl | (simp only []; omega) | decide))) cf_X5_spokeOf lk_X5_239 rfl rfl rfl rfl rfl (by decide +kernel) (Nat.le_of_ble_eq_true rfl) (fun rv_42 wv_43 hp_44 hm_45 => ?_)
          clear hm_45
          obtain ⟨rfl, rfl⟩ := hp_44
          show VV E 0 0 85 [(3, .int (nI v)), (5, .int (nI v)), (4, .int (mJ U)), (2, .int (nI (G je))), (0, .ref r0), (1, .int (nI je))] [.int (nI (SPOKE (n, m, sh, 0, ki, op, fa, K, (un G je v), T) je))] [(r0, .inr (5, [.int (nI n), .ref k1, .ref k2, .ref k3, .ref k4, .int (nI m), .ref k6, .ref k7, .ref k8, .int (nI 0), .ref k10, .int (nI 0), .ref k12, .ref k13, .ref k14, .ref k15, .ref k16, .int (nI ls), .int (nI ap), .int (bz bd), .int (nI sq), .ref k21, .ref k22, .ref k23, .ref k24, .ref k25, .int (bz pd), .int (nI pl), .int (bz tk), kv, .ref k30, .ref k31, .int (nI tz), .ref k33, .int (nI rs), .int sd])), (k1, .inl (cI, 7, .inl (nIf ki))), (k2, .inl (cI, 7, .inl (nIf op))), (k3, .inl (cI, 7, .inl (nIf (shF sh)))), (k4, .inl (cI, 7, .inl (nIf fa))), (k6, .inl (cI, 6, .inl (nIf K))), (k7, .inl (cI, 6, .inl (nIf (un G je v)))), (k8, .inl (cI, 6, .inl (nIf T))), (k12, .inl (cI, 7, .inl (nIf kw1_22))), (k13, .inl (cI, 175, .inl (nIf kn1_23))), (k14, .inl (cI, 144, .inl (mIf M1_24))), (k15, .inl (cI, 7, .inl (nIf mw1_25))), (k10, .inl (cI, 7, .inl (nIf R)))]
          refine v_goto 90 zC dX5_heir_85 ?_
          refine v_is (lv2 := [(4, .int (nI (SPOKE (n, m, sh, 0, ki, op, fa, K, (un G je v), T) je))), (3, .int (nI v)), (5, .int (nI v)), (2, .int (nI (G je))), (0, .ref r0), (1, .int (nI je))]) 92 zC dX5_heir_90 (by rw [hnE]; decide) rfl ?_
          refine v_inc (v := (nI (v + 1))) (lv2 := [(5, .int (nI (v + 1))), (4, .int (nI (SPOKE (n, m, sh, 0, ki, op, fa, K, (un G je v), T) je))), (3, .int (nI v)), (2, .int (nI (G je))), (0, .ref r0), (1, .int (nI je))]) 95 zC dX5_heir_92 (j := 2) rfl (nI_add _ 1) (by rw [hnE]; decide) rfl ?_
          refine v_goto 34 zC dX5_heir_95 ?_
          refine v_lvs (lv2 := [(5, .int (nI (v + 1))), (4, .int (mJ (some (SPOKE (n, m, sh, 0, ki, op, fa, K, (un G je v), T) je)))), (3, .int (nI v)), (2, .int (nI (G je))), (0, .ref r0), (1, .int (nI je))]) [0, 1, 2, 3, 4, 5] rfl ?_
          exact ih34 _ (by omega) kw1_22 kn1_23 M1_24 mw1_25 (un G je v) v (some (SPOKE (n, m, sh, 0, ki, op, fa, K, (un G je v), T) je)) (v + 1) (by first | exact hR9.2.2.2.1 | exact hkw2) (by first | exact hR9.2.2.2.2.1 | exact hkn2) (by first | exact hR9.2.2.2.2.2 | exact hM2) (fun _ => un_un) (it_s hs (by first | exact hei_1 hu9 | exact hei_0 hv9)) (fun v e => by first | exact hU v e | (cases e; exact hc9)) (by first | omega | assumption | rfl | (simp only []; omega) | decide) (by first | omega | assumption | rfl | (simp only []; omega) | decide) rfl
    refine v_lvs (lv2 := [(5, .int (nI 0)), (4, .int (mJ none)), (3, .int (nI 0)), (2, .int (nI (G je))), (0, .ref r0), (1, .int (nI je))]) [0, 1, 2, 3, 4, 5] rfl ?_
    exact lp34 _ kw kn M mw G 0 none 0 (by first | exact hR9.2.2.2.1 | exact hkw) (by first | exact hR9.2.2.2.2.1 | exact hkn) (by first | exact hR9.2.2.2.2.2 | exact hM) (fun _ => rfl) rfl (fun v e => by cases e) (by first | omega | assumption | rfl | (simp only []; omega) | decide) (by first | omega | assumption | rfl | (simp only []; omega) | decide) rfl
