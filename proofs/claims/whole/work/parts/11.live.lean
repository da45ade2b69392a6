/-! an hour and a day, in numbers -/
def lkN (r : Nat → Nat) (n t : Nat) : Nat := mkn (fun p => !Nat.testBit (r p) t) n
def aN (od mf k on tw : Nat) : Nat := andn (od &&& mf) (if k = 3 then tw else on)
def bN (a k g h : Nat) : Nat := if a ≠ 0 ∧ hhB k g h = false then 0 else a
def cN (b k n lk : Nat) : Nat := if b ≠ 0 ∧ (k = 2 ∨ k = 4) then b &&& besN n lk else b
def tlr (r : Nat → Nat) (n s t : Nat) : Nat → Nat := fun p => if p < n ∧ Nat.testBit s p = true then r p ||| 2 ^ t else r p
def hwD (n od h : Nat) (F K G T r : Nat → Nat) (on tw d : Nat) : Option Nat := ffO n (G d) (cN (bN (aN od (F d) (K d) on tw) (K d) (G d) h) (K d) n (lkN r n (T d)))
def stD (n od h : Nat) (F K G T r : Nat → Nat) (d : Nat) (s : Nat × Nat × (Nat → Nat)) : Nat × Nat × (Nat → Nat) := match hwD n od h F K G T r s.1 s.2.1 d with
  | none => s
  | some v => (s.1 ||| 2 ^ v, s.2.1 ||| (s.1 &&& 2 ^ v), tlr s.2.2 n (besN n (2 ^ v)) (T d))
def hsD (n od h : Nat) (F K G T r : Nat → Nat) : Nat → Nat × Nat × (Nat → Nat)
  | 0 => (0, 0, r)
  | d + 1 => stD n od h F K G T r d (hsD n od h F K G T r d)
def hmD (n od h : Nat) (F K G T r : Nat → Nat) (d : Nat) : Option Nat := hwD n od h F K G T r (hsD n od h F K G T r d).1 (hsD n od h F K G T r d).2.1 d
theorem hsD_n {n od h : Nat} {F K G T r : Nat → Nat} {d on tw : Nat} (h1 : on = (hsD n od h F K G T r d).1) (h2 : tw = (hsD n od h F K G T r d).2.1) (e : hwD n od h F K G T r on tw d = none) : hsD n od h F K G T r (d + 1) = hsD n od h F K G T r d := by
  subst h1; subst h2
  show stD n od h F K G T r d _ = _
  unfold stD
  rw [e]
theorem hsD_s {n od h : Nat} {F K G T r : Nat → Nat} {d on tw v : Nat} (h1 : on = (hsD n od h F K G T r d).1) (h2 : tw = (hsD n od h F K G T r d).2.1) (e : hwD n od h F K G T r on tw d = some v) : hsD n od h F K G T r (d + 1) = (on ||| 2 ^ v, tw ||| (on &&& 2 ^ v), tlr (hsD n od h F K G T r d).2.2 n (besN n (2 ^ v)) (T d)) := by
  subst h1; subst h2
  show stD n od h F K G T r d _ = _
  unfold stD
  rw [e]
theorem hm_of {n od h : Nat} {F K G T r : Nat → Nat} {d on tw : Nat} {x : Option Nat} (h1 : on = (hsD n od h F K G T r d).1) (h2 : tw = (hsD n od h F K G T r d).2.1) (e : hwD n od h F K G T r on tw d = x) : hmD n od h F K G T r d = x := by
  subst h1; subst h2
  exact e
theorem hw_of {n od h : Nat} {F K G T r : Nat → Nat} {d on tw a a2 : Nat} {x : Option Nat} (ha : a = aN od (F d) (K d) on tw) (ha2 : a2 = cN (bN a (K d) (G d) h) (K d) n (lkN r n (T d))) (hf : ffO n (G d) a2 = x) : hwD n od h F K G T r on tw d = x := by
  subst ha; subst ha2
  exact hf
theorem aN_3 {od mf k on tw : Nat} (e : k = 3) : andn (od &&& mf) tw = aN od mf k on tw := by unfold aN; rw [if_pos e]
theorem aN_n {od mf k on tw : Nat} (e : k ≠ 3) : andn (od &&& mf) on = aN od mf k on tw := by unfold aN; rw [if_neg e]
theorem bN_z {a k g h : Nat} (e : a = 0) : a = bN a k g h := by unfold bN; rw [if_neg (fun z => z.1 e)]
theorem bN_t {a k g h : Nat} (e : hhB k g h = true) : a = bN a k g h := by unfold bN; rw [if_neg (fun z => by rw [e] at z; exact absurd z.2 (by decide))]
theorem bN_f {a k g h : Nat} (e1 : a ≠ 0) (e : hhB k g h = false) : 0 = bN a k g h := by unfold bN; rw [if_pos ⟨e1, e⟩]
theorem cN_z {b k n lk : Nat} (e : b = 0) : b = cN b k n lk := by unfold cN; rw [if_neg (fun z => z.1 e)]
theorem cN_n {b k n lk : Nat} (e1 : k ≠ 2) (e2 : k ≠ 4) : b = cN b k n lk := by unfold cN; rw [if_neg (fun z => z.2.elim e1 e2)]
theorem cN_p {b k n lk : Nat} (e1 : b ≠ 0) (e2 : k = 2 ∨ k = 4) : b &&& besN n lk = cN b k n lk := by unfold cN; rw [if_pos ⟨e1, e2⟩]
theorem andn_lt {a b n : Nat} (h : a < 2 ^ n) : andn a b < 2 ^ n := Nat.xor_lt_two_pow h (Nat.lt_of_le_of_lt Nat.and_le_left h)
theorem and_ltl {a b n : Nat} (h : a < 2 ^ n) : a &&& b < 2 ^ n := Nat.lt_of_le_of_lt Nat.and_le_left h
theorem pow_lt2 {v n : Nat} (h : v < n) : 2 ^ v < 2 ^ n := Nat.pow_lt_pow_right (by decide) h
theorem lk_e {r X : Nat → Nat} {n h t : Nat} (hn : n ≤ 7) (hr : ∀ p, p < 7 → X (h * 7 + p) = r p) : mkn (fun p => !Nat.testBit (X (h * 7 + p)) t) n = lkN r n t := mkn_c (fun p hp => by rw [hr p (by omega)])
theorem tlk_r {X r : Nat → Nat} {n h s t : Nat} (hr : ∀ p, p < 7 → X (h * 7 + p) = r p) : ∀ p, p < 7 → tlk X n h s t (h * 7 + p) = tlr r n s t p := by
  intro p hp
  unfold tlk tlr
  rw [Nat.add_sub_cancel_left, hr p hp]
  by_cases hc : p < n ∧ Nat.testBit s p = true
  · rw [if_pos hc, if_pos ⟨by omega, by omega, hc.2⟩]
  · rw [if_neg hc, if_neg (fun g => hc ⟨by omega, g.2.2⟩)]
theorem tlk_o {X : Nat → Nat} {n h s t z : Nat} (hz : z < h * 7) : tlk X n h s t z = X z := by
  unfold tlk
  rw [if_neg (by omega)]
theorem tlk_k {X : Nat → Nat} {n h s t : Nat} (ht : t < 10) (hK : ∀ z, X z < 1024) : ∀ z, tlk X n h s t z < 1024 := by
  intro z
  unfold tlk
  split
  · exact Nat.or_lt_two_pow (n := 10) (hK z) (Nat.pow_lt_pow_right (by decide) ht)
  · exact hK z
theorem cpy_k {f g : Nat → Nat} {a b c k : Nat} (hf : ∀ z, f z < k) (hg : ∀ z, g z < k) : ∀ z, va_cpy f g a b c z < k := by
  intro z
  unfold va_cpy
  split
  · exact hf _
  · exact hg _
theorem uo_m {Y : Nat → Option Nat} {i k : Nat} {x : Option Nat} (hY : ∀ z v, Y z = some v → v < k) (hx : ∀ v, x = some v → v < k) : ∀ z v, uo Y i x z = some v → v < k := by
  intro z v h
  unfold uo at h
  split at h
  · exact hx v h
  · exact hY z v h
def odN (op : Nat → Nat) (n h : Nat) : Nat := mkn (fun p => Nat.testBit (op p) h) n
def mfS (n sh aw : Nat) (ki K : Nat → Nat) (d : Nat) : Nat := mfN n sh aw (K d) d ki
def drD (n m sh aw : Nat) (ki op fa K G T : Nat → Nat) : Nat → (Nat → Nat)
  | 0 => fa
  | h + 1 => (hsD n (odN op n h) h (mfS n sh aw ki K) K G T (drD n m sh aw ki op fa K G T h) m).2.2
def dmD (n m sh aw : Nat) (ki op fa K G T : Nat → Nat) (h e : Nat) : Option Nat := hmD n (odN op n h) h (mfS n sh aw ki K) K G T (drD n m sh aw ki op fa K G T h) e
def DOK (n m sh aw : Nat) (ki op fa K G T : Nat → Nat) (X : Nat → Nat) (Y : Nat → Option Nat) : Prop :=
  (∀ j, j ≤ 24 → ∀ p, p < 7 → X (j * 7 + p) = drD n m sh aw ki op fa K G T j p) ∧ (∀ j, j < 24 → ∀ e, e < m → Y (j * 6 + e) = dmD n m sh aw ki op fa K G T j e) ∧ (∀ z, X z < 1024) ∧ (∀ z v, Y z = some v → v < 7)

set_option maxRecDepth 100000 in
set_option maxHeartbeats 4000000 in
theorem c_X1_liveHour (l : Launch) (D : va_G) (cI : ClassId) (b0 b1 b2 b3 : Nat) (a0 a1 a2 a3 a4 a5 a6 : Nat) (n m sh aw : Nat) (mf F : Nat → Nat) (M : Nat → Option Nat) (kn K G T r : Nat → Nat) (h od : Nat) (hn : n ≤ 7) (hm : m ≤ 6) (hh : h < 24) (hod : od < 2 ^ n) (hmf : ∀ e, e < m → mf e = F e) (hr : ∀ p, p < 7 → kn (h * 7 + p) = r p) (hK : ∀ z, K z < 6) (hG : ∀ z, G z < 10) (hT : ∀ z, T z < 10) (hB : ∀ z, kn z < 1024) (hM : ∀ z v, M z = some v → v < 7) : CT l yX1_liveHour cX1_liveHour 12 none { frames := 2, cells := 0, slots := 0, locals := 46 } D cI [.ref b0, .ref a0, .int (nI h), .int (nI od)] [(b0, .inr (1, [.int (nI n), .int (nI m), .ref b1, .ref b2, .ref b3])), (b1, .inl (cI, 6, .inl (nIf mf))), (b2, .inl (cI, 144, .inl (mIf M))), (b3, .inl (cI, 175, .inl (nIf kn))), (a0, .inr (2, [.int (nI n), .int (nI m), .int (nI sh), .int (nI aw), .ref a1, .ref a2, .ref a3, .ref a4, .ref a5, .ref a6])), (a4, .inl (cI, 6, .inl (nIf K))), (a5, .inl (cI, 6, .inl (nIf G))), (a6, .inl (cI, 6, .inl (nIf T)))] (fun zr zw => (∃ X : Nat → Nat, ∃ Y : Nat → Option Nat, (∀ p, p < 7 → X ((h + 1) * 7 + p) = (hsD n od h F K G T r m).2.2 p) ∧ (∀ z, z < (h + 1) * 7 → X z = kn z) ∧ (∀ e, e < m → Y (h * 6 + e) = hmD n od h F K G T r e) ∧ (∀ z, z < h * 6 → Y z = M z) ∧ (∀ z, X z < 1024) ∧ (∀ z v, Y z = some v → v < 7) ∧ zr = none ∧ zw = [(b0, .inr (1, [.int (nI n), .int (nI m), .ref b1, .ref b2, .ref b3])), (b1, .inl (cI, 6, .inl (nIf mf))), (b2, .inl (cI, 144, .inl (mIf Y))), (b3, .inl (cI, 175, .inl (nIf X))), (a0, .inr (2, [.int (nI n), .int (nI m), .int (nI sh), .int (nI aw), .ref a1, .ref a2, .ref a3, .ref a4, .ref a5, .ref a6])), (a4, .inl (cI, 6, .inl (nIf K))), (a5, .inl (cI, 6, .inl (nIf G))), (a6, .inl (cI, 6, .inl (nIf T)))])) := by
  refine CT_of RX1 rfl (by decide +kernel) (Nat.le_of_ble_eq_true rfl) (fun E hnE zC zT => ?_)
  have hA : ∀ q, (ev_s E).heap.size ≤ q → ev_A E q := fun q h => by rw [zT.2]; exact Or.inr h
  have h2n : 2 ^ n ≤ 2 ^ 7 := Nat.pow_le_pow_right (by decide) hn
  show VV E 0 0 0 [(0, .ref b0), (1, .ref a0), (2, .int (nI h)), (3, .int (nI od))] [] [(b0, .inr (1, [.int (nI n), .int (nI m), .ref b1, .ref b2, .ref b3])), (b1, .inl (cI, 6, .inl (nIf mf))), (b2, .inl (cI, 144, .inl (mIf M))), (b3, .inl (cI, 175, .inl (nIf kn))), (a0, .inr (2, [.int (nI n), .int (nI m), .int (nI sh), .int (nI aw), .ref a1, .ref a2, .ref a3, .ref a4, .ref a5, .ref a6])), (a4, .inl (cI, 6, .inl (nIf K))), (a5, .inl (cI, 6, .inl (nIf G))), (a6, .inl (cI, 6, .inl (nIf T)))]
  refine v_al_n 1 zC dX1_liveHour_0 0 rfl ?_
  refine v_gf 4 0 zC dX1_liveHour_1 gf_X1_18 rfl rfl ?_
  refine v_il_n 5 zC dX1_liveHour_4 2 rfl ?_
  refine v_bp (v := (nI 7)) 7 zC dX1_liveHour_5 (by decide +kernel) ?_
  refine v_imul (v := (nI (h * 7))) 8 zC dX1_liveHour_7 (pk_mul _ _) ?_
  refine v_al_n 9 zC dX1_liveHour_8 0 rfl ?_
  refine v_gf 12 0 zC dX1_liveHour_9 gf_X1_18 rfl rfl ?_
  refine v_il_n 13 zC dX1_liveHour_12 2 rfl ?_
  refine v_ic (v := (nI 1)) 14 zC dX1_liveHour_13 (by decide +kernel) ?_
  refine v_iadd (v := (nI (h + 1))) 15 zC dX1_liveHour_14 (nI_add _ _) ?_
  refine v_bp (v := (nI 7)) 17 zC dX1_liveHour_15 (by decide +kernel) ?_
  refine v_imul (v := (nI ((h + 1) * 7))) 18 zC dX1_liveHour_17 (pk_mul _ _) ?_
  refine v_bp (v := (nI 7)) 20 zC dX1_liveHour_18 (by decide +kernel) ?_
  refine v_cpy (ws2 := [(b0, .inr (1, [.int (nI n), .int (nI m), .ref b1, .ref b2, .ref b3])), (b1, .inl (cI, 6, .inl (nIf mf))), (b2, .inl (cI, 144, .inl (mIf M))), (b3, .inl (cI, 175, .inl (nIf (va_cpy kn kn (h * 7) ((h + 1) * 7) 7)))), (a0, .inr (2, [.int (nI n), .int (nI m), .int (nI sh), .int (nI aw), .ref a1, .ref a2, .ref a3, .ref a4, .ref a5, .ref a6])), (a4, .inl (cI, 6, .inl (nIf K))), (a5, .inl (cI, 6, .inl (nIf G))), (a6, .inl (cI, 6, .inl (nIf T)))]) (hsp := (by omega)) (hdp := (by omega)) (hm := (by decide)) 23 3 3 zC dX1_liveHour_20 ac_X1_35 ac_n ac_s ac_i rfl rfl (by omega) (by omega) ⟨Nat.le_of_ble_eq_true rfl, Nat.le_of_ble_eq_true rfl⟩ (by rw [cpy_nIf]; first | done | rfl) ?_
  refine v_ic (v := (nI 0)) 24 zC dX1_liveHour_23 (by decide +kernel) ?_
  refine v_is (lv2 := [(4, .int (nI 0)), (0, .ref b0), (1, .ref a0), (2, .int (nI h)), (3, .int (nI od))]) 26 zC dX1_liveHour_24 (by rw [hnE]; decide) rfl ?_
  refine v_ic (v := (nI 0)) 27 zC dX1_liveHour_26 (by decide +kernel) ?_
  refine v_is (lv2 := [(5, .int (nI 0)), (4, .int (nI 0)), (0, .ref b0), (1, .ref a0), (2, .int (nI h)), (3, .int (nI od))]) 29 zC dX1_liveHour_27 (by rw [hnE]; decide) rfl ?_
  refine v_ic (v := (nI 0)) 30 zC dX1_liveHour_29 (by decide +kernel) ?_
  refine v_is (lv2 := [(6, .int (nI 0)), (5, .int (nI 0)), (4, .int (nI 0)), (0, .ref b0), (1, .ref a0), (2, .int (nI h)), (3, .int (nI od))]) 32 zC dX1_liveHour_30 (by rw [hnE]; decide) rfl ?_
  have lp32 : ∀ (mz : Nat) (X : Nat → Nat) (Y : Nat → Option Nat) (on : Nat) (tw : Nat) (d : Nat), (on = (hsD n od h F K G T r d).1) → (tw = (hsD n od h F K G T r d).2.1) → (∀ p, p < 7 → X ((h + 1) * 7 + p) = (hsD n od h F K G T r d).2.2 p) → (∀ z, z < (h + 1) * 7 → X z = kn z) → (∀ e, e < d → Y (h * 6 + e) = hmD n od h F K G T r e) → (∀ z, z < h * 6 → Y z = M z) → (∀ z, X z < 1024) → (∀ z v, Y z = some v → v < 7) → (on < 2 ^ n) → (tw < 2 ^ n) → (d ≤ m) → m - d = mz → VV E 0 0 32 [(6, .int (nI d)), (5, .int (nI tw)), (4, .int (nI on)), (0, .ref b0), (1, .ref a0), (2, .int (nI h)), (3, .int (nI od))] [] [(b0, .inr (1, [.int (nI n), .int (nI m), .ref b1, .ref b2, .ref b3])), (b1, .inl (cI, 6, .inl (nIf mf))), (b2, .inl (cI, 144, .inl (mIf Y))), (b3, .inl (cI, 175, .inl (nIf X))), (a0, .inr (2, [.int (nI n), .int (nI m), .int (nI sh), .int (nI aw), .ref a1, .ref a2, .ref a3, .ref a4, .ref a5, .ref a6])), (a4, .inl (cI, 6, .inl (nIf K))), (a5, .inl (cI, 6, .inl (nIf G))), (a6, .inl (cI, 6, .inl (nIf T)))] := by
    intro mz
    induction mz using Nat.strongRecOn with
    | _ mz ih32 =>
    intro X Y on tw d h1 h2 h3 h4 h5 h6 h7 h8 hon htw hdm hm32
    refine v_il 34 zC dX1_liveHour_32 0 rfl ?_
    refine v_al_n 35 zC dX1_liveHour_34 3 rfl ?_
    refine v_gf 38 0 zC dX1_liveHour_35 gf_X1_31 rfl rfl ?_
    refine v_icmpn_ge 215 41 zC dX1_liveHour_38 (fun h_1 => ?_) (fun h_1 => ?_)
    ·
      refine v_vret zC zT dX1_liveHour_215  ?_
      have q9 : d = m := by omega
      subst q9
      exact ⟨X, Y, h3, h4, h5, h6, h7, h8, rfl, rfl⟩
    ·
      refine v_al_n 42 zC dX1_liveHour_41 4 rfl ?_
      refine v_gf 45 4 zC dX1_liveHour_42 gf_X1_51 rfl rfl ?_
      refine v_il 47 zC dX1_liveHour_45 0 rfl ?_
      refine v_ialn (v := (nI (K d))) 48 5 zC dX1_liveHour_47 rfl (by omega) rfl ?_
      have hb_2 := hK d
      refine v_is (lv2 := [(7, .int (nI (K d))), (6, .int (nI d)), (5, .int (nI tw)), (4, .int (nI on)), (0, .ref b0), (1, .ref a0), (2, .int (nI h)), (3, .int (nI od))]) 50 zC dX1_liveHour_48 (by rw [hnE]; decide) rfl ?_
      refine v_al_n 51 zC dX1_liveHour_50 5 rfl ?_
      refine v_gf 54 4 zC dX1_liveHour_51 gf_X1_54 rfl rfl ?_
      refine v_il 56 zC dX1_liveHour_54 1 rfl ?_
      refine v_ialn (v := (nI (T d))) 57 7 zC dX1_liveHour_56 rfl (by omega) rfl ?_
      have hb_3 := hT d
      refine v_is (lv2 := [(8, .int (nI (T d))), (7, .int (nI (K d))), (6, .int (nI d)), (5, .int (nI tw)), (4, .int (nI on)), (0, .ref b0), (1, .ref a0), (2, .int (nI h)), (3, .int (nI od))]) 59 zC dX1_liveHour_57 (by rw [hnE]; decide) rfl ?_
      have ct86 : ∀ (u0 : Nat), (u0 = aN od (F d) (K d) on tw) → (u0 < 2 ^ n) → VV E 0 0 86 [(8, .int (nI (T d))), (7, .int (nI (K d))), (6, .int (nI d)), (5, .int (nI tw)), (4, .int (nI on)), (0, .ref b0), (1, .ref a0), (2, .int (nI h)), (3, .int (nI od)), (9, .int (nI u0))] [] [(b0, .inr (1, [.int (nI n), .int (nI m), .ref b1, .ref b2, .ref b3])), (b1, .inl (cI, 6, .inl (nIf mf))), (b2, .inl (cI, 144, .inl (mIf Y))), (b3, .inl (cI, 175, .inl (nIf X))), (a0, .inr (2, [.int (nI n), .int (nI m), .int (nI sh), .int (nI aw), .ref a1, .ref a2, .ref a3, .ref a4, .ref a5, .ref a6])), (a4, .inl (cI, 6, .inl (nIf K))), (a5, .inl (cI, 6, .inl (nIf G))), (a6, .inl (cI, 6, .inl (nIf T)))] := by
        intro u0 ha hal
        have ct137 : ∀ (u2 : Nat), (u2 = cN (bN u0 (K d) (G d) h) (K d) n (lkN r n (T d))) → (u2 < 2 ^ n) → VV E 0 0 137 [(8, .int (nI (T d))), (7, .int (nI (K d))), (6, .int (nI d)), (5, .int (nI tw)), (4, .int (nI on)), (0, .ref b0), (1, .ref a0), (2, .int (nI h)), (3, .int (nI od)), (9, .int (nI u2))] [] [(b0, .inr (1, [.int (nI n), .int (nI m), .ref b1, .ref b2, .ref b3])), (b1, .inl (cI, 6, .inl (nIf mf))), (b2, .inl (cI, 144, .inl (mIf Y))), (b3, .inl (cI, 175, .inl (nIf X))), (a0, .inr (2, [.int (nI n), .int (nI m), .int (nI sh), .int (nI aw), .ref a1, .ref a2, .ref a3, .ref a4, .ref a5, .ref a6])), (a4, .inl (cI, 6, .inl (nIf K))), (a5, .inl (cI, 6, .inl (nIf G))), (a6, .inl (cI, 6, .inl (nIf T)))] := by
          intro u2 ha2 hal2
          refine v_al_n 138 zC dX1_liveHour_137 6 rfl ?_
          refine v_al_n 139 zC dX1_liveHour_138 6 rfl ?_
          refine v_gf 142 4 zC dX1_liveHour_139 gf_X1_68 rfl rfl ?_
          refine v_il 144 zC dX1_liveHour_142 2 rfl ?_
          refine v_ialn (v := (nI (G d))) 145 6 zC dX1_liveHour_144 rfl (by omega) rfl ?_
          have hb_4 := hG d
          refine v_il 147 zC dX1_liveHour_145 9 rfl ?_
          refine v_cV (As := [.int (nI (G d)), .int (nI u2)]) (st := []) 150 4 [4] zC dX1_liveHour_147 hA (c_X2_firstFrom (ev_l E) (ev_D E) cI (a0 := a0) (a1 := a1) (a2 := a2) (a3 := a3) (a4 := a4) (a5 := a5) (a6 := a6) (n := n) (m := m) (sh := sh) (aw := aw) (g := (G d)) (s := u2) (hn := (by first | omega | assumption | rfl | (simp only []; omega) | decide)) (hg := (by first | omega | assumption | rfl | (simp only []; omega) | decide)) (hs := hal2)) cf_X2_firstFrom lk_X1_71 rfl rfl rfl rfl rfl (by decide +kernel) (Nat.le_of_ble_eq_true rfl) (fun rv_5 wv_6 hp_7 hm_8 => ?_)
          clear hm_8
          rcases hp_7 with ⟨hf_9, rfl, rfl⟩ | ⟨w_10, hf_11, hw_12, rfl, rfl⟩
          ·
            show VV E 0 0 150 [(8, .int (nI (T d))), (7, .int (nI (K d))), (6, .int (nI d)), (5, .int (nI tw)), (4, .int (nI on)), (0, .ref b0), (1, .ref a0), (2, .int (nI h)), (3, .int (nI od)), (9, .int (nI u2))] [.int (-9)] [(b0, .inr (1, [.int (nI n), .int (nI m), .ref b1, .ref b2, .ref b3])), (b1, .inl (cI, 6, .inl (nIf mf))), (b2, .inl (cI, 144, .inl (mIf Y))), (b3, .inl (cI, 175, .inl (nIf X))), (a0, .inr (2, [.int (nI n), .int (nI m), .int (nI sh), .int (nI aw), .ref a1, .ref a2, .ref a3, .ref a4, .ref a5, .ref a6])), (a4, .inl (cI, 6, .inl (nIf K))), (a5, .inl (cI, 6, .inl (nIf G))), (a6, .inl (cI, 6, .inl (nIf T)))]
            have hw9 := hw_of ha ha2 hf_9
            have hs9 := hsD_n h1 h2 hw9
            have hm9 := hm_of h1 h2 hw9
            refine v_is (lv2 := [(10, .int (-9)), (8, .int (nI (T d))), (7, .int (nI (K d))), (6, .int (nI d)), (5, .int (nI tw)), (4, .int (nI on)), (0, .ref b0), (1, .ref a0), (2, .int (nI h)), (3, .int (nI od)), (9, .int (nI u2))]) 152 zC dX1_liveHour_150 (by rw [hnE]; decide) rfl ?_
            refine v_al_n 153 zC dX1_liveHour_152 6 rfl ?_
            refine v_gf 156 0 zC dX1_liveHour_153 gf_X1_15 rfl rfl ?_
            refine v_il_n 157 zC dX1_liveHour_156 8 rfl ?_
            refine v_bp (v := (nI 6)) 159 zC dX1_liveHour_157 (by decide +kernel) ?_
            refine v_imul (v := (nI (h * 6))) 160 zC dX1_liveHour_159 (pk_mul _ _) ?_
            refine v_il 162 zC dX1_liveHour_160 3 rfl ?_
            refine v_iadd (v := (nI ((h * 6) + d))) 163 zC dX1_liveHour_162 (nI_add _ _) ?_
            refine v_il 165 zC dX1_liveHour_163 0 rfl ?_
            refine v_iasn (ws2 := [(b0, .inr (1, [.int (nI n), .int (nI m), .ref b1, .ref b2, .ref b3])), (b1, .inl (cI, 6, .inl (nIf mf))), (b2, .inl (cI, 144, .inl (mIf (uo Y ((h * 6) + d) none)))), (b3, .inl (cI, 175, .inl (nIf X))), (a0, .inr (2, [.int (nI n), .int (nI m), .int (nI sh), .int (nI aw), .ref a1, .ref a2, .ref a3, .ref a4, .ref a5, .ref a6])), (a4, .inl (cI, 6, .inl (nIf K))), (a5, .inl (cI, 6, .inl (nIf G))), (a6, .inl (cI, 6, .inl (nIf T)))]) 166 2 zC dX1_liveHour_165 rfl (by omega) (by rw [upd_mI0]; first | done | rfl) ?_
            refine v_il 168 zC dX1_liveHour_166 0 rfl ?_
            refine v_if_lt 209 171 zC dX1_liveHour_168 (fun _ => ?_) (fun z => absurd (by decide +kernel) z)
            refine v_inc (v := (nI (d + 1))) (lv2 := [(6, .int (nI (d + 1))), (10, .int (-9)), (8, .int (nI (T d))), (7, .int (nI (K d))), (5, .int (nI tw)), (4, .int (nI on)), (0, .ref b0), (1, .ref a0), (2, .int (nI h)), (3, .int (nI od)), (9, .int (nI u2))]) 212 zC dX1_liveHour_209 (j := 3) rfl (nI_add _ 1) (by rw [hnE]; decide) rfl ?_
            refine v_goto 32 zC dX1_liveHour_212 ?_
            refine v_lvs (lv2 := [(6, .int (nI (d + 1))), (5, .int (nI tw)), (4, .int (nI on)), (0, .ref b0), (1, .ref a0), (2, .int (nI h)), (3, .int (nI od))]) [0, 4, 5, 6, 7, 8, 9] rfl ?_
            exact ih32 _ (by omega) X (uo Y ((h * 6) + d) none) on tw (d + 1) (by rw [hs9]; first | done | exact h1) (by rw [hs9]; first | done | exact h2) (by rw [hs9]; first | exact h3 | exact tlk_r h3) (by first | exact h4 | exact fun z hz => (tlk_o hz).trans (h4 z hz)) (fun e he => by by_cases q9 : e = d; (· subst q9; rw [uo_s]; exact hm9.symm); (· rw [uo_n (by omega)]; exact h5 e (by omega))) (fun z hz => by rw [uo_n (by omega)]; exact h6 z hz) (by first | exact h7 | exact tlk_k (hT _) h7) (uo_m h8 (fun v q9 => by first | (cases q9; done) | (cases q9; omega))) (by first | exact hon | exact Nat.or_lt_two_pow hon hp9) (by first | exact htw | exact Nat.or_lt_two_pow htw (and_ltl hon)) (by first | omega | assumption | rfl | (simp only []; omega) | decide) rfl
          ·
            show VV E 0 0 150 [(8, .int (nI (T d))), (7, .int (nI (K d))), (6, .int (nI d)), (5, .int (nI tw)), (4, .int (nI on)), (0, .ref b0), (1, .ref a0), (2, .int (nI h)), (3, .int (nI od)), (9, .int (nI u2))] [.int (nI w_10)] [(b0, .inr (1, [.int (nI n), .int (nI m), .ref b1, .ref b2, .ref b3])), (b1, .inl (cI, 6, .inl (nIf mf))), (b2, .inl (cI, 144, .inl (mIf Y))), (b3, .inl (cI, 175, .inl (nIf X))), (a0, .inr (2, [.int (nI n), .int (nI m), .int (nI sh), .int (nI aw), .ref a1, .ref a2, .ref a3, .ref a4, .ref a5, .ref a6])), (a4, .inl (cI, 6, .inl (nIf K))), (a5, .inl (cI, 6, .inl (nIf G))), (a6, .inl (cI, 6, .inl (nIf T)))]
            have hw9 := hw_of ha ha2 hf_11
            have hs9 := hsD_s h1 h2 hw9
            have hm9 := hm_of h1 h2 hw9
            have hv9 := hw_12
            have hp9 := pow_lt2 (n := n) hv9
            refine v_is (lv2 := [(10, .int (nI w_10)), (8, .int (nI (T d))), (7, .int (nI (K d))), (6, .int (nI d)), (5, .int (nI tw)), (4, .int (nI on)), (0, .ref b0), (1, .ref a0), (2, .int (nI h)), (3, .int (nI od)), (9, .int (nI u2))]) 152 zC dX1_liveHour_150 (by rw [hnE]; decide) rfl ?_
            refine v_al_n 153 zC dX1_liveHour_152 6 rfl ?_
            refine v_gf 156 0 zC dX1_liveHour_153 gf_X1_15 rfl rfl ?_
            refine v_il_n 157 zC dX1_liveHour_156 8 rfl ?_
            refine v_bp (v := (nI 6)) 159 zC dX1_liveHour_157 (by decide +kernel) ?_
            refine v_imul (v := (nI (h * 6))) 160 zC dX1_liveHour_159 (pk_mul _ _) ?_
            refine v_il 162 zC dX1_liveHour_160 3 rfl ?_
            refine v_iadd (v := (nI ((h * 6) + d))) 163 zC dX1_liveHour_162 (nI_add _ _) ?_
            refine v_il 165 zC dX1_liveHour_163 0 rfl ?_
            refine v_iasn (ws2 := [(b0, .inr (1, [.int (nI n), .int (nI m), .ref b1, .ref b2, .ref b3])), (b1, .inl (cI, 6, .inl (nIf mf))), (b2, .inl (cI, 144, .inl (mIf (uo Y ((h * 6) + d) (some w_10))))), (b3, .inl (cI, 175, .inl (nIf X))), (a0, .inr (2, [.int (nI n), .int (nI m), .int (nI sh), .int (nI aw), .ref a1, .ref a2, .ref a3, .ref a4, .ref a5, .ref a6])), (a4, .inl (cI, 6, .inl (nIf K))), (a5, .inl (cI, 6, .inl (nIf G))), (a6, .inl (cI, 6, .inl (nIf T)))]) 166 2 zC dX1_liveHour_165 rfl (by omega) (by rw [upd_mI1]; first | done | rfl) ?_
            refine v_il 168 zC dX1_liveHour_166 0 rfl ?_
            refine v_ifn_lt 209 171 zC dX1_liveHour_168 (fun z => absurd z (Nat.not_lt_zero _)) (fun _ => ?_)
            refine v_ic (v := (nI 1)) 172 zC dX1_liveHour_171 (by decide +kernel) ?_
            refine v_il 174 zC dX1_liveHour_172 0 rfl ?_
            refine v_ishl (v := (nI (2 ^ w_10))) 175 zC dX1_liveHour_174 (b1n (by omega)) ?_
            refine v_is (lv2 := [(11, .int (nI (2 ^ w_10))), (10, .int (nI w_10)), (8, .int (nI (T d))), (7, .int (nI (K d))), (6, .int (nI d)), (5, .int (nI tw)), (4, .int (nI on)), (0, .ref b0), (1, .ref a0), (2, .int (nI h)), (3, .int (nI od)), (9, .int (nI u2))]) 177 zC dX1_liveHour_175 (by rw [hnE]; decide) rfl ?_
            refine v_il 179 zC dX1_liveHour_177 5 rfl ?_
            refine v_il 181 zC dX1_liveHour_179 6 rfl ?_
            refine v_il 183 zC dX1_liveHour_181 0 rfl ?_
            refine v_iand (v := (nI (on &&& (2 ^ w_10)))) 184 zC dX1_liveHour_183 (fa_and _ _) ?_
            refine v_ior (v := (nI (tw ||| (on &&& (2 ^ w_10))))) 185 zC dX1_liveHour_184 (fa_or _ _) ?_
            refine v_is (lv2 := [(5, .int (nI (tw ||| (on &&& (2 ^ w_10))))), (11, .int (nI (2 ^ w_10))), (10, .int (nI w_10)), (8, .int (nI (T d))), (7, .int (nI (K d))), (6, .int (nI d)), (4, .int (nI on)), (0, .ref b0), (1, .ref a0), (2, .int (nI h)), (3, .int (nI od)), (9, .int (nI u2))]) 187 zC dX1_liveHour_185 (by rw [hnE]; decide) rfl ?_
            refine v_il 189 zC dX1_liveHour_187 6 rfl ?_
            refine v_il 191 zC dX1_liveHour_189 1 rfl ?_
            refine v_ior (v := (nI (on ||| (2 ^ w_10)))) 192 zC dX1_liveHour_191 (fa_or _ _) ?_
            refine v_is (lv2 := [(4, .int (nI (on ||| (2 ^ w_10)))), (5, .int (nI (tw ||| (on &&& (2 ^ w_10))))), (11, .int (nI (2 ^ w_10))), (10, .int (nI w_10)), (8, .int (nI (T d))), (7, .int (nI (K d))), (6, .int (nI d)), (0, .ref b0), (1, .ref a0), (2, .int (nI h)), (3, .int (nI od)), (9, .int (nI u2))]) 194 zC dX1_liveHour_192 (by rw [hnE]; decide) rfl ?_
            refine v_al_n 195 zC dX1_liveHour_194 7 rfl ?_
            refine v_il_n 196 zC dX1_liveHour_195 9 rfl ?_
            refine v_ic (v := (nI 1)) 197 zC dX1_liveHour_196 (by decide +kernel) ?_
            refine v_iadd (v := (nI (h + 1))) 198 zC dX1_liveHour_197 (nI_add _ _) ?_
            refine v_al_n 199 zC dX1_liveHour_198 8 rfl ?_
            refine v_il 201 zC dX1_liveHour_199 2 rfl ?_
            refine v_cV (As := [.int (nI (2 ^ w_10))]) (st := [.int (nI (h + 1)), .ref b0]) 204 4 [4] zC dX1_liveHour_201 hA (c_X2_beside (ev_l E) (ev_D E) cI (a0 := a0) (a1 := a1) (a2 := a2) (a3 := a3) (a4 := a4) (a5 := a5) (a6 := a6) (n := n) (m := m) (sh := sh) (aw := aw) (s := (2 ^ w_10)) (hn := (by first | omega | assumption | rfl | (simp only []; omega) | decide)) (hs := (pow_lt2 (by assumption)))) cf_X2_beside lk_X1_65 rfl rfl rfl rfl rfl (by decide +kernel) (Nat.le_of_ble_eq_true rfl) (fun rv_15 wv_16 hp_17 hm_18 => ?_)
            clear hm_18
            obtain ⟨rfl, rfl⟩ := hp_17
            show VV E 0 0 204 [(4, .int (nI (on ||| (2 ^ w_10)))), (5, .int (nI (tw ||| (on &&& (2 ^ w_10))))), (11, .int (nI (2 ^ w_10))), (10, .int (nI w_10)), (8, .int (nI (T d))), (7, .int (nI (K d))), (6, .int (nI d)), (0, .ref b0), (1, .ref a0), (2, .int (nI h)), (3, .int (nI od)), (9, .int (nI u2))] [.int (nI (besN n (2 ^ w_10))), .int (nI (h + 1)), .ref b0] [(b0, .inr (1, [.int (nI n), .int (nI m), .ref b1, .ref b2, .ref b3])), (b1, .inl (cI, 6, .inl (nIf mf))), (b2, .inl (cI, 144, .inl (mIf (uo Y ((h * 6) + d) (some w_10))))), (b3, .inl (cI, 175, .inl (nIf X))), (a0, .inr (2, [.int (nI n), .int (nI m), .int (nI sh), .int (nI aw), .ref a1, .ref a2, .ref a3, .ref a4, .ref a5, .ref a6])), (a4, .inl (cI, 6, .inl (nIf K))), (a5, .inl (cI, 6, .inl (nIf G))), (a6, .inl (cI, 6, .inl (nIf T)))]
            refine v_il 206 zC dX1_liveHour_204 4 rfl ?_
            refine v_cV (As := [.int (nI (h + 1)), .int (nI (besN n (2 ^ w_10))), .int (nI (T d))]) (st := []) 209 0 [0, 3] zC dX1_liveHour_206 hA (c_X1_tell (ev_l E) (ev_D E) cI (b0 := b0) (b1 := b1) (b2 := b2) (b3 := b3) (P := n) (Q := m) (kn := X) (h := (h + 1)) (s := (besN n (2 ^ w_10))) (t := (T d)) (hP := (by first | omega | assumption | rfl | (simp only []; omega) | decide)) (hh := (by first | omega | assumption | rfl | (simp only []; omega) | decide)) (hs := (besN_lt hn)) (ht := (hT _))) cf_X1_tell lk_X1_74 rfl rfl rfl rfl rfl (by decide +kernel) (Nat.le_of_ble_eq_true rfl) (fun rv_19 wv_20 hp_21 hm_22 => ?_)
            clear hm_22
            obtain ⟨rfl, rfl⟩ := hp_21
            show VV E 0 0 209 [(4, .int (nI (on ||| (2 ^ w_10)))), (5, .int (nI (tw ||| (on &&& (2 ^ w_10))))), (11, .int (nI (2 ^ w_10))), (10, .int (nI w_10)), (8, .int (nI (T d))), (7, .int (nI (K d))), (6, .int (nI d)), (0, .ref b0), (1, .ref a0), (2, .int (nI h)), (3, .int (nI od)), (9, .int (nI u2))] [] [(b0, .inr (1, [.int (nI n), .int (nI m), .ref b1, .ref b2, .ref b3])), (b1, .inl (cI, 6, .inl (nIf mf))), (b2, .inl (cI, 144, .inl (mIf (uo Y ((h * 6) + d) (some w_10))))), (b3, .inl (cI, 175, .inl (nIf (tlk X n (h + 1) (besN n (2 ^ w_10)) (T d))))), (a0, .inr (2, [.int (nI n), .int (nI m), .int (nI sh), .int (nI aw), .ref a1, .ref a2, .ref a3, .ref a4, .ref a5, .ref a6])), (a4, .inl (cI, 6, .inl (nIf K))), (a5, .inl (cI, 6, .inl (nIf G))), (a6, .inl (cI, 6, .inl (nIf T)))]
            refine v_inc (v := (nI (d + 1))) (lv2 := [(6, .int (nI (d + 1))), (4, .int (nI (on ||| (2 ^ w_10)))), (5, .int (nI (tw ||| (on &&& (2 ^ w_10))))), (11, .int (nI (2 ^ w_10))), (10, .int (nI w_10)), (8, .int (nI (T d))), (7, .int (nI (K d))), (0, .ref b0), (1, .ref a0), (2, .int (nI h)), (3, .int (nI od)), (9, .int (nI u2))]) 212 zC dX1_liveHour_209 (j := 6) rfl (nI_add _ 1) (by rw [hnE]; decide) rfl ?_
            refine v_goto 32 zC dX1_liveHour_212 ?_
            refine v_lvs (lv2 := [(6, .int (nI (d + 1))), (5, .int (nI (tw ||| (on &&& (2 ^ w_10))))), (4, .int (nI (on ||| (2 ^ w_10)))), (0, .ref b0), (1, .ref a0), (2, .int (nI h)), (3, .int (nI od))]) [0, 2, 1, 7, 8, 9, 10] rfl ?_
            exact ih32 _ (by omega) (tlk X n (h + 1) (besN n (2 ^ w_10)) (T d)) (uo Y ((h * 6) + d) (some w_10)) (on ||| (2 ^ w_10)) (tw ||| (on &&& (2 ^ w_10))) (d + 1) (by rw [hs9]; first | done | exact h1) (by rw [hs9]; first | done | exact h2) (by rw [hs9]; first | exact h3 | exact tlk_r h3) (by first | exact h4 | exact fun z hz => (tlk_o hz).trans (h4 z hz)) (fun e he => by by_cases q9 : e = d; (· subst q9; rw [uo_s]; exact hm9.symm); (· rw [uo_n (by omega)]; exact h5 e (by omega))) (fun z hz => by rw [uo_n (by omega)]; exact h6 z hz) (by first | exact h7 | exact tlk_k (hT _) h7) (uo_m h8 (fun v q9 => by first | (cases q9; done) | (cases q9; omega))) (by first | exact hon | exact Nat.or_lt_two_pow hon hp9) (by first | exact htw | exact Nat.or_lt_two_pow htw (and_ltl hon)) (by first | omega | assumption | rfl | (simp only []; omega) | decide) rfl
        have ct104 : ∀ (u1 : Nat), (u1 = bN u0 (K d) (G d) h) → (u1 < 2 ^ n) → VV E 0 0 104 [(8, .int (nI (T d))), (7, .int (nI (K d))), (6, .int (nI d)), (5, .int (nI tw)), (4, .int (nI on)), (0, .ref b0), (1, .ref a0), (2, .int (nI h)), (3, .int (nI od)), (9, .int (nI u1))] [] [(b0, .inr (1, [.int (nI n), .int (nI m), .ref b1, .ref b2, .ref b3])), (b1, .inl (cI, 6, .inl (nIf mf))), (b2, .inl (cI, 144, .inl (mIf Y))), (b3, .inl (cI, 175, .inl (nIf X))), (a0, .inr (2, [.int (nI n), .int (nI m), .int (nI sh), .int (nI aw), .ref a1, .ref a2, .ref a3, .ref a4, .ref a5, .ref a6])), (a4, .inl (cI, 6, .inl (nIf K))), (a5, .inl (cI, 6, .inl (nIf G))), (a6, .inl (cI, 6, .inl (nIf T)))] := by
          intro u1 ha1 hal1
          refine v_il 106 zC dX1_liveHour_104 9 rfl ?_
          refine v_ifn_eq 137 109 zC dX1_liveHour_106 (fun h_23 => ?_) (fun h_23 => ?_)
          ·
            refine v_lvs (lv2 := [(8, .int (nI (T d))), (7, .int (nI (K d))), (6, .int (nI d)), (5, .int (nI tw)), (4, .int (nI on)), (0, .ref b0), (1, .ref a0), (2, .int (nI h)), (3, .int (nI od)), (9, .int (nI u1))]) [0, 1, 2, 3, 4, 5, 6, 7, 8, 9] rfl ?_
            exact ct137 u1 (by rw [← ha1]; first | exact cN_z (by assumption) | exact cN_n (by assumption) (by assumption) | (rw [lk_e hn (fun p hp => (h4 _ (by omega)).trans (hr p hp))]; first | exact cN_p (by assumption) (Or.inl (by assumption)) | exact cN_p (by assumption) (Or.inr (by assumption)))) (by first | exact hal1 | exact and_ltl hal1)
          ·
            refine v_il 111 zC dX1_liveHour_109 1 rfl ?_
            refine v_ic (v := (nI 2)) 112 zC dX1_liveHour_111 (by decide +kernel) ?_
            refine v_icmpn_eq 121 115 zC dX1_liveHour_112 (fun h_24 => ?_) (fun h_24 => ?_)
            ·
              refine v_il 123 zC dX1_liveHour_121 9 rfl ?_
              refine v_al_n 124 zC dX1_liveHour_123 6 rfl ?_
              refine v_al_n 125 zC dX1_liveHour_124 5 rfl ?_
              refine v_il_n 126 zC dX1_liveHour_125 7 rfl ?_
              refine v_il 128 zC dX1_liveHour_126 0 rfl ?_
              refine v_cV (As := [.int (nI h), .int (nI (T d))]) (st := [.ref a0, .int (nI u1)]) 131 0 [0, 3] zC dX1_liveHour_128 hA (c_X1_lackers (ev_l E) (ev_D E) cI (b0 := b0) (b1 := b1) (b2 := b2) (b3 := b3) (P := n) (Q := m) (kn := X) (h := h) (t := (T d)) (hP := (by first | omega | assumption | rfl | (simp only []; omega) | decide)) (hh := (by first | omega | assumption | rfl | (simp only []; omega) | decide)) (ht := (by first | omega | assumption | rfl | (simp only []; omega) | decide))) cf_X1_lackers lk_X1_61 rfl rfl rfl rfl rfl (by decide +kernel) (Nat.le_of_ble_eq_true rfl) (fun rv_25 wv_26 hp_27 hm_28 => ?_)
              clear hm_28
              obtain ⟨rfl, rfl⟩ := hp_27
              show VV E 0 0 131 [(8, .int (nI (T d))), (7, .int (nI (K d))), (6, .int (nI d)), (5, .int (nI tw)), (4, .int (nI on)), (0, .ref b0), (1, .ref a0), (2, .int (nI h)), (3, .int (nI od)), (9, .int (nI u1))] [.int (nI (mkn (fun p => !Nat.testBit (X (h * 7 + p)) (T d)) n)), .ref a0, .int (nI u1)] [(b0, .inr (1, [.int (nI n), .int (nI m), .ref b1, .ref b2, .ref b3])), (b1, .inl (cI, 6, .inl (nIf mf))), (b2, .inl (cI, 144, .inl (mIf Y))), (b3, .inl (cI, 175, .inl (nIf X))), (a0, .inr (2, [.int (nI n), .int (nI m), .int (nI sh), .int (nI aw), .ref a1, .ref a2, .ref a3, .ref a4, .ref a5, .ref a6])), (a4, .inl (cI, 6, .inl (nIf K))), (a5, .inl (cI, 6, .inl (nIf G))), (a6, .inl (cI, 6, .inl (nIf T)))]
              refine v_cV (As := [.int (nI (mkn (fun p => !Nat.testBit (X (h * 7 + p)) (T d)) n))]) (st := [.int (nI u1)]) 134 4 [4] zC dX1_liveHour_131 hA (c_X2_beside (ev_l E) (ev_D E) cI (a0 := a0) (a1 := a1) (a2 := a2) (a3 := a3) (a4 := a4) (a5 := a5) (a6 := a6) (n := n) (m := m) (sh := sh) (aw := aw) (s := (mkn (fun p => !Nat.testBit (X (h * 7 + p)) (T d)) n)) (hn := (by first | omega | assumption | rfl | (simp only []; omega) | decide)) (hs := (mkn_lt _ _))) cf_X2_beside lk_X1_65 rfl rfl rfl rfl rfl (by decide +kernel) (Nat.le_of_ble_eq_true rfl) (fun rv_29 wv_30 hp_31 hm_32 => ?_)
              clear hm_32
              obtain ⟨rfl, rfl⟩ := hp_31
              show VV E 0 0 134 [(8, .int (nI (T d))), (7, .int (nI (K d))), (6, .int (nI d)), (5, .int (nI tw)), (4, .int (nI on)), (0, .ref b0), (1, .ref a0), (2, .int (nI h)), (3, .int (nI od)), (9, .int (nI u1))] [.int (nI (besN n (mkn (fun p => !Nat.testBit (X (h * 7 + p)) (T d)) n))), .int (nI u1)] [(b0, .inr (1, [.int (nI n), .int (nI m), .ref b1, .ref b2, .ref b3])), (b1, .inl (cI, 6, .inl (nIf mf))), (b2, .inl (cI, 144, .inl (mIf Y))), (b3, .inl (cI, 175, .inl (nIf X))), (a0, .inr (2, [.int (nI n), .int (nI m), .int (nI sh), .int (nI aw), .ref a1, .ref a2, .ref a3, .ref a4, .ref a5, .ref a6])), (a4, .inl (cI, 6, .inl (nIf K))), (a5, .inl (cI, 6, .inl (nIf G))), (a6, .inl (cI, 6, .inl (nIf T)))]
              refine v_iand (v := (nI (u1 &&& (besN n (mkn (fun p => !Nat.testBit (X (h * 7 + p)) (T d)) n))))) 135 zC dX1_liveHour_134 (fa_and _ _) ?_
              refine v_is (lv2 := [(9, .int (nI (u1 &&& (besN n (mkn (fun p => !Nat.testBit (X (h * 7 + p)) (T d)) n))))), (8, .int (nI (T d))), (7, .int (nI (K d))), (6, .int (nI d)), (5, .int (nI tw)), (4, .int (nI on)), (0, .ref b0), (1, .ref a0), (2, .int (nI h)), (3, .int (nI od))]) 137 zC dX1_liveHour_135 (by rw [hnE]; decide) rfl ?_
              refine v_lvs (lv2 := [(8, .int (nI (T d))), (7, .int (nI (K d))), (6, .int (nI d)), (5, .int (nI tw)), (4, .int (nI on)), (0, .ref b0), (1, .ref a0), (2, .int (nI h)), (3, .int (nI od)), (9, .int (nI (u1 &&& (besN n (mkn (fun p => !Nat.testBit (X (h * 7 + p)) (T d)) n)))))]) [1, 2, 3, 4, 5, 6, 7, 8, 9, 0] rfl ?_
              exact ct137 (u1 &&& (besN n (mkn (fun p => !Nat.testBit (X (h * 7 + p)) (T d)) n))) (by rw [← ha1]; first | exact cN_z (by assumption) | exact cN_n (by assumption) (by assumption) | (rw [lk_e hn (fun p hp => (h4 _ (by omega)).trans (hr p hp))]; first | exact cN_p (by assumption) (Or.inl (by assumption)) | exact cN_p (by assumption) (Or.inr (by assumption)))) (by first | exact hal1 | exact and_ltl hal1)
            ·
              refine v_il 117 zC dX1_liveHour_115 1 rfl ?_
              refine v_ic (v := (nI 4)) 118 zC dX1_liveHour_117 (by decide +kernel) ?_
              refine v_icmpn_ne 137 121 zC dX1_liveHour_118 (fun h_33 => ?_) (fun h_33 => ?_)
              ·
                refine v_lvs (lv2 := [(8, .int (nI (T d))), (7, .int (nI (K d))), (6, .int (nI d)), (5, .int (nI tw)), (4, .int (nI on)), (0, .ref b0), (1, .ref a0), (2, .int (nI h)), (3, .int (nI od)), (9, .int (nI u1))]) [0, 1, 2, 3, 4, 5, 6, 7, 8, 9] rfl ?_
                exact ct137 u1 (by rw [← ha1]; first | exact cN_z (by assumption) | exact cN_n (by assumption) (by assumption) | (rw [lk_e hn (fun p hp => (h4 _ (by omega)).trans (hr p hp))]; first | exact cN_p (by assumption) (Or.inl (by assumption)) | exact cN_p (by assumption) (Or.inr (by assumption)))) (by first | exact hal1 | exact and_ltl hal1)
              ·
                refine v_il 123 zC dX1_liveHour_121 9 rfl ?_
                refine v_al_n 124 zC dX1_liveHour_123 6 rfl ?_
                refine v_al_n 125 zC dX1_liveHour_124 5 rfl ?_
                refine v_il_n 126 zC dX1_liveHour_125 7 rfl ?_
                refine v_il 128 zC dX1_liveHour_126 0 rfl ?_
                refine v_cV (As := [.int (nI h), .int (nI (T d))]) (st := [.ref a0, .int (nI u1)]) 131 0 [0, 3] zC dX1_liveHour_128 hA (c_X1_lackers (ev_l E) (ev_D E) cI (b0 := b0) (b1 := b1) (b2 := b2) (b3 := b3) (P := n) (Q := m) (kn := X) (h := h) (t := (T d)) (hP := (by first | omega | assumption | rfl | (simp only []; omega) | decide)) (hh := (by first | omega | assumption | rfl | (simp only []; omega) | decide)) (ht := (by first | omega | assumption | rfl | (simp only []; omega) | decide))) cf_X1_lackers lk_X1_61 rfl rfl rfl rfl rfl (by decide +kernel) (Nat.le_of_ble_eq_true rfl) (fun rv_34 wv_35 hp_36 hm_37 => ?_)
                clear hm_37
                obtain ⟨rfl, rfl⟩ := hp_36
                show VV E 0 0 131 [(8, .int (nI (T d))), (7, .int (nI (K d))), (6, .int (nI d)), (5, .int (nI tw)), (4, .int (nI on)), (0, .ref b0), (1, .ref a0), (2, .int (nI h)), (3, .int (nI od)), (9, .int (nI u1))] [.int (nI (mkn (fun p => !Nat.testBit (X (h * 7 + p)) (T d)) n)), .ref a0, .int (nI u1)] [(b0, .inr (1, [.int (nI n), .int (nI m), .ref b1, .ref b2, .ref b3])), (b1, .inl (cI, 6, .inl (nIf mf))), (b2, .inl (cI, 144, .inl (mIf Y))), (b3, .inl (cI, 175, .inl (nIf X))), (a0, .inr (2, [.int (nI n), .int (nI m), .int (nI sh), .int (nI aw), .ref a1, .ref a2, .ref a3, .ref a4, .ref a5, .ref a6])), (a4, .inl (cI, 6, .inl (nIf K))), (a5, .inl (cI, 6, .inl (nIf G))), (a6, .inl (cI, 6, .inl (nIf T)))]
                refine v_cV (As := [.int (nI (mkn (fun p => !Nat.testBit (X (h * 7 + p)) (T d)) n))]) (st := [.int (nI u1)]) 134 4 [4] zC dX1_liveHour_131 hA (c_X2_beside (ev_l E) (ev_D E) cI (a0 := a0) (a1 := a1) (a2 := a2) (a3 := a3) (a4 := a4) (a5 := a5) (a6 := a6) (n := n) (m := m) (sh := sh) (aw := aw) (s := (mkn (fun p => !Nat.testBit (X (h * 7 + p)) (T d)) n)) (hn := (by first | omega | assumption | rfl | (simp only []; omega) | decide)) (hs := (mkn_lt _ _))) cf_X2_beside lk_X1_65 rfl rfl rfl rfl rfl (by decide +kernel) (Nat.le_of_ble_eq_true rfl) (fun rv_38 wv_39 hp_40 hm_41 => ?_)
                clear hm_41
                obtain ⟨rfl, rfl⟩ := hp_40
                show VV E 0 0 134 [(8, .int (nI (T d))), (7, .int (nI (K d))), (6, .int (nI d)), (5, .int (nI tw)), (4, .int (nI on)), (0, .ref b0), (1, .ref a0), (2, .int (nI h)), (3, .int (nI od)), (9, .int (nI u1))] [.int (nI (besN n (mkn (fun p => !Nat.testBit (X (h * 7 + p)) (T d)) n))), .int (nI u1)] [(b0, .inr (1, [.int (nI n), .int (nI m), .ref b1, .ref b2, .ref b3])), (b1, .inl (cI, 6, .inl (nIf mf))), (b2, .inl (cI, 144, .inl (mIf Y))), (b3, .inl (cI, 175, .inl (nIf X))), (a0, .inr (2, [.int (nI n), .int (nI m), .int (nI sh), .int (nI aw), .ref a1, .ref a2, .ref a3, .ref a4, .ref a5, .ref a6])), (a4, .inl (cI, 6, .inl (nIf K))), (a5, .inl (cI, 6, .inl (nIf G))), (a6, .inl (cI, 6, .inl (nIf T)))]
                refine v_iand (v := (nI (u1 &&& (besN n (mkn (fun p => !Nat.testBit (X (h * 7 + p)) (T d)) n))))) 135 zC dX1_liveHour_134 (fa_and _ _) ?_
                refine v_is (lv2 := [(9, .int (nI (u1 &&& (besN n (mkn (fun p => !Nat.testBit (X (h * 7 + p)) (T d)) n))))), (8, .int (nI (T d))), (7, .int (nI (K d))), (6, .int (nI d)), (5, .int (nI tw)), (4, .int (nI on)), (0, .ref b0), (1, .ref a0), (2, .int (nI h)), (3, .int (nI od))]) 137 zC dX1_liveHour_135 (by rw [hnE]; decide) rfl ?_
                refine v_lvs (lv2 := [(8, .int (nI (T d))), (7, .int (nI (K d))), (6, .int (nI d)), (5, .int (nI tw)), (4, .int (nI on)), (0, .ref b0), (1, .ref a0), (2, .int (nI h)), (3, .int (nI od)), (9, .int (nI (u1 &&& (besN n (mkn (fun p => !Nat.testBit (X (h * 7 + p)) (T d)) n)))))]) [1, 2, 3, 4, 5, 6, 7, 8, 9, 0] rfl ?_
                exact ct137 (u1 &&& (besN n (mkn (fun p => !Nat.testBit (X (h * 7 + p)) (T d)) n))) (by rw [← ha1]; first | exact cN_z (by assumption) | exact cN_n (by assumption) (by assumption) | (rw [lk_e hn (fun p hp => (h4 _ (by omega)).trans (hr p hp))]; first | exact cN_p (by assumption) (Or.inl (by assumption)) | exact cN_p (by assumption) (Or.inr (by assumption)))) (by first | exact hal1 | exact and_ltl hal1)
        refine v_il 88 zC dX1_liveHour_86 9 rfl ?_
        refine v_ifn_eq 104 91 zC dX1_liveHour_88 (fun h_42 => ?_) (fun h_42 => ?_)
        ·
          refine v_lvs (lv2 := [(8, .int (nI (T d))), (7, .int (nI (K d))), (6, .int (nI d)), (5, .int (nI tw)), (4, .int (nI on)), (0, .ref b0), (1, .ref a0), (2, .int (nI h)), (3, .int (nI od)), (9, .int (nI u0))]) [0, 1, 2, 3, 4, 5, 6, 7, 8, 9] rfl ?_
          exact ct104 u0 (by first | exact bN_z (by assumption) | exact bN_t (by assumption) | exact bN_f (by assumption) (by assumption)) (by first | exact hal | exact Nat.two_pow_pos n)
        ·
          refine v_al_n 92 zC dX1_liveHour_91 6 rfl ?_
          refine v_il 94 zC dX1_liveHour_92 2 rfl ?_
          refine v_il_n 95 zC dX1_liveHour_94 7 rfl ?_
          refine v_cV (As := [.int (nI d), .int (nI h)]) (st := []) 98 4 [4, 5, 6] zC dX1_liveHour_95 hA (c_X2_isHisHour (ev_l E) (ev_D E) cI (a0 := a0) (a1 := a1) (a2 := a2) (a3 := a3) (a4 := a4) (a5 := a5) (a6 := a6) (n := n) (m := m) (sh := sh) (aw := aw) (K := K) (G := G) (d := d) (h := h) (hm := (by first | omega | assumption | rfl | (simp only []; omega) | decide)) (hd := (by first | omega | assumption | rfl | (simp only []; omega) | decide)) (hh := (by first | omega | assumption | rfl | (simp only []; omega) | decide)) (hK := (by first | omega | assumption | rfl | (simp only []; omega) | decide)) (hG := (by first | omega | assumption | rfl | (simp only []; omega) | decide))) cf_X2_isHisHour lk_X1_57 rfl rfl rfl rfl rfl (by decide +kernel) (Nat.le_of_ble_eq_true rfl) (fun rv_43 wv_44 hp_45 hm_46 => ?_)
          clear hm_46
          obtain ⟨rfl, rfl⟩ := hp_45
          show VV E 0 0 98 [(8, .int (nI (T d))), (7, .int (nI (K d))), (6, .int (nI d)), (5, .int (nI tw)), (4, .int (nI on)), (0, .ref b0), (1, .ref a0), (2, .int (nI h)), (3, .int (nI od)), (9, .int (nI u0))] [.int (bz (hhB (K d) (G d) h))] [(b0, .inr (1, [.int (nI n), .int (nI m), .ref b1, .ref b2, .ref b3])), (b1, .inl (cI, 6, .inl (nIf mf))), (b2, .inl (cI, 144, .inl (mIf Y))), (b3, .inl (cI, 175, .inl (nIf X))), (a0, .inr (2, [.int (nI n), .int (nI m), .int (nI sh), .int (nI aw), .ref a1, .ref a2, .ref a3, .ref a4, .ref a5, .ref a6])), (a4, .inl (cI, 6, .inl (nIf K))), (a5, .inl (cI, 6, .inl (nIf G))), (a6, .inl (cI, 6, .inl (nIf T)))]
          refine v_ifb_ne 104 101 zC dX1_liveHour_98 (fun h_47 => ?_) (fun h_47 => ?_)
          ·
            refine v_lvs (lv2 := [(8, .int (nI (T d))), (7, .int (nI (K d))), (6, .int (nI d)), (5, .int (nI tw)), (4, .int (nI on)), (0, .ref b0), (1, .ref a0), (2, .int (nI h)), (3, .int (nI od)), (9, .int (nI u0))]) [0, 1, 2, 3, 4, 5, 6, 7, 8, 9] rfl ?_
            exact ct104 u0 (by first | exact bN_z (by assumption) | exact bN_t (by assumption) | exact bN_f (by assumption) (by assumption)) (by first | exact hal | exact Nat.two_pow_pos n)
          ·
            refine v_ic (v := (nI 0)) 102 zC dX1_liveHour_101 (by decide +kernel) ?_
            refine v_is (lv2 := [(9, .int (nI 0)), (8, .int (nI (T d))), (7, .int (nI (K d))), (6, .int (nI d)), (5, .int (nI tw)), (4, .int (nI on)), (0, .ref b0), (1, .ref a0), (2, .int (nI h)), (3, .int (nI od))]) 104 zC dX1_liveHour_102 (by rw [hnE]; decide) rfl ?_
            refine v_lvs (lv2 := [(8, .int (nI (T d))), (7, .int (nI (K d))), (6, .int (nI d)), (5, .int (nI tw)), (4, .int (nI on)), (0, .ref b0), (1, .ref a0), (2, .int (nI h)), (3, .int (nI od)), (9, .int (nI 0))]) [1, 2, 3, 4, 5, 6, 7, 8, 9, 0] rfl ?_
            exact ct104 0 (by first | exact bN_z (by assumption) | exact bN_t (by assumption) | exact bN_f (by assumption) (by assumption)) (by first | exact hal | exact Nat.two_pow_pos n)
      refine v_il_n 60 zC dX1_liveHour_59 8 rfl ?_
      refine v_al_n 61 zC dX1_liveHour_60 5 rfl ?_
      refine v_gf 64 0 zC dX1_liveHour_61 gf_X1_9 rfl rfl ?_
      refine v_il 66 zC dX1_liveHour_64 2 rfl ?_
      refine v_ialn (v := (nI (F d))) 67 1 zC dX1_liveHour_66 rfl (by omega) (congrArg nI (hmf _ (by omega))) ?_
      refine v_iand (v := (nI (od &&& (F d)))) 68 zC dX1_liveHour_67 (fa_and _ _) ?_
      refine v_il 70 zC dX1_liveHour_68 1 rfl ?_
      refine v_ic (v := (nI 3)) 71 zC dX1_liveHour_70 (by decide +kernel) ?_
      refine v_icmpn_ne 79 74 zC dX1_liveHour_71 (fun h_48 => ?_) (fun h_48 => ?_)
      ·
        refine v_il 81 zC dX1_liveHour_79 4 rfl ?_
        refine v_ic (v := (-1)) 82 zC dX1_liveHour_81 (by decide +kernel) ?_
        refine v_ixor (v := ((nI on) ^^^ (-1))) 83 zC dX1_liveHour_82 rfl ?_
        refine v_iand (v := (nI (andn (od &&& (F d)) on))) 84 zC dX1_liveHour_83 (andn_of _ _) ?_
        refine v_is (lv2 := [(9, .int (nI (andn (od &&& (F d)) on))), (8, .int (nI (T d))), (7, .int (nI (K d))), (6, .int (nI d)), (5, .int (nI tw)), (4, .int (nI on)), (0, .ref b0), (1, .ref a0), (2, .int (nI h)), (3, .int (nI od))]) 86 zC dX1_liveHour_84 (by rw [hnE]; decide) rfl ?_
        refine v_lvs (lv2 := [(8, .int (nI (T d))), (7, .int (nI (K d))), (6, .int (nI d)), (5, .int (nI tw)), (4, .int (nI on)), (0, .ref b0), (1, .ref a0), (2, .int (nI h)), (3, .int (nI od)), (9, .int (nI (andn (od &&& (F d)) on)))]) [1, 2, 3, 4, 5, 6, 7, 8, 9, 0] rfl ?_
        exact ct86 (andn (od &&& (F d)) on) (by first | exact aN_3 (by assumption) | exact aN_n (by assumption)) (andn_lt (and_ltl hod))
      ·
        refine v_il 76 zC dX1_liveHour_74 3 rfl ?_
        refine v_goto 81 zC dX1_liveHour_76 ?_
        refine v_ic (v := (-1)) 82 zC dX1_liveHour_81 (by decide +kernel) ?_
        refine v_ixor (v := ((nI tw) ^^^ (-1))) 83 zC dX1_liveHour_82 rfl ?_
        refine v_iand (v := (nI (andn (od &&& (F d)) tw))) 84 zC dX1_liveHour_83 (andn_of _ _) ?_
        refine v_is (lv2 := [(9, .int (nI (andn (od &&& (F d)) tw))), (8, .int (nI (T d))), (7, .int (nI (K d))), (6, .int (nI d)), (5, .int (nI tw)), (4, .int (nI on)), (0, .ref b0), (1, .ref a0), (2, .int (nI h)), (3, .int (nI od))]) 86 zC dX1_liveHour_84 (by rw [hnE]; decide) rfl ?_
        refine v_lvs (lv2 := [(8, .int (nI (T d))), (7, .int (nI (K d))), (6, .int (nI d)), (5, .int (nI tw)), (4, .int (nI on)), (0, .ref b0), (1, .ref a0), (2, .int (nI h)), (3, .int (nI od)), (9, .int (nI (andn (od &&& (F d)) tw)))]) [1, 2, 3, 4, 5, 6, 7, 8, 9, 0] rfl ?_
        exact ct86 (andn (od &&& (F d)) tw) (by first | exact aN_3 (by assumption) | exact aN_n (by assumption)) (andn_lt (and_ltl hod))
  refine v_lvs (lv2 := [(6, .int (nI 0)), (5, .int (nI 0)), (4, .int (nI 0)), (0, .ref b0), (1, .ref a0), (2, .int (nI h)), (3, .int (nI od))]) [0, 1, 2, 3, 4, 5, 6] rfl ?_
  exact lp32 _ (va_cpy kn kn (h * 7) ((h + 1) * 7) 7) M 0 0 0 (by first | omega | assumption | rfl | (simp only []; omega) | decide) (by first | omega | assumption | rfl | (simp only []; omega) | decide) (fun p hp => by rw [pk_cpy_in (by omega) (by omega), show h * 7 + ((h + 1) * 7 + p - (h + 1) * 7) = h * 7 + p by omega]; exact hr p hp) (fun z hz => pk_cpy_out (Or.inl hz)) (fun e he => absurd he (Nat.not_lt_zero e)) (fun _ _ => rfl) (cpy_k hB hB) hM (Nat.two_pow_pos n) (Nat.two_pow_pos n) (by first | omega | assumption | rfl | (simp only []; omega) | decide) rfl
set_option maxRecDepth 100000 in
set_option maxHeartbeats 4000000 in
theorem c_X1_live (l : Launch) (D : va_G) (cI : ClassId) (b0 b1 b2 b3 : Nat) (P Q : Nat) (mf : Nat → Nat) (M : Nat → Option Nat) (kn : Nat → Nat) (a0 a1 a2 a3 a4 a5 a6 : Nat) (n m sh aw : Nat) (ki op fa K G T : Nat → Nat) (hn : n ≤ 7) (hm : m ≤ 6) (hK : ∀ z, K z < 6) (hG : ∀ z, G z < 10) (hT : ∀ z, T z < 10) (hA2 : ∀ z, fa z < 1024) (hB : ∀ z, kn z < 1024) (hM : ∀ z v, M z = some v → v < 7) : CT l yX1_live cX1_live 3 none { frames := 3, cells := 0, slots := 0, locals := 77 } D cI [.ref b0, .ref a0] [(b0, .inr (1, [.int (nI P), .int (nI Q), .ref b1, .ref b2, .ref b3])), (b1, .inl (cI, 6, .inl (nIf mf))), (b2, .inl (cI, 144, .inl (mIf M))), (b3, .inl (cI, 175, .inl (nIf kn))), (a0, .inr (2, [.int (nI n), .int (nI m), .int (nI sh), .int (nI aw), .ref a1, .ref a2, .ref a3, .ref a4, .ref a5, .ref a6])), (a1, .inl (cI, 7, .inl (nIf ki))), (a2, .inl (cI, 7, .inl (nIf op))), (a3, .inl (cI, 7, .inl (nIf fa))), (a4, .inl (cI, 6, .inl (nIf K))), (a5, .inl (cI, 6, .inl (nIf G))), (a6, .inl (cI, 6, .inl (nIf T)))] (fun zr zw => (∃ mg : Nat → Nat, ∃ X : Nat → Nat, ∃ Y : Nat → Option Nat, (DOK n m sh aw ki op fa K G T X Y) ∧ zr = none ∧ zw = [(b0, .inr (1, [.int (nI n), .int (nI m), .ref b1, .ref b2, .ref b3])), (b1, .inl (cI, 6, .inl (nIf mg))), (b2, .inl (cI, 144, .inl (mIf Y))), (b3, .inl (cI, 175, .inl (nIf X))), (a0, .inr (2, [.int (nI n), .int (nI m), .int (nI sh), .int (nI aw), .ref a1, .ref a2, .ref a3, .ref a4, .ref a5, .ref a6])), (a1, .inl (cI, 7, .inl (nIf ki))), (a2, .inl (cI, 7, .inl (nIf op))), (a3, .inl (cI, 7, .inl (nIf fa))), (a4, .inl (cI, 6, .inl (nIf K))), (a5, .inl (cI, 6, .inl (nIf G))), (a6, .inl (cI, 6, .inl (nIf T)))])) := by
  refine CT_of RX1 rfl (by decide +kernel) (Nat.le_of_ble_eq_true rfl) (fun E hnE zC zT => ?_)
  have hA : ∀ q, (ev_s E).heap.size ≤ q → ev_A E q := fun q h => by rw [zT.2]; exact Or.inr h
  show VV E 0 0 0 [(0, .ref b0), (1, .ref a0)] [] [(b0, .inr (1, [.int (nI P), .int (nI Q), .ref b1, .ref b2, .ref b3])), (b1, .inl (cI, 6, .inl (nIf mf))), (b2, .inl (cI, 144, .inl (mIf M))), (b3, .inl (cI, 175, .inl (nIf kn))), (a0, .inr (2, [.int (nI n), .int (nI m), .int (nI sh), .int (nI aw), .ref a1, .ref a2, .ref a3, .ref a4, .ref a5, .ref a6])), (a1, .inl (cI, 7, .inl (nIf ki))), (a2, .inl (cI, 7, .inl (nIf op))), (a3, .inl (cI, 7, .inl (nIf fa))), (a4, .inl (cI, 6, .inl (nIf K))), (a5, .inl (cI, 6, .inl (nIf G))), (a6, .inl (cI, 6, .inl (nIf T)))]
  refine v_al_n 1 zC dX1_live_0 0 rfl ?_
  refine v_al_n 2 zC dX1_live_1 1 rfl ?_
  refine v_gf 5 4 zC dX1_live_2 gf_X1_21 rfl rfl ?_
  refine v_pf (ws2 := [(b0, .inr (1, [.int (nI n), .int (nI Q), .ref b1, .ref b2, .ref b3])), (b1, .inl (cI, 6, .inl (nIf mf))), (b2, .inl (cI, 144, .inl (mIf M))), (b3, .inl (cI, 175, .inl (nIf kn))), (a0, .inr (2, [.int (nI n), .int (nI m), .int (nI sh), .int (nI aw), .ref a1, .ref a2, .ref a3, .ref a4, .ref a5, .ref a6])), (a1, .inl (cI, 7, .inl (nIf ki))), (a2, .inl (cI, 7, .inl (nIf op))), (a3, .inl (cI, 7, .inl (nIf fa))), (a4, .inl (cI, 6, .inl (nIf K))), (a5, .inl (cI, 6, .inl (nIf G))), (a6, .inl (cI, 6, .inl (nIf T)))]) 8 0 zC dX1_live_5 pf_X1_27 rfl (Nat.le_of_ble_eq_true rfl) rfl rfl rfl ?_
  refine v_al_n 9 zC dX1_live_8 0 rfl ?_
  refine v_al_n 10 zC dX1_live_9 1 rfl ?_
  refine v_gf 13 4 zC dX1_live_10 gf_X1_28 rfl rfl ?_
  refine v_pf (ws2 := [(b0, .inr (1, [.int (nI n), .int (nI m), .ref b1, .ref b2, .ref b3])), (b1, .inl (cI, 6, .inl (nIf mf))), (b2, .inl (cI, 144, .inl (mIf M))), (b3, .inl (cI, 175, .inl (nIf kn))), (a0, .inr (2, [.int (nI n), .int (nI m), .int (nI sh), .int (nI aw), .ref a1, .ref a2, .ref a3, .ref a4, .ref a5, .ref a6])), (a1, .inl (cI, 7, .inl (nIf ki))), (a2, .inl (cI, 7, .inl (nIf op))), (a3, .inl (cI, 7, .inl (nIf fa))), (a4, .inl (cI, 6, .inl (nIf K))), (a5, .inl (cI, 6, .inl (nIf G))), (a6, .inl (cI, 6, .inl (nIf T)))]) 16 0 zC dX1_live_13 pf_X1_31 rfl (Nat.le_of_ble_eq_true rfl) rfl rfl rfl ?_
  refine v_al_n 17 zC dX1_live_16 1 rfl ?_
  refine v_gf 20 4 zC dX1_live_17 gf_X1_32 rfl rfl ?_
  refine v_ic (v := (nI 0)) 21 zC dX1_live_20 (by decide +kernel) ?_
  refine v_al_n 22 zC dX1_live_21 0 rfl ?_
  refine v_gf 25 0 zC dX1_live_22 gf_X1_18 rfl rfl ?_
  refine v_ic (v := (nI 0)) 26 zC dX1_live_25 (by decide +kernel) ?_
  refine v_bp (v := (nI 7)) 28 zC dX1_live_26 (by decide +kernel) ?_
  refine v_cpy (ws2 := [(b0, .inr (1, [.int (nI n), .int (nI m), .ref b1, .ref b2, .ref b3])), (b1, .inl (cI, 6, .inl (nIf mf))), (b2, .inl (cI, 144, .inl (mIf M))), (b3, .inl (cI, 175, .inl (nIf (va_cpy fa kn 0 0 7)))), (a0, .inr (2, [.int (nI n), .int (nI m), .int (nI sh), .int (nI aw), .ref a1, .ref a2, .ref a3, .ref a4, .ref a5, .ref a6])), (a1, .inl (cI, 7, .inl (nIf ki))), (a2, .inl (cI, 7, .inl (nIf op))), (a3, .inl (cI, 7, .inl (nIf fa))), (a4, .inl (cI, 6, .inl (nIf K))), (a5, .inl (cI, 6, .inl (nIf G))), (a6, .inl (cI, 6, .inl (nIf T)))]) (hsp := (by decide)) (hdp := (by decide)) (hm := (by decide)) 31 7 3 zC dX1_live_28 ac_X1_35 ac_n ac_s ac_i rfl rfl (by omega) (by omega) ⟨Nat.le_of_ble_eq_true rfl, Nat.le_of_ble_eq_true rfl⟩ (by rw [cpy_nIf]; first | done | rfl) ?_
  refine v_ic (v := (nI 0)) 32 zC dX1_live_31 (by decide +kernel) ?_
  refine v_is_n (lv2 := [(2, .int (nI 0)), (0, .ref b0), (1, .ref a0)]) 33 zC dX1_live_32 (by rw [hnE]; decide) rfl ?_
  have lp33 : ∀ (mz : Nat) (Z : Nat → Nat) (d : Nat), (∀ e, e < d → Z e = mfS n sh aw ki K e) → (d ≤ m) → m - d = mz → VV E 0 0 33 [(2, .int (nI d)), (0, .ref b0), (1, .ref a0)] [] [(b0, .inr (1, [.int (nI n), .int (nI m), .ref b1, .ref b2, .ref b3])), (b1, .inl (cI, 6, .inl (nIf Z))), (b2, .inl (cI, 144, .inl (mIf M))), (b3, .inl (cI, 175, .inl (nIf (va_cpy fa kn 0 0 7)))), (a0, .inr (2, [.int (nI n), .int (nI m), .int (nI sh), .int (nI aw), .ref a1, .ref a2, .ref a3, .ref a4, .ref a5, .ref a6])), (a1, .inl (cI, 7, .inl (nIf ki))), (a2, .inl (cI, 7, .inl (nIf op))), (a3, .inl (cI, 7, .inl (nIf fa))), (a4, .inl (cI, 6, .inl (nIf K))), (a5, .inl (cI, 6, .inl (nIf G))), (a6, .inl (cI, 6, .inl (nIf T)))] := by
    intro mz
    induction mz using Nat.strongRecOn with
    | _ mz ih33 =>
    intro Z d hz hd hm33
    refine v_il_n 34 zC dX1_live_33 0 rfl ?_
    refine v_al_n 35 zC dX1_live_34 1 rfl ?_
    refine v_gf 38 0 zC dX1_live_35 gf_X1_31 rfl rfl ?_
    refine v_icmpn_ge 58 41 zC dX1_live_38 (fun h_1 => ?_) (fun h_1 => ?_)
    ·
      refine v_ic (v := (nI 0)) 59 zC dX1_live_58 (by decide +kernel) ?_
      refine v_is_n (lv2 := [(2, .int (nI 0)), (0, .ref b0), (1, .ref a0)]) 60 zC dX1_live_59 (by rw [hnE]; decide) rfl ?_
      have lp60 : ∀ (mz : Nat) (X : Nat → Nat) (Y : Nat → Option Nat) (h : Nat), (∀ j, j ≤ h → ∀ p, p < 7 → X (j * 7 + p) = drD n m sh aw ki op fa K G T j p) → (∀ j, j < h → ∀ e, e < m → Y (j * 6 + e) = dmD n m sh aw ki op fa K G T j e) → (∀ z, X z < 1024) → (∀ z v, Y z = some v → v < 7) → (h ≤ 24) → 24 - h = mz → VV E 0 0 60 [(2, .int (nI h)), (0, .ref b0), (1, .ref a0)] [] [(b0, .inr (1, [.int (nI n), .int (nI m), .ref b1, .ref b2, .ref b3])), (b1, .inl (cI, 6, .inl (nIf Z))), (b2, .inl (cI, 144, .inl (mIf Y))), (b3, .inl (cI, 175, .inl (nIf X))), (a0, .inr (2, [.int (nI n), .int (nI m), .int (nI sh), .int (nI aw), .ref a1, .ref a2, .ref a3, .ref a4, .ref a5, .ref a6])), (a1, .inl (cI, 7, .inl (nIf ki))), (a2, .inl (cI, 7, .inl (nIf op))), (a3, .inl (cI, 7, .inl (nIf fa))), (a4, .inl (cI, 6, .inl (nIf K))), (a5, .inl (cI, 6, .inl (nIf G))), (a6, .inl (cI, 6, .inl (nIf T)))] := by
        intro mz
        induction mz using Nat.strongRecOn with
        | _ mz ih60 =>
        intro X Y h h3 h5 h7 h8 hh hm60
        refine v_il_n 61 zC dX1_live_60 0 rfl ?_
        refine v_bp (v := (nI 24)) 63 zC dX1_live_61 (by decide +kernel) ?_
        refine v_icmpn_ge 83 66 zC dX1_live_63 (fun h_2 => ?_) (fun h_2 => ?_)
        ·
          refine v_vret zC zT dX1_live_83  ?_
          have q9 : h = 24 := by omega
          subst q9
          exact ⟨_, X, Y, ⟨h3, h5, h7, h8⟩, rfl, rfl⟩
        ·
          refine v_al_n 67 zC dX1_live_66 1 rfl ?_
          refine v_al_n 68 zC dX1_live_67 2 rfl ?_
          refine v_il_n 69 zC dX1_live_68 0 rfl ?_
          refine v_al_n 70 zC dX1_live_69 2 rfl ?_
          refine v_il_n 71 zC dX1_live_70 0 rfl ?_
          refine v_cV (As := [.int (nI h)]) (st := [.int (nI h), .ref a0, .ref b0]) 74 4 [4, 6] zC dX1_live_71 hA (c_X2_openIn (ev_l E) (ev_D E) cI (a0 := a0) (a1 := a1) (a2 := a2) (a3 := a3) (a4 := a4) (a5 := a5) (a6 := a6) (n := n) (m := m) (sh := sh) (aw := aw) (op := op) (h := h) (hn := (by first | omega | assumption | rfl | (simp only []; omega) | decide)) (hh := (by first | omega | assumption | rfl | (simp only []; omega) | decide))) cf_X2_openIn lk_X1_44 rfl rfl rfl rfl rfl (by decide +kernel) (Nat.le_of_ble_eq_true rfl) (fun rv_3 wv_4 hp_5 hm_6 => ?_)
          clear hm_6
          obtain ⟨rfl, rfl⟩ := hp_5
          show VV E 0 0 74 [(2, .int (nI h)), (0, .ref b0), (1, .ref a0)] [.int (nI (mkn (fun p => Nat.testBit (op p) h) n)), .int (nI h), .ref a0, .ref b0] [(b0, .inr (1, [.int (nI n), .int (nI m), .ref b1, .ref b2, .ref b3])), (b1, .inl (cI, 6, .inl (nIf Z))), (b2, .inl (cI, 144, .inl (mIf Y))), (b3, .inl (cI, 175, .inl (nIf X))), (a0, .inr (2, [.int (nI n), .int (nI m), .int (nI sh), .int (nI aw), .ref a1, .ref a2, .ref a3, .ref a4, .ref a5, .ref a6])), (a1, .inl (cI, 7, .inl (nIf ki))), (a2, .inl (cI, 7, .inl (nIf op))), (a3, .inl (cI, 7, .inl (nIf fa))), (a4, .inl (cI, 6, .inl (nIf K))), (a5, .inl (cI, 6, .inl (nIf G))), (a6, .inl (cI, 6, .inl (nIf T)))]
          refine v_cV (As := [.ref a0, .int (nI h), .int (nI (mkn (fun p => Nat.testBit (op p) h) n))]) (st := []) 77 0 [0, 1, 2, 3, 4, 8, 9, 10] zC dX1_live_74 hA (c_X1_liveHour (ev_l E) (ev_D E) cI (b0 := b0) (b1 := b1) (b2 := b2) (b3 := b3) (a0 := a0) (a1 := a1) (a2 := a2) (a3 := a3) (a4 := a4) (a5 := a5) (a6 := a6) (n := n) (m := m) (sh := sh) (aw := aw) (mf := Z) (F := (mfS n sh aw ki K)) (M := Y) (kn := X) (K := K) (G := G) (T := T) (r := (drD n m sh aw ki op fa K G T h)) (h := h) (od := (mkn (fun p => Nat.testBit (op p) h) n)) (hn := (by first | omega | assumption | rfl | (simp only []; omega) | decide)) (hm := (by first | omega | assumption | rfl | (simp only []; omega) | decide)) (hh := (by first | omega | assumption | rfl | (simp only []; omega) | decide)) (hod := (mkn_lt _ _)) (hmf := (fun e he => hz e (by omega))) (hr := (h3 h (Nat.le_refl h))) (hK := hK) (hG := hG) (hT := hT) (hB := h7) (hM := h8)) cf_X1_liveHour lk_X1_47 rfl rfl rfl rfl rfl (by decide +kernel) (Nat.le_of_ble_eq_true rfl) (fun rv_7 wv_8 hp_9 hm_10 => ?_)
          clear hm_10
          obtain ⟨X_11, Y_12, h3_13, h4_14, h5_15, h6_16, h7_17, h8_18, rfl, rfl⟩ := hp_9
          show VV E 0 0 77 [(2, .int (nI h)), (0, .ref b0), (1, .ref a0)] [] [(b0, .inr (1, [.int (nI n), .int (nI m), .ref b1, .ref b2, .ref b3])), (b1, .inl (cI, 6, .inl (nIf Z))), (b2, .inl (cI, 144, .inl (mIf Y_12))), (b3, .inl (cI, 175, .inl (nIf X_11))), (a0, .inr (2, [.int (nI n), .int (nI m), .int (nI sh), .int (nI aw), .ref a1, .ref a2, .ref a3, .ref a4, .ref a5, .ref a6])), (a1, .inl (cI, 7, .inl (nIf ki))), (a2, .inl (cI, 7, .inl (nIf op))), (a3, .inl (cI, 7, .inl (nIf fa))), (a4, .inl (cI, 6, .inl (nIf K))), (a5, .inl (cI, 6, .inl (nIf G))), (a6, .inl (cI, 6, .inl (nIf T)))]
          have g3 := h3_13
          have g4 := h4_14
          have g5 := h5_15
          have g6 := h6_16
          have g7 := h7_17
          have g8 := h8_18
          refine v_inc (v := (nI (h + 1))) (lv2 := [(2, .int (nI (h + 1))), (0, .ref b0), (1, .ref a0)]) 80 zC dX1_live_77 (j := 0) rfl (nI_add _ 1) (by rw [hnE]; decide) rfl ?_
          refine v_goto 60 zC dX1_live_80 ?_
          refine v_lvs (lv2 := [(2, .int (nI (h + 1))), (0, .ref b0), (1, .ref a0)]) [0, 1, 2] rfl ?_
          exact ih60 _ (by omega) X_11 Y_12 (h + 1) (fun j hj p hp => by by_cases q9 : j = h + 1; (· subst q9; exact g3 p hp); (· rw [g4 _ (by omega)]; exact h3 j (by omega) p hp)) (fun j hj e he => by by_cases q9 : j = h; (· subst q9; exact g5 e he); (· rw [g6 _ (by omega)]; exact h5 j (by omega) e he)) g7 g8 (by first | omega | assumption | rfl | (simp only []; omega) | decide) rfl
      refine v_lvs (lv2 := [(2, .int (nI 0)), (0, .ref b0), (1, .ref a0)]) [0, 1, 2] rfl ?_
      exact lp60 _ (va_cpy fa kn 0 0 7) M 0 (fun j hj p hp => by rw [show j = 0 by omega, pk_cpy_in (by omega) (by omega), show 0 + (0 * 7 + p - 0) = p by omega]; rfl) (fun j hj => absurd hj (Nat.not_lt_zero j)) (cpy_k hA2 hB) hM (by first | omega | assumption | rfl | (simp only []; omega) | decide) rfl
    ·
      refine v_al_n 42 zC dX1_live_41 1 rfl ?_
      refine v_gf 45 0 zC dX1_live_42 gf_X1_9 rfl rfl ?_
      refine v_il_n 46 zC dX1_live_45 0 rfl ?_
      refine v_al_n 47 zC dX1_live_46 2 rfl ?_
      refine v_il_n 48 zC dX1_live_47 0 rfl ?_
      refine v_cV (As := [.int (nI d)]) (st := [.int (nI d), .ref b1]) 51 4 [4, 5, 8] zC dX1_live_48 hA (c_X2_mouthsFor (ev_l E) (ev_D E) cI (a0 := a0) (a1 := a1) (a2 := a2) (a3 := a3) (a4 := a4) (a5 := a5) (a6 := a6) (n := n) (m := m) (sh := sh) (aw := aw) (ki := ki) (K := K) (d := d) (hn := (by first | omega | assumption | rfl | (simp only []; omega) | decide)) (hm := (by first | omega | assumption | rfl | (simp only []; omega) | decide)) (hd := (by first | omega | assumption | rfl | (simp only []; omega) | decide)) (hK := (by first | omega | assumption | rfl | (simp only []; omega) | decide))) cf_X2_mouthsFor lk_X1_41 rfl rfl rfl rfl rfl (by decide +kernel) (Nat.le_of_ble_eq_true rfl) (fun rv_19 wv_20 hp_21 hm_22 => ?_)
      clear hm_22
      obtain ⟨rfl, rfl⟩ := hp_21
      show VV E 0 0 51 [(2, .int (nI d)), (0, .ref b0), (1, .ref a0)] [.int (nI (mfN n sh aw (K d) d ki)), .int (nI d), .ref b1] [(b0, .inr (1, [.int (nI n), .int (nI m), .ref b1, .ref b2, .ref b3])), (b1, .inl (cI, 6, .inl (nIf Z))), (b2, .inl (cI, 144, .inl (mIf M))), (b3, .inl (cI, 175, .inl (nIf (va_cpy fa kn 0 0 7)))), (a0, .inr (2, [.int (nI n), .int (nI m), .int (nI sh), .int (nI aw), .ref a1, .ref a2, .ref a3, .ref a4, .ref a5, .ref a6])), (a1, .inl (cI, 7, .inl (nIf ki))), (a2, .inl (cI, 7, .inl (nIf op))), (a3, .inl (cI, 7, .inl (nIf fa))), (a4, .inl (cI, 6, .inl (nIf K))), (a5, .inl (cI, 6, .inl (nIf G))), (a6, .inl (cI, 6, .inl (nIf T)))]
      refine v_iasn (ws2 := [(b0, .inr (1, [.int (nI n), .int (nI m), .ref b1, .ref b2, .ref b3])), (b1, .inl (cI, 6, .inl (nIf (un Z d (mfN n sh aw (K d) d ki))))), (b2, .inl (cI, 144, .inl (mIf M))), (b3, .inl (cI, 175, .inl (nIf (va_cpy fa kn 0 0 7)))), (a0, .inr (2, [.int (nI n), .int (nI m), .int (nI sh), .int (nI aw), .ref a1, .ref a2, .ref a3, .ref a4, .ref a5, .ref a6])), (a1, .inl (cI, 7, .inl (nIf ki))), (a2, .inl (cI, 7, .inl (nIf op))), (a3, .inl (cI, 7, .inl (nIf fa))), (a4, .inl (cI, 6, .inl (nIf K))), (a5, .inl (cI, 6, .inl (nIf G))), (a6, .inl (cI, 6, .inl (nIf T)))]) 52 1 zC dX1_live_51 rfl (by omega) (by rw [upd_nIf]; first | done | rfl) ?_
      refine v_inc (v := (nI (d + 1))) (lv2 := [(2, .int (nI (d + 1))), (0, .ref b0), (1, .ref a0)]) 55 zC dX1_live_52 (j := 0) rfl (nI_add _ 1) (by rw [hnE]; decide) rfl ?_
      refine v_goto 33 zC dX1_live_55 ?_
      refine v_lvs (lv2 := [(2, .int (nI (d + 1))), (0, .ref b0), (1, .ref a0)]) [0, 1, 2] rfl ?_
      exact ih33 _ (by omega) (un Z d (mfN n sh aw (K d) d ki)) (d + 1) (fun e he => by by_cases q9 : e = d; (· subst q9; rw [un_s]; rfl); (· rw [un_n q9]; exact hz e (by omega))) (by first | omega | assumption | rfl | (simp only []; omega) | decide) rfl
  refine v_lvs (lv2 := [(2, .int (nI 0)), (0, .ref b0), (1, .ref a0)]) [0, 1, 2] rfl ?_
  exact lp33 _ mf 0 (fun e he => absurd he (Nat.not_lt_zero e)) (by first | omega | assumption | rfl | (simp only []; omega) | decide) rfl
