/-! the reference: chances, days, lots -/
theorem all_ge {n m sh aw : Nat} {ki op fa K G T : Nat → Nat} : ∀ j p, ∀ i, Nat.testBit (fa p) i = true → Nat.testBit (drD n m sh aw ki op fa K G T j p) i = true
  | 0, _, _, h => h
  | j + 1, p, i, h => by
    have ih := all_ge (n := n) (m := m) (sh := sh) (aw := aw) (ki := ki) (op := op) (fa := fa) (K := K) (G := G) (T := T) j p i h
    have g : ∀ d, Nat.testBit ((hsD n (odN op n j) j (mfS n sh aw ki K) K G T (drD n m sh aw ki op fa K G T j) d).2.2 p) i = true := by
      intro d
      induction d with
      | zero => exact ih
      | succ d ihd =>
        show Nat.testBit ((stD n (odN op n j) j (mfS n sh aw ki K) K G T (drD n m sh aw ki op fa K G T j) d _).2.2 p) i = true
        unfold stD
        split
        · exact ihd
        · dsimp only
          unfold tlr
          split
          · rw [Nat.testBit_or, ihd, Bool.true_or]
          · exact ihd
    exact g m
theorem ctn_mono {P Q : Nat → Bool} : ∀ {n : Nat}, (∀ k, k < n → P k = true → Q k = true) → ctn P n ≤ ctn Q n
  | 0, _ => Nat.le_refl _
  | n + 1, h => by
    simp only [ctn]
    have ih := ctn_mono (fun k hk => h k (Nat.lt_succ_of_lt hk))
    cases hp : P n with
    | true => rw [h n (Nat.lt_succ_self n) hp, if_pos rfl]; omega
    | false => rw [if_neg (by decide)]; omega
theorem pcn_mono {k a b : Nat} (ha : a < 2 ^ k) (hb : b < 2 ^ k) (h : ∀ i, Nat.testBit a i = true → Nat.testBit b i = true) : pcn a ≤ pcn b := by
  rw [pcn_ctn k a ha, pcn_ctn k b hb]
  exact ctn_mono (fun i _ => h i)
theorem ctn_eqm {P Q : Nat → Bool} : ∀ {n : Nat}, (∀ k, k < n → P k = true → Q k = true) → ctn Q n ≤ ctn P n → ∀ k, k < n → P k = Q k
  | 0, _, _ => fun k hk => absurd hk (Nat.not_lt_zero k)
  | n + 1, h, e => by
    have hm := ctn_mono (fun k hk => h k (Nat.lt_succ_of_lt hk))
    simp only [ctn] at e
    intro k hk
    by_cases c : k = n
    · subst c
      cases hp : P k with
      | true => rw [h k (Nat.lt_succ_self k) hp]
      | false =>
        cases hq : Q k with
        | false => rfl
        | true =>
          rw [hp, hq, if_pos rfl, if_neg (by decide)] at e
          omega
    · refine ctn_eqm (fun k hk => h k (Nat.lt_succ_of_lt hk)) ?_ k (by omega)
      cases hp : P n with
      | true =>
        rw [hp, h n (Nat.lt_succ_self n) hp] at e
        omega
      | false =>
        rw [hp] at e
        cases hq : Q n with
        | true => rw [hq, if_pos rfl, if_neg (by decide)] at e; omega
        | false => rw [hq] at e; omega
theorem pcn_eqm {k a b : Nat} (ha : a < 2 ^ k) (hb : b < 2 ^ k) (h : ∀ i, Nat.testBit a i = true → Nat.testBit b i = true) (e : pcn b ≤ pcn a) : a = b := by
  rw [pcn_ctn k a ha, pcn_ctn k b hb] at e
  apply Nat.eq_of_testBit_eq
  intro i
  by_cases c : i < k
  · exact ctn_eqm (fun i _ => h i) e i c
  · rw [Nat.testBit_lt_two_pow (Nat.lt_of_lt_of_le ha (Nat.pow_le_pow_right (by decide) (by omega))), Nat.testBit_lt_two_pow (Nat.lt_of_lt_of_le hb (Nat.pow_le_pow_right (by decide) (by omega)))]
theorem sm_mono {f g : Nat → Nat} : ∀ {n : Nat}, (∀ k, k < n → f k ≤ g k) → sm f n ≤ sm g n
  | 0, _ => Nat.le_refl _
  | n + 1, h => by
    simp only [sm]
    have := sm_mono (fun k hk => h k (Nat.lt_succ_of_lt hk))
    have := h n (Nat.lt_succ_self n)
    omega
theorem sm_eqm {f g : Nat → Nat} : ∀ {n : Nat}, (∀ k, k < n → f k ≤ g k) → sm g n ≤ sm f n → ∀ k, k < n → g k ≤ f k
  | 0, _, _ => fun k hk => absurd hk (Nat.not_lt_zero k)
  | n + 1, h, e => by
    simp only [sm] at e
    have h1 := sm_mono (fun k hk => h k (Nat.lt_succ_of_lt hk))
    have h2 := h n (Nat.lt_succ_self n)
    intro k hk
    by_cases c : k = n
    · subst c; omega
    · exact sm_eqm (fun k hk => h k (Nat.lt_succ_of_lt hk)) (by omega) k (by omega)
section DAYS
variable {n m sh aw : Nat} {ki op fa K G T : Nat → Nat}
theorem pas_ge (hb : ∀ z, PASF (n, m, sh, aw, ki, op, fa, K, G, T) z < 1024) (hf : ∀ z, fa z < 1024) : sm (fun p => pcn (fa p)) n ≤ ALL (n, m, sh, aw, ki, op, fa, K, G, T) ∨ 7 < n := by
  by_cases hn : 7 < n
  · exact Or.inr hn
  · refine Or.inl ?_
    rw [← pas_s (s := (n, m, sh, aw, ki, op, fa, K, G, T)) (by show n ≤ 7; omega)]
    refine sm_mono (fun p hp => pcn_mono (k := 10) (hf p) (hb p) (fun i hi => ?_))
    have hp2 : p < n := hp
    unfold PASF
    rw [if_pos (by omega)]
    exact all_ge 24 p i hi
theorem dch_ne (hn : n ≤ 7) (hb : ∀ z, PASF (n, m, sh, aw, ki, op, fa, K, G, T) z < 1024) (hf : ∀ z, fa z < 1024) : DCH (n, m, sh, aw, ki, op, fa, K, G, T) = decide (sm (fun p => pcn (fa p)) n < ALL (n, m, sh, aw, ki, op, fa, K, G, T)) := by
  have h := (pas_ge hb hf).resolve_right (by omega)
  unfold DCH
  exact decide_eq_decide.mpr (by show ALL (n, m, sh, aw, ki, op, fa, K, G, T) ≠ sm (fun p => pcn (fa p)) n ↔ _; omega)
theorem dch_st (hn : n ≤ 7) (hv : VZ 7 fa) (hb : ∀ z, PASF (n, m, sh, aw, ki, op, fa, K, G, T) z < 1024) (hf : ∀ z, fa z < 1024) (h : DCH (n, m, sh, aw, ki, op, fa, K, G, T) = false) : PASF (n, m, sh, aw, ki, op, fa, K, G, T) = fa := by
  rw [dch_ne hn hb hf] at h
  have h2 := of_decide_eq_false h
  funext p
  by_cases c : p < n
  · have hge : ∀ q, q < n → pcn (fa q) ≤ pcn (PASF (n, m, sh, aw, ki, op, fa, K, G, T) q) := fun q hq => pcn_mono (k := 10) (hf q) (hb q) (fun i hi => by
      unfold PASF
      rw [if_pos (by omega)]
      exact all_ge 24 q i hi)
    have e : sm (fun p => pcn (PASF (n, m, sh, aw, ki, op, fa, K, G, T) p)) n ≤ sm (fun p => pcn (fa p)) n := by
      have e2 := pas_s (s := (n, m, sh, aw, ki, op, fa, K, G, T)) hn
      have e3 : sm (fun p => pcn (PASF (n, m, sh, aw, ki, op, fa, K, G, T) p)) n = ALL (n, m, sh, aw, ki, op, fa, K, G, T) := e2
      omega
    exact (pcn_eqm (k := 10) (hf p) (hb p) (fun i hi => by
      unfold PASF
      rw [if_pos (by omega)]
      exact all_ge 24 p i hi) (sm_eqm hge e p c)).symm
  · unfold PASF
    by_cases c2 : p < 7
    · rw [if_pos c2]
      exact dr_o (n := n) (Nat.not_lt.mp c) 24
    · rw [if_neg c2]
      exact (hv p (by omega)).symm
end DAYS
/-- the days' facts keep in their bounds: said of those that a run has seen -/
theorem dayn_b {s : SG} {k : Nat} (h0 : VZ 7 (g_fa s)) : VZ 7 (DAYN s k) := by
  cases k with
  | zero => exact h0
  | succ k => exact pas_v
theorem dayn_st {s : SG} {k : Nat} (h : PASF (wfa s (DAYN s k)) = DAYN s k) : ∀ i, DAYN s (k + i) = DAYN s k
  | 0 => rfl
  | i + 1 => by
    show PASF (wfa s (DAYN s (k + i))) = _
    rw [dayn_st h i, h]
theorem dayn_ge {s : SG} : ∀ k, (∀ i, i < k → sm (fun p => pcn (DAYN s i p)) (g_n s) < sm (fun p => pcn (DAYN s (i + 1) p)) (g_n s)) → k ≤ sm (fun p => pcn (DAYN s k p)) (g_n s)
  | 0, _ => Nat.zero_le _
  | k + 1, h => by
    have h1 := dayn_ge k (fun i hi => h i (by omega))
    have h2 := h k (Nat.lt_succ_self k)
    omega
theorem hsd_b {n od h : Nat} {F K G T r : Nat → Nat} (hT : ∀ z, T z < 10) (hr : ∀ z, r z < 1024) : ∀ d z, (hsD n od h F K G T r d).2.2 z < 1024
  | 0, z => hr z
  | d + 1, z => by
    have ih := hsd_b (n := n) (od := od) (h := h) (F := F) (K := K) (G := G) hT hr d
    show (stD n od h F K G T r d (hsD n od h F K G T r d)).2.2 z < 1024
    unfold stD
    split
    · exact ih z
    · dsimp only
      unfold tlr
      split
      · exact Nat.or_lt_two_pow (n := 10) (ih z) (Nat.pow_lt_pow_right (by decide) (hT d))
      · exact ih z
theorem dr_b {n m sh aw : Nat} {ki op fa K G T : Nat → Nat} (hT : ∀ z, T z < 10) (hf : ∀ z, fa z < 1024) : ∀ j z, drD n m sh aw ki op fa K G T j z < 1024
  | 0, z => hf z
  | j + 1, z => hsd_b hT (dr_b hT hf j) m z
theorem pas_1024 {s : SG} (hT : ∀ z, g_T s z < 10) (hf : ∀ z, g_fa s z < 1024) : ∀ z, PASF s z < 1024 := by
  intro z
  unfold PASF
  split
  · exact dr_b hT hf 24 z
  · decide
theorem dayn_1024 {s : SG} (hT : ∀ z, g_T s z < 10) (hf : ∀ z, g_fa s z < 1024) : ∀ k z, DAYN s k z < 1024
  | 0, z => hf z
  | k + 1, z => pas_1024 (s := wfa s (DAYN s k)) hT (dayn_1024 hT hf k) z
theorem dch_d {s : SG} (hn : g_n s ≤ 7) (hT : ∀ z, g_T s z < 10) (hf : ∀ z, g_fa s z < 1024) : DCH s = decide (sm (fun p => pcn (g_fa s p)) (g_n s) < ALL s) := dch_ne hn (pas_1024 hT hf) hf
theorem dch_f {s : SG} (hn : g_n s ≤ 7) (hT : ∀ z, g_T s z < 10) (hf : ∀ z, g_fa s z < 1024) (ha : ALL s ≤ 70) (hb : KBH s 0 ≤ 70) (h : nI (ALL s) - nI (KBH s 0) ≤ 0) : DCH s = false := by
  rw [dch_d hn hT hf]
  have h2 := (dif_le ha hb).mp h
  exact decide_eq_false (fun q => by have q2 : KBH s 0 < ALL s := q; omega)
theorem dch_t {s : SG} (hn : g_n s ≤ 7) (hT : ∀ z, g_T s z < 10) (hf : ∀ z, g_fa s z < 1024) (ha : ALL s ≤ 70) (hb : KBH s 0 ≤ 70) (h : ¬ nI (ALL s) - nI (KBH s 0) ≤ 0) : DCH s = true := by
  rw [dch_d hn hT hf]
  have h2 := mt (dif_le ha hb).mpr h
  exact decide_eq_true (by show KBH s 0 < ALL s; omega)
theorem sum_70 {f : Nat → Nat} {n : Nat} (hn : n ≤ 7) (hf : ∀ z, f z < 1024) : sm (fun p => pcn (f p)) n ≤ 70 := by
  have h : sm (fun p => pcn (f p)) n ≤ n * 10 := sm_le (fun p => pcn_k 10 _ (hf p)) n
  omega
theorem fs_first {P : Nat → Bool} : ∀ {n i : Nat}, fs P n = some i → fs P i = none
  | 0, i, h => by cases h
  | n + 1, i, h => by
    cases hc : fs P n with
    | some j =>
      simp only [fs, hc] at h
      have e : j = i := Option.some.inj h
      subst e
      exact fs_first hc
    | none =>
      simp only [fs, hc] at h
      by_cases hp : P n = true
      · rw [if_pos hp] at h
        have e : n = i := Option.some.inj h
        subst e
        exact hc
      · rw [if_neg hp] at h
        cases h
theorem fs_nof {P : Nat → Bool} : ∀ {n : Nat}, (∀ i, i < n → P i = false) → fs P n = none
  | 0, _ => rfl
  | n + 1, h => fs_0 (fs_nof (fun i hi => h i (Nat.lt_succ_of_lt hi))) (h n (Nat.lt_succ_self n))
theorem dayn_70 {s : SG} {k : Nat} (hn : g_n s ≤ 7) (hT : ∀ z, g_T s z < 10) (hf : ∀ z, g_fa s z < 1024) (h : fs (DYP s) k = none) : k ≤ 70 := by
  refine Nat.le_trans (dayn_ge k (fun i hi => ?_)) (sum_70 hn (dayn_1024 hT hf k))
  have h2 := fs_no h hi
  unfold DYP at h2
  have h3 : DCH (wfa s (DAYN s i)) = true := by
    cases e : DCH (wfa s (DAYN s i)) with
    | true => rfl
    | false => rw [e] at h2; cases h2
  rw [dch_d (s := wfa s (DAYN s i)) hn hT (dayn_1024 hT hf i)] at h3
  have h4 := of_decide_eq_true h3
  have h5 : sm (fun p => pcn (PASF (wfa s (DAYN s i)) p)) (g_n s) = ALL (wfa s (DAYN s i)) := pas_s (s := wfa s (DAYN s i)) hn
  show sm (fun p => pcn (DAYN s i p)) (g_n s) < sm (fun p => pcn (PASF (wfa s (DAYN s i)) p)) (g_n s)
  rw [h5]
  exact h4
theorem dayc_k {s : SG} {k : Nat} (hq : fs (DYP s) k = none) (hk : k ≤ 70) (hd : DCH (wfa s (DAYN s k)) = false) : DAYC' s = k := by
  by_cases c : k = 70
  · exact dyc_0 (dyk_0 hq c) c
  · exact dyc_1 (dyk_1 hq (by omega) hd)
theorem dch_fix {s : SG} {k : Nat} (hn : g_n s ≤ 7) (hT : ∀ z, g_T s z < 10) (hf : ∀ z, g_fa s z < 1024) (hv : VZ 7 (g_fa s)) (hd : DCH (wfa s (DAYN s k)) = false) : PASF (wfa s (DAYN s k)) = DAYN s k := dch_st hn (dayn_b hv) (pas_1024 (s := wfa s (DAYN s k)) hT (dayn_1024 hT hf k)) (dayn_1024 hT hf k) hd
theorem dayf_k {s : SG} {k : Nat} (hn : g_n s ≤ 7) (hT : ∀ z, g_T s z < 10) (hf : ∀ z, g_fa s z < 1024) (hv : VZ 7 (g_fa s)) (hq : fs (DYP s) k = none) (hk : k ≤ 70) (hd : DCH (wfa s (DAYN s k)) = false) : DAYF s = PASF (wfa s (DAYN s k)) := by
  by_cases c : k = 70
  · rw [dch_fix hn hT hf hv hd]
    exact dyf_0 (dyk_0 hq c) c
  · exact dyf_1 (dyk_1 hq (by omega) hd)
theorem spre_e {s : SG} {j f : Nat} (hn : g_n s ≤ 7) (hT : ∀ z, g_T s z < 10) (hf : ∀ z, g_fa s z < 1024) (hv : VZ 7 (g_fa s)) : fs (fun i => Nat.testBit (DAYN s i j) f) 71 = SPRE s j f := by
  unfold SPRE
  cases e : fs (SPP s j f) 71 with
  | none =>
    refine fs_nof (fun i hi => ?_)
    have h := fs_no e hi
    unfold SPP at h
    cases c : Nat.testBit (DAYN s i j) f with
    | false => rfl
    | true => rw [c] at h; cases h
  | some k =>
    dsimp only
    have hk := fs_lt e
    have h1 := fs_first e
    have h2 : ∀ i, i < k → Nat.testBit (DAYN s i j) f = false := fun i hi => by
      have h := fs_no h1 hi
      unfold SPP at h
      cases c : Nat.testBit (DAYN s i j) f with
      | false => rfl
      | true => rw [c] at h; cases h
    by_cases c : Nat.testBit (DAYN s k j) f = true
    · rw [if_pos c]
      exact fs_m (show k + 1 ≤ 71 by omega) (fs_1 (fs_nof h2) c)
    · rw [if_neg c]
      refine fs_nof (fun i hi => ?_)
      by_cases ci : i < k
      · exact h2 i ci
      · have h3 := hk.2
        unfold SPP at h3
        have c2 : Nat.testBit (DAYN s k j) f = false := by
          cases q : Nat.testBit (DAYN s k j) f with
          | false => rfl
          | true => exact absurd q c
        rw [c2, Bool.false_or] at h3
        have h4 : DCH (wfa s (DAYN s k)) = false := by
          cases q : DCH (wfa s (DAYN s k)) with
          | false => rfl
          | true => rw [q] at h3; cases h3
        have h5 := dayn_st (dch_fix hn hT hf hv h4) (i - k)
        rw [show k + (i - k) = i by omega] at h5
        rw [h5]
        exact c2
theorem lot_w {O : Nat → Nat} {p v X : Nat} : un (un O p 0) p (if true = true then (un O p 0 p) ||| v else X) = un O p v := by
  rw [if_pos rfl, un_un, un_s, Nat.zero_or]
theorem cn_1 {n sh : Nat} (h : sh < 2 ^ n) : ctn (fun i => !(Nat.testBit sh i)) n = n - pcn sh := by
  have h1 := ctn_not (P := fun i => Nat.testBit sh i) n
  rw [pcn_ctn n sh h]
  omega
theorem cn_2 {n sh z : Nat} (h : sh < 2 ^ n) (hz : z < 2 ^ n) (hd : z &&& sh = 0) : ctn (fun i => !(Nat.testBit sh i || Nat.testBit z i)) n = n - pcn sh - pcn z := by
  have h1 := ctn_not (P := fun i => Nat.testBit (sh ||| z) i) n
  have h2 : pcn (sh ||| z) = pcn sh + pcn z := pcn_or h hz (by rw [Nat.and_comm]; exact hd)
  rw [pcn_ctn n _ (Nat.or_lt_two_pow h hz)] at h2
  have h3 : ctn (fun i => !(Nat.testBit sh i || Nat.testBit z i)) n = ctn (fun i => !(Nat.testBit (sh ||| z) i)) n := ctn_c (fun k _ => by rw [Nat.testBit_or])
  rw [h3]
  omega
theorem pw_1 {b e : Nat} {P : Nat → Bool} {x : Nat} (hx : x = b ^ ctn P e) (hp : P e = true) : x * b = b ^ ctn P (e + 1) := by
  rw [hx, ctn_1 hp, Nat.pow_succ]
theorem pw_0 {b e : Nat} {P : Nat → Bool} {x : Nat} (hx : x = b ^ ctn P e) (hp : P e = false) : x = b ^ ctn P (e + 1) := by rw [hx, ctn_0 hp]

set_option maxRecDepth 100000 in
set_option maxHeartbeats 4000000 in
theorem c_X5_days (l : Launch) (D : va_G) (cI : ClassId) (r0 k1 k2 k3 k4 k6 k7 k8 k10 k12 k13 k14 k15 k16 k21 k22 k23 k24 k25 k30 k31 k33 : Nat) (n m ls ap sq pl tz rs : Nat) (bd pd tk : Bool) (kv : Value) (sd : Int32) (ki op fa K G T : Nat → Nat) (sh : Nat) (kw kn : Nat → Nat) (M : Nat → Option Nat) (mw : Nat → Nat) (kp R : Nat → Nat) (w : Int32) (hw : FW n m sh ki op fa K G T) (hkw : ∀ z, kw z < 1024) (hkn : ∀ z, kn z < 1024) (hM : ∀ z v, M z = some v → v < 7) : CT l yX5_days cX5_days 4 (some .int) { frames := 7, cells := 0, slots := 0, locals := 160 } D cI [.ref r0, .int w] [(r0, .inr (5, [.int (nI n), .ref k1, .ref k2, .ref k3, .ref k4, .int (nI m), .ref k6, .ref k7, .ref k8, .int (nI 0), .ref k10, .int (nI 0), .ref k12, .ref k13, .ref k14, .ref k15, .ref k16, .int (nI ls), .int (nI ap), .int (bz bd), .int (nI sq), .ref k21, .ref k22, .ref k23, .ref k24, .ref k25, .int (bz pd), .int (nI pl), .int (bz tk), kv, .ref k30, .ref k31, .int (nI tz), .ref k33, .int (nI rs), .int sd])), (k1, .inl (cI, 7, .inl (nIf ki))), (k2, .inl (cI, 7, .inl (nIf op))), (k3, .inl (cI, 7, .inl (nIf (shF sh)))), (k4, .inl (cI, 7, .inl (nIf fa))), (k6, .inl (cI, 6, .inl (nIf K))), (k7, .inl (cI, 6, .inl (nIf G))), (k8, .inl (cI, 6, .inl (nIf T))), (k12, .inl (cI, 7, .inl (nIf kw))), (k13, .inl (cI, 175, .inl (nIf kn))), (k14, .inl (cI, 144, .inl (mIf M))), (k15, .inl (cI, 7, .inl (nIf mw))), (k24, .inl (cI, 48, .inl (nIf kp))), (k10, .inl (cI, 7, .inl (nIf R)))] (fun zr zw => (∃ kw1 : Nat → Nat, ∃ kn1 : Nat → Nat, ∃ M1 : Nat → Option Nat, ∃ mw1 : Nat → Nat, ∃ kp1 : Nat → Nat, ∃ pl1 : Nat, ∃ tk1 : Bool, ∃ kv1 : Value, ∃ rc : Nat, ∃ rv : Int32, (q_days (n, m, sh, 0, ki, op, fa, K, G, T) w = (rc, rv)) ∧ (∀ z, kw1 z < 1024) ∧ (∀ z, kn1 z < 1024) ∧ (∀ z v, M1 z = some v → v < 7) ∧ zr = some (.int rv) ∧ zw = [(r0, .inr (5, [.int (nI n), .ref k1, .ref k2, .ref k3, .ref k4, .int (nI m), .ref k6, .ref k7, .ref k8, .int (nI 0), .ref k10, .int (nI 0), .ref k12, .ref k13, .ref k14, .ref k15, .ref k16, .int (nI ls), .int (nI ap), .int (bz bd), .int (nI sq), .ref k21, .ref k22, .ref k23, .ref k24, .ref k25, .int (bz pd), .int (nI pl1), .int (bz tk1), kv1, .ref k30, .ref k31, .int (nI tz), .ref k33, .int (nI rs), .int sd])), (k1, .inl (cI, 7, .inl (nIf ki))), (k2, .inl (cI, 7, .inl (nIf op))), (k3, .inl (cI, 7, .inl (nIf (shF sh)))), (k4, .inl (cI, 7, .inl (nIf fa))), (k6, .inl (cI, 6, .inl (nIf K))), (k7, .inl (cI, 6, .inl (nIf G))), (k8, .inl (cI, 6, .inl (nIf T))), (k12, .inl (cI, 7, .inl (nIf kw1))), (k13, .inl (cI, 175, .inl (nIf kn1))), (k14, .inl (cI, 144, .inl (mIf M1))), (k15, .inl (cI, 7, .inl (nIf mw1))), (k24, .inl (cI, 48, .inl (nIf kp1))), (k10, .inl (cI, 7, .inl (nIf (rf R rc))))])) := by
  refine CT_of RX5 rfl (by decide +kernel) (Nat.le_of_ble_eq_true rfl) (fun E hnE zC zT => ?_)
  have hA : ∀ q, (ev_s E).heap.size ≤ q → ev_A E q := fun q h => by rw [zT.2]; exact Or.inr h
  obtain ⟨hn, hm, hsh, hki, hop, hfa, hK, hG, hT, vki, vop, vfa, vK, vG, vT⟩ := id hw
  have h2n : 2 ^ n ≤ 2 ^ 7 := Nat.pow_le_pow_right (by decide) hn
  show VV E 0 0 0 [(0, .ref r0), (1, .int w)] [] [(r0, .inr (5, [.int (nI n), .ref k1, .ref k2, .ref k3, .ref k4, .int (nI m), .ref k6, .ref k7, .ref k8, .int (nI 0), .ref k10, .int (nI 0), .ref k12, .ref k13, .ref k14, .ref k15, .ref k16, .int (nI ls), .int (nI ap), .int (bz bd), .int (nI sq), .ref k21, .ref k22, .ref k23, .ref k24, .ref k25, .int (bz pd), .int (nI pl), .int (bz tk), kv, .ref k30, .ref k31, .int (nI tz), .ref k33, .int (nI rs), .int sd])), (k1, .inl (cI, 7, .inl (nIf ki))), (k2, .inl (cI, 7, .inl (nIf op))), (k3, .inl (cI, 7, .inl (nIf (shF sh)))), (k4, .inl (cI, 7, .inl (nIf fa))), (k6, .inl (cI, 6, .inl (nIf K))), (k7, .inl (cI, 6, .inl (nIf G))), (k8, .inl (cI, 6, .inl (nIf T))), (k12, .inl (cI, 7, .inl (nIf kw))), (k13, .inl (cI, 175, .inl (nIf kn))), (k14, .inl (cI, 144, .inl (mIf M))), (k15, .inl (cI, 7, .inl (nIf mw))), (k24, .inl (cI, 48, .inl (nIf kp))), (k10, .inl (cI, 7, .inl (nIf R)))]
  refine v_al_n 1 zC dX5_days_0 0 rfl ?_
  refine v_ic (v := (nI 0)) 2 zC dX5_days_1 (by decide +kernel) ?_
  refine v_pf (ws2 := [(r0, .inr (5, [.int (nI n), .ref k1, .ref k2, .ref k3, .ref k4, .int (nI m), .ref k6, .ref k7, .ref k8, .int (nI 0), .ref k10, .int (nI 0), .ref k12, .ref k13, .ref k14, .ref k15, .ref k16, .int (nI ls), .int (nI ap), .int (bz bd), .int (nI sq), .ref k21, .ref k22, .ref k23, .ref k24, .ref k25, .int (bz pd), .int (nI pl), .int (bz tk), kv, .ref k30, .ref k31, .int (nI tz), .ref k33, .int (nI rs), .int sd])), (k1, .inl (cI, 7, .inl (nIf ki))), (k2, .inl (cI, 7, .inl (nIf op))), (k3, .inl (cI, 7, .inl (nIf (shF sh)))), (k4, .inl (cI, 7, .inl (nIf fa))), (k6, .inl (cI, 6, .inl (nIf K))), (k7, .inl (cI, 6, .inl (nIf G))), (k8, .inl (cI, 6, .inl (nIf T))), (k12, .inl (cI, 7, .inl (nIf kw))), (k13, .inl (cI, 175, .inl (nIf kn))), (k14, .inl (cI, 144, .inl (mIf M))), (k15, .inl (cI, 7, .inl (nIf mw))), (k24, .inl (cI, 48, .inl (nIf kp))), (k10, .inl (cI, 7, .inl (nIf R)))]) 5 0 zC dX5_days_2 pf_X5_73 rfl (Nat.le_of_ble_eq_true rfl) rfl rfl rfl ?_
  refine v_il_n 6 zC dX5_days_5 1 rfl ?_
  refine v_i2l (v := (Int32.toInt64 w)) 7 zC dX5_days_6 rfl ?_
  refine v_ldc2 (v := (-1)) 10 zC dX5_days_7 kc_X5_231 ?_
  refine v_al_n 11 zC dX5_days_10 0 rfl ?_
  refine v_gf 14 0 zC dX5_days_11 gf_X5_77 rfl rfl ?_
  refine v_ic (v := (nI 1)) 15 zC dX5_days_14 (by decide +kernel) ?_
  refine v_isub (v := (nI n - nI 1)) 16 zC dX5_days_15 rfl ?_
  refine v_i2l (v := (Int32.toInt64 (nI n - nI 1))) 17 zC dX5_days_16 rfl ?_
  refine v_cS (As := [.long (Int32.toInt64 w), .long (-1), .long (Int32.toInt64 (nI n - nI 1))]) (st := []) 20 [] zC dX5_days_17 hA (c_X5_in (ev_l E) (ev_D E) cI (x := (Int32.toInt64 w)) (y := (-1)) (z := (Int32.toInt64 (nI n - nI 1))) ) cf_X5_in lk_X5_80 rfl rfl rfl (by decide +kernel) (Nat.le_of_ble_eq_true rfl) (fun rv_1 wv_2 hp_3 hm_4 => ?_)
  clear hm_4
  obtain ⟨rfl, rfl⟩ := hp_3
  show VV E 0 0 20 [(0, .ref r0), (1, .int w)] [.int (bz (inB (Int32.toInt64 w) (-1) (Int32.toInt64 (nI n - nI 1))))] [(r0, .inr (5, [.int (nI n), .ref k1, .ref k2, .ref k3, .ref k4, .int (nI m), .ref k6, .ref k7, .ref k8, .int (nI 0), .ref k10, .int (nI 0), .ref k12, .ref k13, .ref k14, .ref k15, .ref k16, .int (nI ls), .int (nI ap), .int (bz bd), .int (nI sq), .ref k21, .ref k22, .ref k23, .ref k24, .ref k25, .int (bz pd), .int (nI pl), .int (bz tk), kv, .ref k30, .ref k31, .int (nI tz), .ref k33, .int (nI rs), .int sd])), (k1, .inl (cI, 7, .inl (nIf ki))), (k2, .inl (cI, 7, .inl (nIf op))), (k3, .inl (cI, 7, .inl (nIf (shF sh)))), (k4, .inl (cI, 7, .inl (nIf fa))), (k6, .inl (cI, 6, .inl (nIf K))), (k7, .inl (cI, 6, .inl (nIf G))), (k8, .inl (cI, 6, .inl (nIf T))), (k12, .inl (cI, 7, .inl (nIf kw))), (k13, .inl (cI, 175, .inl (nIf kn))), (k14, .inl (cI, 144, .inl (mIf M))), (k15, .inl (cI, 7, .inl (nIf mw))), (k24, .inl (cI, 48, .inl (nIf kp))), (k10, .inl (cI, 7, .inl (nIf R)))]
  rcases in_spk (n := n) (p := w) hn with ⟨e9, b9⟩ | ⟨hm_w, e9, b9⟩ | ⟨jw, e9, i9, l9, b9⟩
  ·
    rw [b9]
    subst e9
    have hone9 := True.intro
    refine v_ifb_ne 29 23 zC dX5_days_20 (fun _ => ?_) (fun z => absurd z (by decide))
    refine v_ic (v := (nI 0)) 30 zC dX5_days_29 (by decide +kernel) ?_
    refine v_is_n (lv2 := [(2, .int (nI 0)), (0, .ref r0), (1, .int (-1))]) 31 zC dX5_days_30 (by rw [hnE]; decide) rfl ?_
    refine v_al_n 32 zC dX5_days_31 1 rfl ?_
    refine v_cV (As := []) (st := []) 35 0 [0, 1, 2, 3, 4, 5, 6, 7, 12] zC dX5_days_32 hA (c_X5_think (ev_l E) (ev_D E) cI (r0 := r0) (k1 := k1) (k2 := k2) (k3 := k3) (k4 := k4) (k6 := k6) (k7 := k7) (k8 := k8) (k10 := k10) (k12 := k12) (k13 := k13) (k14 := k14) (k15 := k15) (k16 := k16) (k21 := k21) (k22 := k22) (k23 := k23) (k24 := k24) (k25 := k25) (k30 := k30) (k31 := k31) (k33 := k33) (n := n) (m := m) (aw := 0) (ls := ls) (ap := ap) (sq := sq) (pl := pl) (tz := tz) (rs := rs) (bd := bd) (pd := pd) (tk := tk) (kv := kv) (sd := sd) (ki := ki) (op := op) (fa := fa) (K := K) (G := G) (T := T) (sh := sh) (kp := kp) ) cf_X5_think lk_X5_254 rfl rfl rfl rfl rfl (by decide +kernel) (Nat.le_of_ble_eq_true rfl) (fun rv_6 wv_7 hp_8 hm_9 => ?_)
    clear hm_9
    obtain ⟨kp1_10, hE_11, rfl, rfl⟩ := hp_8
    show VV E 0 0 35 [(2, .int (nI 0)), (0, .ref r0), (1, .int (-1))] [] [(r0, .inr (5, [.int (nI n), .ref k1, .ref k2, .ref k3, .ref k4, .int (nI m), .ref k6, .ref k7, .ref k8, .int (nI 0), .ref k10, .int (nI 0), .ref k12, .ref k13, .ref k14, .ref k15, .ref k16, .int (nI ls), .int (nI ap), .int (bz bd), .int (nI sq), .ref k21, .ref k22, .ref k23, .ref k24, .ref k25, .int (bz pd), .int (nI 48), .int (bz true), .ref k24, .ref k30, .ref k31, .int (nI tz), .ref k33, .int (nI rs), .int sd])), (k1, .inl (cI, 7, .inl (nIf ki))), (k2, .inl (cI, 7, .inl (nIf op))), (k3, .inl (cI, 7, .inl (nIf (shF sh)))), (k4, .inl (cI, 7, .inl (nIf fa))), (k6, .inl (cI, 6, .inl (nIf K))), (k7, .inl (cI, 6, .inl (nIf G))), (k8, .inl (cI, 6, .inl (nIf T))), (k12, .inl (cI, 7, .inl (nIf kw))), (k13, .inl (cI, 175, .inl (nIf kn))), (k14, .inl (cI, 144, .inl (mIf M))), (k15, .inl (cI, 7, .inl (nIf mw))), (k24, .inl (cI, 48, .inl (nIf kp1_10))), (k10, .inl (cI, 7, .inl (nIf R)))]
    have hE9 := hE_11
    have lp35 : ∀ (mz : Nat) (kw2 : Nat → Nat) (kn2 : Nat → Nat) (M2 : Nat → Option Nat) (mw2 : Nat → Nat) (A : Nat → Nat) (k : Nat), (∀ z, kw2 z < 1024) → (∀ z, kn2 z < 1024) → (∀ z v, M2 z = some v → v < 7) → (A = DAYN (n, m, sh, 0, ki, op, fa, K, G, T) k) → (∀ z, A z < 1024) → (VZ 7 A) → (fs (DYP (n, m, sh, 0, ki, op, fa, K, G, T)) k = none) → (k ≤ 70) → 71 - k = mz → VV E 0 0 35 [(2, .int (nI k)), (0, .ref r0), (1, .int (-1))] [] [(r0, .inr (5, [.int (nI n), .ref k1, .ref k2, .ref k3, .ref k4, .int (nI m), .ref k6, .ref k7, .ref k8, .int (nI 0), .ref k10, .int (nI 0), .ref k12, .ref k13, .ref k14, .ref k15, .ref k16, .int (nI ls), .int (nI ap), .int (bz bd), .int (nI sq), .ref k21, .ref k22, .ref k23, .ref k24, .ref k25, .int (bz pd), .int (nI 48), .int (bz true), .ref k24, .ref k30, .ref k31, .int (nI tz), .ref k33, .int (nI rs), .int sd])), (k1, .inl (cI, 7, .inl (nIf ki))), (k2, .inl (cI, 7, .inl (nIf op))), (k3, .inl (cI, 7, .inl (nIf (shF sh)))), (k4, .inl (cI, 7, .inl (nIf A))), (k6, .inl (cI, 6, .inl (nIf K))), (k7, .inl (cI, 6, .inl (nIf G))), (k8, .inl (cI, 6, .inl (nIf T))), (k12, .inl (cI, 7, .inl (nIf kw2))), (k13, .inl (cI, 175, .inl (nIf kn2))), (k14, .inl (cI, 144, .inl (mIf M2))), (k15, .inl (cI, 7, .inl (nIf mw2))), (k24, .inl (cI, 48, .inl (nIf kp1_10))), (k10, .inl (cI, 7, .inl (nIf R)))] := by
      intro mz
      induction mz using Nat.strongRecOn with
      | _ mz ih35 =>
      intro kw2 kn2 M2 mw2 A k hkw2 hkn2 hM2 hAe hAb hAv hq9 hk hm35
      refine v_al_n 36 zC dX5_days_35 1 rfl ?_
      refine v_cV (As := []) (st := []) 39 0 [0, 1, 2, 3, 4, 5, 6, 7, 8, 9, 10, 11] zC dX5_days_36 hA (c_X5_dayPasses (ev_l E) (ev_D E) cI (r0 := r0) (k1 := k1) (k2 := k2) (k3 := k3) (k4 := k4) (k6 := k6) (k7 := k7) (k8 := k8) (k10 := k10) (k12 := k12) (k13 := k13) (k14 := k14) (k15 := k15) (k16 := k16) (k21 := k21) (k22 := k22) (k23 := k23) (k24 := k24) (k25 := k25) (k30 := k30) (k31 := k31) (k33 := k33) (n := n) (m := m) (aw := 0) (ls := ls) (ap := ap) (sq := sq) (pl := 48) (tz := tz) (rs := rs) (bd := bd) (pd := pd) (tk := true) (kv := (.ref k24 : Value)) (sd := sd) (ki := ki) (op := op) (fa := A) (K := K) (G := G) (T := T) (sh := sh) (kw := kw2) (kn := kn2) (M := M2) (mw := mw2) (hw := ⟨hn, hm, hsh, hki, hop, hAb, hK, hG, hT, vki, vop, hAv, vK, vG, vT⟩) (hkw := hkw2) (hkn := hkn2) (hM := hM2)) cf_X5_dayPasses lk_X5_228 rfl rfl rfl rfl rfl (by decide +kernel) (Nat.le_of_ble_eq_true rfl) (fun rv_12 wv_13 hp_14 hm_15 => ?_)
      clear hm_15
      obtain ⟨kw1_16, kn1_17, M1_18, mw1_19, hkw1_20, hkn1_21, hM1_22, hP_23, hl_24, hl0_25, rfl, rfl⟩ := hp_14
      show VV E 0 0 39 [(2, .int (nI k)), (0, .ref r0), (1, .int (-1))] [.int (nI (ALL (n, m, sh, 0, ki, op, A, K, G, T)) - nI (KBH (n, m, sh, 0, ki, op, A, K, G, T) 0))] [(r0, .inr (5, [.int (nI n), .ref k1, .ref k2, .ref k3, .ref k4, .int (nI m), .ref k6, .ref k7, .ref k8, .int (nI 0), .ref k10, .int (nI 0), .ref k12, .ref k13, .ref k14, .ref k15, .ref k16, .int (nI ls), .int (nI ap), .int (bz bd), .int (nI sq), .ref k21, .ref k22, .ref k23, .ref k24, .ref k25, .int (bz pd), .int (nI 48), .int (bz true), .ref k24, .ref k30, .ref k31, .int (nI tz), .ref k33, .int (nI rs), .int sd])), (k1, .inl (cI, 7, .inl (nIf ki))), (k2, .inl (cI, 7, .inl (nIf op))), (k3, .inl (cI, 7, .inl (nIf (shF sh)))), (k4, .inl (cI, 7, .inl (nIf (PASF (n, m, sh, 0, ki, op, A, K, G, T))))), (k6, .inl (cI, 6, .inl (nIf K))), (k7, .inl (cI, 6, .inl (nIf G))), (k8, .inl (cI, 6, .inl (nIf T))), (k12, .inl (cI, 7, .inl (nIf kw1_16))), (k13, .inl (cI, 175, .inl (nIf kn1_17))), (k14, .inl (cI, 144, .inl (mIf M1_18))), (k15, .inl (cI, 7, .inl (nIf mw1_19))), (k24, .inl (cI, 48, .inl (nIf kp1_10))), (k10, .inl (cI, 7, .inl (nIf R)))]
      have hkw8 := hkw1_20
      have hkn8 := hkn1_21
      have hM8 := hM1_22
      have hPb := hP_23
      have hl8 := hl_24
      have hl7 := hl0_25
      refine v_if_le 48 42 zC dX5_days_39 (fun h_26 => ?_) (fun h_26 => ?_)
      ·
        have hd9 : DCH (wfa (n, m, sh, 0, ki, op, fa, K, G, T) (DAYN (n, m, sh, 0, ki, op, fa, K, G, T) k)) = false := by rw [← hAe]; exact dch_f (s := (n, m, sh, 0, ki, op, A, K, G, T)) hn hT hAb hl8 hl7 h_26
        refine v_il_n 49 zC dX5_days_48 2 rfl ?_
        refine v_if_ge 56 52 zC dX5_days_49 (fun z => absurd z (by decide +kernel)) (fun _ => ?_)
        refine v_ic (v := (nI 0)) 53 zC dX5_days_52 (by decide +kernel) ?_
        refine v_goto 62 zC dX5_days_53 ?_
        refine v_is_n (lv2 := [(3, .int (nI 0)), (2, .int (nI k)), (0, .ref r0), (1, .int (-1))]) 63 zC dX5_days_62 (by rw [hnE]; decide) rfl ?_
        refine v_al_n 64 zC dX5_days_63 2 rfl ?_
        refine v_cV (As := []) (st := []) 67 0 [0, 1, 2, 3, 4, 5, 6, 7, 12] zC dX5_days_64 hA (c_X5_again (ev_l E) (ev_D E) cI (r0 := r0) (k1 := k1) (k2 := k2) (k3 := k3) (k4 := k4) (k6 := k6) (k7 := k7) (k8 := k8) (k10 := k10) (k12 := k12) (k13 := k13) (k14 := k14) (k15 := k15) (k16 := k16) (k21 := k21) (k22 := k22) (k23 := k23) (k24 := k24) (k25 := k25) (k30 := k30) (k31 := k31) (k33 := k33) (n := n) (m := m) (aw := 0) (ls := ls) (ap := ap) (sq := sq) (pl := 48) (tz := tz) (rs := rs) (bd := bd) (pd := pd) (tk := true) (kv := (.ref k24 : Value)) (sd := sd) (ki := ki) (op := op) (fa := (PASF (n, m, sh, 0, ki, op, A, K, G, T))) (K := K) (G := G) (T := T) (sh := sh) (kp := kp1_10) (n1 := n) (m1 := m) (sh1 := sh) (aw1 := 0) (ki1 := ki) (op1 := op) (fa1 := fa) (K1 := K) (G1 := G) (T1 := T) (hw := ⟨hn, hm, hsh, hki, hop, hPb, hK, hG, hT, vki, vop, pas_v, vK, vG, vT⟩) (hw1 := hw) (hE := hE9)) cf_X5_again lk_X5_260 rfl rfl rfl rfl rfl (by decide +kernel) (Nat.le_of_ble_eq_true rfl) (fun rv_28 wv_29 hp_30 hm_31 => ?_)
        clear hm_31
        obtain ⟨rfl, rfl⟩ := hp_30
        show VV E 0 0 67 [(3, .int (nI 0)), (2, .int (nI k)), (0, .ref r0), (1, .int (-1))] [] [(r0, .inr (5, [.int (nI n), .ref k1, .ref k2, .ref k3, .ref k4, .int (nI m), .ref k6, .ref k7, .ref k8, .int (nI 0), .ref k10, .int (nI 0), .ref k12, .ref k13, .ref k14, .ref k15, .ref k16, .int (nI ls), .int (nI ap), .int (bz bd), .int (nI sq), .ref k21, .ref k22, .ref k23, .ref k24, .ref k25, .int (bz pd), .int (nI 48), .int (bz false), .ref k24, .ref k30, .ref k31, .int (nI tz), .ref k33, .int (nI rs), .int sd])), (k1, .inl (cI, 7, .inl (nIf ki))), (k2, .inl (cI, 7, .inl (nIf op))), (k3, .inl (cI, 7, .inl (nIf (shF sh)))), (k4, .inl (cI, 7, .inl (nIf fa))), (k6, .inl (cI, 6, .inl (nIf K))), (k7, .inl (cI, 6, .inl (nIf G))), (k8, .inl (cI, 6, .inl (nIf T))), (k12, .inl (cI, 7, .inl (nIf kw1_16))), (k13, .inl (cI, 175, .inl (nIf kn1_17))), (k14, .inl (cI, 144, .inl (mIf M1_18))), (k15, .inl (cI, 7, .inl (nIf mw1_19))), (k24, .inl (cI, 48, .inl (nIf kp1_10))), (k10, .inl (cI, 7, .inl (nIf R)))]
        refine v_il_n 68 zC dX5_days_67 3 rfl ?_
        refine v_if_ge 75 71 zC dX5_days_68 (fun z => absurd z (by decide +kernel)) (fun _ => ?_)
        refine v_il_n 72 zC dX5_days_71 1 rfl ?_
        refine v_goto 76 zC dX5_days_72 ?_
        refine v_iret zC zT dX5_days_76  ?_
        first | (have g9 := hn_w; exact ⟨kw, kn, M, mw, kp, pl, tk, kv, 1, _, by unfold q_days; rw [if_neg hm_w, hn_w], hkw, hkn, hM, rfl, rfl⟩) | exact ⟨_, _, _, _, _, _, _, _, 0, _, by unfold q_days; first | (have g8 := hone9; rw [if_pos rfl, dayc_k hq9 hk hd9]; done) | (rw [if_neg hnm, hi_w]; dsimp only; rw [dayf_k (s := (n, m, sh, 0, ki, op, fa, K, G, T)) hn hT hfa vfa hq9 hk hd9, ← hAe]; rfl), hkw8, hkn8, hM8, rfl, rfl⟩
      ·
        have hd9 : DCH (wfa (n, m, sh, 0, ki, op, fa, K, G, T) (DAYN (n, m, sh, 0, ki, op, fa, K, G, T) k)) = true := by rw [← hAe]; exact dch_t (s := (n, m, sh, 0, ki, op, A, K, G, T)) hn hT hAb hl8 hl7 h_26
        refine v_inc (v := (nI (k + 1))) (lv2 := [(2, .int (nI (k + 1))), (0, .ref r0), (1, .int (-1))]) 45 zC dX5_days_42 (j := 0) rfl (nI_add _ 1) (by rw [hnE]; decide) rfl ?_
        refine v_goto 35 zC dX5_days_45 ?_
        refine v_lvs (lv2 := [(2, .int (nI (k + 1))), (0, .ref r0), (1, .int (-1))]) [0, 1, 2] rfl ?_
        exact ih35 _ (by omega) kw1_16 kn1_17 M1_18 mw1_19 (PASF (n, m, sh, 0, ki, op, A, K, G, T)) (k + 1) hkw8 hkn8 hM8 (by rw [hAe]; rfl) hPb pas_v (fs_0 hq9 (dyp_0 hd9)) (dayn_70 (s := (n, m, sh, 0, ki, op, fa, K, G, T)) hn hT hfa (fs_0 hq9 (dyp_0 hd9))) rfl
    refine v_lvs (lv2 := [(2, .int (nI 0)), (0, .ref r0), (1, .int (-1))]) [0, 1, 2] rfl ?_
    exact lp35 _ kw kn M mw fa 0 (by first | exact hR9.2.2.2.1 | exact hkw) (by first | exact hR9.2.2.2.2.1 | exact hkn) (by first | exact hR9.2.2.2.2.2 | exact hM) rfl hfa vfa rfl (Nat.zero_le _) rfl
  ·
    rw [b9]
    have hn_w := e9
    refine v_ifb_ne 29 23 zC dX5_days_20 (fun z => absurd z (by decide)) (fun _ => ?_)
    refine v_al_n 24 zC dX5_days_23 0 rfl ?_
    refine v_ic (v := (-1)) 25 zC dX5_days_24 (by decide +kernel) ?_
    refine v_cV (As := [.int (-1)]) (st := []) 28 0 [0, 13] zC dX5_days_25 hA (c_X5_refuse (ev_l E) (ev_D E) cI (r0 := r0) (k1 := k1) (k2 := k2) (k3 := k3) (k4 := k4) (k6 := k6) (k7 := k7) (k8 := k8) (k10 := k10) (k12 := k12) (k13 := k13) (k14 := k14) (k15 := k15) (k16 := k16) (k21 := k21) (k22 := k22) (k23 := k23) (k24 := k24) (k25 := k25) (k30 := k30) (k31 := k31) (k33 := k33) (n := n) (m := m) (aw := 0) (ls := ls) (ap := ap) (sq := sq) (pl := pl) (tz := tz) (rs := rs) (bd := bd) (pd := pd) (tk := tk) (kv := kv) (sd := sd) (R := R) (v := (-1)) (j := 1) (hv := (by first | omega | assumption | rfl | (simp only []; omega) | decide)) (h1 := (by first | omega | assumption | rfl | (simp only []; omega) | decide)) (h6 := (by first | omega | assumption | rfl | (simp only []; omega) | decide))) cf_X5_refuse lk_X5_129 rfl rfl rfl rfl rfl (by decide +kernel) (Nat.le_of_ble_eq_true rfl) (fun rv_34 wv_35 hp_36 hm_37 => ?_)
    clear hm_37
    obtain ⟨rfl, rfl⟩ := hp_36
    show VV E 0 0 28 [(0, .ref r0), (1, .int w)] [.int (-1)] [(r0, .inr (5, [.int (nI n), .ref k1, .ref k2, .ref k3, .ref k4, .int (nI m), .ref k6, .ref k7, .ref k8, .int (nI 0), .ref k10, .int (nI 0), .ref k12, .ref k13, .ref k14, .ref k15, .ref k16, .int (nI ls), .int (nI ap), .int (bz bd), .int (nI sq), .ref k21, .ref k22, .ref k23, .ref k24, .ref k25, .int (bz pd), .int (nI pl), .int (bz tk), kv, .ref k30, .ref k31, .int (nI tz), .ref k33, .int (nI rs), .int sd])), (k1, .inl (cI, 7, .inl (nIf ki))), (k2, .inl (cI, 7, .inl (nIf op))), (k3, .inl (cI, 7, .inl (nIf (shF sh)))), (k4, .inl (cI, 7, .inl (nIf fa))), (k6, .inl (cI, 6, .inl (nIf K))), (k7, .inl (cI, 6, .inl (nIf G))), (k8, .inl (cI, 6, .inl (nIf T))), (k12, .inl (cI, 7, .inl (nIf kw))), (k13, .inl (cI, 175, .inl (nIf kn))), (k14, .inl (cI, 144, .inl (mIf M))), (k15, .inl (cI, 7, .inl (nIf mw))), (k24, .inl (cI, 48, .inl (nIf kp))), (k10, .inl (cI, 7, .inl (nIf (un R 1 (R 1 + 1)))))]
    refine v_iret zC zT dX5_days_28  ?_
    first | (have g9 := hn_w; exact ⟨kw, kn, M, mw, kp, pl, tk, kv, 1, _, by unfold q_days; rw [if_neg hm_w, hn_w], hkw, hkn, hM, rfl, rfl⟩) | exact ⟨_, _, _, _, _, _, _, _, 0, _, by unfold q_days; first | (have g8 := hone9; rw [if_pos rfl, dayc_k hq9 hk hd9]; done) | (rw [if_neg hnm, hi_w]; dsimp only; rw [dayf_k (s := (n, m, sh, 0, ki, op, fa, K, G, T)) hn hT hfa vfa hq9 hk hd9, ← hAe]; rfl), hkw8, hkn8, hM8, rfl, rfl⟩
  ·
    rw [b9]
    subst e9
    have hi_w := i9
    have hl_w := l9
    have hnm := ne_m1 (show jw < 100 by omega)
    refine v_ifb_ne 29 23 zC dX5_days_20 (fun _ => ?_) (fun z => absurd z (by decide))
    refine v_ic (v := (nI 0)) 30 zC dX5_days_29 (by decide +kernel) ?_
    refine v_is_n (lv2 := [(2, .int (nI 0)), (0, .ref r0), (1, .int (nI jw))]) 31 zC dX5_days_30 (by rw [hnE]; decide) rfl ?_
    refine v_al_n 32 zC dX5_days_31 1 rfl ?_
    refine v_cV (As := []) (st := []) 35 0 [0, 1, 2, 3, 4, 5, 6, 7, 12] zC dX5_days_32 hA (c_X5_think (ev_l E) (ev_D E) cI (r0 := r0) (k1 := k1) (k2 := k2) (k3 := k3) (k4 := k4) (k6 := k6) (k7 := k7) (k8 := k8) (k10 := k10) (k12 := k12) (k13 := k13) (k14 := k14) (k15 := k15) (k16 := k16) (k21 := k21) (k22 := k22) (k23 := k23) (k24 := k24) (k25 := k25) (k30 := k30) (k31 := k31) (k33 := k33) (n := n) (m := m) (aw := 0) (ls := ls) (ap := ap) (sq := sq) (pl := pl) (tz := tz) (rs := rs) (bd := bd) (pd := pd) (tk := tk) (kv := kv) (sd := sd) (ki := ki) (op := op) (fa := fa) (K := K) (G := G) (T := T) (sh := sh) (kp := kp) ) cf_X5_think lk_X5_254 rfl rfl rfl rfl rfl (by decide +kernel) (Nat.le_of_ble_eq_true rfl) (fun rv_39 wv_40 hp_41 hm_42 => ?_)
    clear hm_42
    obtain ⟨kp1_43, hE_44, rfl, rfl⟩ := hp_41
    show VV E 0 0 35 [(2, .int (nI 0)), (0, .ref r0), (1, .int (nI jw))] [] [(r0, .inr (5, [.int (nI n), .ref k1, .ref k2, .ref k3, .ref k4, .int (nI m), .ref k6, .ref k7, .ref k8, .int (nI 0), .ref k10, .int (nI 0), .ref k12, .ref k13, .ref k14, .ref k15, .ref k16, .int (nI ls), .int (nI ap), .int (bz bd), .int (nI sq), .ref k21, .ref k22, .ref k23, .ref k24, .ref k25, .int (bz pd), .int (nI 48), .int (bz true), .ref k24, .ref k30, .ref k31, .int (nI tz), .ref k33, .int (nI rs), .int sd])), (k1, .inl (cI, 7, .inl (nIf ki))), (k2, .inl (cI, 7, .inl (nIf op))), (k3, .inl (cI, 7, .inl (nIf (shF sh)))), (k4, .inl (cI, 7, .inl (nIf fa))), (k6, .inl (cI, 6, .inl (nIf K))), (k7, .inl (cI, 6, .inl (nIf G))), (k8, .inl (cI, 6, .inl (nIf T))), (k12, .inl (cI, 7, .inl (nIf kw))), (k13, .inl (cI, 175, .inl (nIf kn))), (k14, .inl (cI, 144, .inl (mIf M))), (k15, .inl (cI, 7, .inl (nIf mw))), (k24, .inl (cI, 48, .inl (nIf kp1_43))), (k10, .inl (cI, 7, .inl (nIf R)))]
    have hE9 := hE_44
    have lp35 : ∀ (mz : Nat) (kw2 : Nat → Nat) (kn2 : Nat → Nat) (M2 : Nat → Option Nat) (mw2 : Nat → Nat) (A : Nat → Nat) (k : Nat), (∀ z, kw2 z < 1024) → (∀ z, kn2 z < 1024) → (∀ z v, M2 z = some v → v < 7) → (A = DAYN (n, m, sh, 0, ki, op, fa, K, G, T) k) → (∀ z, A z < 1024) → (VZ 7 A) → (fs (DYP (n, m, sh, 0, ki, op, fa, K, G, T)) k = none) → (k ≤ 70) → 71 - k = mz → VV E 0 0 35 [(2, .int (nI k)), (0, .ref r0), (1, .int (nI jw))] [] [(r0, .inr (5, [.int (nI n), .ref k1, .ref k2, .ref k3, .ref k4, .int (nI m), .ref k6, .ref k7, .ref k8, .int (nI 0), .ref k10, .int (nI 0), .ref k12, .ref k13, .ref k14, .ref k15, .ref k16, .int (nI ls), .int (nI ap), .int (bz bd), .int (nI sq), .ref k21, .ref k22, .ref k23, .ref k24, .ref k25, .int (bz pd), .int (nI 48), .int (bz true), .ref k24, .ref k30, .ref k31, .int (nI tz), .ref k33, .int (nI rs), .int sd])), (k1, .inl (cI, 7, .inl (nIf ki))), (k2, .inl (cI, 7, .inl (nIf op))), (k3, .inl (cI, 7, .inl (nIf (shF sh)))), (k4, .inl (cI, 7, .inl (nIf A))), (k6, .inl (cI, 6, .inl (nIf K))), (k7, .inl (cI, 6, .inl (nIf G))), (k8, .inl (cI, 6, .inl (nIf T))), (k12, .inl (cI, 7, .inl (nIf kw2))), (k13, .inl (cI, 175, .inl (nIf kn2))), (k14, .inl (cI, 144, .inl (mIf M2))), (k15, .inl (cI, 7, .inl (nIf mw2))), (k24, .inl (cI, 48, .inl (nIf kp1_43))), (k10, .inl (cI, 7, .inl (nIf R)))] := by
      intro mz
      induction mz using Nat.strongRecOn with
      | _ mz ih35 =>
      intro kw2 kn2 M2 mw2 A k hkw2 hkn2 hM2 hAe hAb hAv hq9 hk hm35
      refine v_al_n 36 zC dX5_days_35 1 rfl ?_
      refine v_cV (As := []) (st := []) 39 0 [0, 1, 2, 3, 4, 5, 6, 7, 8, 9, 10, 11] zC dX5_days_36 hA (c_X5_dayPasses (ev_l E) (ev_D E) cI (r0 := r0) (k1 := k1) (k2 := k2) (k3 := k3) (k4 := k4) (k6 := k6) (k7 := k7) (k8 := k8) (k10 := k10) (k12 := k12) (k13 := k13) (k14 := k14) (k15 := k15) (k16 := k16) (k21 := k21) (k22 := k22) (k23 := k23) (k24 := k24) (k25 := k25) (k30 := k30) (k31 := k31) (k33 := k33) (n := n) (m := m) (aw := 0) (ls := ls) (ap := ap) (sq := sq) (pl := 48) (tz := tz) (rs := rs) (bd := bd) (pd := pd) (tk := true) (kv := (.ref k24 : Value)) (sd := sd) (ki := ki) (op := op) (fa := A) (K := K) (G := G) (T := T) (sh := sh) (kw := kw2) (kn := kn2) (M := M2) (mw := mw2) (hw := ⟨hn, hm, hsh, hki, hop, hAb, hK, hG, hT, vki, vop, hAv, vK, vG, vT⟩) (hkw := hkw2) (hkn := hkn2) (hM := hM2)) cf_X5_dayPasses lk_X5_228 rfl rfl rfl rfl rfl (by decide +kernel) (Nat.le_of_ble_eq_true rfl) (fun rv_45 wv_46 hp_47 hm_48 => ?_)
      clear hm_48
      obtain ⟨kw1_49, kn1_50, M1_51, mw1_52, hkw1_53, hkn1_54, hM1_55, hP_56, hl_57, hl0_58, rfl, rfl⟩ := hp_47
      show VV E 0 0 39 [(2, .int (nI k)), (0, .ref r0), (1, .int (nI jw))] [.int (nI (ALL (n, m, sh, 0, ki, op, A, K, G, T)) - nI (KBH (n, m, sh, 0, ki, op, A, K, G, T) 0))] [(r0, .inr (5, [.int (nI n), .ref k1, .ref k2, .ref k3, .ref k4, .int (nI m), .ref k6, .ref k7, .ref k8, .int (nI 0), .ref k10, .int (nI 0), .ref k12, .ref k13, .ref k14, .ref k15, .ref k16, .int (nI ls), .int (nI ap), .int (bz bd), .int (nI sq), .ref k21, .ref k22, .ref k23, .ref k24, .ref k25, .int (bz pd), .int (nI 48), .int (bz true), .ref k24, .ref k30, .ref k31, .int (nI tz), .ref k33, .int (nI rs), .int sd])), (k1, .inl (cI, 7, .inl (nIf ki))), (k2, .inl (cI, 7, .inl (nIf op))), (k3, .inl (cI, 7, .inl (nIf (shF sh)))), (k4, .inl (cI, 7, .inl (nIf (PASF (n, m, sh, 0, ki, op, A, K, G, T))))), (k6, .inl (cI, 6, .inl (nIf K))), (k7, .inl (cI, 6, .inl (nIf G))), (k8, .inl (cI, 6, .inl (nIf T))), (k12, .inl (cI, 7, .inl (nIf kw1_49))), (k13, .inl (cI, 175, .inl (nIf kn1_50))), (k14, .inl (cI, 144, .inl (mIf M1_51))), (k15, .inl (cI, 7, .inl (nIf mw1_52))), (k24, .inl (cI, 48, .inl (nIf kp1_43))), (k10, .inl (cI, 7, .inl (nIf R)))]
      have hkw8 := hkw1_53
      have hkn8 := hkn1_54
      have hM8 := hM1_55
      have hPb := hP_56
      have hl8 := hl_57
      have hl7 := hl0_58
      refine v_if_le 48 42 zC dX5_days_39 (fun h_59 => ?_) (fun h_59 => ?_)
      ·
        have hd9 : DCH (wfa (n, m, sh, 0, ki, op, fa, K, G, T) (DAYN (n, m, sh, 0, ki, op, fa, K, G, T) k)) = false := by rw [← hAe]; exact dch_f (s := (n, m, sh, 0, ki, op, A, K, G, T)) hn hT hAb hl8 hl7 h_59
        refine v_il_n 49 zC dX5_days_48 2 rfl ?_
        refine v_ifn_ge 56 52 zC dX5_days_49 (fun _ => ?_) (fun z => absurd z (Nat.not_lt_zero _))
        refine v_al_n 57 zC dX5_days_56 1 rfl ?_
        refine v_gf 60 0 zC dX5_days_57 gf_X5_19 rfl rfl ?_
        refine v_il_n 61 zC dX5_days_60 2 rfl ?_
        refine v_ialn (v := (nI ((PASF (n, m, sh, 0, ki, op, A, K, G, T)) jw))) 62 4 zC dX5_days_61 rfl (by omega) rfl ?_
        refine v_is_n (lv2 := [(3, .int (nI ((PASF (n, m, sh, 0, ki, op, A, K, G, T)) jw))), (2, .int (nI k)), (0, .ref r0), (1, .int (nI jw))]) 63 zC dX5_days_62 (by rw [hnE]; decide) rfl ?_
        refine v_al_n 64 zC dX5_days_63 2 rfl ?_
        refine v_cV (As := []) (st := []) 67 0 [0, 1, 2, 3, 4, 5, 6, 7, 12] zC dX5_days_64 hA (c_X5_again (ev_l E) (ev_D E) cI (r0 := r0) (k1 := k1) (k2 := k2) (k3 := k3) (k4 := k4) (k6 := k6) (k7 := k7) (k8 := k8) (k10 := k10) (k12 := k12) (k13 := k13) (k14 := k14) (k15 := k15) (k16 := k16) (k21 := k21) (k22 := k22) (k23 := k23) (k24 := k24) (k25 := k25) (k30 := k30) (k31 := k31) (k33 := k33) (n := n) (m := m) (aw := 0) (ls := ls) (ap := ap) (sq := sq) (pl := 48) (tz := tz) (rs := rs) (bd := bd) (pd := pd) (tk := true) (kv := (.ref k24 : Value)) (sd := sd) (ki := ki) (op := op) (fa := (PASF (n, m, sh, 0, ki, op, A, K, G, T))) (K := K) (G := G) (T := T) (sh := sh) (kp := kp1_43) (n1 := n) (m1 := m) (sh1 := sh) (aw1 := 0) (ki1 := ki) (op1 := op) (fa1 := fa) (K1 := K) (G1 := G) (T1 := T) (hw := ⟨hn, hm, hsh, hki, hop, hPb, hK, hG, hT, vki, vop, pas_v, vK, vG, vT⟩) (hw1 := hw) (hE := hE9)) cf_X5_again lk_X5_260 rfl rfl rfl rfl rfl (by decide +kernel) (Nat.le_of_ble_eq_true rfl) (fun rv_61 wv_62 hp_63 hm_64 => ?_)
        clear hm_64
        obtain ⟨rfl, rfl⟩ := hp_63
        show VV E 0 0 67 [(3, .int (nI ((PASF (n, m, sh, 0, ki, op, A, K, G, T)) jw))), (2, .int (nI k)), (0, .ref r0), (1, .int (nI jw))] [] [(r0, .inr (5, [.int (nI n), .ref k1, .ref k2, .ref k3, .ref k4, .int (nI m), .ref k6, .ref k7, .ref k8, .int (nI 0), .ref k10, .int (nI 0), .ref k12, .ref k13, .ref k14, .ref k15, .ref k16, .int (nI ls), .int (nI ap), .int (bz bd), .int (nI sq), .ref k21, .ref k22, .ref k23, .ref k24, .ref k25, .int (bz pd), .int (nI 48), .int (bz false), .ref k24, .ref k30, .ref k31, .int (nI tz), .ref k33, .int (nI rs), .int sd])), (k1, .inl (cI, 7, .inl (nIf ki))), (k2, .inl (cI, 7, .inl (nIf op))), (k3, .inl (cI, 7, .inl (nIf (shF sh)))), (k4, .inl (cI, 7, .inl (nIf fa))), (k6, .inl (cI, 6, .inl (nIf K))), (k7, .inl (cI, 6, .inl (nIf G))), (k8, .inl (cI, 6, .inl (nIf T))), (k12, .inl (cI, 7, .inl (nIf kw1_49))), (k13, .inl (cI, 175, .inl (nIf kn1_50))), (k14, .inl (cI, 144, .inl (mIf M1_51))), (k15, .inl (cI, 7, .inl (nIf mw1_52))), (k24, .inl (cI, 48, .inl (nIf kp1_43))), (k10, .inl (cI, 7, .inl (nIf R)))]
        refine v_il_n 68 zC dX5_days_67 3 rfl ?_
        refine v_ifn_ge 75 71 zC dX5_days_68 (fun _ => ?_) (fun z => absurd z (Nat.not_lt_zero _))
        refine v_il_n 76 zC dX5_days_75 0 rfl ?_
        refine v_iret zC zT dX5_days_76  ?_
        first | (have g9 := hn_w; exact ⟨kw, kn, M, mw, kp, pl, tk, kv, 1, _, by unfold q_days; rw [if_neg hm_w, hn_w], hkw, hkn, hM, rfl, rfl⟩) | exact ⟨_, _, _, _, _, _, _, _, 0, _, by unfold q_days; first | (have g8 := hone9; rw [if_pos rfl, dayc_k hq9 hk hd9]; done) | (rw [if_neg hnm, hi_w]; dsimp only; rw [dayf_k (s := (n, m, sh, 0, ki, op, fa, K, G, T)) hn hT hfa vfa hq9 hk hd9, ← hAe]; rfl), hkw8, hkn8, hM8, rfl, rfl⟩
      ·
        have hd9 : DCH (wfa (n, m, sh, 0, ki, op, fa, K, G, T) (DAYN (n, m, sh, 0, ki, op, fa, K, G, T) k)) = true := by rw [← hAe]; exact dch_t (s := (n, m, sh, 0, ki, op, A, K, G, T)) hn hT hAb hl8 hl7 h_59
        refine v_inc (v := (nI (k + 1))) (lv2 := [(2, .int (nI (k + 1))), (0, .ref r0), (1, .int (nI jw))]) 45 zC dX5_days_42 (j := 0) rfl (nI_add _ 1) (by rw [hnE]; decide) rfl ?_
        refine v_goto 35 zC dX5_days_45 ?_
        refine v_lvs (lv2 := [(2, .int (nI (k + 1))), (0, .ref r0), (1, .int (nI jw))]) [0, 1, 2] rfl ?_
        exact ih35 _ (by omega) kw1_49 kn1_50 M1_51 mw1_52 (PASF (n, m, sh, 0, ki, op, A, K, G, T)) (k + 1) hkw8 hkn8 hM8 (by rw [hAe]; rfl) hPb pas_v (fs_0 hq9 (dyp_0 hd9)) (dayn_70 (s := (n, m, sh, 0, ki, op, fa, K, G, T)) hn hT hfa (fs_0 hq9 (dyp_0 hd9))) rfl
    refine v_lvs (lv2 := [(2, .int (nI 0)), (0, .ref r0), (1, .int (nI jw))]) [0, 1, 2] rfl ?_
    exact lp35 _ kw kn M mw fa 0 (by first | exact hR9.2.2.2.1 | exact hkw) (by first | exact hR9.2.2.2.2.1 | exact hkn) (by first | exact hR9.2.2.2.2.2 | exact hM) rfl hfa vfa rfl (Nat.zero_le _) rfl
set_option maxRecDepth 100000 in
set_option maxHeartbeats 4000000 in
theorem c_X5_spreads (l : Launch) (D : va_G) (cI : ClassId) (r0 k1 k2 k3 k4 k6 k7 k8 k10 k12 k13 k14 k15 k16 k21 k22 k23 k24 k25 k30 k31 k33 : Nat) (n m ls ap sq pl tz rs : Nat) (bd pd tk : Bool) (kv : Value) (sd : Int32) (ki op fa K G T : Nat → Nat) (sh : Nat) (kw kn : Nat → Nat) (M : Nat → Option Nat) (mw : Nat → Nat) (kp R : Nat → Nat) (u f : Int32) (hw : FW n m sh ki op fa K G T) (hkw : ∀ z, kw z < 1024) (hkn : ∀ z, kn z < 1024) (hM : ∀ z v, M z = some v → v < 7) : CT l yX5_spreads cX5_spreads 5 (some .int) { frames := 7, cells := 0, slots := 0, locals := 160 } D cI [.ref r0, .int u, .int f] [(r0, .inr (5, [.int (nI n), .ref k1, .ref k2, .ref k3, .ref k4, .int (nI m), .ref k6, .ref k7, .ref k8, .int (nI 0), .ref k10, .int (nI 0), .ref k12, .ref k13, .ref k14, .ref k15, .ref k16, .int (nI ls), .int (nI ap), .int (bz bd), .int (nI sq), .ref k21, .ref k22, .ref k23, .ref k24, .ref k25, .int (bz pd), .int (nI pl), .int (bz tk), kv, .ref k30, .ref k31, .int (nI tz), .ref k33, .int (nI rs), .int sd])), (k1, .inl (cI, 7, .inl (nIf ki))), (k2, .inl (cI, 7, .inl (nIf op))), (k3, .inl (cI, 7, .inl (nIf (shF sh)))), (k4, .inl (cI, 7, .inl (nIf fa))), (k6, .inl (cI, 6, .inl (nIf K))), (k7, .inl (cI, 6, .inl (nIf G))), (k8, .inl (cI, 6, .inl (nIf T))), (k12, .inl (cI, 7, .inl (nIf kw))), (k13, .inl (cI, 175, .inl (nIf kn))), (k14, .inl (cI, 144, .inl (mIf M))), (k15, .inl (cI, 7, .inl (nIf mw))), (k24, .inl (cI, 48, .inl (nIf kp))), (k10, .inl (cI, 7, .inl (nIf R)))] (fun zr zw => (∃ kw1 : Nat → Nat, ∃ kn1 : Nat → Nat, ∃ M1 : Nat → Option Nat, ∃ mw1 : Nat → Nat, ∃ kp1 : Nat → Nat, ∃ pl1 : Nat, ∃ tk1 : Bool, ∃ kv1 : Value, ∃ rc : Nat, ∃ rv : Int32, (q_spreads (n, m, sh, 0, ki, op, fa, K, G, T) u f = (rc, rv)) ∧ (∀ z, kw1 z < 1024) ∧ (∀ z, kn1 z < 1024) ∧ (∀ z v, M1 z = some v → v < 7) ∧ zr = some (.int rv) ∧ zw = [(r0, .inr (5, [.int (nI n), .ref k1, .ref k2, .ref k3, .ref k4, .int (nI m), .ref k6, .ref k7, .ref k8, .int (nI 0), .ref k10, .int (nI 0), .ref k12, .ref k13, .ref k14, .ref k15, .ref k16, .int (nI ls), .int (nI ap), .int (bz bd), .int (nI sq), .ref k21, .ref k22, .ref k23, .ref k24, .ref k25, .int (bz pd), .int (nI pl1), .int (bz tk1), kv1, .ref k30, .ref k31, .int (nI tz), .ref k33, .int (nI rs), .int sd])), (k1, .inl (cI, 7, .inl (nIf ki))), (k2, .inl (cI, 7, .inl (nIf op))), (k3, .inl (cI, 7, .inl (nIf (shF sh)))), (k4, .inl (cI, 7, .inl (nIf fa))), (k6, .inl (cI, 6, .inl (nIf K))), (k7, .inl (cI, 6, .inl (nIf G))), (k8, .inl (cI, 6, .inl (nIf T))), (k12, .inl (cI, 7, .inl (nIf kw1))), (k13, .inl (cI, 175, .inl (nIf kn1))), (k14, .inl (cI, 144, .inl (mIf M1))), (k15, .inl (cI, 7, .inl (nIf mw1))), (k24, .inl (cI, 48, .inl (nIf kp1))), (k10, .inl (cI, 7, .inl (nIf (rf R rc))))])) := by
  refine CT_of RX5 rfl (by decide +kernel) (Nat.le_of_ble_eq_true rfl) (fun E hnE zC zT => ?_)
  have hA : ∀ q, (ev_s E).heap.size ≤ q → ev_A E q := fun q h => by rw [zT.2]; exact Or.inr h
  obtain ⟨hn, hm, hsh, hki, hop, hfa, hK, hG, hT, vki, vop, vfa, vK, vG, vT⟩ := id hw
  have h2n : 2 ^ n ≤ 2 ^ 7 := Nat.pow_le_pow_right (by decide) hn
  show VV E 0 0 0 [(0, .ref r0), (1, .int u), (2, .int f)] [] [(r0, .inr (5, [.int (nI n), .ref k1, .ref k2, .ref k3, .ref k4, .int (nI m), .ref k6, .ref k7, .ref k8, .int (nI 0), .ref k10, .int (nI 0), .ref k12, .ref k13, .ref k14, .ref k15, .ref k16, .int (nI ls), .int (nI ap), .int (bz bd), .int (nI sq), .ref k21, .ref k22, .ref k23, .ref k24, .ref k25, .int (bz pd), .int (nI pl), .int (bz tk), kv, .ref k30, .ref k31, .int (nI tz), .ref k33, .int (nI rs), .int sd])), (k1, .inl (cI, 7, .inl (nIf ki))), (k2, .inl (cI, 7, .inl (nIf op))), (k3, .inl (cI, 7, .inl (nIf (shF sh)))), (k4, .inl (cI, 7, .inl (nIf fa))), (k6, .inl (cI, 6, .inl (nIf K))), (k7, .inl (cI, 6, .inl (nIf G))), (k8, .inl (cI, 6, .inl (nIf T))), (k12, .inl (cI, 7, .inl (nIf kw))), (k13, .inl (cI, 175, .inl (nIf kn))), (k14, .inl (cI, 144, .inl (mIf M))), (k15, .inl (cI, 7, .inl (nIf mw))), (k24, .inl (cI, 48, .inl (nIf kp))), (k10, .inl (cI, 7, .inl (nIf R)))]
  refine v_al_n 1 zC dX5_spreads_0 0 rfl ?_
  refine v_ic (v := (nI 0)) 2 zC dX5_spreads_1 (by decide +kernel) ?_
  refine v_pf (ws2 := [(r0, .inr (5, [.int (nI n), .ref k1, .ref k2, .ref k3, .ref k4, .int (nI m), .ref k6, .ref k7, .ref k8, .int (nI 0), .ref k10, .int (nI 0), .ref k12, .ref k13, .ref k14, .ref k15, .ref k16, .int (nI ls), .int (nI ap), .int (bz bd), .int (nI sq), .ref k21, .ref k22, .ref k23, .ref k24, .ref k25, .int (bz pd), .int (nI pl), .int (bz tk), kv, .ref k30, .ref k31, .int (nI tz), .ref k33, .int (nI rs), .int sd])), (k1, .inl (cI, 7, .inl (nIf ki))), (k2, .inl (cI, 7, .inl (nIf op))), (k3, .inl (cI, 7, .inl (nIf (shF sh)))), (k4, .inl (cI, 7, .inl (nIf fa))), (k6, .inl (cI, 6, .inl (nIf K))), (k7, .inl (cI, 6, .inl (nIf G))), (k8, .inl (cI, 6, .inl (nIf T))), (k12, .inl (cI, 7, .inl (nIf kw))), (k13, .inl (cI, 175, .inl (nIf kn))), (k14, .inl (cI, 144, .inl (mIf M))), (k15, .inl (cI, 7, .inl (nIf mw))), (k24, .inl (cI, 48, .inl (nIf kp))), (k10, .inl (cI, 7, .inl (nIf R)))]) 5 0 zC dX5_spreads_2 pf_X5_73 rfl (Nat.le_of_ble_eq_true rfl) rfl rfl rfl ?_
  refine v_al_n 6 zC dX5_spreads_5 0 rfl ?_
  refine v_il_n 7 zC dX5_spreads_6 1 rfl ?_
  refine v_cV (As := [.int u]) (st := []) 10 0 [0] zC dX5_spreads_7 hA (c_X5_isOne (ev_l E) (ev_D E) cI (r0 := r0) (k1 := k1) (k2 := k2) (k3 := k3) (k4 := k4) (k6 := k6) (k7 := k7) (k8 := k8) (k10 := k10) (k12 := k12) (k13 := k13) (k14 := k14) (k15 := k15) (k16 := k16) (k21 := k21) (k22 := k22) (k23 := k23) (k24 := k24) (k25 := k25) (k30 := k30) (k31 := k31) (k33 := k33) (n := n) (m := m) (aw := 0) (ls := ls) (ap := ap) (sq := sq) (pl := pl) (tz := tz) (rs := rs) (bd := bd) (pd := pd) (tk := tk) (kv := kv) (sd := sd) (p := u) (hn := (by first | omega | assumption | rfl | (simp only []; omega) | decide))) cf_X5_isOne lk_X5_164 rfl rfl rfl rfl rfl (by decide +kernel) (Nat.le_of_ble_eq_true rfl) (fun rv_1 wv_2 hp_3 hm_4 => ?_)
  clear hm_4
  rcases hp_3 with ⟨hi_5, rfl, rfl⟩ | ⟨j_6, he_7, hi_8, hj_9, rfl, rfl⟩
  ·
    show VV E 0 0 10 [(0, .ref r0), (1, .int u), (2, .int f)] [.int (nI 0)] [(r0, .inr (5, [.int (nI n), .ref k1, .ref k2, .ref k3, .ref k4, .int (nI m), .ref k6, .ref k7, .ref k8, .int (nI 0), .ref k10, .int (nI 0), .ref k12, .ref k13, .ref k14, .ref k15, .ref k16, .int (nI ls), .int (nI ap), .int (bz bd), .int (nI sq), .ref k21, .ref k22, .ref k23, .ref k24, .ref k25, .int (bz pd), .int (nI pl), .int (bz tk), kv, .ref k30, .ref k31, .int (nI tz), .ref k33, .int (nI rs), .int sd])), (k1, .inl (cI, 7, .inl (nIf ki))), (k2, .inl (cI, 7, .inl (nIf op))), (k3, .inl (cI, 7, .inl (nIf (shF sh)))), (k4, .inl (cI, 7, .inl (nIf fa))), (k6, .inl (cI, 6, .inl (nIf K))), (k7, .inl (cI, 6, .inl (nIf G))), (k8, .inl (cI, 6, .inl (nIf T))), (k12, .inl (cI, 7, .inl (nIf kw))), (k13, .inl (cI, 175, .inl (nIf kn))), (k14, .inl (cI, 144, .inl (mIf M))), (k15, .inl (cI, 7, .inl (nIf mw))), (k24, .inl (cI, 48, .inl (nIf kp))), (k10, .inl (cI, 7, .inl (nIf R)))]
    have hn_u := hi_5
    refine v_if_eq 20 13 zC dX5_spreads_10 (fun _ => ?_) (fun z => absurd (by decide +kernel) z)
    refine v_al_n 21 zC dX5_spreads_20 0 rfl ?_
    refine v_ic (v := (-1)) 22 zC dX5_spreads_21 (by decide +kernel) ?_
    refine v_cV (As := [.int (-1)]) (st := []) 25 0 [0, 13] zC dX5_spreads_22 hA (c_X5_refuse (ev_l E) (ev_D E) cI (r0 := r0) (k1 := k1) (k2 := k2) (k3 := k3) (k4 := k4) (k6 := k6) (k7 := k7) (k8 := k8) (k10 := k10) (k12 := k12) (k13 := k13) (k14 := k14) (k15 := k15) (k16 := k16) (k21 := k21) (k22 := k22) (k23 := k23) (k24 := k24) (k25 := k25) (k30 := k30) (k31 := k31) (k33 := k33) (n := n) (m := m) (aw := 0) (ls := ls) (ap := ap) (sq := sq) (pl := pl) (tz := tz) (rs := rs) (bd := bd) (pd := pd) (tk := tk) (kv := kv) (sd := sd) (R := R) (v := (-1)) (j := 1) (hv := (by first | omega | assumption | rfl | (simp only []; omega) | decide)) (h1 := (by first | omega | assumption | rfl | (simp only []; omega) | decide)) (h6 := (by first | omega | assumption | rfl | (simp only []; omega) | decide))) cf_X5_refuse lk_X5_129 rfl rfl rfl rfl rfl (by decide +kernel) (Nat.le_of_ble_eq_true rfl) (fun rv_11 wv_12 hp_13 hm_14 => ?_)
    clear hm_14
    obtain ⟨rfl, rfl⟩ := hp_13
    show VV E 0 0 25 [(0, .ref r0), (1, .int u), (2, .int f)] [.int (-1)] [(r0, .inr (5, [.int (nI n), .ref k1, .ref k2, .ref k3, .ref k4, .int (nI m), .ref k6, .ref k7, .ref k8, .int (nI 0), .ref k10, .int (nI 0), .ref k12, .ref k13, .ref k14, .ref k15, .ref k16, .int (nI ls), .int (nI ap), .int (bz bd), .int (nI sq), .ref k21, .ref k22, .ref k23, .ref k24, .ref k25, .int (bz pd), .int (nI pl), .int (bz tk), kv, .ref k30, .ref k31, .int (nI tz), .ref k33, .int (nI rs), .int sd])), (k1, .inl (cI, 7, .inl (nIf ki))), (k2, .inl (cI, 7, .inl (nIf op))), (k3, .inl (cI, 7, .inl (nIf (shF sh)))), (k4, .inl (cI, 7, .inl (nIf fa))), (k6, .inl (cI, 6, .inl (nIf K))), (k7, .inl (cI, 6, .inl (nIf G))), (k8, .inl (cI, 6, .inl (nIf T))), (k12, .inl (cI, 7, .inl (nIf kw))), (k13, .inl (cI, 175, .inl (nIf kn))), (k14, .inl (cI, 144, .inl (mIf M))), (k15, .inl (cI, 7, .inl (nIf mw))), (k24, .inl (cI, 48, .inl (nIf kp))), (k10, .inl (cI, 7, .inl (nIf (un R 1 (R 1 + 1)))))]
    refine v_iret zC zT dX5_spreads_25  ?_
    first | (have g9 := hn_u; exact ⟨kw, kn, M, mw, kp, pl, tk, kv, 1, _, by unfold q_spreads; rw [hn_u], hkw, hkn, hM, rfl, rfl⟩) | (have g9 := hn_f; exact ⟨kw, kn, M, mw, kp, pl, tk, kv, 1, _, by unfold q_spreads; rw [hi_u]; dsimp only; rw [hn_f], hkw, hkn, hM, rfl, rfl⟩) | exact ⟨_, _, _, _, _, _, _, _, 0, _, by unfold q_spreads; rw [hi_u]; dsimp only; rw [hi_f]; dsimp only; rw [← spre_e (s := (n, m, sh, 0, ki, op, fa, K, G, T)) hn hT hfa vfa]; first | (have g8 := hend8; rw [← fs_end hBe hk (Or.inr hend8)]; done) | (rw [← fs_end hBe hk (Or.inl (by omega))]; done), hkw2, hkn2, hM2, rfl, rfl⟩
  ·
    show VV E 0 0 10 [(0, .ref r0), (1, .int u), (2, .int f)] [.int (nI 1)] [(r0, .inr (5, [.int (nI n), .ref k1, .ref k2, .ref k3, .ref k4, .int (nI m), .ref k6, .ref k7, .ref k8, .int (nI 0), .ref k10, .int (nI 0), .ref k12, .ref k13, .ref k14, .ref k15, .ref k16, .int (nI ls), .int (nI ap), .int (bz bd), .int (nI sq), .ref k21, .ref k22, .ref k23, .ref k24, .ref k25, .int (bz pd), .int (nI pl), .int (bz tk), kv, .ref k30, .ref k31, .int (nI tz), .ref k33, .int (nI rs), .int sd])), (k1, .inl (cI, 7, .inl (nIf ki))), (k2, .inl (cI, 7, .inl (nIf op))), (k3, .inl (cI, 7, .inl (nIf (shF sh)))), (k4, .inl (cI, 7, .inl (nIf fa))), (k6, .inl (cI, 6, .inl (nIf K))), (k7, .inl (cI, 6, .inl (nIf G))), (k8, .inl (cI, 6, .inl (nIf T))), (k12, .inl (cI, 7, .inl (nIf kw))), (k13, .inl (cI, 175, .inl (nIf kn))), (k14, .inl (cI, 144, .inl (mIf M))), (k15, .inl (cI, 7, .inl (nIf mw))), (k24, .inl (cI, 48, .inl (nIf kp))), (k10, .inl (cI, 7, .inl (nIf R)))]
    subst he_7
    have hi_u := hi_8
    obtain ⟨ju, hx_ju⟩ : ∃ z, z = j_6 := ⟨_, rfl⟩
    subst hx_ju
    refine v_if_eq 20 13 zC dX5_spreads_10 (fun z => absurd z (by decide +kernel)) (fun _ => ?_)
    refine v_il_n 14 zC dX5_spreads_13 2 rfl ?_
    refine v_cS (As := [.int f]) (st := []) 17 [] zC dX5_spreads_14 hA (c_X5_isFact (ev_l E) (ev_D E) cI (p := f) ) cf_X5_isFact lk_X5_225 rfl rfl rfl (by decide +kernel) (Nat.le_of_ble_eq_true rfl) (fun rv_16 wv_17 hp_18 hm_19 => ?_)
    clear hm_19
    rcases hp_18 with ⟨hi_20, rfl, rfl⟩ | ⟨j_21, he_22, hi_23, hj_24, rfl, rfl⟩
    ·
      show VV E 0 0 17 [(0, .ref r0), (1, .int (nI ju)), (2, .int f)] [.int (nI 0)] [(r0, .inr (5, [.int (nI n), .ref k1, .ref k2, .ref k3, .ref k4, .int (nI m), .ref k6, .ref k7, .ref k8, .int (nI 0), .ref k10, .int (nI 0), .ref k12, .ref k13, .ref k14, .ref k15, .ref k16, .int (nI ls), .int (nI ap), .int (bz bd), .int (nI sq), .ref k21, .ref k22, .ref k23, .ref k24, .ref k25, .int (bz pd), .int (nI pl), .int (bz tk), kv, .ref k30, .ref k31, .int (nI tz), .ref k33, .int (nI rs), .int sd])), (k1, .inl (cI, 7, .inl (nIf ki))), (k2, .inl (cI, 7, .inl (nIf op))), (k3, .inl (cI, 7, .inl (nIf (shF sh)))), (k4, .inl (cI, 7, .inl (nIf fa))), (k6, .inl (cI, 6, .inl (nIf K))), (k7, .inl (cI, 6, .inl (nIf G))), (k8, .inl (cI, 6, .inl (nIf T))), (k12, .inl (cI, 7, .inl (nIf kw))), (k13, .inl (cI, 175, .inl (nIf kn))), (k14, .inl (cI, 144, .inl (mIf M))), (k15, .inl (cI, 7, .inl (nIf mw))), (k24, .inl (cI, 48, .inl (nIf kp))), (k10, .inl (cI, 7, .inl (nIf R)))]
      have hn_f := hi_20
      refine v_if_ne 26 20 zC dX5_spreads_17 (fun z => absurd (by decide +kernel) z) (fun _ => ?_)
      refine v_al_n 21 zC dX5_spreads_20 0 rfl ?_
      refine v_ic (v := (-1)) 22 zC dX5_spreads_21 (by decide +kernel) ?_
      refine v_cV (As := [.int (-1)]) (st := []) 25 0 [0, 13] zC dX5_spreads_22 hA (c_X5_refuse (ev_l E) (ev_D E) cI (r0 := r0) (k1 := k1) (k2 := k2) (k3 := k3) (k4 := k4) (k6 := k6) (k7 := k7) (k8 := k8) (k10 := k10) (k12 := k12) (k13 := k13) (k14 := k14) (k15 := k15) (k16 := k16) (k21 := k21) (k22 := k22) (k23 := k23) (k24 := k24) (k25 := k25) (k30 := k30) (k31 := k31) (k33 := k33) (n := n) (m := m) (aw := 0) (ls := ls) (ap := ap) (sq := sq) (pl := pl) (tz := tz) (rs := rs) (bd := bd) (pd := pd) (tk := tk) (kv := kv) (sd := sd) (R := R) (v := (-1)) (j := 1) (hv := (by first | omega | assumption | rfl | (simp only []; omega) | decide)) (h1 := (by first | omega | assumption | rfl | (simp only []; omega) | decide)) (h6 := (by first | omega | assumption | rfl | (simp only []; omega) | decide))) cf_X5_refuse lk_X5_129 rfl rfl rfl rfl rfl (by decide +kernel) (Nat.le_of_ble_eq_true rfl) (fun rv_26 wv_27 hp_28 hm_29 => ?_)
      clear hm_29
      obtain ⟨rfl, rfl⟩ := hp_28
      show VV E 0 0 25 [(0, .ref r0), (1, .int (nI ju)), (2, .int f)] [.int (-1)] [(r0, .inr (5, [.int (nI n), .ref k1, .ref k2, .ref k3, .ref k4, .int (nI m), .ref k6, .ref k7, .ref k8, .int (nI 0), .ref k10, .int (nI 0), .ref k12, .ref k13, .ref k14, .ref k15, .ref k16, .int (nI ls), .int (nI ap), .int (bz bd), .int (nI sq), .ref k21, .ref k22, .ref k23, .ref k24, .ref k25, .int (bz pd), .int (nI pl), .int (bz tk), kv, .ref k30, .ref k31, .int (nI tz), .ref k33, .int (nI rs), .int sd])), (k1, .inl (cI, 7, .inl (nIf ki))), (k2, .inl (cI, 7, .inl (nIf op))), (k3, .inl (cI, 7, .inl (nIf (shF sh)))), (k4, .inl (cI, 7, .inl (nIf fa))), (k6, .inl (cI, 6, .inl (nIf K))), (k7, .inl (cI, 6, .inl (nIf G))), (k8, .inl (cI, 6, .inl (nIf T))), (k12, .inl (cI, 7, .inl (nIf kw))), (k13, .inl (cI, 175, .inl (nIf kn))), (k14, .inl (cI, 144, .inl (mIf M))), (k15, .inl (cI, 7, .inl (nIf mw))), (k24, .inl (cI, 48, .inl (nIf kp))), (k10, .inl (cI, 7, .inl (nIf (un R 1 (R 1 + 1)))))]
      refine v_iret zC zT dX5_spreads_25  ?_
      first | (have g9 := hn_u; exact ⟨kw, kn, M, mw, kp, pl, tk, kv, 1, _, by unfold q_spreads; rw [hn_u], hkw, hkn, hM, rfl, rfl⟩) | (have g9 := hn_f; exact ⟨kw, kn, M, mw, kp, pl, tk, kv, 1, _, by unfold q_spreads; rw [hi_u]; dsimp only; rw [hn_f], hkw, hkn, hM, rfl, rfl⟩) | exact ⟨_, _, _, _, _, _, _, _, 0, _, by unfold q_spreads; rw [hi_u]; dsimp only; rw [hi_f]; dsimp only; rw [← spre_e (s := (n, m, sh, 0, ki, op, fa, K, G, T)) hn hT hfa vfa]; first | (have g8 := hend8; rw [← fs_end hBe hk (Or.inr hend8)]; done) | (rw [← fs_end hBe hk (Or.inl (by omega))]; done), hkw2, hkn2, hM2, rfl, rfl⟩
    ·
      show VV E 0 0 17 [(0, .ref r0), (1, .int (nI ju)), (2, .int f)] [.int (nI 1)] [(r0, .inr (5, [.int (nI n), .ref k1, .ref k2, .ref k3, .ref k4, .int (nI m), .ref k6, .ref k7, .ref k8, .int (nI 0), .ref k10, .int (nI 0), .ref k12, .ref k13, .ref k14, .ref k15, .ref k16, .int (nI ls), .int (nI ap), .int (bz bd), .int (nI sq), .ref k21, .ref k22, .ref k23, .ref k24, .ref k25, .int (bz pd), .int (nI pl), .int (bz tk), kv, .ref k30, .ref k31, .int (nI tz), .ref k33, .int (nI rs), .int sd])), (k1, .inl (cI, 7, .inl (nIf ki))), (k2, .inl (cI, 7, .inl (nIf op))), (k3, .inl (cI, 7, .inl (nIf (shF sh)))), (k4, .inl (cI, 7, .inl (nIf fa))), (k6, .inl (cI, 6, .inl (nIf K))), (k7, .inl (cI, 6, .inl (nIf G))), (k8, .inl (cI, 6, .inl (nIf T))), (k12, .inl (cI, 7, .inl (nIf kw))), (k13, .inl (cI, 175, .inl (nIf kn))), (k14, .inl (cI, 144, .inl (mIf M))), (k15, .inl (cI, 7, .inl (nIf mw))), (k24, .inl (cI, 48, .inl (nIf kp))), (k10, .inl (cI, 7, .inl (nIf R)))]
      subst he_22
      have hi_f := hi_23
      obtain ⟨jf, hx_jf⟩ : ∃ z, z = j_21 := ⟨_, rfl⟩
      subst hx_jf
      refine v_if_ne 26 20 zC dX5_spreads_17 (fun _ => ?_) (fun z => absurd z (by decide +kernel))
      refine v_bp (v := (-9)) 28 zC dX5_spreads_26 (by decide +kernel) ?_
      refine v_is_n (lv2 := [(3, .int (-9)), (0, .ref r0), (1, .int (nI ju)), (2, .int (nI jf))]) 29 zC dX5_spreads_28 (by rw [hnE]; decide) rfl ?_
      refine v_al_n 30 zC dX5_spreads_29 1 rfl ?_
      refine v_cV (As := []) (st := []) 33 0 [0, 1, 2, 3, 4, 5, 6, 7, 12] zC dX5_spreads_30 hA (c_X5_think (ev_l E) (ev_D E) cI (r0 := r0) (k1 := k1) (k2 := k2) (k3 := k3) (k4 := k4) (k6 := k6) (k7 := k7) (k8 := k8) (k10 := k10) (k12 := k12) (k13 := k13) (k14 := k14) (k15 := k15) (k16 := k16) (k21 := k21) (k22 := k22) (k23 := k23) (k24 := k24) (k25 := k25) (k30 := k30) (k31 := k31) (k33 := k33) (n := n) (m := m) (aw := 0) (ls := ls) (ap := ap) (sq := sq) (pl := pl) (tz := tz) (rs := rs) (bd := bd) (pd := pd) (tk := tk) (kv := kv) (sd := sd) (ki := ki) (op := op) (fa := fa) (K := K) (G := G) (T := T) (sh := sh) (kp := kp) ) cf_X5_think lk_X5_254 rfl rfl rfl rfl rfl (by decide +kernel) (Nat.le_of_ble_eq_true rfl) (fun rv_31 wv_32 hp_33 hm_34 => ?_)
      clear hm_34
      obtain ⟨kp1_35, hE_36, rfl, rfl⟩ := hp_33
      show VV E 0 0 33 [(3, .int (-9)), (0, .ref r0), (1, .int (nI ju)), (2, .int (nI jf))] [] [(r0, .inr (5, [.int (nI n), .ref k1, .ref k2, .ref k3, .ref k4, .int (nI m), .ref k6, .ref k7, .ref k8, .int (nI 0), .ref k10, .int (nI 0), .ref k12, .ref k13, .ref k14, .ref k15, .ref k16, .int (nI ls), .int (nI ap), .int (bz bd), .int (nI sq), .ref k21, .ref k22, .ref k23, .ref k24, .ref k25, .int (bz pd), .int (nI 48), .int (bz true), .ref k24, .ref k30, .ref k31, .int (nI tz), .ref k33, .int (nI rs), .int sd])), (k1, .inl (cI, 7, .inl (nIf ki))), (k2, .inl (cI, 7, .inl (nIf op))), (k3, .inl (cI, 7, .inl (nIf (shF sh)))), (k4, .inl (cI, 7, .inl (nIf fa))), (k6, .inl (cI, 6, .inl (nIf K))), (k7, .inl (cI, 6, .inl (nIf G))), (k8, .inl (cI, 6, .inl (nIf T))), (k12, .inl (cI, 7, .inl (nIf kw))), (k13, .inl (cI, 175, .inl (nIf kn))), (k14, .inl (cI, 144, .inl (mIf M))), (k15, .inl (cI, 7, .inl (nIf mw))), (k24, .inl (cI, 48, .inl (nIf kp1_35))), (k10, .inl (cI, 7, .inl (nIf R)))]
      have hE9 := hE_36
      refine v_ic (v := (nI 0)) 34 zC dX5_spreads_33 (by decide +kernel) ?_
      refine v_is (lv2 := [(4, .int (nI 0)), (3, .int (-9)), (0, .ref r0), (1, .int (nI ju)), (2, .int (nI jf))]) 36 zC dX5_spreads_34 (by rw [hnE]; decide) rfl ?_
      have lp36 : ∀ (mz : Nat) (kw2 : Nat → Nat) (kn2 : Nat → Nat) (M2 : Nat → Option Nat) (mw2 : Nat → Nat) (A : Nat → Nat) (B : Option Nat) (k : Nat), (∀ z, kw2 z < 1024) → (∀ z, kn2 z < 1024) → (∀ z v, M2 z = some v → v < 7) → (A = DAYN (n, m, sh, 0, ki, op, fa, K, G, T) k) → (∀ z, A z < 1024) → (VZ 7 A) → (B = fs (fun i => Nat.testBit (DAYN (n, m, sh, 0, ki, op, fa, K, G, T) i ju) jf) k) → (k ≤ 71) → 71 - k = mz → VV E 0 0 36 [(4, .int (nI k)), (3, .int (mI B)), (0, .ref r0), (1, .int (nI ju)), (2, .int (nI jf))] [] [(r0, .inr (5, [.int (nI n), .ref k1, .ref k2, .ref k3, .ref k4, .int (nI m), .ref k6, .ref k7, .ref k8, .int (nI 0), .ref k10, .int (nI 0), .ref k12, .ref k13, .ref k14, .ref k15, .ref k16, .int (nI ls), .int (nI ap), .int (bz bd), .int (nI sq), .ref k21, .ref k22, .ref k23, .ref k24, .ref k25, .int (bz pd), .int (nI 48), .int (bz true), .ref k24, .ref k30, .ref k31, .int (nI tz), .ref k33, .int (nI rs), .int sd])), (k1, .inl (cI, 7, .inl (nIf ki))), (k2, .inl (cI, 7, .inl (nIf op))), (k3, .inl (cI, 7, .inl (nIf (shF sh)))), (k4, .inl (cI, 7, .inl (nIf A))), (k6, .inl (cI, 6, .inl (nIf K))), (k7, .inl (cI, 6, .inl (nIf G))), (k8, .inl (cI, 6, .inl (nIf T))), (k12, .inl (cI, 7, .inl (nIf kw2))), (k13, .inl (cI, 175, .inl (nIf kn2))), (k14, .inl (cI, 144, .inl (mIf M2))), (k15, .inl (cI, 7, .inl (nIf mw2))), (k24, .inl (cI, 48, .inl (nIf kp1_35))), (k10, .inl (cI, 7, .inl (nIf R)))] := by
        intro mz
        induction mz using Nat.strongRecOn with
        | _ mz ih36 =>
        intro kw2 kn2 M2 mw2 A B k hkw2 hkn2 hM2 hAe hAb hAv hBe hk hm36
        refine v_il 38 zC dX5_spreads_36 0 rfl ?_
        refine v_bp (v := (nI 70)) 40 zC dX5_spreads_38 (by decide +kernel) ?_
        refine v_icmpn_gt 79 43 zC dX5_spreads_40 (fun h_37 => ?_) (fun h_37 => ?_)
        ·
          have hend9 := h_37
          refine v_al_n 80 zC dX5_spreads_79 2 rfl ?_
          refine v_cV (As := []) (st := []) 83 0 [0, 1, 2, 3, 4, 5, 6, 7, 12] zC dX5_spreads_80 hA (c_X5_again (ev_l E) (ev_D E) cI (r0 := r0) (k1 := k1) (k2 := k2) (k3 := k3) (k4 := k4) (k6 := k6) (k7 := k7) (k8 := k8) (k10 := k10) (k12 := k12) (k13 := k13) (k14 := k14) (k15 := k15) (k16 := k16) (k21 := k21) (k22 := k22) (k23 := k23) (k24 := k24) (k25 := k25) (k30 := k30) (k31 := k31) (k33 := k33) (n := n) (m := m) (aw := 0) (ls := ls) (ap := ap) (sq := sq) (pl := 48) (tz := tz) (rs := rs) (bd := bd) (pd := pd) (tk := true) (kv := (.ref k24 : Value)) (sd := sd) (ki := ki) (op := op) (fa := A) (K := K) (G := G) (T := T) (sh := sh) (kp := kp1_35) (n1 := n) (m1 := m) (sh1 := sh) (aw1 := 0) (ki1 := ki) (op1 := op) (fa1 := fa) (K1 := K) (G1 := G) (T1 := T) (hw := ⟨hn, hm, hsh, hki, hop, hAb, hK, hG, hT, vki, vop, hAv, vK, vG, vT⟩) (hw1 := hw) (hE := hE9)) cf_X5_again lk_X5_260 rfl rfl rfl rfl rfl (by decide +kernel) (Nat.le_of_ble_eq_true rfl) (fun rv_38 wv_39 hp_40 hm_41 => ?_)
          clear hm_41
          obtain ⟨rfl, rfl⟩ := hp_40
          show VV E 0 0 83 [(4, .int (nI k)), (3, .int (mI B)), (0, .ref r0), (1, .int (nI ju)), (2, .int (nI jf))] [] [(r0, .inr (5, [.int (nI n), .ref k1, .ref k2, .ref k3, .ref k4, .int (nI m), .ref k6, .ref k7, .ref k8, .int (nI 0), .ref k10, .int (nI 0), .ref k12, .ref k13, .ref k14, .ref k15, .ref k16, .int (nI ls), .int (nI ap), .int (bz bd), .int (nI sq), .ref k21, .ref k22, .ref k23, .ref k24, .ref k25, .int (bz pd), .int (nI 48), .int (bz false), .ref k24, .ref k30, .ref k31, .int (nI tz), .ref k33, .int (nI rs), .int sd])), (k1, .inl (cI, 7, .inl (nIf ki))), (k2, .inl (cI, 7, .inl (nIf op))), (k3, .inl (cI, 7, .inl (nIf (shF sh)))), (k4, .inl (cI, 7, .inl (nIf fa))), (k6, .inl (cI, 6, .inl (nIf K))), (k7, .inl (cI, 6, .inl (nIf G))), (k8, .inl (cI, 6, .inl (nIf T))), (k12, .inl (cI, 7, .inl (nIf kw2))), (k13, .inl (cI, 175, .inl (nIf kn2))), (k14, .inl (cI, 144, .inl (mIf M2))), (k15, .inl (cI, 7, .inl (nIf mw2))), (k24, .inl (cI, 48, .inl (nIf kp1_35))), (k10, .inl (cI, 7, .inl (nIf R)))]
          refine v_il_n 84 zC dX5_spreads_83 1 rfl ?_
          refine v_iret zC zT dX5_spreads_84  ?_
          first | (have g9 := hn_u; exact ⟨kw, kn, M, mw, kp, pl, tk, kv, 1, _, by unfold q_spreads; rw [hn_u], hkw, hkn, hM, rfl, rfl⟩) | (have g9 := hn_f; exact ⟨kw, kn, M, mw, kp, pl, tk, kv, 1, _, by unfold q_spreads; rw [hi_u]; dsimp only; rw [hn_f], hkw, hkn, hM, rfl, rfl⟩) | exact ⟨_, _, _, _, _, _, _, _, 0, _, by unfold q_spreads; rw [hi_u]; dsimp only; rw [hi_f]; dsimp only; rw [← spre_e (s := (n, m, sh, 0, ki, op, fa, K, G, T)) hn hT hfa vfa]; first | (have g8 := hend8; rw [← fs_end hBe hk (Or.inr hend8)]; done) | (rw [← fs_end hBe hk (Or.inl (by omega))]; done), hkw2, hkn2, hM2, rfl, rfl⟩
        ·
          refine v_il_n 44 zC dX5_spreads_43 1 rfl ?_
          refine v_ifo_ge 79 47 zC dX5_spreads_44 (fun v e => Nat.lt_trans (fs_lt (hBe ▸ e)).1 (by omega)) (fun h_42 => ?_) (fun h_42 => ?_)
          ·
            have hend8 := h_42
            refine v_al_n 80 zC dX5_spreads_79 2 rfl ?_
            refine v_cV (As := []) (st := []) 83 0 [0, 1, 2, 3, 4, 5, 6, 7, 12] zC dX5_spreads_80 hA (c_X5_again (ev_l E) (ev_D E) cI (r0 := r0) (k1 := k1) (k2 := k2) (k3 := k3) (k4 := k4) (k6 := k6) (k7 := k7) (k8 := k8) (k10 := k10) (k12 := k12) (k13 := k13) (k14 := k14) (k15 := k15) (k16 := k16) (k21 := k21) (k22 := k22) (k23 := k23) (k24 := k24) (k25 := k25) (k30 := k30) (k31 := k31) (k33 := k33) (n := n) (m := m) (aw := 0) (ls := ls) (ap := ap) (sq := sq) (pl := 48) (tz := tz) (rs := rs) (bd := bd) (pd := pd) (tk := true) (kv := (.ref k24 : Value)) (sd := sd) (ki := ki) (op := op) (fa := A) (K := K) (G := G) (T := T) (sh := sh) (kp := kp1_35) (n1 := n) (m1 := m) (sh1 := sh) (aw1 := 0) (ki1 := ki) (op1 := op) (fa1 := fa) (K1 := K) (G1 := G) (T1 := T) (hw := ⟨hn, hm, hsh, hki, hop, hAb, hK, hG, hT, vki, vop, hAv, vK, vG, vT⟩) (hw1 := hw) (hE := hE9)) cf_X5_again lk_X5_260 rfl rfl rfl rfl rfl (by decide +kernel) (Nat.le_of_ble_eq_true rfl) (fun rv_43 wv_44 hp_45 hm_46 => ?_)
            clear hm_46
            obtain ⟨rfl, rfl⟩ := hp_45
            show VV E 0 0 83 [(4, .int (nI k)), (3, .int (mI B)), (0, .ref r0), (1, .int (nI ju)), (2, .int (nI jf))] [] [(r0, .inr (5, [.int (nI n), .ref k1, .ref k2, .ref k3, .ref k4, .int (nI m), .ref k6, .ref k7, .ref k8, .int (nI 0), .ref k10, .int (nI 0), .ref k12, .ref k13, .ref k14, .ref k15, .ref k16, .int (nI ls), .int (nI ap), .int (bz bd), .int (nI sq), .ref k21, .ref k22, .ref k23, .ref k24, .ref k25, .int (bz pd), .int (nI 48), .int (bz false), .ref k24, .ref k30, .ref k31, .int (nI tz), .ref k33, .int (nI rs), .int sd])), (k1, .inl (cI, 7, .inl (nIf ki))), (k2, .inl (cI, 7, .inl (nIf op))), (k3, .inl (cI, 7, .inl (nIf (shF sh)))), (k4, .inl (cI, 7, .inl (nIf fa))), (k6, .inl (cI, 6, .inl (nIf K))), (k7, .inl (cI, 6, .inl (nIf G))), (k8, .inl (cI, 6, .inl (nIf T))), (k12, .inl (cI, 7, .inl (nIf kw2))), (k13, .inl (cI, 175, .inl (nIf kn2))), (k14, .inl (cI, 144, .inl (mIf M2))), (k15, .inl (cI, 7, .inl (nIf mw2))), (k24, .inl (cI, 48, .inl (nIf kp1_35))), (k10, .inl (cI, 7, .inl (nIf R)))]
            refine v_il_n 84 zC dX5_spreads_83 1 rfl ?_
            refine v_iret zC zT dX5_spreads_84  ?_
            first | (have g9 := hn_u; exact ⟨kw, kn, M, mw, kp, pl, tk, kv, 1, _, by unfold q_spreads; rw [hn_u], hkw, hkn, hM, rfl, rfl⟩) | (have g9 := hn_f; exact ⟨kw, kn, M, mw, kp, pl, tk, kv, 1, _, by unfold q_spreads; rw [hi_u]; dsimp only; rw [hn_f], hkw, hkn, hM, rfl, rfl⟩) | exact ⟨_, _, _, _, _, _, _, _, 0, _, by unfold q_spreads; rw [hi_u]; dsimp only; rw [hi_f]; dsimp only; rw [← spre_e (s := (n, m, sh, 0, ki, op, fa, K, G, T)) hn hT hfa vfa]; first | (have g8 := hend8; rw [← fs_end hBe hk (Or.inr hend8)]; done) | (rw [← fs_end hBe hk (Or.inl (by omega))]; done), hkw2, hkn2, hM2, rfl, rfl⟩
          ·
            have hz9 : B = none := by cases B with | none => rfl | some _ => cases h_42
            subst hz9
            refine v_al_n 48 zC dX5_spreads_47 2 rfl ?_
            refine v_gf 51 0 zC dX5_spreads_48 gf_X5_19 rfl rfl ?_
            refine v_il_n 52 zC dX5_spreads_51 3 rfl ?_
            refine v_ialn (v := (nI (A ju))) 53 4 zC dX5_spreads_52 rfl (by omega) rfl ?_
            refine v_il_n 54 zC dX5_spreads_53 4 rfl ?_
            refine v_cS (As := [.int (nI (A ju)), .int (nI jf)]) (st := []) 57 [] zC dX5_spreads_54 hA (c_X5_hasBit (ev_l E) (ev_D E) cI (x := (A ju)) (k := jf) (hk := (by first | omega | assumption | rfl | (simp only []; omega) | decide))) cf_X5_hasBit lk_X5_95 rfl rfl rfl (by decide +kernel) (Nat.le_of_ble_eq_true rfl) (fun rv_47 wv_48 hp_49 hm_50 => ?_)
            clear hm_50
            obtain ⟨rfl, rfl⟩ := hp_49
            show VV E 0 0 57 [(4, .int (nI k)), (3, .int (-9)), (0, .ref r0), (1, .int (nI ju)), (2, .int (nI jf))] [.int (bz (Nat.testBit (A ju) jf))] [(r0, .inr (5, [.int (nI n), .ref k1, .ref k2, .ref k3, .ref k4, .int (nI m), .ref k6, .ref k7, .ref k8, .int (nI 0), .ref k10, .int (nI 0), .ref k12, .ref k13, .ref k14, .ref k15, .ref k16, .int (nI ls), .int (nI ap), .int (bz bd), .int (nI sq), .ref k21, .ref k22, .ref k23, .ref k24, .ref k25, .int (bz pd), .int (nI 48), .int (bz true), .ref k24, .ref k30, .ref k31, .int (nI tz), .ref k33, .int (nI rs), .int sd])), (k1, .inl (cI, 7, .inl (nIf ki))), (k2, .inl (cI, 7, .inl (nIf op))), (k3, .inl (cI, 7, .inl (nIf (shF sh)))), (k4, .inl (cI, 7, .inl (nIf A))), (k6, .inl (cI, 6, .inl (nIf K))), (k7, .inl (cI, 6, .inl (nIf G))), (k8, .inl (cI, 6, .inl (nIf T))), (k12, .inl (cI, 7, .inl (nIf kw2))), (k13, .inl (cI, 175, .inl (nIf kn2))), (k14, .inl (cI, 144, .inl (mIf M2))), (k15, .inl (cI, 7, .inl (nIf mw2))), (k24, .inl (cI, 48, .inl (nIf kp1_35))), (k10, .inl (cI, 7, .inl (nIf R)))]
            refine v_ifb_eq 65 60 zC dX5_spreads_57 (fun h_51 => ?_) (fun h_51 => ?_)
            ·
              have hb9 : Nat.testBit (DAYN (n, m, sh, 0, ki, op, fa, K, G, T) k ju) jf = false := by rw [← hAe]; exact h_51
              refine v_bp (v := (-9)) 67 zC dX5_spreads_65 (by decide +kernel) ?_
              refine v_is_n (lv2 := [(3, .int (-9)), (4, .int (nI k)), (0, .ref r0), (1, .int (nI ju)), (2, .int (nI jf))]) 68 zC dX5_spreads_67 (by rw [hnE]; decide) rfl ?_
              refine v_al_n 69 zC dX5_spreads_68 2 rfl ?_
              refine v_cV (As := []) (st := []) 72 0 [0, 1, 2, 3, 4, 5, 6, 7, 8, 9, 10, 11] zC dX5_spreads_69 hA (c_X5_dayPasses (ev_l E) (ev_D E) cI (r0 := r0) (k1 := k1) (k2 := k2) (k3 := k3) (k4 := k4) (k6 := k6) (k7 := k7) (k8 := k8) (k10 := k10) (k12 := k12) (k13 := k13) (k14 := k14) (k15 := k15) (k16 := k16) (k21 := k21) (k22 := k22) (k23 := k23) (k24 := k24) (k25 := k25) (k30 := k30) (k31 := k31) (k33 := k33) (n := n) (m := m) (aw := 0) (ls := ls) (ap := ap) (sq := sq) (pl := 48) (tz := tz) (rs := rs) (bd := bd) (pd := pd) (tk := true) (kv := (.ref k24 : Value)) (sd := sd) (ki := ki) (op := op) (fa := A) (K := K) (G := G) (T := T) (sh := sh) (kw := kw2) (kn := kn2) (M := M2) (mw := mw2) (hw := ⟨hn, hm, hsh, hki, hop, hAb, hK, hG, hT, vki, vop, hAv, vK, vG, vT⟩) (hkw := hkw2) (hkn := hkn2) (hM := hM2)) cf_X5_dayPasses lk_X5_228 rfl rfl rfl rfl rfl (by decide +kernel) (Nat.le_of_ble_eq_true rfl) (fun rv_52 wv_53 hp_54 hm_55 => ?_)
              clear hm_55
              obtain ⟨kw1_56, kn1_57, M1_58, mw1_59, hkw1_60, hkn1_61, hM1_62, hP_63, hl_64, hl0_65, rfl, rfl⟩ := hp_54
              show VV E 0 0 72 [(3, .int (-9)), (4, .int (nI k)), (0, .ref r0), (1, .int (nI ju)), (2, .int (nI jf))] [.int (nI (ALL (n, m, sh, 0, ki, op, A, K, G, T)) - nI (KBH (n, m, sh, 0, ki, op, A, K, G, T) 0))] [(r0, .inr (5, [.int (nI n), .ref k1, .ref k2, .ref k3, .ref k4, .int (nI m), .ref k6, .ref k7, .ref k8, .int (nI 0), .ref k10, .int (nI 0), .ref k12, .ref k13, .ref k14, .ref k15, .ref k16, .int (nI ls), .int (nI ap), .int (bz bd), .int (nI sq), .ref k21, .ref k22, .ref k23, .ref k24, .ref k25, .int (bz pd), .int (nI 48), .int (bz true), .ref k24, .ref k30, .ref k31, .int (nI tz), .ref k33, .int (nI rs), .int sd])), (k1, .inl (cI, 7, .inl (nIf ki))), (k2, .inl (cI, 7, .inl (nIf op))), (k3, .inl (cI, 7, .inl (nIf (shF sh)))), (k4, .inl (cI, 7, .inl (nIf (PASF (n, m, sh, 0, ki, op, A, K, G, T))))), (k6, .inl (cI, 6, .inl (nIf K))), (k7, .inl (cI, 6, .inl (nIf G))), (k8, .inl (cI, 6, .inl (nIf T))), (k12, .inl (cI, 7, .inl (nIf kw1_56))), (k13, .inl (cI, 175, .inl (nIf kn1_57))), (k14, .inl (cI, 144, .inl (mIf M1_58))), (k15, .inl (cI, 7, .inl (nIf mw1_59))), (k24, .inl (cI, 48, .inl (nIf kp1_35))), (k10, .inl (cI, 7, .inl (nIf R)))]
              have hkw8 := hkw1_60
              have hkn8 := hkn1_61
              have hM8 := hM1_62
              have hPb := hP_63
              refine v_pop 73 zC dX5_spreads_72 rfl ?_
              refine v_inc (v := (nI (k + 1))) (lv2 := [(4, .int (nI (k + 1))), (3, .int (-9)), (0, .ref r0), (1, .int (nI ju)), (2, .int (nI jf))]) 76 zC dX5_spreads_73 (j := 1) rfl (nI_add _ 1) (by rw [hnE]; decide) rfl ?_
              refine v_goto 36 zC dX5_spreads_76 ?_
              refine v_lvs (lv2 := [(4, .int (nI (k + 1))), (3, .int (mI none)), (0, .ref r0), (1, .int (nI ju)), (2, .int (nI jf))]) [0, 1, 2, 3, 4] rfl ?_
              exact ih36 _ (by omega) kw1_56 kn1_57 M1_58 mw1_59 (PASF (n, m, sh, 0, ki, op, A, K, G, T)) none (k + 1) hkw8 hkn8 hM8 (by rw [hAe]; rfl) hPb pas_v (by first | exact (fs_1 hBe.symm hb9).symm | exact (fs_0 hBe.symm hb9).symm) (by first | omega | assumption | rfl | (simp only []; omega) | decide) rfl
            ·
              have hb9 : Nat.testBit (DAYN (n, m, sh, 0, ki, op, fa, K, G, T) k ju) jf = true := by rw [← hAe]; exact h_51
              refine v_il 62 zC dX5_spreads_60 0 rfl ?_
              refine v_goto 67 zC dX5_spreads_62 ?_
              refine v_is_n (lv2 := [(3, .int (nI k)), (4, .int (nI k)), (0, .ref r0), (1, .int (nI ju)), (2, .int (nI jf))]) 68 zC dX5_spreads_67 (by rw [hnE]; decide) rfl ?_
              refine v_al_n 69 zC dX5_spreads_68 2 rfl ?_
              refine v_cV (As := []) (st := []) 72 0 [0, 1, 2, 3, 4, 5, 6, 7, 8, 9, 10, 11] zC dX5_spreads_69 hA (c_X5_dayPasses (ev_l E) (ev_D E) cI (r0 := r0) (k1 := k1) (k2 := k2) (k3 := k3) (k4 := k4) (k6 := k6) (k7 := k7) (k8 := k8) (k10 := k10) (k12 := k12) (k13 := k13) (k14 := k14) (k15 := k15) (k16 := k16) (k21 := k21) (k22 := k22) (k23 := k23) (k24 := k24) (k25 := k25) (k30 := k30) (k31 := k31) (k33 := k33) (n := n) (m := m) (aw := 0) (ls := ls) (ap := ap) (sq := sq) (pl := 48) (tz := tz) (rs := rs) (bd := bd) (pd := pd) (tk := true) (kv := (.ref k24 : Value)) (sd := sd) (ki := ki) (op := op) (fa := A) (K := K) (G := G) (T := T) (sh := sh) (kw := kw2) (kn := kn2) (M := M2) (mw := mw2) (hw := ⟨hn, hm, hsh, hki, hop, hAb, hK, hG, hT, vki, vop, hAv, vK, vG, vT⟩) (hkw := hkw2) (hkn := hkn2) (hM := hM2)) cf_X5_dayPasses lk_X5_228 rfl rfl rfl rfl rfl (by decide +kernel) (Nat.le_of_ble_eq_true rfl) (fun rv_66 wv_67 hp_68 hm_69 => ?_)
              clear hm_69
              obtain ⟨kw1_70, kn1_71, M1_72, mw1_73, hkw1_74, hkn1_75, hM1_76, hP_77, hl_78, hl0_79, rfl, rfl⟩ := hp_68
              show VV E 0 0 72 [(3, .int (nI k)), (4, .int (nI k)), (0, .ref r0), (1, .int (nI ju)), (2, .int (nI jf))] [.int (nI (ALL (n, m, sh, 0, ki, op, A, K, G, T)) - nI (KBH (n, m, sh, 0, ki, op, A, K, G, T) 0))] [(r0, .inr (5, [.int (nI n), .ref k1, .ref k2, .ref k3, .ref k4, .int (nI m), .ref k6, .ref k7, .ref k8, .int (nI 0), .ref k10, .int (nI 0), .ref k12, .ref k13, .ref k14, .ref k15, .ref k16, .int (nI ls), .int (nI ap), .int (bz bd), .int (nI sq), .ref k21, .ref k22, .ref k23, .ref k24, .ref k25, .int (bz pd), .int (nI 48), .int (bz true), .ref k24, .ref k30, .ref k31, .int (nI tz), .ref k33, .int (nI rs), .int sd])), (k1, .inl (cI, 7, .inl (nIf ki))), (k2, .inl (cI, 7, .inl (nIf op))), (k3, .inl (cI, 7, .inl (nIf (shF sh)))), (k4, .inl (cI, 7, .inl (nIf (PASF (n, m, sh, 0, ki, op, A, K, G, T))))), (k6, .inl (cI, 6, .inl (nIf K))), (k7, .inl (cI, 6, .inl (nIf G))), (k8, .inl (cI, 6, .inl (nIf T))), (k12, .inl (cI, 7, .inl (nIf kw1_70))), (k13, .inl (cI, 175, .inl (nIf kn1_71))), (k14, .inl (cI, 144, .inl (mIf M1_72))), (k15, .inl (cI, 7, .inl (nIf mw1_73))), (k24, .inl (cI, 48, .inl (nIf kp1_35))), (k10, .inl (cI, 7, .inl (nIf R)))]
              have hkw8 := hkw1_74
              have hkn8 := hkn1_75
              have hM8 := hM1_76
              have hPb := hP_77
              refine v_pop 73 zC dX5_spreads_72 rfl ?_
              refine v_inc (v := (nI (k + 1))) (lv2 := [(4, .int (nI (k + 1))), (3, .int (nI k)), (0, .ref r0), (1, .int (nI ju)), (2, .int (nI jf))]) 76 zC dX5_spreads_73 (j := 1) rfl (nI_add _ 1) (by rw [hnE]; decide) rfl ?_
              refine v_goto 36 zC dX5_spreads_76 ?_
              refine v_lvs (lv2 := [(4, .int (nI (k + 1))), (3, .int (mI (some k))), (0, .ref r0), (1, .int (nI ju)), (2, .int (nI jf))]) [0, 1, 2, 3, 4] rfl ?_
              exact ih36 _ (by omega) kw1_70 kn1_71 M1_72 mw1_73 (PASF (n, m, sh, 0, ki, op, A, K, G, T)) (some k) (k + 1) hkw8 hkn8 hM8 (by rw [hAe]; rfl) hPb pas_v (by first | exact (fs_1 hBe.symm hb9).symm | exact (fs_0 hBe.symm hb9).symm) (by first | omega | assumption | rfl | (simp only []; omega) | decide) rfl
      refine v_lvs (lv2 := [(4, .int (nI 0)), (3, .int (mI none)), (0, .ref r0), (1, .int (nI ju)), (2, .int (nI jf))]) [0, 1, 2, 3, 4] rfl ?_
      exact lp36 _ kw kn M mw fa none 0 (by first | exact hR9.2.2.2.1 | exact hkw) (by first | exact hR9.2.2.2.2.1 | exact hkn) (by first | exact hR9.2.2.2.2.2 | exact hM) rfl hfa vfa rfl (Nat.zero_le _) rfl
set_option maxRecDepth 100000 in
set_option maxHeartbeats 4000000 in
theorem c_X5_lots (l : Launch) (D : va_G) (cI : ClassId) (r0 k1 k2 k3 k4 k6 k7 k8 k10 k12 k13 k14 k15 k16 k21 k22 k23 k24 k25 k30 k31 k33 : Nat) (n m ls ap sq pl tz rs : Nat) (bd pd tk : Bool) (kv : Value) (sd : Int32) (ki op fa K G T : Nat → Nat) (sh : Nat) (kw kn : Nat → Nat) (M : Nat → Option Nat) (mw : Nat → Nat) (kp R : Nat → Nat) (k z w : Int32) (hw : FW n m sh ki op fa K G T) (hkw : ∀ z, kw z < 1024) (hkn : ∀ z, kn z < 1024) (hM : ∀ z v, M z = some v → v < 7) : CT l yX5_lots cX5_lots 13 (some .int) { frames := 7, cells := 0, slots := 0, locals := 158 } D cI [.ref r0, .int k, .int z, .int w] [(r0, .inr (5, [.int (nI n), .ref k1, .ref k2, .ref k3, .ref k4, .int (nI m), .ref k6, .ref k7, .ref k8, .int (nI 0), .ref k10, .int (nI 0), .ref k12, .ref k13, .ref k14, .ref k15, .ref k16, .int (nI ls), .int (nI ap), .int (bz bd), .int (nI sq), .ref k21, .ref k22, .ref k23, .ref k24, .ref k25, .int (bz pd), .int (nI pl), .int (bz tk), kv, .ref k30, .ref k31, .int (nI tz), .ref k33, .int (nI rs), .int sd])), (k1, .inl (cI, 7, .inl (nIf ki))), (k2, .inl (cI, 7, .inl (nIf op))), (k3, .inl (cI, 7, .inl (nIf (shF sh)))), (k4, .inl (cI, 7, .inl (nIf fa))), (k6, .inl (cI, 6, .inl (nIf K))), (k7, .inl (cI, 6, .inl (nIf G))), (k8, .inl (cI, 6, .inl (nIf T))), (k12, .inl (cI, 7, .inl (nIf kw))), (k13, .inl (cI, 175, .inl (nIf kn))), (k14, .inl (cI, 144, .inl (mIf M))), (k15, .inl (cI, 7, .inl (nIf mw))), (k24, .inl (cI, 48, .inl (nIf kp))), (k10, .inl (cI, 7, .inl (nIf R)))] (fun zr zw => (∃ kw1 : Nat → Nat, ∃ kn1 : Nat → Nat, ∃ M1 : Nat → Option Nat, ∃ mw1 : Nat → Nat, ∃ kp1 : Nat → Nat, ∃ pl1 : Nat, ∃ tk1 : Bool, ∃ kv1 : Value, ∃ sd1 : Int32, ∃ rc : Nat, ∃ rv : Int32, (q_lots (n, m, sh, 0, ki, op, fa, K, G, T) k z w = (rc, rv)) ∧ (∀ z, kw1 z < 1024) ∧ (∀ z, kn1 z < 1024) ∧ (∀ z v, M1 z = some v → v < 7) ∧ zr = some (.int rv) ∧ zw = [(r0, .inr (5, [.int (nI n), .ref k1, .ref k2, .ref k3, .ref k4, .int (nI m), .ref k6, .ref k7, .ref k8, .int (nI 0), .ref k10, .int (nI 0), .ref k12, .ref k13, .ref k14, .ref k15, .ref k16, .int (nI ls), .int (nI ap), .int (bz bd), .int (nI sq), .ref k21, .ref k22, .ref k23, .ref k24, .ref k25, .int (bz pd), .int (nI pl1), .int (bz tk1), kv1, .ref k30, .ref k31, .int (nI tz), .ref k33, .int (nI rs), .int sd1])), (k1, .inl (cI, 7, .inl (nIf ki))), (k2, .inl (cI, 7, .inl (nIf op))), (k3, .inl (cI, 7, .inl (nIf (shF sh)))), (k4, .inl (cI, 7, .inl (nIf fa))), (k6, .inl (cI, 6, .inl (nIf K))), (k7, .inl (cI, 6, .inl (nIf G))), (k8, .inl (cI, 6, .inl (nIf T))), (k12, .inl (cI, 7, .inl (nIf kw1))), (k13, .inl (cI, 175, .inl (nIf kn1))), (k14, .inl (cI, 144, .inl (mIf M1))), (k15, .inl (cI, 7, .inl (nIf mw1))), (k24, .inl (cI, 48, .inl (nIf kp1))), (k10, .inl (cI, 7, .inl (nIf (rf R rc))))])) := by
  refine CT_of RX5 rfl (by decide +kernel) (Nat.le_of_ble_eq_true rfl) (fun E hnE zC zT => ?_)
  have hA : ∀ q, (ev_s E).heap.size ≤ q → ev_A E q := fun q h => by rw [zT.2]; exact Or.inr h
  obtain ⟨hn, hm, hsh, hki, hop, hfa, hK, hG, hT, vki, vop, vfa, vK, vG, vT⟩ := id hw
  have h2n : 2 ^ n ≤ 2 ^ 7 := Nat.pow_le_pow_right (by decide) hn
  show VV E 0 0 0 [(0, .ref r0), (1, .int k), (2, .int z), (3, .int w)] [] [(r0, .inr (5, [.int (nI n), .ref k1, .ref k2, .ref k3, .ref k4, .int (nI m), .ref k6, .ref k7, .ref k8, .int (nI 0), .ref k10, .int (nI 0), .ref k12, .ref k13, .ref k14, .ref k15, .ref k16, .int (nI ls), .int (nI ap), .int (bz bd), .int (nI sq), .ref k21, .ref k22, .ref k23, .ref k24, .ref k25, .int (bz pd), .int (nI pl), .int (bz tk), kv, .ref k30, .ref k31, .int (nI tz), .ref k33, .int (nI rs), .int sd])), (k1, .inl (cI, 7, .inl (nIf ki))), (k2, .inl (cI, 7, .inl (nIf op))), (k3, .inl (cI, 7, .inl (nIf (shF sh)))), (k4, .inl (cI, 7, .inl (nIf fa))), (k6, .inl (cI, 6, .inl (nIf K))), (k7, .inl (cI, 6, .inl (nIf G))), (k8, .inl (cI, 6, .inl (nIf T))), (k12, .inl (cI, 7, .inl (nIf kw))), (k13, .inl (cI, 175, .inl (nIf kn))), (k14, .inl (cI, 144, .inl (mIf M))), (k15, .inl (cI, 7, .inl (nIf mw))), (k24, .inl (cI, 48, .inl (nIf kp))), (k10, .inl (cI, 7, .inl (nIf R)))]
  refine v_al_n 1 zC dX5_lots_0 0 rfl ?_
  refine v_ic (v := (nI 0)) 2 zC dX5_lots_1 (by decide +kernel) ?_
  refine v_pf (ws2 := [(r0, .inr (5, [.int (nI n), .ref k1, .ref k2, .ref k3, .ref k4, .int (nI m), .ref k6, .ref k7, .ref k8, .int (nI 0), .ref k10, .int (nI 0), .ref k12, .ref k13, .ref k14, .ref k15, .ref k16, .int (nI ls), .int (nI ap), .int (bz bd), .int (nI sq), .ref k21, .ref k22, .ref k23, .ref k24, .ref k25, .int (bz pd), .int (nI pl), .int (bz tk), kv, .ref k30, .ref k31, .int (nI tz), .ref k33, .int (nI rs), .int sd])), (k1, .inl (cI, 7, .inl (nIf ki))), (k2, .inl (cI, 7, .inl (nIf op))), (k3, .inl (cI, 7, .inl (nIf (shF sh)))), (k4, .inl (cI, 7, .inl (nIf fa))), (k6, .inl (cI, 6, .inl (nIf K))), (k7, .inl (cI, 6, .inl (nIf G))), (k8, .inl (cI, 6, .inl (nIf T))), (k12, .inl (cI, 7, .inl (nIf kw))), (k13, .inl (cI, 175, .inl (nIf kn))), (k14, .inl (cI, 144, .inl (mIf M))), (k15, .inl (cI, 7, .inl (nIf mw))), (k24, .inl (cI, 48, .inl (nIf kp))), (k10, .inl (cI, 7, .inl (nIf R)))]) 5 0 zC dX5_lots_2 pf_X5_73 rfl (Nat.le_of_ble_eq_true rfl) rfl rfl rfl ?_
  refine v_il_n 6 zC dX5_lots_5 1 rfl ?_
  refine v_ic (v := (nI 1)) 7 zC dX5_lots_6 (by decide +kernel) ?_
  refine v_bp (v := (nI 20)) 9 zC dX5_lots_7 (by decide +kernel) ?_
  refine v_cS (As := [.int k, .int (nI 1), .int (nI 20)]) (st := []) 12 [] zC dX5_lots_9 hA (c_X5_wrongNumber (ev_l E) (ev_D E) cI (v := k) (a := 1) (b := 20) (ha := (by first | omega | assumption | rfl | (simp only []; omega) | decide)) (hb := (by first | omega | assumption | rfl | (simp only []; omega) | decide))) cf_X5_wrongNumber lk_X5_213 rfl rfl rfl (by decide +kernel) (Nat.le_of_ble_eq_true rfl) (fun rv_1 wv_2 hp_3 hm_4 => ?_)
  clear hm_4
  rcases hp_3 with ⟨hq_5, rfl, rfl⟩ | ⟨hq_6, hq2_7, rfl, rfl⟩ | ⟨j_8, he_9, h1_10, h2_11, rfl, rfl⟩
  ·
    show VV E 0 0 12 [(0, .ref r0), (1, .int k), (2, .int z), (3, .int w)] [.int (-4)] [(r0, .inr (5, [.int (nI n), .ref k1, .ref k2, .ref k3, .ref k4, .int (nI m), .ref k6, .ref k7, .ref k8, .int (nI 0), .ref k10, .int (nI 0), .ref k12, .ref k13, .ref k14, .ref k15, .ref k16, .int (nI ls), .int (nI ap), .int (bz bd), .int (nI sq), .ref k21, .ref k22, .ref k23, .ref k24, .ref k25, .int (bz pd), .int (nI pl), .int (bz tk), kv, .ref k30, .ref k31, .int (nI tz), .ref k33, .int (nI rs), .int sd])), (k1, .inl (cI, 7, .inl (nIf ki))), (k2, .inl (cI, 7, .inl (nIf op))), (k3, .inl (cI, 7, .inl (nIf (shF sh)))), (k4, .inl (cI, 7, .inl (nIf fa))), (k6, .inl (cI, 6, .inl (nIf K))), (k7, .inl (cI, 6, .inl (nIf G))), (k8, .inl (cI, 6, .inl (nIf T))), (k12, .inl (cI, 7, .inl (nIf kw))), (k13, .inl (cI, 175, .inl (nIf kn))), (k14, .inl (cI, 144, .inl (mIf M))), (k15, .inl (cI, 7, .inl (nIf mw))), (k24, .inl (cI, 48, .inl (nIf kp))), (k10, .inl (cI, 7, .inl (nIf R)))]
    have hlt_k : k < nI 1 := hq_5
    refine v_il_n 13 zC dX5_lots_12 3 rfl ?_
    refine v_ic (v := (nI 1)) 14 zC dX5_lots_13 (by decide +kernel) ?_
    refine v_cS (As := [.int (-4), .int w, .int (nI 1)]) (st := []) 17 [] zC dX5_lots_14 hA (c_X5_wrongBit__N (ev_l E) (ev_D E) cI (w := (-4)) (v := w) (k := 1) (hw0 := (by decide))) cf_X5_wrongBit lk_X5_248 rfl rfl rfl (by decide +kernel) (Nat.le_of_ble_eq_true rfl) (fun rv_12 wv_13 hp_14 hm_15 => ?_)
    clear hm_15
    obtain ⟨rfl, rfl⟩ := hp_14
    show VV E 0 0 17 [(0, .ref r0), (1, .int k), (2, .int z), (3, .int w)] [.int (-4)] [(r0, .inr (5, [.int (nI n), .ref k1, .ref k2, .ref k3, .ref k4, .int (nI m), .ref k6, .ref k7, .ref k8, .int (nI 0), .ref k10, .int (nI 0), .ref k12, .ref k13, .ref k14, .ref k15, .ref k16, .int (nI ls), .int (nI ap), .int (bz bd), .int (nI sq), .ref k21, .ref k22, .ref k23, .ref k24, .ref k25, .int (bz pd), .int (nI pl), .int (bz tk), kv, .ref k30, .ref k31, .int (nI tz), .ref k33, .int (nI rs), .int sd])), (k1, .inl (cI, 7, .inl (nIf ki))), (k2, .inl (cI, 7, .inl (nIf op))), (k3, .inl (cI, 7, .inl (nIf (shF sh)))), (k4, .inl (cI, 7, .inl (nIf fa))), (k6, .inl (cI, 6, .inl (nIf K))), (k7, .inl (cI, 6, .inl (nIf G))), (k8, .inl (cI, 6, .inl (nIf T))), (k12, .inl (cI, 7, .inl (nIf kw))), (k13, .inl (cI, 175, .inl (nIf kn))), (k14, .inl (cI, 144, .inl (mIf M))), (k15, .inl (cI, 7, .inl (nIf mw))), (k24, .inl (cI, 48, .inl (nIf kp))), (k10, .inl (cI, 7, .inl (nIf R)))]
    refine v_is (lv2 := [(4, .int (-4)), (0, .ref r0), (1, .int k), (2, .int z), (3, .int w)]) 19 zC dX5_lots_17 (by rw [hnE]; decide) rfl ?_
    refine v_il 21 zC dX5_lots_19 0 rfl ?_
    refine v_if_ge 31 24 zC dX5_lots_21 (fun z => absurd z (by decide +kernel)) (fun _ => ?_)
    refine v_al_n 25 zC dX5_lots_24 1 rfl ?_
    refine v_il 27 zC dX5_lots_25 0 rfl ?_
    refine v_cV (As := [.int (-4)]) (st := []) 30 0 [0, 13] zC dX5_lots_27 hA (c_X5_refuse (ev_l E) (ev_D E) cI (r0 := r0) (k1 := k1) (k2 := k2) (k3 := k3) (k4 := k4) (k6 := k6) (k7 := k7) (k8 := k8) (k10 := k10) (k12 := k12) (k13 := k13) (k14 := k14) (k15 := k15) (k16 := k16) (k21 := k21) (k22 := k22) (k23 := k23) (k24 := k24) (k25 := k25) (k30 := k30) (k31 := k31) (k33 := k33) (n := n) (m := m) (aw := 0) (ls := ls) (ap := ap) (sq := sq) (pl := pl) (tz := tz) (rs := rs) (bd := bd) (pd := pd) (tk := tk) (kv := kv) (sd := sd) (R := R) (v := (-4)) (j := 4) (hv := (by first | omega | assumption | rfl | (simp only []; omega) | decide)) (h1 := (by first | omega | assumption | rfl | (simp only []; omega) | decide)) (h6 := (by first | omega | assumption | rfl | (simp only []; omega) | decide))) cf_X5_refuse lk_X5_129 rfl rfl rfl rfl rfl (by decide +kernel) (Nat.le_of_ble_eq_true rfl) (fun rv_17 wv_18 hp_19 hm_20 => ?_)
    clear hm_20
    obtain ⟨rfl, rfl⟩ := hp_19
    show VV E 0 0 30 [(4, .int (-4)), (0, .ref r0), (1, .int k), (2, .int z), (3, .int w)] [.int (-4)] [(r0, .inr (5, [.int (nI n), .ref k1, .ref k2, .ref k3, .ref k4, .int (nI m), .ref k6, .ref k7, .ref k8, .int (nI 0), .ref k10, .int (nI 0), .ref k12, .ref k13, .ref k14, .ref k15, .ref k16, .int (nI ls), .int (nI ap), .int (bz bd), .int (nI sq), .ref k21, .ref k22, .ref k23, .ref k24, .ref k25, .int (bz pd), .int (nI pl), .int (bz tk), kv, .ref k30, .ref k31, .int (nI tz), .ref k33, .int (nI rs), .int sd])), (k1, .inl (cI, 7, .inl (nIf ki))), (k2, .inl (cI, 7, .inl (nIf op))), (k3, .inl (cI, 7, .inl (nIf (shF sh)))), (k4, .inl (cI, 7, .inl (nIf fa))), (k6, .inl (cI, 6, .inl (nIf K))), (k7, .inl (cI, 6, .inl (nIf G))), (k8, .inl (cI, 6, .inl (nIf T))), (k12, .inl (cI, 7, .inl (nIf kw))), (k13, .inl (cI, 175, .inl (nIf kn))), (k14, .inl (cI, 144, .inl (mIf M))), (k15, .inl (cI, 7, .inl (nIf mw))), (k24, .inl (cI, 48, .inl (nIf kp))), (k10, .inl (cI, 7, .inl (nIf (un R 4 (R 4 + 1)))))]
    refine v_iret zC zT dX5_lots_30  ?_
    first | (have g9 := hlt_k; exact ⟨kw, kn, M, mw, kp, pl, tk, kv, sd, 4, _, by unfold q_lots; rw [if_pos hlt_k], hkw, hkn, hM, rfl, rfl⟩) | (have g9 := hgt_k; exact ⟨kw, kn, M, mw, kp, pl, tk, kv, sd, 6, _, by unfold q_lots; rw [if_neg hge_k, if_pos hgt_k], hkw, hkn, hM, rfl, rfl⟩) | (have g9 := hn_w; exact ⟨kw, kn, M, mw, kp, pl, tk, kv, sd, 2, _, by unfold q_lots; rw [if_neg hge_k, if_neg hle_k, hn_w], hkw, hkn, hM, rfl, rfl⟩) | exact ⟨_, _, _, _, _, _, _, _, _, 0, _, by unfold q_lots; rw [if_neg hge_k, if_neg hle_k, hi_w]; dsimp only; rw [nI_clamp (show jk < 2 ^ 31 by omega)]; unfold LOT; rw [show jk = i by omega, show g_op (n, m, sh, 0, ki, op, fa, K, G, T) = op from rfl, ← hs]; first | rw [if_pos (by assumption)] | rw [if_neg (by assumption)], hkw2, hkn2, hM2, rfl, rfl⟩
  ·
    show VV E 0 0 12 [(0, .ref r0), (1, .int k), (2, .int z), (3, .int w)] [.int (-6)] [(r0, .inr (5, [.int (nI n), .ref k1, .ref k2, .ref k3, .ref k4, .int (nI m), .ref k6, .ref k7, .ref k8, .int (nI 0), .ref k10, .int (nI 0), .ref k12, .ref k13, .ref k14, .ref k15, .ref k16, .int (nI ls), .int (nI ap), .int (bz bd), .int (nI sq), .ref k21, .ref k22, .ref k23, .ref k24, .ref k25, .int (bz pd), .int (nI pl), .int (bz tk), kv, .ref k30, .ref k31, .int (nI tz), .ref k33, .int (nI rs), .int sd])), (k1, .inl (cI, 7, .inl (nIf ki))), (k2, .inl (cI, 7, .inl (nIf op))), (k3, .inl (cI, 7, .inl (nIf (shF sh)))), (k4, .inl (cI, 7, .inl (nIf fa))), (k6, .inl (cI, 6, .inl (nIf K))), (k7, .inl (cI, 6, .inl (nIf G))), (k8, .inl (cI, 6, .inl (nIf T))), (k12, .inl (cI, 7, .inl (nIf kw))), (k13, .inl (cI, 175, .inl (nIf kn))), (k14, .inl (cI, 144, .inl (mIf M))), (k15, .inl (cI, 7, .inl (nIf mw))), (k24, .inl (cI, 48, .inl (nIf kp))), (k10, .inl (cI, 7, .inl (nIf R)))]
    have hge_k := hq_6
    have hgt_k := hq2_7
    refine v_il_n 13 zC dX5_lots_12 3 rfl ?_
    refine v_ic (v := (nI 1)) 14 zC dX5_lots_13 (by decide +kernel) ?_
    refine v_cS (As := [.int (-6), .int w, .int (nI 1)]) (st := []) 17 [] zC dX5_lots_14 hA (c_X5_wrongBit__N (ev_l E) (ev_D E) cI (w := (-6)) (v := w) (k := 1) (hw0 := (by decide))) cf_X5_wrongBit lk_X5_248 rfl rfl rfl (by decide +kernel) (Nat.le_of_ble_eq_true rfl) (fun rv_21 wv_22 hp_23 hm_24 => ?_)
    clear hm_24
    obtain ⟨rfl, rfl⟩ := hp_23
    show VV E 0 0 17 [(0, .ref r0), (1, .int k), (2, .int z), (3, .int w)] [.int (-6)] [(r0, .inr (5, [.int (nI n), .ref k1, .ref k2, .ref k3, .ref k4, .int (nI m), .ref k6, .ref k7, .ref k8, .int (nI 0), .ref k10, .int (nI 0), .ref k12, .ref k13, .ref k14, .ref k15, .ref k16, .int (nI ls), .int (nI ap), .int (bz bd), .int (nI sq), .ref k21, .ref k22, .ref k23, .ref k24, .ref k25, .int (bz pd), .int (nI pl), .int (bz tk), kv, .ref k30, .ref k31, .int (nI tz), .ref k33, .int (nI rs), .int sd])), (k1, .inl (cI, 7, .inl (nIf ki))), (k2, .inl (cI, 7, .inl (nIf op))), (k3, .inl (cI, 7, .inl (nIf (shF sh)))), (k4, .inl (cI, 7, .inl (nIf fa))), (k6, .inl (cI, 6, .inl (nIf K))), (k7, .inl (cI, 6, .inl (nIf G))), (k8, .inl (cI, 6, .inl (nIf T))), (k12, .inl (cI, 7, .inl (nIf kw))), (k13, .inl (cI, 175, .inl (nIf kn))), (k14, .inl (cI, 144, .inl (mIf M))), (k15, .inl (cI, 7, .inl (nIf mw))), (k24, .inl (cI, 48, .inl (nIf kp))), (k10, .inl (cI, 7, .inl (nIf R)))]
    refine v_is (lv2 := [(4, .int (-6)), (0, .ref r0), (1, .int k), (2, .int z), (3, .int w)]) 19 zC dX5_lots_17 (by rw [hnE]; decide) rfl ?_
    refine v_il 21 zC dX5_lots_19 0 rfl ?_
    refine v_if_ge 31 24 zC dX5_lots_21 (fun z => absurd z (by decide +kernel)) (fun _ => ?_)
    refine v_al_n 25 zC dX5_lots_24 1 rfl ?_
    refine v_il 27 zC dX5_lots_25 0 rfl ?_
    refine v_cV (As := [.int (-6)]) (st := []) 30 0 [0, 13] zC dX5_lots_27 hA (c_X5_refuse (ev_l E) (ev_D E) cI (r0 := r0) (k1 := k1) (k2 := k2) (k3 := k3) (k4 := k4) (k6 := k6) (k7 := k7) (k8 := k8) (k10 := k10) (k12 := k12) (k13 := k13) (k14 := k14) (k15 := k15) (k16 := k16) (k21 := k21) (k22 := k22) (k23 := k23) (k24 := k24) (k25 := k25) (k30 := k30) (k31 := k31) (k33 := k33) (n := n) (m := m) (aw := 0) (ls := ls) (ap := ap) (sq := sq) (pl := pl) (tz := tz) (rs := rs) (bd := bd) (pd := pd) (tk := tk) (kv := kv) (sd := sd) (R := R) (v := (-6)) (j := 6) (hv := (by first | omega | assumption | rfl | (simp only []; omega) | decide)) (h1 := (by first | omega | assumption | rfl | (simp only []; omega) | decide)) (h6 := (by first | omega | assumption | rfl | (simp only []; omega) | decide))) cf_X5_refuse lk_X5_129 rfl rfl rfl rfl rfl (by decide +kernel) (Nat.le_of_ble_eq_true rfl) (fun rv_26 wv_27 hp_28 hm_29 => ?_)
    clear hm_29
    obtain ⟨rfl, rfl⟩ := hp_28
    show VV E 0 0 30 [(4, .int (-6)), (0, .ref r0), (1, .int k), (2, .int z), (3, .int w)] [.int (-6)] [(r0, .inr (5, [.int (nI n), .ref k1, .ref k2, .ref k3, .ref k4, .int (nI m), .ref k6, .ref k7, .ref k8, .int (nI 0), .ref k10, .int (nI 0), .ref k12, .ref k13, .ref k14, .ref k15, .ref k16, .int (nI ls), .int (nI ap), .int (bz bd), .int (nI sq), .ref k21, .ref k22, .ref k23, .ref k24, .ref k25, .int (bz pd), .int (nI pl), .int (bz tk), kv, .ref k30, .ref k31, .int (nI tz), .ref k33, .int (nI rs), .int sd])), (k1, .inl (cI, 7, .inl (nIf ki))), (k2, .inl (cI, 7, .inl (nIf op))), (k3, .inl (cI, 7, .inl (nIf (shF sh)))), (k4, .inl (cI, 7, .inl (nIf fa))), (k6, .inl (cI, 6, .inl (nIf K))), (k7, .inl (cI, 6, .inl (nIf G))), (k8, .inl (cI, 6, .inl (nIf T))), (k12, .inl (cI, 7, .inl (nIf kw))), (k13, .inl (cI, 175, .inl (nIf kn))), (k14, .inl (cI, 144, .inl (mIf M))), (k15, .inl (cI, 7, .inl (nIf mw))), (k24, .inl (cI, 48, .inl (nIf kp))), (k10, .inl (cI, 7, .inl (nIf (un R 6 (R 6 + 1)))))]
    refine v_iret zC zT dX5_lots_30  ?_
    first | (have g9 := hlt_k; exact ⟨kw, kn, M, mw, kp, pl, tk, kv, sd, 4, _, by unfold q_lots; rw [if_pos hlt_k], hkw, hkn, hM, rfl, rfl⟩) | (have g9 := hgt_k; exact ⟨kw, kn, M, mw, kp, pl, tk, kv, sd, 6, _, by unfold q_lots; rw [if_neg hge_k, if_pos hgt_k], hkw, hkn, hM, rfl, rfl⟩) | (have g9 := hn_w; exact ⟨kw, kn, M, mw, kp, pl, tk, kv, sd, 2, _, by unfold q_lots; rw [if_neg hge_k, if_neg hle_k, hn_w], hkw, hkn, hM, rfl, rfl⟩) | exact ⟨_, _, _, _, _, _, _, _, _, 0, _, by unfold q_lots; rw [if_neg hge_k, if_neg hle_k, hi_w]; dsimp only; rw [nI_clamp (show jk < 2 ^ 31 by omega)]; unfold LOT; rw [show jk = i by omega, show g_op (n, m, sh, 0, ki, op, fa, K, G, T) = op from rfl, ← hs]; first | rw [if_pos (by assumption)] | rw [if_neg (by assumption)], hkw2, hkn2, hM2, rfl, rfl⟩
  ·
    show VV E 0 0 12 [(0, .ref r0), (1, .int k), (2, .int z), (3, .int w)] [.int (nI 0)] [(r0, .inr (5, [.int (nI n), .ref k1, .ref k2, .ref k3, .ref k4, .int (nI m), .ref k6, .ref k7, .ref k8, .int (nI 0), .ref k10, .int (nI 0), .ref k12, .ref k13, .ref k14, .ref k15, .ref k16, .int (nI ls), .int (nI ap), .int (bz bd), .int (nI sq), .ref k21, .ref k22, .ref k23, .ref k24, .ref k25, .int (bz pd), .int (nI pl), .int (bz tk), kv, .ref k30, .ref k31, .int (nI tz), .ref k33, .int (nI rs), .int sd])), (k1, .inl (cI, 7, .inl (nIf ki))), (k2, .inl (cI, 7, .inl (nIf op))), (k3, .inl (cI, 7, .inl (nIf (shF sh)))), (k4, .inl (cI, 7, .inl (nIf fa))), (k6, .inl (cI, 6, .inl (nIf K))), (k7, .inl (cI, 6, .inl (nIf G))), (k8, .inl (cI, 6, .inl (nIf T))), (k12, .inl (cI, 7, .inl (nIf kw))), (k13, .inl (cI, 175, .inl (nIf kn))), (k14, .inl (cI, 144, .inl (mIf M))), (k15, .inl (cI, 7, .inl (nIf mw))), (k24, .inl (cI, 48, .inl (nIf kp))), (k10, .inl (cI, 7, .inl (nIf R)))]
    have hge_k : ¬ k < nI 1 := by rw [he_9]; exact nI_nlt h1_10 (by omega)
    have hle_k : ¬ nI 20 < k := by rw [he_9]; exact nI_nlt h2_11 (by omega)
    subst he_9
    obtain ⟨jk, he_jk⟩ : ∃ z, z = j_8 := ⟨_, rfl⟩
    subst he_jk
    have h1_k := h1_10
    have h2_k := h2_11
    refine v_il_n 13 zC dX5_lots_12 3 rfl ?_
    refine v_ic (v := (nI 1)) 14 zC dX5_lots_13 (by decide +kernel) ?_
    refine v_cS (As := [.int (nI 0), .int w, .int (nI 1)]) (st := []) 17 [] zC dX5_lots_14 hA (c_X5_wrongBit__Z (ev_l E) (ev_D E) cI (v := w) (k := 1) (hk := (by first | omega | assumption | rfl | (simp only []; omega) | decide))) cf_X5_wrongBit lk_X5_248 rfl rfl rfl (by decide +kernel) (Nat.le_of_ble_eq_true rfl) (fun rv_30 wv_31 hp_32 hm_33 => ?_)
    clear hm_33
    rcases hp_32 with ⟨hi_34, rfl, rfl⟩ | ⟨j_35, he_36, hi_37, hj_38, rfl, rfl⟩
    ·
      show VV E 0 0 17 [(0, .ref r0), (1, .int (nI jk)), (2, .int z), (3, .int w)] [.int (-2)] [(r0, .inr (5, [.int (nI n), .ref k1, .ref k2, .ref k3, .ref k4, .int (nI m), .ref k6, .ref k7, .ref k8, .int (nI 0), .ref k10, .int (nI 0), .ref k12, .ref k13, .ref k14, .ref k15, .ref k16, .int (nI ls), .int (nI ap), .int (bz bd), .int (nI sq), .ref k21, .ref k22, .ref k23, .ref k24, .ref k25, .int (bz pd), .int (nI pl), .int (bz tk), kv, .ref k30, .ref k31, .int (nI tz), .ref k33, .int (nI rs), .int sd])), (k1, .inl (cI, 7, .inl (nIf ki))), (k2, .inl (cI, 7, .inl (nIf op))), (k3, .inl (cI, 7, .inl (nIf (shF sh)))), (k4, .inl (cI, 7, .inl (nIf fa))), (k6, .inl (cI, 6, .inl (nIf K))), (k7, .inl (cI, 6, .inl (nIf G))), (k8, .inl (cI, 6, .inl (nIf T))), (k12, .inl (cI, 7, .inl (nIf kw))), (k13, .inl (cI, 175, .inl (nIf kn))), (k14, .inl (cI, 144, .inl (mIf M))), (k15, .inl (cI, 7, .inl (nIf mw))), (k24, .inl (cI, 48, .inl (nIf kp))), (k10, .inl (cI, 7, .inl (nIf R)))]
      have hn_w := hi_34
      refine v_is (lv2 := [(4, .int (-2)), (0, .ref r0), (1, .int (nI jk)), (2, .int z), (3, .int w)]) 19 zC dX5_lots_17 (by rw [hnE]; decide) rfl ?_
      refine v_il 21 zC dX5_lots_19 0 rfl ?_
      refine v_if_ge 31 24 zC dX5_lots_21 (fun z => absurd z (by decide +kernel)) (fun _ => ?_)
      refine v_al_n 25 zC dX5_lots_24 1 rfl ?_
      refine v_il 27 zC dX5_lots_25 0 rfl ?_
      refine v_cV (As := [.int (-2)]) (st := []) 30 0 [0, 13] zC dX5_lots_27 hA (c_X5_refuse (ev_l E) (ev_D E) cI (r0 := r0) (k1 := k1) (k2 := k2) (k3 := k3) (k4 := k4) (k6 := k6) (k7 := k7) (k8 := k8) (k10 := k10) (k12 := k12) (k13 := k13) (k14 := k14) (k15 := k15) (k16 := k16) (k21 := k21) (k22 := k22) (k23 := k23) (k24 := k24) (k25 := k25) (k30 := k30) (k31 := k31) (k33 := k33) (n := n) (m := m) (aw := 0) (ls := ls) (ap := ap) (sq := sq) (pl := pl) (tz := tz) (rs := rs) (bd := bd) (pd := pd) (tk := tk) (kv := kv) (sd := sd) (R := R) (v := (-2)) (j := 2) (hv := (by first | omega | assumption | rfl | (simp only []; omega) | decide)) (h1 := (by first | omega | assumption | rfl | (simp only []; omega) | decide)) (h6 := (by first | omega | assumption | rfl | (simp only []; omega) | decide))) cf_X5_refuse lk_X5_129 rfl rfl rfl rfl rfl (by decide +kernel) (Nat.le_of_ble_eq_true rfl) (fun rv_40 wv_41 hp_42 hm_43 => ?_)
      clear hm_43
      obtain ⟨rfl, rfl⟩ := hp_42
      show VV E 0 0 30 [(4, .int (-2)), (0, .ref r0), (1, .int (nI jk)), (2, .int z), (3, .int w)] [.int (-2)] [(r0, .inr (5, [.int (nI n), .ref k1, .ref k2, .ref k3, .ref k4, .int (nI m), .ref k6, .ref k7, .ref k8, .int (nI 0), .ref k10, .int (nI 0), .ref k12, .ref k13, .ref k14, .ref k15, .ref k16, .int (nI ls), .int (nI ap), .int (bz bd), .int (nI sq), .ref k21, .ref k22, .ref k23, .ref k24, .ref k25, .int (bz pd), .int (nI pl), .int (bz tk), kv, .ref k30, .ref k31, .int (nI tz), .ref k33, .int (nI rs), .int sd])), (k1, .inl (cI, 7, .inl (nIf ki))), (k2, .inl (cI, 7, .inl (nIf op))), (k3, .inl (cI, 7, .inl (nIf (shF sh)))), (k4, .inl (cI, 7, .inl (nIf fa))), (k6, .inl (cI, 6, .inl (nIf K))), (k7, .inl (cI, 6, .inl (nIf G))), (k8, .inl (cI, 6, .inl (nIf T))), (k12, .inl (cI, 7, .inl (nIf kw))), (k13, .inl (cI, 175, .inl (nIf kn))), (k14, .inl (cI, 144, .inl (mIf M))), (k15, .inl (cI, 7, .inl (nIf mw))), (k24, .inl (cI, 48, .inl (nIf kp))), (k10, .inl (cI, 7, .inl (nIf (un R 2 (R 2 + 1)))))]
      refine v_iret zC zT dX5_lots_30  ?_
      first | (have g9 := hlt_k; exact ⟨kw, kn, M, mw, kp, pl, tk, kv, sd, 4, _, by unfold q_lots; rw [if_pos hlt_k], hkw, hkn, hM, rfl, rfl⟩) | (have g9 := hgt_k; exact ⟨kw, kn, M, mw, kp, pl, tk, kv, sd, 6, _, by unfold q_lots; rw [if_neg hge_k, if_pos hgt_k], hkw, hkn, hM, rfl, rfl⟩) | (have g9 := hn_w; exact ⟨kw, kn, M, mw, kp, pl, tk, kv, sd, 2, _, by unfold q_lots; rw [if_neg hge_k, if_neg hle_k, hn_w], hkw, hkn, hM, rfl, rfl⟩) | exact ⟨_, _, _, _, _, _, _, _, _, 0, _, by unfold q_lots; rw [if_neg hge_k, if_neg hle_k, hi_w]; dsimp only; rw [nI_clamp (show jk < 2 ^ 31 by omega)]; unfold LOT; rw [show jk = i by omega, show g_op (n, m, sh, 0, ki, op, fa, K, G, T) = op from rfl, ← hs]; first | rw [if_pos (by assumption)] | rw [if_neg (by assumption)], hkw2, hkn2, hM2, rfl, rfl⟩
    ·
      show VV E 0 0 17 [(0, .ref r0), (1, .int (nI jk)), (2, .int z), (3, .int w)] [.int (nI 0)] [(r0, .inr (5, [.int (nI n), .ref k1, .ref k2, .ref k3, .ref k4, .int (nI m), .ref k6, .ref k7, .ref k8, .int (nI 0), .ref k10, .int (nI 0), .ref k12, .ref k13, .ref k14, .ref k15, .ref k16, .int (nI ls), .int (nI ap), .int (bz bd), .int (nI sq), .ref k21, .ref k22, .ref k23, .ref k24, .ref k25, .int (bz pd), .int (nI pl), .int (bz tk), kv, .ref k30, .ref k31, .int (nI tz), .ref k33, .int (nI rs), .int sd])), (k1, .inl (cI, 7, .inl (nIf ki))), (k2, .inl (cI, 7, .inl (nIf op))), (k3, .inl (cI, 7, .inl (nIf (shF sh)))), (k4, .inl (cI, 7, .inl (nIf fa))), (k6, .inl (cI, 6, .inl (nIf K))), (k7, .inl (cI, 6, .inl (nIf G))), (k8, .inl (cI, 6, .inl (nIf T))), (k12, .inl (cI, 7, .inl (nIf kw))), (k13, .inl (cI, 175, .inl (nIf kn))), (k14, .inl (cI, 144, .inl (mIf M))), (k15, .inl (cI, 7, .inl (nIf mw))), (k24, .inl (cI, 48, .inl (nIf kp))), (k10, .inl (cI, 7, .inl (nIf R)))]
      subst he_36
      have hi_w := hi_37
      obtain ⟨jw, hx_jw⟩ : ∃ z, z = j_35 := ⟨_, rfl⟩
      subst hx_jw
      refine v_is (lv2 := [(4, .int (nI 0)), (0, .ref r0), (1, .int (nI jk)), (2, .int z), (3, .int (nI jw))]) 19 zC dX5_lots_17 (by rw [hnE]; decide) rfl ?_
      refine v_il 21 zC dX5_lots_19 0 rfl ?_
      refine v_if_ge 31 24 zC dX5_lots_21 (fun _ => ?_) (fun z => absurd (by decide +kernel) z)
      refine v_al_n 32 zC dX5_lots_31 1 rfl ?_
      refine v_il_n 33 zC dX5_lots_32 3 rfl ?_
      refine v_pf (ws2 := [(r0, .inr (5, [.int (nI n), .ref k1, .ref k2, .ref k3, .ref k4, .int (nI m), .ref k6, .ref k7, .ref k8, .int (nI 0), .ref k10, .int (nI 0), .ref k12, .ref k13, .ref k14, .ref k15, .ref k16, .int (nI ls), .int (nI ap), .int (bz bd), .int (nI sq), .ref k21, .ref k22, .ref k23, .ref k24, .ref k25, .int (bz pd), .int (nI pl), .int (bz tk), kv, .ref k30, .ref k31, .int (nI tz), .ref k33, .int (nI rs), .int z])), (k1, .inl (cI, 7, .inl (nIf ki))), (k2, .inl (cI, 7, .inl (nIf op))), (k3, .inl (cI, 7, .inl (nIf (shF sh)))), (k4, .inl (cI, 7, .inl (nIf fa))), (k6, .inl (cI, 6, .inl (nIf K))), (k7, .inl (cI, 6, .inl (nIf G))), (k8, .inl (cI, 6, .inl (nIf T))), (k12, .inl (cI, 7, .inl (nIf kw))), (k13, .inl (cI, 175, .inl (nIf kn))), (k14, .inl (cI, 144, .inl (mIf M))), (k15, .inl (cI, 7, .inl (nIf mw))), (k24, .inl (cI, 48, .inl (nIf kp))), (k10, .inl (cI, 7, .inl (nIf R)))]) 36 0 zC dX5_lots_33 pf_X5_282 rfl (Nat.le_of_ble_eq_true rfl) rfl rfl rfl ?_
      refine v_ic (v := (nI 0)) 37 zC dX5_lots_36 (by decide +kernel) ?_
      refine v_is (lv2 := [(5, .int (nI 0)), (4, .int (nI 0)), (0, .ref r0), (1, .int (nI jk)), (2, .int z), (3, .int (nI jw))]) 39 zC dX5_lots_37 (by rw [hnE]; decide) rfl ?_
      refine v_ic (v := (nI 0)) 40 zC dX5_lots_39 (by decide +kernel) ?_
      refine v_is (lv2 := [(6, .int (nI 0)), (5, .int (nI 0)), (4, .int (nI 0)), (0, .ref r0), (1, .int (nI jk)), (2, .int z), (3, .int (nI jw))]) 42 zC dX5_lots_40 (by rw [hnE]; decide) rfl ?_
      refine v_al_n 43 zC dX5_lots_42 3 rfl ?_
      refine v_cV (As := []) (st := []) 46 0 [0, 1, 2, 3, 4, 5, 6, 7, 12] zC dX5_lots_43 hA (c_X5_think (ev_l E) (ev_D E) cI (r0 := r0) (k1 := k1) (k2 := k2) (k3 := k3) (k4 := k4) (k6 := k6) (k7 := k7) (k8 := k8) (k10 := k10) (k12 := k12) (k13 := k13) (k14 := k14) (k15 := k15) (k16 := k16) (k21 := k21) (k22 := k22) (k23 := k23) (k24 := k24) (k25 := k25) (k30 := k30) (k31 := k31) (k33 := k33) (n := n) (m := m) (aw := 0) (ls := ls) (ap := ap) (sq := sq) (pl := pl) (tz := tz) (rs := rs) (bd := bd) (pd := pd) (tk := tk) (kv := kv) (sd := z) (ki := ki) (op := op) (fa := fa) (K := K) (G := G) (T := T) (sh := sh) (kp := kp) ) cf_X5_think lk_X5_254 rfl rfl rfl rfl rfl (by decide +kernel) (Nat.le_of_ble_eq_true rfl) (fun rv_45 wv_46 hp_47 hm_48 => ?_)
      clear hm_48
      obtain ⟨kp1_49, hE_50, rfl, rfl⟩ := hp_47
      show VV E 0 0 46 [(6, .int (nI 0)), (5, .int (nI 0)), (4, .int (nI 0)), (0, .ref r0), (1, .int (nI jk)), (2, .int z), (3, .int (nI jw))] [] [(r0, .inr (5, [.int (nI n), .ref k1, .ref k2, .ref k3, .ref k4, .int (nI m), .ref k6, .ref k7, .ref k8, .int (nI 0), .ref k10, .int (nI 0), .ref k12, .ref k13, .ref k14, .ref k15, .ref k16, .int (nI ls), .int (nI ap), .int (bz bd), .int (nI sq), .ref k21, .ref k22, .ref k23, .ref k24, .ref k25, .int (bz pd), .int (nI 48), .int (bz true), .ref k24, .ref k30, .ref k31, .int (nI tz), .ref k33, .int (nI rs), .int z])), (k1, .inl (cI, 7, .inl (nIf ki))), (k2, .inl (cI, 7, .inl (nIf op))), (k3, .inl (cI, 7, .inl (nIf (shF sh)))), (k4, .inl (cI, 7, .inl (nIf fa))), (k6, .inl (cI, 6, .inl (nIf K))), (k7, .inl (cI, 6, .inl (nIf G))), (k8, .inl (cI, 6, .inl (nIf T))), (k12, .inl (cI, 7, .inl (nIf kw))), (k13, .inl (cI, 175, .inl (nIf kn))), (k14, .inl (cI, 144, .inl (mIf M))), (k15, .inl (cI, 7, .inl (nIf mw))), (k24, .inl (cI, 48, .inl (nIf kp1_49))), (k10, .inl (cI, 7, .inl (nIf R)))]
      have hE9 := hE_50
      refine v_ic (v := (nI 0)) 47 zC dX5_lots_46 (by decide +kernel) ?_
      refine v_is (lv2 := [(7, .int (nI 0)), (6, .int (nI 0)), (5, .int (nI 0)), (4, .int (nI 0)), (0, .ref r0), (1, .int (nI jk)), (2, .int z), (3, .int (nI jw))]) 49 zC dX5_lots_47 (by rw [hnE]; decide) rfl ?_
      have lp49 : ∀ (mz : Nat) (kw2 : Nat → Nat) (kn2 : Nat → Nat) (M2 : Nat → Option Nat) (mw2 : Nat → Nat) (sv : Int32) (O : Nat → Nat) (x : Nat) (y : Nat) (i : Nat), (∀ z, kw2 z < 1024) → (∀ z, kn2 z < 1024) → (∀ z v, M2 z = some v → v < 7) → ((sv, O, x, y) = it (lotS (n, m, sh, 0, ki, op, fa, K, G, T)) (z, op, 0, 0) i) → (∀ z, O z < 2 ^ 24) → (VZ 7 O) → (i ≤ jk) → (x ≤ 70 * i) → (y ≤ i) → jk - i = mz → VV E 0 0 49 [(7, .int (nI i)), (6, .int (nI y)), (5, .int (nI x)), (4, .int (nI 0)), (0, .ref r0), (1, .int (nI jk)), (2, .int z), (3, .int (nI jw))] [] [(r0, .inr (5, [.int (nI n), .ref k1, .ref k2, .ref k3, .ref k4, .int (nI m), .ref k6, .ref k7, .ref k8, .int (nI 0), .ref k10, .int (nI 0), .ref k12, .ref k13, .ref k14, .ref k15, .ref k16, .int (nI ls), .int (nI ap), .int (bz bd), .int (nI sq), .ref k21, .ref k22, .ref k23, .ref k24, .ref k25, .int (bz pd), .int (nI 48), .int (bz true), .ref k24, .ref k30, .ref k31, .int (nI tz), .ref k33, .int (nI rs), .int sv])), (k1, .inl (cI, 7, .inl (nIf ki))), (k2, .inl (cI, 7, .inl (nIf O))), (k3, .inl (cI, 7, .inl (nIf (shF sh)))), (k4, .inl (cI, 7, .inl (nIf fa))), (k6, .inl (cI, 6, .inl (nIf K))), (k7, .inl (cI, 6, .inl (nIf G))), (k8, .inl (cI, 6, .inl (nIf T))), (k12, .inl (cI, 7, .inl (nIf kw2))), (k13, .inl (cI, 175, .inl (nIf kn2))), (k14, .inl (cI, 144, .inl (mIf M2))), (k15, .inl (cI, 7, .inl (nIf mw2))), (k24, .inl (cI, 48, .inl (nIf kp1_49))), (k10, .inl (cI, 7, .inl (nIf R)))] := by
        intro mz
        induction mz using Nat.strongRecOn with
        | _ mz ih49 =>
        intro kw2 kn2 M2 mw2 sv O x y i hkw2 hkn2 hM2 hs hOb hOv hi hx hy hm49
        refine v_il 51 zC dX5_lots_49 0 rfl ?_
        refine v_il_n 52 zC dX5_lots_51 5 rfl ?_
        refine v_icmpn_ge 217 55 zC dX5_lots_52 (fun h_51 => ?_) (fun h_51 => ?_)
        ·
          refine v_al_n 218 zC dX5_lots_217 4 rfl ?_
          refine v_cV (As := []) (st := []) 221 0 [0, 1, 2, 3, 4, 5, 6, 7, 12] zC dX5_lots_218 hA (c_X5_again (ev_l E) (ev_D E) cI (r0 := r0) (k1 := k1) (k2 := k2) (k3 := k3) (k4 := k4) (k6 := k6) (k7 := k7) (k8 := k8) (k10 := k10) (k12 := k12) (k13 := k13) (k14 := k14) (k15 := k15) (k16 := k16) (k21 := k21) (k22 := k22) (k23 := k23) (k24 := k24) (k25 := k25) (k30 := k30) (k31 := k31) (k33 := k33) (n := n) (m := m) (aw := 0) (ls := ls) (ap := ap) (sq := sq) (pl := 48) (tz := tz) (rs := rs) (bd := bd) (pd := pd) (tk := true) (kv := (.ref k24 : Value)) (sd := sv) (ki := ki) (op := O) (fa := fa) (K := K) (G := G) (T := T) (sh := sh) (kp := kp1_49) (n1 := n) (m1 := m) (sh1 := sh) (aw1 := 0) (ki1 := ki) (op1 := op) (fa1 := fa) (K1 := K) (G1 := G) (T1 := T) (hw := ⟨hn, hm, hsh, hki, hOb, hfa, hK, hG, hT, vki, hOv, vfa, vK, vG, vT⟩) (hw1 := hw) (hE := hE9)) cf_X5_again lk_X5_260 rfl rfl rfl rfl rfl (by decide +kernel) (Nat.le_of_ble_eq_true rfl) (fun rv_52 wv_53 hp_54 hm_55 => ?_)
          clear hm_55
          obtain ⟨rfl, rfl⟩ := hp_54
          show VV E 0 0 221 [(7, .int (nI i)), (6, .int (nI y)), (5, .int (nI x)), (4, .int (nI 0)), (0, .ref r0), (1, .int (nI jk)), (2, .int z), (3, .int (nI jw))] [] [(r0, .inr (5, [.int (nI n), .ref k1, .ref k2, .ref k3, .ref k4, .int (nI m), .ref k6, .ref k7, .ref k8, .int (nI 0), .ref k10, .int (nI 0), .ref k12, .ref k13, .ref k14, .ref k15, .ref k16, .int (nI ls), .int (nI ap), .int (bz bd), .int (nI sq), .ref k21, .ref k22, .ref k23, .ref k24, .ref k25, .int (bz pd), .int (nI 48), .int (bz false), .ref k24, .ref k30, .ref k31, .int (nI tz), .ref k33, .int (nI rs), .int sv])), (k1, .inl (cI, 7, .inl (nIf ki))), (k2, .inl (cI, 7, .inl (nIf op))), (k3, .inl (cI, 7, .inl (nIf (shF sh)))), (k4, .inl (cI, 7, .inl (nIf fa))), (k6, .inl (cI, 6, .inl (nIf K))), (k7, .inl (cI, 6, .inl (nIf G))), (k8, .inl (cI, 6, .inl (nIf T))), (k12, .inl (cI, 7, .inl (nIf kw2))), (k13, .inl (cI, 175, .inl (nIf kn2))), (k14, .inl (cI, 144, .inl (mIf M2))), (k15, .inl (cI, 7, .inl (nIf mw2))), (k24, .inl (cI, 48, .inl (nIf kp1_49))), (k10, .inl (cI, 7, .inl (nIf R)))]
          refine v_il_n 222 zC dX5_lots_221 7 rfl ?_
          refine v_ifn_ne 230 225 zC dX5_lots_222 (fun h_56 => ?_) (fun h_56 => ?_)
          ·
            refine v_il 232 zC dX5_lots_230 1 rfl ?_
            refine v_iret zC zT dX5_lots_232  ?_
            first | (have g9 := hlt_k; exact ⟨kw, kn, M, mw, kp, pl, tk, kv, sd, 4, _, by unfold q_lots; rw [if_pos hlt_k], hkw, hkn, hM, rfl, rfl⟩) | (have g9 := hgt_k; exact ⟨kw, kn, M, mw, kp, pl, tk, kv, sd, 6, _, by unfold q_lots; rw [if_neg hge_k, if_pos hgt_k], hkw, hkn, hM, rfl, rfl⟩) | (have g9 := hn_w; exact ⟨kw, kn, M, mw, kp, pl, tk, kv, sd, 2, _, by unfold q_lots; rw [if_neg hge_k, if_neg hle_k, hn_w], hkw, hkn, hM, rfl, rfl⟩) | exact ⟨_, _, _, _, _, _, _, _, _, 0, _, by unfold q_lots; rw [if_neg hge_k, if_neg hle_k, hi_w]; dsimp only; rw [nI_clamp (show jk < 2 ^ 31 by omega)]; unfold LOT; rw [show jk = i by omega, show g_op (n, m, sh, 0, ki, op, fa, K, G, T) = op from rfl, ← hs]; first | rw [if_pos (by assumption)] | rw [if_neg (by assumption)], hkw2, hkn2, hM2, rfl, rfl⟩
          ·
            refine v_il 227 zC dX5_lots_225 2 rfl ?_
            refine v_goto 232 zC dX5_lots_227 ?_
            refine v_iret zC zT dX5_lots_232  ?_
            first | (have g9 := hlt_k; exact ⟨kw, kn, M, mw, kp, pl, tk, kv, sd, 4, _, by unfold q_lots; rw [if_pos hlt_k], hkw, hkn, hM, rfl, rfl⟩) | (have g9 := hgt_k; exact ⟨kw, kn, M, mw, kp, pl, tk, kv, sd, 6, _, by unfold q_lots; rw [if_neg hge_k, if_pos hgt_k], hkw, hkn, hM, rfl, rfl⟩) | (have g9 := hn_w; exact ⟨kw, kn, M, mw, kp, pl, tk, kv, sd, 2, _, by unfold q_lots; rw [if_neg hge_k, if_neg hle_k, hn_w], hkw, hkn, hM, rfl, rfl⟩) | exact ⟨_, _, _, _, _, _, _, _, _, 0, _, by unfold q_lots; rw [if_neg hge_k, if_neg hle_k, hi_w]; dsimp only; rw [nI_clamp (show jk < 2 ^ 31 by omega)]; unfold LOT; rw [show jk = i by omega, show g_op (n, m, sh, 0, ki, op, fa, K, G, T) = op from rfl, ← hs]; first | rw [if_pos (by assumption)] | rw [if_neg (by assumption)], hkw2, hkn2, hM2, rfl, rfl⟩
        ·
          refine v_ic (v := (nI 0)) 56 zC dX5_lots_55 (by decide +kernel) ?_
          refine v_is (lv2 := [(8, .int (nI 0)), (7, .int (nI i)), (6, .int (nI y)), (5, .int (nI x)), (4, .int (nI 0)), (0, .ref r0), (1, .int (nI jk)), (2, .int z), (3, .int (nI jw))]) 58 zC dX5_lots_56 (by rw [hnE]; decide) rfl ?_
          have lp58 : ∀ (mz : Nat) (s2 : Int32) (O2 : Nat → Nat) (p : Nat), ((s2, O2) = it lotP (sv, O) p) → (∀ z, O2 z < 2 ^ 24) → (VZ 7 O2) → (p ≤ n) → n - p = mz → VV E 0 0 58 [(8, .int (nI p)), (7, .int (nI i)), (6, .int (nI y)), (5, .int (nI x)), (4, .int (nI 0)), (0, .ref r0), (1, .int (nI jk)), (2, .int z), (3, .int (nI jw))] [] [(r0, .inr (5, [.int (nI n), .ref k1, .ref k2, .ref k3, .ref k4, .int (nI m), .ref k6, .ref k7, .ref k8, .int (nI 0), .ref k10, .int (nI 0), .ref k12, .ref k13, .ref k14, .ref k15, .ref k16, .int (nI ls), .int (nI ap), .int (bz bd), .int (nI sq), .ref k21, .ref k22, .ref k23, .ref k24, .ref k25, .int (bz pd), .int (nI 48), .int (bz true), .ref k24, .ref k30, .ref k31, .int (nI tz), .ref k33, .int (nI rs), .int s2])), (k1, .inl (cI, 7, .inl (nIf ki))), (k2, .inl (cI, 7, .inl (nIf O2))), (k3, .inl (cI, 7, .inl (nIf (shF sh)))), (k4, .inl (cI, 7, .inl (nIf fa))), (k6, .inl (cI, 6, .inl (nIf K))), (k7, .inl (cI, 6, .inl (nIf G))), (k8, .inl (cI, 6, .inl (nIf T))), (k12, .inl (cI, 7, .inl (nIf kw2))), (k13, .inl (cI, 175, .inl (nIf kn2))), (k14, .inl (cI, 144, .inl (mIf M2))), (k15, .inl (cI, 7, .inl (nIf mw2))), (k24, .inl (cI, 48, .inl (nIf kp1_49))), (k10, .inl (cI, 7, .inl (nIf R)))] := by
            intro mz
            induction mz using Nat.strongRecOn with
            | _ mz ih58 =>
            intro s2 O2 p hp2 hO2b hO2v hp hm58
            refine v_il 60 zC dX5_lots_58 0 rfl ?_
            refine v_al_n 61 zC dX5_lots_60 5 rfl ?_
            refine v_gf 64 0 zC dX5_lots_61 gf_X5_77 rfl rfl ?_
            refine v_icmpn_ge 141 67 zC dX5_lots_64 (fun h_57 => ?_) (fun h_57 => ?_)
            ·
              refine v_il 143 zC dX5_lots_141 3 rfl ?_
              have hp9 : (s2, O2) = it lotP (sv, O) (g_n (n, m, sh, 0, ki, op, fa, K, G, T)) := by rw [show g_n (n, m, sh, 0, ki, op, fa, K, G, T) = p from (by show n = p; omega)]; exact hp2
              refine v_al_n 144 zC dX5_lots_143 5 rfl ?_
              refine v_cV (As := []) (st := [.int (nI x)]) 147 0 [0, 1, 2, 3, 4, 5, 6, 7, 8, 9, 10, 11] zC dX5_lots_144 hA (c_X5_allNow (ev_l E) (ev_D E) cI (r0 := r0) (k1 := k1) (k2 := k2) (k3 := k3) (k4 := k4) (k6 := k6) (k7 := k7) (k8 := k8) (k10 := k10) (k12 := k12) (k13 := k13) (k14 := k14) (k15 := k15) (k16 := k16) (k21 := k21) (k22 := k22) (k23 := k23) (k24 := k24) (k25 := k25) (k30 := k30) (k31 := k31) (k33 := k33) (n := n) (m := m) (aw := 0) (ls := ls) (ap := ap) (sq := sq) (pl := 48) (tz := tz) (rs := rs) (bd := bd) (pd := pd) (tk := true) (kv := (.ref k24 : Value)) (sd := s2) (ki := ki) (op := O2) (fa := fa) (K := K) (G := G) (T := T) (sh := sh) (kw := kw2) (kn := kn2) (M := M2) (mw := mw2) (hw := ⟨hn, hm, hsh, hki, hO2b, hfa, hK, hG, hT, vki, hO2v, vfa, vK, vG, vT⟩) (hkw := hkw2) (hkn := hkn2) (hM := hM2)) cf_X5_allNow lk_X5_245 rfl rfl rfl rfl rfl (by decide +kernel) (Nat.le_of_ble_eq_true rfl) (fun rv_58 wv_59 hp_60 hm_61 => ?_)
              clear hm_61
              obtain ⟨kw1_62, kn1_63, M1_64, mw1_65, hR_66, hl_67, rfl, rfl⟩ := hp_60
              show VV E 0 0 147 [(8, .int (nI p)), (7, .int (nI i)), (6, .int (nI y)), (5, .int (nI x)), (4, .int (nI 0)), (0, .ref r0), (1, .int (nI jk)), (2, .int z), (3, .int (nI jw))] [.int (nI (ALL (n, m, sh, 0, ki, O2, fa, K, G, T))), .int (nI x)] [(r0, .inr (5, [.int (nI n), .ref k1, .ref k2, .ref k3, .ref k4, .int (nI m), .ref k6, .ref k7, .ref k8, .int (nI 0), .ref k10, .int (nI 0), .ref k12, .ref k13, .ref k14, .ref k15, .ref k16, .int (nI ls), .int (nI ap), .int (bz bd), .int (nI sq), .ref k21, .ref k22, .ref k23, .ref k24, .ref k25, .int (bz pd), .int (nI 48), .int (bz true), .ref k24, .ref k30, .ref k31, .int (nI tz), .ref k33, .int (nI rs), .int s2])), (k1, .inl (cI, 7, .inl (nIf ki))), (k2, .inl (cI, 7, .inl (nIf O2))), (k3, .inl (cI, 7, .inl (nIf (shF sh)))), (k4, .inl (cI, 7, .inl (nIf fa))), (k6, .inl (cI, 6, .inl (nIf K))), (k7, .inl (cI, 6, .inl (nIf G))), (k8, .inl (cI, 6, .inl (nIf T))), (k12, .inl (cI, 7, .inl (nIf kw1_62))), (k13, .inl (cI, 175, .inl (nIf kn1_63))), (k14, .inl (cI, 144, .inl (mIf M1_64))), (k15, .inl (cI, 7, .inl (nIf mw1_65))), (k24, .inl (cI, 48, .inl (nIf kp1_49))), (k10, .inl (cI, 7, .inl (nIf R)))]
              have hR9 := hR_66
              have hl9 := hl_67
              refine v_iadd (v := (nI (x + (ALL (n, m, sh, 0, ki, O2, fa, K, G, T))))) 148 zC dX5_lots_147 (nI_add _ _) ?_
              refine v_is (lv2 := [(5, .int (nI (x + (ALL (n, m, sh, 0, ki, O2, fa, K, G, T))))), (8, .int (nI p)), (7, .int (nI i)), (6, .int (nI y)), (4, .int (nI 0)), (0, .ref r0), (1, .int (nI jk)), (2, .int z), (3, .int (nI jw))]) 150 zC dX5_lots_148 (by rw [hnE]; decide) rfl ?_
              refine v_al_n 151 zC dX5_lots_150 5 rfl ?_
              refine v_gf 154 0 zC dX5_lots_151 gf_X5_77 rfl rfl ?_
              refine v_ifn_ne 161 157 zC dX5_lots_154 (fun h_68 => ?_) (fun h_68 => ?_)
              ·
                refine v_sp (v := (nI 1023)) 164 zC dX5_lots_161 (by decide +kernel) ?_
                refine v_is (lv2 := [(8, .int (nI 1023)), (5, .int (nI (x + (ALL (n, m, sh, 0, ki, O2, fa, K, G, T))))), (7, .int (nI i)), (6, .int (nI y)), (4, .int (nI 0)), (0, .ref r0), (1, .int (nI jk)), (2, .int z), (3, .int (nI jw))]) 166 zC dX5_lots_164 (by rw [hnE]; decide) rfl ?_
                refine v_ic (v := (nI 0)) 167 zC dX5_lots_166 (by decide +kernel) ?_
                refine v_is (lv2 := [(9, .int (nI 0)), (8, .int (nI 1023)), (5, .int (nI (x + (ALL (n, m, sh, 0, ki, O2, fa, K, G, T))))), (7, .int (nI i)), (6, .int (nI y)), (4, .int (nI 0)), (0, .ref r0), (1, .int (nI jk)), (2, .int z), (3, .int (nI jw))]) 169 zC dX5_lots_167 (by rw [hnE]; decide) rfl ?_
                have lp169 : ∀ (mz : Nat) (c : Nat) (q : Nat), (c = if n = 0 then 0 else ann (fun p => DR (n, m, sh, 0, ki, O2, fa, K, G, T) 24 p) q) → (q ≤ n) → (c ≤ 1023) → n - q = mz → VV E 0 0 169 [(9, .int (nI q)), (8, .int (nI c)), (5, .int (nI (x + (ALL (n, m, sh, 0, ki, O2, fa, K, G, T))))), (7, .int (nI i)), (6, .int (nI y)), (4, .int (nI 0)), (0, .ref r0), (1, .int (nI jk)), (2, .int z), (3, .int (nI jw))] [] [(r0, .inr (5, [.int (nI n), .ref k1, .ref k2, .ref k3, .ref k4, .int (nI m), .ref k6, .ref k7, .ref k8, .int (nI 0), .ref k10, .int (nI 0), .ref k12, .ref k13, .ref k14, .ref k15, .ref k16, .int (nI ls), .int (nI ap), .int (bz bd), .int (nI sq), .ref k21, .ref k22, .ref k23, .ref k24, .ref k25, .int (bz pd), .int (nI 48), .int (bz true), .ref k24, .ref k30, .ref k31, .int (nI tz), .ref k33, .int (nI rs), .int s2])), (k1, .inl (cI, 7, .inl (nIf ki))), (k2, .inl (cI, 7, .inl (nIf O2))), (k3, .inl (cI, 7, .inl (nIf (shF sh)))), (k4, .inl (cI, 7, .inl (nIf fa))), (k6, .inl (cI, 6, .inl (nIf K))), (k7, .inl (cI, 6, .inl (nIf G))), (k8, .inl (cI, 6, .inl (nIf T))), (k12, .inl (cI, 7, .inl (nIf kw1_62))), (k13, .inl (cI, 175, .inl (nIf kn1_63))), (k14, .inl (cI, 144, .inl (mIf M1_64))), (k15, .inl (cI, 7, .inl (nIf mw1_65))), (k24, .inl (cI, 48, .inl (nIf kp1_49))), (k10, .inl (cI, 7, .inl (nIf R)))] := by
                  intro mz
                  induction mz using Nat.strongRecOn with
                  | _ mz ih169 =>
                  intro c q hc hq hcl hm169
                  refine v_il 171 zC dX5_lots_169 0 rfl ?_
                  refine v_al_n 172 zC dX5_lots_171 6 rfl ?_
                  refine v_gf 175 0 zC dX5_lots_172 gf_X5_77 rfl rfl ?_
                  refine v_icmpn_ge 196 178 zC dX5_lots_175 (fun h_69 => ?_) (fun h_69 => ?_)
                  ·
                    refine v_il 198 zC dX5_lots_196 4 rfl ?_
                    refine v_il 200 zC dX5_lots_198 1 rfl ?_
                    have hc9 : c = COM (n, m, sh, 0, ki, O2, fa, K, G, T) := by rw [hc]; unfold COM; rw [show g_n (n, m, sh, 0, ki, O2, fa, K, G, T) = q from (by show n = q; omega), show n = q by omega]
                    have hc8 := com_le (n, m, sh, 0, ki, O2, fa, K, G, T)
                    refine v_ifn_ne 207 203 zC dX5_lots_200 (fun h_70 => ?_) (fun h_70 => ?_)
                    ·
                      have hu9 : COM (wop (n, m, sh, 0, ki, op, fa, K, G, T) O2) ≠ 0 := fun z => h_70 (hc9.trans z)
                      refine v_ic (v := (nI 1)) 208 zC dX5_lots_207 (by decide +kernel) ?_
                      refine v_iadd (v := (nI (y + 1))) 209 zC dX5_lots_208 (nI_add _ _) ?_
                      refine v_is (lv2 := [(6, .int (nI (y + 1))), (9, .int (nI q)), (8, .int (nI c)), (5, .int (nI (x + (ALL (n, m, sh, 0, ki, O2, fa, K, G, T))))), (7, .int (nI i)), (4, .int (nI 0)), (0, .ref r0), (1, .int (nI jk)), (2, .int z), (3, .int (nI jw))]) 211 zC dX5_lots_209 (by rw [hnE]; decide) rfl ?_
                      refine v_inc (v := (nI (i + 1))) (lv2 := [(7, .int (nI (i + 1))), (6, .int (nI (y + 1))), (9, .int (nI q)), (8, .int (nI c)), (5, .int (nI (x + (ALL (n, m, sh, 0, ki, O2, fa, K, G, T))))), (4, .int (nI 0)), (0, .ref r0), (1, .int (nI jk)), (2, .int z), (3, .int (nI jw))]) 214 zC dX5_lots_211 (j := 4) rfl (nI_add _ 1) (by rw [hnE]; decide) rfl ?_
                      refine v_goto 49 zC dX5_lots_214 ?_
                      refine v_lvs (lv2 := [(7, .int (nI (i + 1))), (6, .int (nI (y + 1))), (5, .int (nI (x + (ALL (n, m, sh, 0, ki, O2, fa, K, G, T))))), (4, .int (nI 0)), (0, .ref r0), (1, .int (nI jk)), (2, .int z), (3, .int (nI jw))]) [0, 1, 4, 5, 6, 7, 8, 9] rfl ?_
                      exact ih49 _ (by omega) kw1_62 kn1_63 M1_64 mw1_65 s2 O2 (x + (ALL (n, m, sh, 0, ki, O2, fa, K, G, T))) (y + 1) (i + 1) (by first | exact hR9.2.2.2.1 | exact hkw2) (by first | exact hR9.2.2.2.2.1 | exact hkn2) (by first | exact hR9.2.2.2.2.2 | exact hM2) (it_s hs (by first | exact lot_1 hp9 hu9 | exact lot_0 hp9 hv9)) hO2b hO2v (by first | omega | assumption | rfl | (simp only []; omega) | decide) (by first | omega | assumption | rfl | (simp only []; omega) | decide) (by first | omega | assumption | rfl | (simp only []; omega) | decide) rfl
                    ·
                      have hv9 : COM (wop (n, m, sh, 0, ki, op, fa, K, G, T) O2) = 0 := hc9.symm.trans h_70
                      refine v_ic (v := (nI 0)) 204 zC dX5_lots_203 (by decide +kernel) ?_
                      refine v_goto 208 zC dX5_lots_204 ?_
                      refine v_iadd (v := (nI y)) 209 zC dX5_lots_208 (nI_add _ 0) ?_
                      refine v_is (lv2 := [(6, .int (nI y)), (9, .int (nI q)), (8, .int (nI c)), (5, .int (nI (x + (ALL (n, m, sh, 0, ki, O2, fa, K, G, T))))), (7, .int (nI i)), (4, .int (nI 0)), (0, .ref r0), (1, .int (nI jk)), (2, .int z), (3, .int (nI jw))]) 211 zC dX5_lots_209 (by rw [hnE]; decide) rfl ?_
                      refine v_inc (v := (nI (i + 1))) (lv2 := [(7, .int (nI (i + 1))), (6, .int (nI y)), (9, .int (nI q)), (8, .int (nI c)), (5, .int (nI (x + (ALL (n, m, sh, 0, ki, O2, fa, K, G, T))))), (4, .int (nI 0)), (0, .ref r0), (1, .int (nI jk)), (2, .int z), (3, .int (nI jw))]) 214 zC dX5_lots_211 (j := 4) rfl (nI_add _ 1) (by rw [hnE]; decide) rfl ?_
                      refine v_goto 49 zC dX5_lots_214 ?_
                      refine v_lvs (lv2 := [(7, .int (nI (i + 1))), (6, .int (nI y)), (5, .int (nI (x + (ALL (n, m, sh, 0, ki, O2, fa, K, G, T))))), (4, .int (nI 0)), (0, .ref r0), (1, .int (nI jk)), (2, .int z), (3, .int (nI jw))]) [0, 1, 4, 5, 6, 7, 8, 9] rfl ?_
                      exact ih49 _ (by omega) kw1_62 kn1_63 M1_64 mw1_65 s2 O2 (x + (ALL (n, m, sh, 0, ki, O2, fa, K, G, T))) y (i + 1) (by first | exact hR9.2.2.2.1 | exact hkw2) (by first | exact hR9.2.2.2.2.1 | exact hkn2) (by first | exact hR9.2.2.2.2.2 | exact hM2) (it_s hs (by first | exact lot_1 hp9 hu9 | exact lot_0 hp9 hv9)) hO2b hO2v (by first | omega | assumption | rfl | (simp only []; omega) | decide) (by first | omega | assumption | rfl | (simp only []; omega) | decide) (by first | omega | assumption | rfl | (simp only []; omega) | decide) rfl
                  ·
                    refine v_il 180 zC dX5_lots_178 1 rfl ?_
                    refine v_al_n 181 zC dX5_lots_180 6 rfl ?_
                    refine v_gf 184 0 zC dX5_lots_181 gf_X5_34 rfl rfl ?_
                    refine v_il 186 zC dX5_lots_184 0 rfl ?_
                    refine v_ialn (v := (nI (DR (n, m, sh, 0, ki, O2, fa, K, G, T) 24 q))) 187 8 zC dX5_lots_186 rfl (by omega) (congrArg nI (rk_w hR9 (by omega))) ?_
                    refine v_iand (v := (nI (c &&& (DR (n, m, sh, 0, ki, O2, fa, K, G, T) 24 q)))) 188 zC dX5_lots_187 (fa_and _ _) ?_
                    refine v_is (lv2 := [(8, .int (nI (c &&& (DR (n, m, sh, 0, ki, O2, fa, K, G, T) 24 q)))), (9, .int (nI q)), (5, .int (nI (x + (ALL (n, m, sh, 0, ki, O2, fa, K, G, T))))), (7, .int (nI i)), (6, .int (nI y)), (4, .int (nI 0)), (0, .ref r0), (1, .int (nI jk)), (2, .int z), (3, .int (nI jw))]) 190 zC dX5_lots_188 (by rw [hnE]; decide) rfl ?_
                    refine v_inc (v := (nI (q + 1))) (lv2 := [(9, .int (nI (q + 1))), (8, .int (nI (c &&& (DR (n, m, sh, 0, ki, O2, fa, K, G, T) 24 q)))), (5, .int (nI (x + (ALL (n, m, sh, 0, ki, O2, fa, K, G, T))))), (7, .int (nI i)), (6, .int (nI y)), (4, .int (nI 0)), (0, .ref r0), (1, .int (nI jk)), (2, .int z), (3, .int (nI jw))]) 193 zC dX5_lots_190 (j := 1) rfl (nI_add _ 1) (by rw [hnE]; decide) rfl ?_
                    refine v_goto 169 zC dX5_lots_193 ?_
                    refine v_lvs (lv2 := [(9, .int (nI (q + 1))), (8, .int (nI (c &&& (DR (n, m, sh, 0, ki, O2, fa, K, G, T) 24 q)))), (5, .int (nI (x + (ALL (n, m, sh, 0, ki, O2, fa, K, G, T))))), (7, .int (nI i)), (6, .int (nI y)), (4, .int (nI 0)), (0, .ref r0), (1, .int (nI jk)), (2, .int z), (3, .int (nI jw))]) [0, 1, 2, 3, 4, 5, 6, 7, 8, 9] rfl ?_
                    exact ih169 _ (by omega) (c &&& (DR (n, m, sh, 0, ki, O2, fa, K, G, T) 24 q)) (q + 1) (by rw [hc, if_neg (by omega), if_neg (by omega)]; rfl) (by first | omega | assumption | rfl | (simp only []; omega) | decide) (Nat.le_trans Nat.and_le_left hcl) rfl
                refine v_lvs (lv2 := [(9, .int (nI 0)), (8, .int (nI 1023)), (5, .int (nI (x + (ALL (n, m, sh, 0, ki, O2, fa, K, G, T))))), (7, .int (nI i)), (6, .int (nI y)), (4, .int (nI 0)), (0, .ref r0), (1, .int (nI jk)), (2, .int z), (3, .int (nI jw))]) [0, 1, 2, 3, 4, 5, 6, 7, 8, 9] rfl ?_
                exact lp169 _ 1023 0 (by first | exact (if_pos (by omega)).symm | exact (if_neg (by omega)).symm) (by first | omega | assumption | rfl | (simp only []; omega) | decide) (by first | omega | assumption | rfl | (simp only []; omega) | decide) rfl
              ·
                refine v_ic (v := (nI 0)) 158 zC dX5_lots_157 (by decide +kernel) ?_
                refine v_goto 164 zC dX5_lots_158 ?_
                refine v_is (lv2 := [(8, .int (nI 0)), (5, .int (nI (x + (ALL (n, m, sh, 0, ki, O2, fa, K, G, T))))), (7, .int (nI i)), (6, .int (nI y)), (4, .int (nI 0)), (0, .ref r0), (1, .int (nI jk)), (2, .int z), (3, .int (nI jw))]) 166 zC dX5_lots_164 (by rw [hnE]; decide) rfl ?_
                refine v_ic (v := (nI 0)) 167 zC dX5_lots_166 (by decide +kernel) ?_
                refine v_is (lv2 := [(9, .int (nI 0)), (8, .int (nI 0)), (5, .int (nI (x + (ALL (n, m, sh, 0, ki, O2, fa, K, G, T))))), (7, .int (nI i)), (6, .int (nI y)), (4, .int (nI 0)), (0, .ref r0), (1, .int (nI jk)), (2, .int z), (3, .int (nI jw))]) 169 zC dX5_lots_167 (by rw [hnE]; decide) rfl ?_
                have lp169 : ∀ (mz : Nat) (c : Nat) (q : Nat), (c = if n = 0 then 0 else ann (fun p => DR (n, m, sh, 0, ki, O2, fa, K, G, T) 24 p) q) → (q ≤ n) → (c ≤ 1023) → n - q = mz → VV E 0 0 169 [(9, .int (nI q)), (8, .int (nI c)), (5, .int (nI (x + (ALL (n, m, sh, 0, ki, O2, fa, K, G, T))))), (7, .int (nI i)), (6, .int (nI y)), (4, .int (nI 0)), (0, .ref r0), (1, .int (nI jk)), (2, .int z), (3, .int (nI jw))] [] [(r0, .inr (5, [.int (nI n), .ref k1, .ref k2, .ref k3, .ref k4, .int (nI m), .ref k6, .ref k7, .ref k8, .int (nI 0), .ref k10, .int (nI 0), .ref k12, .ref k13, .ref k14, .ref k15, .ref k16, .int (nI ls), .int (nI ap), .int (bz bd), .int (nI sq), .ref k21, .ref k22, .ref k23, .ref k24, .ref k25, .int (bz pd), .int (nI 48), .int (bz true), .ref k24, .ref k30, .ref k31, .int (nI tz), .ref k33, .int (nI rs), .int s2])), (k1, .inl (cI, 7, .inl (nIf ki))), (k2, .inl (cI, 7, .inl (nIf O2))), (k3, .inl (cI, 7, .inl (nIf (shF sh)))), (k4, .inl (cI, 7, .inl (nIf fa))), (k6, .inl (cI, 6, .inl (nIf K))), (k7, .inl (cI, 6, .inl (nIf G))), (k8, .inl (cI, 6, .inl (nIf T))), (k12, .inl (cI, 7, .inl (nIf kw1_62))), (k13, .inl (cI, 175, .inl (nIf kn1_63))), (k14, .inl (cI, 144, .inl (mIf M1_64))), (k15, .inl (cI, 7, .inl (nIf mw1_65))), (k24, .inl (cI, 48, .inl (nIf kp1_49))), (k10, .inl (cI, 7, .inl (nIf R)))] := by
                  intro mz
                  induction mz using Nat.strongRecOn with
                  | _ mz ih169 =>
                  intro c q hc hq hcl hm169
                  refine v_il 171 zC dX5_lots_169 0 rfl ?_
                  refine v_al_n 172 zC dX5_lots_171 6 rfl ?_
                  refine v_gf 175 0 zC dX5_lots_172 gf_X5_77 rfl rfl ?_
                  refine v_icmpn_ge 196 178 zC dX5_lots_175 (fun h_71 => ?_) (fun h_71 => ?_)
                  ·
                    refine v_il 198 zC dX5_lots_196 4 rfl ?_
                    refine v_il 200 zC dX5_lots_198 1 rfl ?_
                    have hc9 : c = COM (n, m, sh, 0, ki, O2, fa, K, G, T) := by rw [hc]; unfold COM; rw [show g_n (n, m, sh, 0, ki, O2, fa, K, G, T) = q from (by show n = q; omega), show n = q by omega]
                    have hc8 := com_le (n, m, sh, 0, ki, O2, fa, K, G, T)
                    refine v_ifn_ne 207 203 zC dX5_lots_200 (fun h_72 => ?_) (fun h_72 => ?_)
                    ·
                      have hu9 : COM (wop (n, m, sh, 0, ki, op, fa, K, G, T) O2) ≠ 0 := fun z => h_72 (hc9.trans z)
                      refine v_ic (v := (nI 1)) 208 zC dX5_lots_207 (by decide +kernel) ?_
                      refine v_iadd (v := (nI (y + 1))) 209 zC dX5_lots_208 (nI_add _ _) ?_
                      refine v_is (lv2 := [(6, .int (nI (y + 1))), (9, .int (nI q)), (8, .int (nI c)), (5, .int (nI (x + (ALL (n, m, sh, 0, ki, O2, fa, K, G, T))))), (7, .int (nI i)), (4, .int (nI 0)), (0, .ref r0), (1, .int (nI jk)), (2, .int z), (3, .int (nI jw))]) 211 zC dX5_lots_209 (by rw [hnE]; decide) rfl ?_
                      refine v_inc (v := (nI (i + 1))) (lv2 := [(7, .int (nI (i + 1))), (6, .int (nI (y + 1))), (9, .int (nI q)), (8, .int (nI c)), (5, .int (nI (x + (ALL (n, m, sh, 0, ki, O2, fa, K, G, T))))), (4, .int (nI 0)), (0, .ref r0), (1, .int (nI jk)), (2, .int z), (3, .int (nI jw))]) 214 zC dX5_lots_211 (j := 4) rfl (nI_add _ 1) (by rw [hnE]; decide) rfl ?_
                      refine v_goto 49 zC dX5_lots_214 ?_
                      refine v_lvs (lv2 := [(7, .int (nI (i + 1))), (6, .int (nI (y + 1))), (5, .int (nI (x + (ALL (n, m, sh, 0, ki, O2, fa, K, G, T))))), (4, .int (nI 0)), (0, .ref r0), (1, .int (nI jk)), (2, .int z), (3, .int (nI jw))]) [0, 1, 4, 5, 6, 7, 8, 9] rfl ?_
                      exact ih49 _ (by omega) kw1_62 kn1_63 M1_64 mw1_65 s2 O2 (x + (ALL (n, m, sh, 0, ki, O2, fa, K, G, T))) (y + 1) (i + 1) (by first | exact hR9.2.2.2.1 | exact hkw2) (by first | exact hR9.2.2.2.2.1 | exact hkn2) (by first | exact hR9.2.2.2.2.2 | exact hM2) (it_s hs (by first | exact lot_1 hp9 hu9 | exact lot_0 hp9 hv9)) hO2b hO2v (by first | omega | assumption | rfl | (simp only []; omega) | decide) (by first | omega | assumption | rfl | (simp only []; omega) | decide) (by first | omega | assumption | rfl | (simp only []; omega) | decide) rfl
                    ·
                      have hv9 : COM (wop (n, m, sh, 0, ki, op, fa, K, G, T) O2) = 0 := hc9.symm.trans h_72
                      refine v_ic (v := (nI 0)) 204 zC dX5_lots_203 (by decide +kernel) ?_
                      refine v_goto 208 zC dX5_lots_204 ?_
                      refine v_iadd (v := (nI y)) 209 zC dX5_lots_208 (nI_add _ 0) ?_
                      refine v_is (lv2 := [(6, .int (nI y)), (9, .int (nI q)), (8, .int (nI c)), (5, .int (nI (x + (ALL (n, m, sh, 0, ki, O2, fa, K, G, T))))), (7, .int (nI i)), (4, .int (nI 0)), (0, .ref r0), (1, .int (nI jk)), (2, .int z), (3, .int (nI jw))]) 211 zC dX5_lots_209 (by rw [hnE]; decide) rfl ?_
                      refine v_inc (v := (nI (i + 1))) (lv2 := [(7, .int (nI (i + 1))), (6, .int (nI y)), (9, .int (nI q)), (8, .int (nI c)), (5, .int (nI (x + (ALL (n, m, sh, 0, ki, O2, fa, K, G, T))))), (4, .int (nI 0)), (0, .ref r0), (1, .int (nI jk)), (2, .int z), (3, .int (nI jw))]) 214 zC dX5_lots_211 (j := 4) rfl (nI_add _ 1) (by rw [hnE]; decide) rfl ?_
                      refine v_goto 49 zC dX5_lots_214 ?_
                      refine v_lvs (lv2 := [(7, .int (nI (i + 1))), (6, .int (nI y)), (5, .int (nI (x + (ALL (n, m, sh, 0, ki, O2, fa, K, G, T))))), (4, .int (nI 0)), (0, .ref r0), (1, .int (nI jk)), (2, .int z), (3, .int (nI jw))]) [0, 1, 4, 5, 6, 7, 8, 9] rfl ?_
                      exact ih49 _ (by omega) kw1_62 kn1_63 M1_64 mw1_65 s2 O2 (x + (ALL (n, m, sh, 0, ki, O2, fa, K, G, T))) y (i + 1) (by first | exact hR9.2.2.2.1 | exact hkw2) (by first | exact hR9.2.2.2.2.1 | exact hkn2) (by first | exact hR9.2.2.2.2.2 | exact hM2) (it_s hs (by first | exact lot_1 hp9 hu9 | exact lot_0 hp9 hv9)) hO2b hO2v (by first | omega | assumption | rfl | (simp only []; omega) | decide) (by first | omega | assumption | rfl | (simp only []; omega) | decide) (by first | omega | assumption | rfl | (simp only []; omega) | decide) rfl
                  ·
                    refine v_il 180 zC dX5_lots_178 1 rfl ?_
                    refine v_al_n 181 zC dX5_lots_180 6 rfl ?_
                    refine v_gf 184 0 zC dX5_lots_181 gf_X5_34 rfl rfl ?_
                    refine v_il 186 zC dX5_lots_184 0 rfl ?_
                    refine v_ialn (v := (nI (DR (n, m, sh, 0, ki, O2, fa, K, G, T) 24 q))) 187 8 zC dX5_lots_186 rfl (by omega) (congrArg nI (rk_w hR9 (by omega))) ?_
                    refine v_iand (v := (nI (c &&& (DR (n, m, sh, 0, ki, O2, fa, K, G, T) 24 q)))) 188 zC dX5_lots_187 (fa_and _ _) ?_
                    refine v_is (lv2 := [(8, .int (nI (c &&& (DR (n, m, sh, 0, ki, O2, fa, K, G, T) 24 q)))), (9, .int (nI q)), (5, .int (nI (x + (ALL (n, m, sh, 0, ki, O2, fa, K, G, T))))), (7, .int (nI i)), (6, .int (nI y)), (4, .int (nI 0)), (0, .ref r0), (1, .int (nI jk)), (2, .int z), (3, .int (nI jw))]) 190 zC dX5_lots_188 (by rw [hnE]; decide) rfl ?_
                    refine v_inc (v := (nI (q + 1))) (lv2 := [(9, .int (nI (q + 1))), (8, .int (nI (c &&& (DR (n, m, sh, 0, ki, O2, fa, K, G, T) 24 q)))), (5, .int (nI (x + (ALL (n, m, sh, 0, ki, O2, fa, K, G, T))))), (7, .int (nI i)), (6, .int (nI y)), (4, .int (nI 0)), (0, .ref r0), (1, .int (nI jk)), (2, .int z), (3, .int (nI jw))]) 193 zC dX5_lots_190 (j := 1) rfl (nI_add _ 1) (by rw [hnE]; decide) rfl ?_
                    refine v_goto 169 zC dX5_lots_193 ?_
                    refine v_lvs (lv2 := [(9, .int (nI (q + 1))), (8, .int (nI (c &&& (DR (n, m, sh, 0, ki, O2, fa, K, G, T) 24 q)))), (5, .int (nI (x + (ALL (n, m, sh, 0, ki, O2, fa, K, G, T))))), (7, .int (nI i)), (6, .int (nI y)), (4, .int (nI 0)), (0, .ref r0), (1, .int (nI jk)), (2, .int z), (3, .int (nI jw))]) [0, 1, 2, 3, 4, 5, 6, 7, 8, 9] rfl ?_
                    exact ih169 _ (by omega) (c &&& (DR (n, m, sh, 0, ki, O2, fa, K, G, T) 24 q)) (q + 1) (by rw [hc, if_neg (by omega), if_neg (by omega)]; rfl) (by first | omega | assumption | rfl | (simp only []; omega) | decide) (Nat.le_trans Nat.and_le_left hcl) rfl
                refine v_lvs (lv2 := [(9, .int (nI 0)), (8, .int (nI 0)), (5, .int (nI (x + (ALL (n, m, sh, 0, ki, O2, fa, K, G, T))))), (7, .int (nI i)), (6, .int (nI y)), (4, .int (nI 0)), (0, .ref r0), (1, .int (nI jk)), (2, .int z), (3, .int (nI jw))]) [0, 1, 2, 3, 4, 5, 6, 7, 8, 9] rfl ?_
                exact lp169 _ 0 0 (by first | exact (if_pos (by omega)).symm | exact (if_neg (by omega)).symm) (by first | omega | assumption | rfl | (simp only []; omega) | decide) (by first | omega | assumption | rfl | (simp only []; omega) | decide) rfl
            ·
              refine v_al_n 68 zC dX5_lots_67 5 rfl ?_
              refine v_bp (v := (nI 24)) 70 zC dX5_lots_68 (by decide +kernel) ?_
              refine v_cV (As := [.int (nI 24)]) (st := []) 73 0 [0] zC dX5_lots_70 hA (c_X5_drawBelow (ev_l E) (ev_D E) cI (r0 := r0) (k1 := k1) (k2 := k2) (k3 := k3) (k4 := k4) (k6 := k6) (k7 := k7) (k8 := k8) (k10 := k10) (k12 := k12) (k13 := k13) (k14 := k14) (k15 := k15) (k16 := k16) (k21 := k21) (k22 := k22) (k23 := k23) (k24 := k24) (k25 := k25) (k30 := k30) (k31 := k31) (k33 := k33) (n := n) (m := m) (aw := 0) (ls := ls) (ap := ap) (sq := sq) (pl := 48) (tz := tz) (rs := rs) (bd := bd) (pd := pd) (tk := true) (kv := (.ref k24 : Value)) (sd := s2) ) cf_X5_drawBelow lk_X5_288 rfl rfl rfl rfl rfl (by decide +kernel) (Nat.le_of_ble_eq_true rfl) (fun rv_73 wv_74 hp_75 hm_76 => ?_)
              clear hm_76
              obtain ⟨d_77, hd_78, hz_79, rfl, rfl⟩ := hp_75
              show VV E 0 0 73 [(8, .int (nI p)), (7, .int (nI i)), (6, .int (nI y)), (5, .int (nI x)), (4, .int (nI 0)), (0, .ref r0), (1, .int (nI jk)), (2, .int z), (3, .int (nI jw))] [.int (nI d_77)] [(r0, .inr (5, [.int (nI n), .ref k1, .ref k2, .ref k3, .ref k4, .int (nI m), .ref k6, .ref k7, .ref k8, .int (nI 0), .ref k10, .int (nI 0), .ref k12, .ref k13, .ref k14, .ref k15, .ref k16, .int (nI ls), .int (nI ap), .int (bz bd), .int (nI sq), .ref k21, .ref k22, .ref k23, .ref k24, .ref k25, .int (bz pd), .int (nI 48), .int (bz true), (.ref k24 : Value), .ref k30, .ref k31, .int (nI tz), .ref k33, .int (nI rs), .int (nxS s2)])), (k1, .inl (cI, 7, .inl (nIf ki))), (k2, .inl (cI, 7, .inl (nIf O2))), (k3, .inl (cI, 7, .inl (nIf (shF sh)))), (k4, .inl (cI, 7, .inl (nIf fa))), (k6, .inl (cI, 6, .inl (nIf K))), (k7, .inl (cI, 6, .inl (nIf G))), (k8, .inl (cI, 6, .inl (nIf T))), (k12, .inl (cI, 7, .inl (nIf kw2))), (k13, .inl (cI, 175, .inl (nIf kn2))), (k14, .inl (cI, 144, .inl (mIf M2))), (k15, .inl (cI, 7, .inl (nIf mw2))), (k24, .inl (cI, 48, .inl (nIf kp1_49))), (k10, .inl (cI, 7, .inl (nIf R)))]
              have hz_d1 := hz_79
              have hl_d1 := hd_78
              obtain ⟨d1, he_d1⟩ : ∃ z, z = d_77 := ⟨_, rfl⟩
              subst he_d1
              refine v_is (lv2 := [(9, .int (nI d1)), (8, .int (nI p)), (7, .int (nI i)), (6, .int (nI y)), (5, .int (nI x)), (4, .int (nI 0)), (0, .ref r0), (1, .int (nI jk)), (2, .int z), (3, .int (nI jw))]) 75 zC dX5_lots_73 (by rw [hnE]; decide) rfl ?_
              refine v_al_n 76 zC dX5_lots_75 6 rfl ?_
              refine v_bp (v := (nI 24)) 78 zC dX5_lots_76 (by decide +kernel) ?_
              refine v_cV (As := [.int (nI 24)]) (st := []) 81 0 [0] zC dX5_lots_78 hA (c_X5_drawBelow (ev_l E) (ev_D E) cI (r0 := r0) (k1 := k1) (k2 := k2) (k3 := k3) (k4 := k4) (k6 := k6) (k7 := k7) (k8 := k8) (k10 := k10) (k12 := k12) (k13 := k13) (k14 := k14) (k15 := k15) (k16 := k16) (k21 := k21) (k22 := k22) (k23 := k23) (k24 := k24) (k25 := k25) (k30 := k30) (k31 := k31) (k33 := k33) (n := n) (m := m) (aw := 0) (ls := ls) (ap := ap) (sq := sq) (pl := 48) (tz := tz) (rs := rs) (bd := bd) (pd := pd) (tk := true) (kv := (.ref k24 : Value)) (sd := (nxS s2)) ) cf_X5_drawBelow lk_X5_288 rfl rfl rfl rfl rfl (by decide +kernel) (Nat.le_of_ble_eq_true rfl) (fun rv_80 wv_81 hp_82 hm_83 => ?_)
              clear hm_83
              obtain ⟨d_84, hd_85, hz_86, rfl, rfl⟩ := hp_82
              show VV E 0 0 81 [(9, .int (nI d1)), (8, .int (nI p)), (7, .int (nI i)), (6, .int (nI y)), (5, .int (nI x)), (4, .int (nI 0)), (0, .ref r0), (1, .int (nI jk)), (2, .int z), (3, .int (nI jw))] [.int (nI d_84)] [(r0, .inr (5, [.int (nI n), .ref k1, .ref k2, .ref k3, .ref k4, .int (nI m), .ref k6, .ref k7, .ref k8, .int (nI 0), .ref k10, .int (nI 0), .ref k12, .ref k13, .ref k14, .ref k15, .ref k16, .int (nI ls), .int (nI ap), .int (bz bd), .int (nI sq), .ref k21, .ref k22, .ref k23, .ref k24, .ref k25, .int (bz pd), .int (nI 48), .int (bz true), (.ref k24 : Value), .ref k30, .ref k31, .int (nI tz), .ref k33, .int (nI rs), .int (nxS (nxS s2))])), (k1, .inl (cI, 7, .inl (nIf ki))), (k2, .inl (cI, 7, .inl (nIf O2))), (k3, .inl (cI, 7, .inl (nIf (shF sh)))), (k4, .inl (cI, 7, .inl (nIf fa))), (k6, .inl (cI, 6, .inl (nIf K))), (k7, .inl (cI, 6, .inl (nIf G))), (k8, .inl (cI, 6, .inl (nIf T))), (k12, .inl (cI, 7, .inl (nIf kw2))), (k13, .inl (cI, 175, .inl (nIf kn2))), (k14, .inl (cI, 144, .inl (mIf M2))), (k15, .inl (cI, 7, .inl (nIf mw2))), (k24, .inl (cI, 48, .inl (nIf kp1_49))), (k10, .inl (cI, 7, .inl (nIf R)))]
              have hz_d2 := hz_86
              have hl_d2 := hd_85
              obtain ⟨d2, he_d2⟩ : ∃ z, z = d_84 := ⟨_, rfl⟩
              subst he_d2
              refine v_is (lv2 := [(10, .int (nI d2)), (9, .int (nI d1)), (8, .int (nI p)), (7, .int (nI i)), (6, .int (nI y)), (5, .int (nI x)), (4, .int (nI 0)), (0, .ref r0), (1, .int (nI jk)), (2, .int z), (3, .int (nI jw))]) 83 zC dX5_lots_81 (by rw [hnE]; decide) rfl ?_
              refine v_il 85 zC dX5_lots_83 1 rfl ?_
              refine v_il 87 zC dX5_lots_85 0 rfl ?_
              refine v_icmpn_ge 95 90 zC dX5_lots_87 (fun h_87 => ?_) (fun h_87 => ?_)
              ·
                have hge9 := h_87
                refine v_il 97 zC dX5_lots_95 0 rfl ?_
                refine v_is (lv2 := [(11, .int (nI d2)), (10, .int (nI d2)), (9, .int (nI d1)), (8, .int (nI p)), (7, .int (nI i)), (6, .int (nI y)), (5, .int (nI x)), (4, .int (nI 0)), (0, .ref r0), (1, .int (nI jk)), (2, .int z), (3, .int (nI jw))]) 99 zC dX5_lots_97 (by rw [hnE]; decide) rfl ?_
                refine v_il 101 zC dX5_lots_99 2 rfl ?_
                refine v_il 103 zC dX5_lots_101 1 rfl ?_
                refine v_icmpn_ge 111 106 zC dX5_lots_103 (fun h_88 => ?_) (fun h_88 => False.elim (by first | omega | exact bcon h_88 (by assumption) | exact bcon (by assumption) h_88))
                refine v_il 113 zC dX5_lots_111 2 rfl ?_
                refine v_is (lv2 := [(12, .int (nI d1)), (11, .int (nI d2)), (10, .int (nI d2)), (9, .int (nI d1)), (8, .int (nI p)), (7, .int (nI i)), (6, .int (nI y)), (5, .int (nI x)), (4, .int (nI 0)), (0, .ref r0), (1, .int (nI jk)), (2, .int z), (3, .int (nI jw))]) 115 zC dX5_lots_113 (by rw [hnE]; decide) rfl ?_
                refine v_al_n 116 zC dX5_lots_115 9 rfl ?_
                refine v_gf 119 0 zC dX5_lots_116 gf_X5_13 rfl rfl ?_
                refine v_il 121 zC dX5_lots_119 4 rfl ?_
                refine v_ic (v := (nI 0)) 122 zC dX5_lots_121 (by decide +kernel) ?_
                refine v_iasn (ws2 := [(r0, .inr (5, [.int (nI n), .ref k1, .ref k2, .ref k3, .ref k4, .int (nI m), .ref k6, .ref k7, .ref k8, .int (nI 0), .ref k10, .int (nI 0), .ref k12, .ref k13, .ref k14, .ref k15, .ref k16, .int (nI ls), .int (nI ap), .int (bz bd), .int (nI sq), .ref k21, .ref k22, .ref k23, .ref k24, .ref k25, .int (bz pd), .int (nI 48), .int (bz true), (.ref k24 : Value), .ref k30, .ref k31, .int (nI tz), .ref k33, .int (nI rs), .int (nxS (nxS s2))])), (k1, .inl (cI, 7, .inl (nIf ki))), (k2, .inl (cI, 7, .inl (nIf (un O2 p 0)))), (k3, .inl (cI, 7, .inl (nIf (shF sh)))), (k4, .inl (cI, 7, .inl (nIf fa))), (k6, .inl (cI, 6, .inl (nIf K))), (k7, .inl (cI, 6, .inl (nIf G))), (k8, .inl (cI, 6, .inl (nIf T))), (k12, .inl (cI, 7, .inl (nIf kw2))), (k13, .inl (cI, 175, .inl (nIf kn2))), (k14, .inl (cI, 144, .inl (mIf M2))), (k15, .inl (cI, 7, .inl (nIf mw2))), (k24, .inl (cI, 48, .inl (nIf kp1_49))), (k10, .inl (cI, 7, .inl (nIf R)))]) 123 2 zC dX5_lots_122 rfl (by omega) (by rw [upd_nIf]; first | done | rfl) ?_
                refine v_al_n 124 zC dX5_lots_123 9 rfl ?_
                refine v_il 126 zC dX5_lots_124 4 rfl ?_
                refine v_il 128 zC dX5_lots_126 1 rfl ?_
                refine v_il 130 zC dX5_lots_128 0 rfl ?_
                refine v_ic (v := (nI 1)) 131 zC dX5_lots_130 (by decide +kernel) ?_
                refine v_cV (As := [.int (nI p), .int (nI d2), .int (nI d1), .int (nI 1)]) (st := []) 134 0 [0, 2] zC dX5_lots_131 hA (c_X5_hoursCome (ev_l E) (ev_D E) cI (r0 := r0) (k1 := k1) (k2 := k2) (k3 := k3) (k4 := k4) (k6 := k6) (k7 := k7) (k8 := k8) (k10 := k10) (k12 := k12) (k13 := k13) (k14 := k14) (k15 := k15) (k16 := k16) (k21 := k21) (k22 := k22) (k23 := k23) (k24 := k24) (k25 := k25) (k30 := k30) (k31 := k31) (k33 := k33) (n := n) (m := m) (aw := 0) (ls := ls) (ap := ap) (sq := sq) (pl := 48) (tz := tz) (rs := rs) (bd := bd) (pd := pd) (tk := true) (kv := (.ref k24 : Value)) (sd := (nxS (nxS s2))) (op := (un O2 p 0)) (p := p) (f := d2) (e := d1) (o := true) (hn := (by first | omega | assumption | rfl | (simp only []; omega) | decide)) (hp := (by first | omega | assumption | rfl | (simp only []; omega) | decide)) (hf := (by first | omega | assumption | rfl | (simp only []; omega) | decide)) (he := (by first | omega | assumption | rfl | (simp only []; omega) | decide))) cf_X5_hoursCome lk_X5_174 rfl rfl rfl rfl rfl (by decide +kernel) (Nat.le_of_ble_eq_true rfl) (fun rv_89 wv_90 hp_91 hm_92 => ?_)
                clear hm_92
                rcases hp_91 with ⟨hq_93, rfl, rfl⟩ | ⟨hp_94, hf_95, he_96, rfl, rfl⟩
                ·
                  show VV E 0 0 134 [(12, .int (nI d1)), (11, .int (nI d2)), (10, .int (nI d2)), (9, .int (nI d1)), (8, .int (nI p)), (7, .int (nI i)), (6, .int (nI y)), (5, .int (nI x)), (4, .int (nI 0)), (0, .ref r0), (1, .int (nI jk)), (2, .int z), (3, .int (nI jw))] [.int (nI 0)] [(r0, .inr (5, [.int (nI n), .ref k1, .ref k2, .ref k3, .ref k4, .int (nI m), .ref k6, .ref k7, .ref k8, .int (nI 0), .ref k10, .int (nI 0), .ref k12, .ref k13, .ref k14, .ref k15, .ref k16, .int (nI ls), .int (nI ap), .int (bz bd), .int (nI sq), .ref k21, .ref k22, .ref k23, .ref k24, .ref k25, .int (bz pd), .int (nI 48), .int (bz true), (.ref k24 : Value), .ref k30, .ref k31, .int (nI tz), .ref k33, .int (nI rs), .int (nxS (nxS s2))])), (k1, .inl (cI, 7, .inl (nIf ki))), (k2, .inl (cI, 7, .inl (nIf (un O2 p 0)))), (k3, .inl (cI, 7, .inl (nIf (shF sh)))), (k4, .inl (cI, 7, .inl (nIf fa))), (k6, .inl (cI, 6, .inl (nIf K))), (k7, .inl (cI, 6, .inl (nIf G))), (k8, .inl (cI, 6, .inl (nIf T))), (k12, .inl (cI, 7, .inl (nIf kw2))), (k13, .inl (cI, 175, .inl (nIf kn2))), (k14, .inl (cI, 144, .inl (mIf M2))), (k15, .inl (cI, 7, .inl (nIf mw2))), (k24, .inl (cI, 48, .inl (nIf kp1_49))), (k10, .inl (cI, 7, .inl (nIf R)))]
                  exfalso; omega
                ·
                  show VV E 0 0 134 [(12, .int (nI d1)), (11, .int (nI d2)), (10, .int (nI d2)), (9, .int (nI d1)), (8, .int (nI p)), (7, .int (nI i)), (6, .int (nI y)), (5, .int (nI x)), (4, .int (nI 0)), (0, .ref r0), (1, .int (nI jk)), (2, .int z), (3, .int (nI jw))] [.int (nI 1)] [(r0, .inr (5, [.int (nI n), .ref k1, .ref k2, .ref k3, .ref k4, .int (nI m), .ref k6, .ref k7, .ref k8, .int (nI 0), .ref k10, .int (nI 0), .ref k12, .ref k13, .ref k14, .ref k15, .ref k16, .int (nI ls), .int (nI ap), .int (bz bd), .int (nI sq), .ref k21, .ref k22, .ref k23, .ref k24, .ref k25, .int (bz pd), .int (nI 48), .int (bz true), (.ref k24 : Value), .ref k30, .ref k31, .int (nI tz), .ref k33, .int (nI rs), .int (nxS (nxS s2))])), (k1, .inl (cI, 7, .inl (nIf ki))), (k2, .inl (cI, 7, .inl (nIf (un (un O2 p 0) p (if true = true then ((un O2 p 0) p) ||| HR d2 d1 else andn ((un O2 p 0) p) (HR d2 d1)))))), (k3, .inl (cI, 7, .inl (nIf (shF sh)))), (k4, .inl (cI, 7, .inl (nIf fa))), (k6, .inl (cI, 6, .inl (nIf K))), (k7, .inl (cI, 6, .inl (nIf G))), (k8, .inl (cI, 6, .inl (nIf T))), (k12, .inl (cI, 7, .inl (nIf kw2))), (k13, .inl (cI, 175, .inl (nIf kn2))), (k14, .inl (cI, 144, .inl (mIf M2))), (k15, .inl (cI, 7, .inl (nIf mw2))), (k24, .inl (cI, 48, .inl (nIf kp1_49))), (k10, .inl (cI, 7, .inl (nIf R)))]
                  rw [lot_w]
                  refine v_pop 135 zC dX5_lots_134 rfl ?_
                  refine v_inc (v := (nI (p + 1))) (lv2 := [(8, .int (nI (p + 1))), (12, .int (nI d1)), (11, .int (nI d2)), (10, .int (nI d2)), (9, .int (nI d1)), (7, .int (nI i)), (6, .int (nI y)), (5, .int (nI x)), (4, .int (nI 0)), (0, .ref r0), (1, .int (nI jk)), (2, .int z), (3, .int (nI jw))]) 138 zC dX5_lots_135 (j := 4) rfl (nI_add _ 1) (by rw [hnE]; decide) rfl ?_
                  refine v_goto 58 zC dX5_lots_138 ?_
                  refine v_lvs (lv2 := [(8, .int (nI (p + 1))), (7, .int (nI i)), (6, .int (nI y)), (5, .int (nI x)), (4, .int (nI 0)), (0, .ref r0), (1, .int (nI jk)), (2, .int z), (3, .int (nI jw))]) [0, 5, 6, 7, 8, 9, 10, 11, 12] rfl ?_
                  exact ih58 _ (by omega) (nxS (nxS s2)) (un O2 p (HR d2 d1)) (p + 1) (by have e9 := lotp_s hp2 hz_d1 hz_d2; first | (rw [Nat.min_eq_right hge9, Nat.max_eq_left hge9] at e9; exact e9) | (rw [Nat.min_eq_left (Nat.le_of_lt hlt9), Nat.max_eq_right (Nat.le_of_lt hlt9)] at e9; exact e9)) (un_b hO2b (hr_lt (by omega))) (un_v hO2v (by omega)) (by first | omega | assumption | rfl | (simp only []; omega) | decide) rfl
              ·
                have hlt9 := h_87
                refine v_il 92 zC dX5_lots_90 1 rfl ?_
                refine v_goto 97 zC dX5_lots_92 ?_
                refine v_is (lv2 := [(11, .int (nI d1)), (10, .int (nI d2)), (9, .int (nI d1)), (8, .int (nI p)), (7, .int (nI i)), (6, .int (nI y)), (5, .int (nI x)), (4, .int (nI 0)), (0, .ref r0), (1, .int (nI jk)), (2, .int z), (3, .int (nI jw))]) 99 zC dX5_lots_97 (by rw [hnE]; decide) rfl ?_
                refine v_il 101 zC dX5_lots_99 2 rfl ?_
                refine v_il 103 zC dX5_lots_101 1 rfl ?_
                refine v_icmpn_ge 111 106 zC dX5_lots_103 (fun h_97 => False.elim (by first | omega | exact bcon h_97 (by assumption) | exact bcon (by assumption) h_97)) (fun h_97 => ?_)
                refine v_il 108 zC dX5_lots_106 1 rfl ?_
                refine v_goto 113 zC dX5_lots_108 ?_
                refine v_is (lv2 := [(12, .int (nI d2)), (11, .int (nI d1)), (10, .int (nI d2)), (9, .int (nI d1)), (8, .int (nI p)), (7, .int (nI i)), (6, .int (nI y)), (5, .int (nI x)), (4, .int (nI 0)), (0, .ref r0), (1, .int (nI jk)), (2, .int z), (3, .int (nI jw))]) 115 zC dX5_lots_113 (by rw [hnE]; decide) rfl ?_
                refine v_al_n 116 zC dX5_lots_115 9 rfl ?_
                refine v_gf 119 0 zC dX5_lots_116 gf_X5_13 rfl rfl ?_
                refine v_il 121 zC dX5_lots_119 4 rfl ?_
                refine v_ic (v := (nI 0)) 122 zC dX5_lots_121 (by decide +kernel) ?_
                refine v_iasn (ws2 := [(r0, .inr (5, [.int (nI n), .ref k1, .ref k2, .ref k3, .ref k4, .int (nI m), .ref k6, .ref k7, .ref k8, .int (nI 0), .ref k10, .int (nI 0), .ref k12, .ref k13, .ref k14, .ref k15, .ref k16, .int (nI ls), .int (nI ap), .int (bz bd), .int (nI sq), .ref k21, .ref k22, .ref k23, .ref k24, .ref k25, .int (bz pd), .int (nI 48), .int (bz true), (.ref k24 : Value), .ref k30, .ref k31, .int (nI tz), .ref k33, .int (nI rs), .int (nxS (nxS s2))])), (k1, .inl (cI, 7, .inl (nIf ki))), (k2, .inl (cI, 7, .inl (nIf (un O2 p 0)))), (k3, .inl (cI, 7, .inl (nIf (shF sh)))), (k4, .inl (cI, 7, .inl (nIf fa))), (k6, .inl (cI, 6, .inl (nIf K))), (k7, .inl (cI, 6, .inl (nIf G))), (k8, .inl (cI, 6, .inl (nIf T))), (k12, .inl (cI, 7, .inl (nIf kw2))), (k13, .inl (cI, 175, .inl (nIf kn2))), (k14, .inl (cI, 144, .inl (mIf M2))), (k15, .inl (cI, 7, .inl (nIf mw2))), (k24, .inl (cI, 48, .inl (nIf kp1_49))), (k10, .inl (cI, 7, .inl (nIf R)))]) 123 2 zC dX5_lots_122 rfl (by omega) (by rw [upd_nIf]; first | done | rfl) ?_
                refine v_al_n 124 zC dX5_lots_123 9 rfl ?_
                refine v_il 126 zC dX5_lots_124 4 rfl ?_
                refine v_il 128 zC dX5_lots_126 1 rfl ?_
                refine v_il 130 zC dX5_lots_128 0 rfl ?_
                refine v_ic (v := (nI 1)) 131 zC dX5_lots_130 (by decide +kernel) ?_
                refine v_cV (As := [.int (nI p), .int (nI d1), .int (nI d2), .int (nI 1)]) (st := []) 134 0 [0, 2] zC dX5_lots_131 hA (c_X5_hoursCome (ev_l E) (ev_D E) cI (r0 := r0) (k1 := k1) (k2 := k2) (k3 := k3) (k4 := k4) (k6 := k6) (k7 := k7) (k8 := k8) (k10 := k10) (k12 := k12) (k13 := k13) (k14 := k14) (k15 := k15) (k16 := k16) (k21 := k21) (k22 := k22) (k23 := k23) (k24 := k24) (k25 := k25) (k30 := k30) (k31 := k31) (k33 := k33) (n := n) (m := m) (aw := 0) (ls := ls) (ap := ap) (sq := sq) (pl := 48) (tz := tz) (rs := rs) (bd := bd) (pd := pd) (tk := true) (kv := (.ref k24 : Value)) (sd := (nxS (nxS s2))) (op := (un O2 p 0)) (p := p) (f := d1) (e := d2) (o := true) (hn := (by first | omega | assumption | rfl | (simp only []; omega) | decide)) (hp := (by first | omega | assumption | rfl | (simp only []; omega) | decide)) (hf := (by first | omega | assumption | rfl | (simp only []; omega) | decide)) (he := (by first | omega | assumption | rfl | (simp only []; omega) | decide))) cf_X5_hoursCome lk_X5_174 rfl rfl rfl rfl rfl (by decide +kernel) (Nat.le_of_ble_eq_true rfl) (fun rv_98 wv_99 hp_100 hm_101 => ?_)
                clear hm_101
                rcases hp_100 with ⟨hq_102, rfl, rfl⟩ | ⟨hp_103, hf_104, he_105, rfl, rfl⟩
                ·
                  show VV E 0 0 134 [(12, .int (nI d2)), (11, .int (nI d1)), (10, .int (nI d2)), (9, .int (nI d1)), (8, .int (nI p)), (7, .int (nI i)), (6, .int (nI y)), (5, .int (nI x)), (4, .int (nI 0)), (0, .ref r0), (1, .int (nI jk)), (2, .int z), (3, .int (nI jw))] [.int (nI 0)] [(r0, .inr (5, [.int (nI n), .ref k1, .ref k2, .ref k3, .ref k4, .int (nI m), .ref k6, .ref k7, .ref k8, .int (nI 0), .ref k10, .int (nI 0), .ref k12, .ref k13, .ref k14, .ref k15, .ref k16, .int (nI ls), .int (nI ap), .int (bz bd), .int (nI sq), .ref k21, .ref k22, .ref k23, .ref k24, .ref k25, .int (bz pd), .int (nI 48), .int (bz true), (.ref k24 : Value), .ref k30, .ref k31, .int (nI tz), .ref k33, .int (nI rs), .int (nxS (nxS s2))])), (k1, .inl (cI, 7, .inl (nIf ki))), (k2, .inl (cI, 7, .inl (nIf (un O2 p 0)))), (k3, .inl (cI, 7, .inl (nIf (shF sh)))), (k4, .inl (cI, 7, .inl (nIf fa))), (k6, .inl (cI, 6, .inl (nIf K))), (k7, .inl (cI, 6, .inl (nIf G))), (k8, .inl (cI, 6, .inl (nIf T))), (k12, .inl (cI, 7, .inl (nIf kw2))), (k13, .inl (cI, 175, .inl (nIf kn2))), (k14, .inl (cI, 144, .inl (mIf M2))), (k15, .inl (cI, 7, .inl (nIf mw2))), (k24, .inl (cI, 48, .inl (nIf kp1_49))), (k10, .inl (cI, 7, .inl (nIf R)))]
                  exfalso; omega
                ·
                  show VV E 0 0 134 [(12, .int (nI d2)), (11, .int (nI d1)), (10, .int (nI d2)), (9, .int (nI d1)), (8, .int (nI p)), (7, .int (nI i)), (6, .int (nI y)), (5, .int (nI x)), (4, .int (nI 0)), (0, .ref r0), (1, .int (nI jk)), (2, .int z), (3, .int (nI jw))] [.int (nI 1)] [(r0, .inr (5, [.int (nI n), .ref k1, .ref k2, .ref k3, .ref k4, .int (nI m), .ref k6, .ref k7, .ref k8, .int (nI 0), .ref k10, .int (nI 0), .ref k12, .ref k13, .ref k14, .ref k15, .ref k16, .int (nI ls), .int (nI ap), .int (bz bd), .int (nI sq), .ref k21, .ref k22, .ref k23, .ref k24, .ref k25, .int (bz pd), .int (nI 48), .int (bz true), (.ref k24 : Value), .ref k30, .ref k31, .int (nI tz), .ref k33, .int (nI rs), .int (nxS (nxS s2))])), (k1, .inl (cI, 7, .inl (nIf ki))), (k2, .inl (cI, 7, .inl (nIf (un (un O2 p 0) p (if true = true then ((un O2 p 0) p) ||| HR d1 d2 else andn ((un O2 p 0) p) (HR d1 d2)))))), (k3, .inl (cI, 7, .inl (nIf (shF sh)))), (k4, .inl (cI, 7, .inl (nIf fa))), (k6, .inl (cI, 6, .inl (nIf K))), (k7, .inl (cI, 6, .inl (nIf G))), (k8, .inl (cI, 6, .inl (nIf T))), (k12, .inl (cI, 7, .inl (nIf kw2))), (k13, .inl (cI, 175, .inl (nIf kn2))), (k14, .inl (cI, 144, .inl (mIf M2))), (k15, .inl (cI, 7, .inl (nIf mw2))), (k24, .inl (cI, 48, .inl (nIf kp1_49))), (k10, .inl (cI, 7, .inl (nIf R)))]
                  rw [lot_w]
                  refine v_pop 135 zC dX5_lots_134 rfl ?_
                  refine v_inc (v := (nI (p + 1))) (lv2 := [(8, .int (nI (p + 1))), (12, .int (nI d2)), (11, .int (nI d1)), (10, .int (nI d2)), (9, .int (nI d1)), (7, .int (nI i)), (6, .int (nI y)), (5, .int (nI x)), (4, .int (nI 0)), (0, .ref r0), (1, .int (nI jk)), (2, .int z), (3, .int (nI jw))]) 138 zC dX5_lots_135 (j := 4) rfl (nI_add _ 1) (by rw [hnE]; decide) rfl ?_
                  refine v_goto 58 zC dX5_lots_138 ?_
                  refine v_lvs (lv2 := [(8, .int (nI (p + 1))), (7, .int (nI i)), (6, .int (nI y)), (5, .int (nI x)), (4, .int (nI 0)), (0, .ref r0), (1, .int (nI jk)), (2, .int z), (3, .int (nI jw))]) [0, 5, 6, 7, 8, 9, 10, 11, 12] rfl ?_
                  exact ih58 _ (by omega) (nxS (nxS s2)) (un O2 p (HR d1 d2)) (p + 1) (by have e9 := lotp_s hp2 hz_d1 hz_d2; first | (rw [Nat.min_eq_right hge9, Nat.max_eq_left hge9] at e9; exact e9) | (rw [Nat.min_eq_left (Nat.le_of_lt hlt9), Nat.max_eq_right (Nat.le_of_lt hlt9)] at e9; exact e9)) (un_b hO2b (hr_lt (by omega))) (un_v hO2v (by omega)) (by first | omega | assumption | rfl | (simp only []; omega) | decide) rfl
          refine v_lvs (lv2 := [(8, .int (nI 0)), (7, .int (nI i)), (6, .int (nI y)), (5, .int (nI x)), (4, .int (nI 0)), (0, .ref r0), (1, .int (nI jk)), (2, .int z), (3, .int (nI jw))]) [0, 1, 2, 3, 4, 5, 6, 7, 8] rfl ?_
          exact lp58 _ sv O 0 rfl hOb hOv (by first | omega | assumption | rfl | (simp only []; omega) | decide) rfl
      refine v_lvs (lv2 := [(7, .int (nI 0)), (6, .int (nI 0)), (5, .int (nI 0)), (4, .int (nI 0)), (0, .ref r0), (1, .int (nI jk)), (2, .int z), (3, .int (nI jw))]) [0, 1, 2, 3, 4, 5, 6, 7] rfl ?_
      exact lp49 _ kw kn M mw z op 0 0 0 (by first | exact hR9.2.2.2.1 | exact hkw) (by first | exact hR9.2.2.2.2.1 | exact hkn) (by first | exact hR9.2.2.2.2.2 | exact hM) rfl hop vop (by first | omega | assumption | rfl | (simp only []; omega) | decide) (Nat.zero_le _) (Nat.zero_le _) rfl
set_option maxRecDepth 100000 in
set_option maxHeartbeats 4000000 in
theorem c_X5_colds (l : Launch) (D : va_G) (cI : ClassId) (r0 k1 k2 k3 k4 k6 k7 k8 k10 k12 k13 k14 k15 k16 k21 k22 k23 k24 k25 k30 k31 k33 : Nat) (n m ls ap sq pl tz rs : Nat) (bd pd tk : Bool) (kv : Value) (sd : Int32) (ki op fa K G T : Nat → Nat) (sh : Nat) (kw kn : Nat → Nat) (M : Nat → Option Nat) (mw : Nat → Nat) (kp R : Nat → Nat) (p f t w : Int32) (hw : FW n m sh ki op fa K G T) (hkw : ∀ z, kw z < 1024) (hkn : ∀ z, kn z < 1024) (hM : ∀ z v, M z = some v → v < 7) : CT l yX5_colds cX5_colds 15 (some .long) { frames := 6, cells := 0, slots := 0, locals := 138 } D cI [.ref r0, .int p, .int f, .int t, .int w] [(r0, .inr (5, [.int (nI n), .ref k1, .ref k2, .ref k3, .ref k4, .int (nI m), .ref k6, .ref k7, .ref k8, .int (nI 0), .ref k10, .int (nI 0), .ref k12, .ref k13, .ref k14, .ref k15, .ref k16, .int (nI ls), .int (nI ap), .int (bz bd), .int (nI sq), .ref k21, .ref k22, .ref k23, .ref k24, .ref k25, .int (bz pd), .int (nI pl), .int (bz tk), kv, .ref k30, .ref k31, .int (nI tz), .ref k33, .int (nI rs), .int sd])), (k1, .inl (cI, 7, .inl (nIf ki))), (k2, .inl (cI, 7, .inl (nIf op))), (k3, .inl (cI, 7, .inl (nIf (shF sh)))), (k4, .inl (cI, 7, .inl (nIf fa))), (k6, .inl (cI, 6, .inl (nIf K))), (k7, .inl (cI, 6, .inl (nIf G))), (k8, .inl (cI, 6, .inl (nIf T))), (k12, .inl (cI, 7, .inl (nIf kw))), (k13, .inl (cI, 175, .inl (nIf kn))), (k14, .inl (cI, 144, .inl (mIf M))), (k15, .inl (cI, 7, .inl (nIf mw))), (k24, .inl (cI, 48, .inl (nIf kp))), (k10, .inl (cI, 7, .inl (nIf R)))] (fun zr zw => (∃ kw1 : Nat → Nat, ∃ kn1 : Nat → Nat, ∃ M1 : Nat → Option Nat, ∃ mw1 : Nat → Nat, ∃ kp1 : Nat → Nat, ∃ pl1 : Nat, ∃ tk1 : Bool, ∃ kv1 : Value, ∃ rc : Nat, ∃ rv : Int64, (q_colds (n, m, sh, 0, ki, op, fa, K, G, T) p f t w = (rc, rv)) ∧ (∀ z, kw1 z < 1024) ∧ (∀ z, kn1 z < 1024) ∧ (∀ z v, M1 z = some v → v < 7) ∧ zr = some (.long rv) ∧ zw = [(r0, .inr (5, [.int (nI n), .ref k1, .ref k2, .ref k3, .ref k4, .int (nI m), .ref k6, .ref k7, .ref k8, .int (nI 0), .ref k10, .int (nI 0), .ref k12, .ref k13, .ref k14, .ref k15, .ref k16, .int (nI ls), .int (nI ap), .int (bz bd), .int (nI sq), .ref k21, .ref k22, .ref k23, .ref k24, .ref k25, .int (bz pd), .int (nI pl1), .int (bz tk1), kv1, .ref k30, .ref k31, .int (nI tz), .ref k33, .int (nI rs), .int sd])), (k1, .inl (cI, 7, .inl (nIf ki))), (k2, .inl (cI, 7, .inl (nIf op))), (k3, .inl (cI, 7, .inl (nIf (shF sh)))), (k4, .inl (cI, 7, .inl (nIf fa))), (k6, .inl (cI, 6, .inl (nIf K))), (k7, .inl (cI, 6, .inl (nIf G))), (k8, .inl (cI, 6, .inl (nIf T))), (k12, .inl (cI, 7, .inl (nIf kw1))), (k13, .inl (cI, 175, .inl (nIf kn1))), (k14, .inl (cI, 144, .inl (mIf M1))), (k15, .inl (cI, 7, .inl (nIf mw1))), (k24, .inl (cI, 48, .inl (nIf kp1))), (k10, .inl (cI, 7, .inl (nIf (rf R rc))))])) := by
  refine CT_of RX5 rfl (by decide +kernel) (Nat.le_of_ble_eq_true rfl) (fun E hnE zC zT => ?_)
  have hA : ∀ q, (ev_s E).heap.size ≤ q → ev_A E q := fun q h => by rw [zT.2]; exact Or.inr h
  obtain ⟨hn, hm, hsh, hki, hop, hfa, hK, hG, hT, vki, vop, vfa, vK, vG, vT⟩ := id hw
  have h2n : 2 ^ n ≤ 2 ^ 7 := Nat.pow_le_pow_right (by decide) hn
  have hps9 : pcn sh ≤ n := pcn_k n sh hsh
  show VV E 0 0 0 [(0, .ref r0), (1, .int p), (2, .int f), (3, .int t), (4, .int w)] [] [(r0, .inr (5, [.int (nI n), .ref k1, .ref k2, .ref k3, .ref k4, .int (nI m), .ref k6, .ref k7, .ref k8, .int (nI 0), .ref k10, .int (nI 0), .ref k12, .ref k13, .ref k14, .ref k15, .ref k16, .int (nI ls), .int (nI ap), .int (bz bd), .int (nI sq), .ref k21, .ref k22, .ref k23, .ref k24, .ref k25, .int (bz pd), .int (nI pl), .int (bz tk), kv, .ref k30, .ref k31, .int (nI tz), .ref k33, .int (nI rs), .int sd])), (k1, .inl (cI, 7, .inl (nIf ki))), (k2, .inl (cI, 7, .inl (nIf op))), (k3, .inl (cI, 7, .inl (nIf (shF sh)))), (k4, .inl (cI, 7, .inl (nIf fa))), (k6, .inl (cI, 6, .inl (nIf K))), (k7, .inl (cI, 6, .inl (nIf G))), (k8, .inl (cI, 6, .inl (nIf T))), (k12, .inl (cI, 7, .inl (nIf kw))), (k13, .inl (cI, 175, .inl (nIf kn))), (k14, .inl (cI, 144, .inl (mIf M))), (k15, .inl (cI, 7, .inl (nIf mw))), (k24, .inl (cI, 48, .inl (nIf kp))), (k10, .inl (cI, 7, .inl (nIf R)))]
  refine v_al_n 1 zC dX5_colds_0 0 rfl ?_
  refine v_ic (v := (nI 0)) 2 zC dX5_colds_1 (by decide +kernel) ?_
  refine v_pf (ws2 := [(r0, .inr (5, [.int (nI n), .ref k1, .ref k2, .ref k3, .ref k4, .int (nI m), .ref k6, .ref k7, .ref k8, .int (nI 0), .ref k10, .int (nI 0), .ref k12, .ref k13, .ref k14, .ref k15, .ref k16, .int (nI ls), .int (nI ap), .int (bz bd), .int (nI sq), .ref k21, .ref k22, .ref k23, .ref k24, .ref k25, .int (bz pd), .int (nI pl), .int (bz tk), kv, .ref k30, .ref k31, .int (nI tz), .ref k33, .int (nI rs), .int sd])), (k1, .inl (cI, 7, .inl (nIf ki))), (k2, .inl (cI, 7, .inl (nIf op))), (k3, .inl (cI, 7, .inl (nIf (shF sh)))), (k4, .inl (cI, 7, .inl (nIf fa))), (k6, .inl (cI, 6, .inl (nIf K))), (k7, .inl (cI, 6, .inl (nIf G))), (k8, .inl (cI, 6, .inl (nIf T))), (k12, .inl (cI, 7, .inl (nIf kw))), (k13, .inl (cI, 175, .inl (nIf kn))), (k14, .inl (cI, 144, .inl (mIf M))), (k15, .inl (cI, 7, .inl (nIf mw))), (k24, .inl (cI, 48, .inl (nIf kp))), (k10, .inl (cI, 7, .inl (nIf R)))]) 5 0 zC dX5_colds_2 pf_X5_73 rfl (Nat.le_of_ble_eq_true rfl) rfl rfl rfl ?_
  refine v_al_n 6 zC dX5_colds_5 0 rfl ?_
  refine v_il_n 7 zC dX5_colds_6 1 rfl ?_
  refine v_cV (As := [.int p]) (st := []) 10 0 [0] zC dX5_colds_7 hA (c_X5_isOne (ev_l E) (ev_D E) cI (r0 := r0) (k1 := k1) (k2 := k2) (k3 := k3) (k4 := k4) (k6 := k6) (k7 := k7) (k8 := k8) (k10 := k10) (k12 := k12) (k13 := k13) (k14 := k14) (k15 := k15) (k16 := k16) (k21 := k21) (k22 := k22) (k23 := k23) (k24 := k24) (k25 := k25) (k30 := k30) (k31 := k31) (k33 := k33) (n := n) (m := m) (aw := 0) (ls := ls) (ap := ap) (sq := sq) (pl := pl) (tz := tz) (rs := rs) (bd := bd) (pd := pd) (tk := tk) (kv := kv) (sd := sd) (p := p) (hn := (by first | omega | assumption | rfl | (simp only []; omega) | decide))) cf_X5_isOne lk_X5_164 rfl rfl rfl rfl rfl (by decide +kernel) (Nat.le_of_ble_eq_true rfl) (fun rv_1 wv_2 hp_3 hm_4 => ?_)
  clear hm_4
  rcases hp_3 with ⟨hi_5, rfl, rfl⟩ | ⟨j_6, he_7, hi_8, hj_9, rfl, rfl⟩
  ·
    show VV E 0 0 10 [(0, .ref r0), (1, .int p), (2, .int f), (3, .int t), (4, .int w)] [.int (nI 0)] [(r0, .inr (5, [.int (nI n), .ref k1, .ref k2, .ref k3, .ref k4, .int (nI m), .ref k6, .ref k7, .ref k8, .int (nI 0), .ref k10, .int (nI 0), .ref k12, .ref k13, .ref k14, .ref k15, .ref k16, .int (nI ls), .int (nI ap), .int (bz bd), .int (nI sq), .ref k21, .ref k22, .ref k23, .ref k24, .ref k25, .int (bz pd), .int (nI pl), .int (bz tk), kv, .ref k30, .ref k31, .int (nI tz), .ref k33, .int (nI rs), .int sd])), (k1, .inl (cI, 7, .inl (nIf ki))), (k2, .inl (cI, 7, .inl (nIf op))), (k3, .inl (cI, 7, .inl (nIf (shF sh)))), (k4, .inl (cI, 7, .inl (nIf fa))), (k6, .inl (cI, 6, .inl (nIf K))), (k7, .inl (cI, 6, .inl (nIf G))), (k8, .inl (cI, 6, .inl (nIf T))), (k12, .inl (cI, 7, .inl (nIf kw))), (k13, .inl (cI, 175, .inl (nIf kn))), (k14, .inl (cI, 144, .inl (mIf M))), (k15, .inl (cI, 7, .inl (nIf mw))), (k24, .inl (cI, 48, .inl (nIf kp))), (k10, .inl (cI, 7, .inl (nIf R)))]
    have hn_p := hi_5
    refine v_if_eq 30 13 zC dX5_colds_10 (fun _ => ?_) (fun z => absurd (by decide +kernel) z)
    refine v_ic (v := (-1)) 31 zC dX5_colds_30 (by decide +kernel) ?_
    refine v_il 33 zC dX5_colds_31 4 rfl ?_
    refine v_ic (v := (nI 1)) 34 zC dX5_colds_33 (by decide +kernel) ?_
    refine v_cS (As := [.int (-1), .int w, .int (nI 1)]) (st := []) 37 [] zC dX5_colds_34 hA (c_X5_wrongBit__N (ev_l E) (ev_D E) cI (w := (-1)) (v := w) (k := 1) (hw0 := (by decide))) cf_X5_wrongBit lk_X5_248 rfl rfl rfl (by decide +kernel) (Nat.le_of_ble_eq_true rfl) (fun rv_11 wv_12 hp_13 hm_14 => ?_)
    clear hm_14
    obtain ⟨rfl, rfl⟩ := hp_13
    show VV E 0 0 37 [(0, .ref r0), (1, .int p), (2, .int f), (3, .int t), (4, .int w)] [.int (-1)] [(r0, .inr (5, [.int (nI n), .ref k1, .ref k2, .ref k3, .ref k4, .int (nI m), .ref k6, .ref k7, .ref k8, .int (nI 0), .ref k10, .int (nI 0), .ref k12, .ref k13, .ref k14, .ref k15, .ref k16, .int (nI ls), .int (nI ap), .int (bz bd), .int (nI sq), .ref k21, .ref k22, .ref k23, .ref k24, .ref k25, .int (bz pd), .int (nI pl), .int (bz tk), kv, .ref k30, .ref k31, .int (nI tz), .ref k33, .int (nI rs), .int sd])), (k1, .inl (cI, 7, .inl (nIf ki))), (k2, .inl (cI, 7, .inl (nIf op))), (k3, .inl (cI, 7, .inl (nIf (shF sh)))), (k4, .inl (cI, 7, .inl (nIf fa))), (k6, .inl (cI, 6, .inl (nIf K))), (k7, .inl (cI, 6, .inl (nIf G))), (k8, .inl (cI, 6, .inl (nIf T))), (k12, .inl (cI, 7, .inl (nIf kw))), (k13, .inl (cI, 175, .inl (nIf kn))), (k14, .inl (cI, 144, .inl (mIf M))), (k15, .inl (cI, 7, .inl (nIf mw))), (k24, .inl (cI, 48, .inl (nIf kp))), (k10, .inl (cI, 7, .inl (nIf R)))]
    refine v_is (lv2 := [(5, .int (-1)), (0, .ref r0), (1, .int p), (2, .int f), (3, .int t), (4, .int w)]) 39 zC dX5_colds_37 (by rw [hnE]; decide) rfl ?_
    refine v_il 41 zC dX5_colds_39 0 rfl ?_
    refine v_if_ge 56 44 zC dX5_colds_41 (fun z => absurd z (by decide +kernel)) (fun _ => ?_)
    refine v_ldc2 (v := (lN 4000000000000000000)) 47 zC dX5_colds_44 kc_X5_276 ?_
    refine v_al_n 48 zC dX5_colds_47 1 rfl ?_
    refine v_il 50 zC dX5_colds_48 0 rfl ?_
    refine v_cV (As := [.int (-1)]) (st := [.long (lN 4000000000000000000)]) 53 0 [0, 13] zC dX5_colds_50 hA (c_X5_refuse (ev_l E) (ev_D E) cI (r0 := r0) (k1 := k1) (k2 := k2) (k3 := k3) (k4 := k4) (k6 := k6) (k7 := k7) (k8 := k8) (k10 := k10) (k12 := k12) (k13 := k13) (k14 := k14) (k15 := k15) (k16 := k16) (k21 := k21) (k22 := k22) (k23 := k23) (k24 := k24) (k25 := k25) (k30 := k30) (k31 := k31) (k33 := k33) (n := n) (m := m) (aw := 0) (ls := ls) (ap := ap) (sq := sq) (pl := pl) (tz := tz) (rs := rs) (bd := bd) (pd := pd) (tk := tk) (kv := kv) (sd := sd) (R := R) (v := (-1)) (j := 1) (hv := (by first | omega | assumption | rfl | (simp only []; omega) | decide)) (h1 := (by first | omega | assumption | rfl | (simp only []; omega) | decide)) (h6 := (by first | omega | assumption | rfl | (simp only []; omega) | decide))) cf_X5_refuse lk_X5_129 rfl rfl rfl rfl rfl (by decide +kernel) (Nat.le_of_ble_eq_true rfl) (fun rv_16 wv_17 hp_18 hm_19 => ?_)
    clear hm_19
    obtain ⟨rfl, rfl⟩ := hp_18
    show VV E 0 0 53 [(5, .int (-1)), (0, .ref r0), (1, .int p), (2, .int f), (3, .int t), (4, .int w)] [.int (-1), .long (lN 4000000000000000000)] [(r0, .inr (5, [.int (nI n), .ref k1, .ref k2, .ref k3, .ref k4, .int (nI m), .ref k6, .ref k7, .ref k8, .int (nI 0), .ref k10, .int (nI 0), .ref k12, .ref k13, .ref k14, .ref k15, .ref k16, .int (nI ls), .int (nI ap), .int (bz bd), .int (nI sq), .ref k21, .ref k22, .ref k23, .ref k24, .ref k25, .int (bz pd), .int (nI pl), .int (bz tk), kv, .ref k30, .ref k31, .int (nI tz), .ref k33, .int (nI rs), .int sd])), (k1, .inl (cI, 7, .inl (nIf ki))), (k2, .inl (cI, 7, .inl (nIf op))), (k3, .inl (cI, 7, .inl (nIf (shF sh)))), (k4, .inl (cI, 7, .inl (nIf fa))), (k6, .inl (cI, 6, .inl (nIf K))), (k7, .inl (cI, 6, .inl (nIf G))), (k8, .inl (cI, 6, .inl (nIf T))), (k12, .inl (cI, 7, .inl (nIf kw))), (k13, .inl (cI, 175, .inl (nIf kn))), (k14, .inl (cI, 144, .inl (mIf M))), (k15, .inl (cI, 7, .inl (nIf mw))), (k24, .inl (cI, 48, .inl (nIf kp))), (k10, .inl (cI, 7, .inl (nIf (un R 1 (R 1 + 1)))))]
    refine v_i2l (v := (Int32.toInt64 (-1))) 54 zC dX5_colds_53 rfl ?_
    refine v_lsub (v := ((lN 4000000000000000000) - (Int32.toInt64 (-1)))) 55 zC dX5_colds_54  rfl ?_
    refine v_lret zC zT dX5_colds_55  ?_
    first | (have g9 := hn_p; exact ⟨kw, kn, M, mw, kp, pl, tk, kv, 1, RLF (-1), by unfold q_colds; rw [hn_p], hkw, hkn, hM, rfl, rfl⟩) | (have g9 := hn_f; exact ⟨kw, kn, M, mw, kp, pl, tk, kv, 1, RLF (-1), by unfold q_colds; rw [hi_p]; dsimp only; rw [hn_f], hkw, hkn, hM, rfl, rfl⟩) | (have g9 := hlt_t; exact ⟨kw, kn, M, mw, kp, pl, tk, kv, 4, RLF (-4), by unfold q_colds; rw [hi_p]; dsimp only; rw [hi_f]; dsimp only; rw [if_pos hlt_t], hkw, hkn, hM, rfl, rfl⟩) | (have g9 := hgt_t; exact ⟨kw, kn, M, mw, kp, pl, tk, kv, 6, RLF (-6), by unfold q_colds; rw [hi_p]; dsimp only; rw [hi_f]; dsimp only; rw [if_neg hge_t, if_pos hgt_t], hkw, hkn, hM, rfl, rfl⟩) | (have g9 := hn_w; exact ⟨kw, kn, M, mw, kp, pl, tk, kv, 2, RLF (-2), by unfold q_colds; rw [hi_p]; dsimp only; rw [hi_f]; dsimp only; rw [if_neg hge_t, if_neg hle_t, hn_w], hkw, hkn, hM, rfl, rfl⟩) | exact ⟨_, _, _, _, _, _, _, _, 0, _, by unfold q_colds; rw [hi_p]; dsimp only; rw [hi_f]; dsimp only; rw [if_neg hge_t, if_neg hle_t, hi_w]; dsimp only; rw [nI_clamp (show jt < 2 ^ 31 by omega)]; unfold COLA; rw [show 2 ^ g_n (n, m, sh, 0, ki, op, fa, K, G, T) = z from (by show 2 ^ n = z; omega), ← hs, show jt ^ (g_n (n, m, sh, 0, ki, op, fa, K, G, T) - pcn (g_sh (n, m, sh, 0, ki, op, fa, K, G, T))) = x from hx8.symm]; first | (rw [pto_0 hz9]; done) | (rw [pto_s hz9 (by assumption) rfl]; done) | (rw [pto_t hz9 (by assumption) rfl]; done), hkw2, hkn2, hM2, rfl, rfl⟩
  ·
    show VV E 0 0 10 [(0, .ref r0), (1, .int p), (2, .int f), (3, .int t), (4, .int w)] [.int (nI 1)] [(r0, .inr (5, [.int (nI n), .ref k1, .ref k2, .ref k3, .ref k4, .int (nI m), .ref k6, .ref k7, .ref k8, .int (nI 0), .ref k10, .int (nI 0), .ref k12, .ref k13, .ref k14, .ref k15, .ref k16, .int (nI ls), .int (nI ap), .int (bz bd), .int (nI sq), .ref k21, .ref k22, .ref k23, .ref k24, .ref k25, .int (bz pd), .int (nI pl), .int (bz tk), kv, .ref k30, .ref k31, .int (nI tz), .ref k33, .int (nI rs), .int sd])), (k1, .inl (cI, 7, .inl (nIf ki))), (k2, .inl (cI, 7, .inl (nIf op))), (k3, .inl (cI, 7, .inl (nIf (shF sh)))), (k4, .inl (cI, 7, .inl (nIf fa))), (k6, .inl (cI, 6, .inl (nIf K))), (k7, .inl (cI, 6, .inl (nIf G))), (k8, .inl (cI, 6, .inl (nIf T))), (k12, .inl (cI, 7, .inl (nIf kw))), (k13, .inl (cI, 175, .inl (nIf kn))), (k14, .inl (cI, 144, .inl (mIf M))), (k15, .inl (cI, 7, .inl (nIf mw))), (k24, .inl (cI, 48, .inl (nIf kp))), (k10, .inl (cI, 7, .inl (nIf R)))]
    subst he_7
    have hi_p := hi_8
    obtain ⟨jp, hx_jp⟩ : ∃ z, z = j_6 := ⟨_, rfl⟩
    subst hx_jp
    refine v_if_eq 30 13 zC dX5_colds_10 (fun z => absurd z (by decide +kernel)) (fun _ => ?_)
    refine v_il_n 14 zC dX5_colds_13 2 rfl ?_
    refine v_cS (As := [.int f]) (st := []) 17 [] zC dX5_colds_14 hA (c_X5_isFact (ev_l E) (ev_D E) cI (p := f) ) cf_X5_isFact lk_X5_225 rfl rfl rfl (by decide +kernel) (Nat.le_of_ble_eq_true rfl) (fun rv_21 wv_22 hp_23 hm_24 => ?_)
    clear hm_24
    rcases hp_23 with ⟨hi_25, rfl, rfl⟩ | ⟨j_26, he_27, hi_28, hj_29, rfl, rfl⟩
    ·
      show VV E 0 0 17 [(0, .ref r0), (1, .int (nI jp)), (2, .int f), (3, .int t), (4, .int w)] [.int (nI 0)] [(r0, .inr (5, [.int (nI n), .ref k1, .ref k2, .ref k3, .ref k4, .int (nI m), .ref k6, .ref k7, .ref k8, .int (nI 0), .ref k10, .int (nI 0), .ref k12, .ref k13, .ref k14, .ref k15, .ref k16, .int (nI ls), .int (nI ap), .int (bz bd), .int (nI sq), .ref k21, .ref k22, .ref k23, .ref k24, .ref k25, .int (bz pd), .int (nI pl), .int (bz tk), kv, .ref k30, .ref k31, .int (nI tz), .ref k33, .int (nI rs), .int sd])), (k1, .inl (cI, 7, .inl (nIf ki))), (k2, .inl (cI, 7, .inl (nIf op))), (k3, .inl (cI, 7, .inl (nIf (shF sh)))), (k4, .inl (cI, 7, .inl (nIf fa))), (k6, .inl (cI, 6, .inl (nIf K))), (k7, .inl (cI, 6, .inl (nIf G))), (k8, .inl (cI, 6, .inl (nIf T))), (k12, .inl (cI, 7, .inl (nIf kw))), (k13, .inl (cI, 175, .inl (nIf kn))), (k14, .inl (cI, 144, .inl (mIf M))), (k15, .inl (cI, 7, .inl (nIf mw))), (k24, .inl (cI, 48, .inl (nIf kp))), (k10, .inl (cI, 7, .inl (nIf R)))]
      have hn_f := hi_25
      refine v_if_eq 30 20 zC dX5_colds_17 (fun _ => ?_) (fun z => absurd (by decide +kernel) z)
      refine v_ic (v := (-1)) 31 zC dX5_colds_30 (by decide +kernel) ?_
      refine v_il 33 zC dX5_colds_31 4 rfl ?_
      refine v_ic (v := (nI 1)) 34 zC dX5_colds_33 (by decide +kernel) ?_
      refine v_cS (As := [.int (-1), .int w, .int (nI 1)]) (st := []) 37 [] zC dX5_colds_34 hA (c_X5_wrongBit__N (ev_l E) (ev_D E) cI (w := (-1)) (v := w) (k := 1) (hw0 := (by decide))) cf_X5_wrongBit lk_X5_248 rfl rfl rfl (by decide +kernel) (Nat.le_of_ble_eq_true rfl) (fun rv_31 wv_32 hp_33 hm_34 => ?_)
      clear hm_34
      obtain ⟨rfl, rfl⟩ := hp_33
      show VV E 0 0 37 [(0, .ref r0), (1, .int (nI jp)), (2, .int f), (3, .int t), (4, .int w)] [.int (-1)] [(r0, .inr (5, [.int (nI n), .ref k1, .ref k2, .ref k3, .ref k4, .int (nI m), .ref k6, .ref k7, .ref k8, .int (nI 0), .ref k10, .int (nI 0), .ref k12, .ref k13, .ref k14, .ref k15, .ref k16, .int (nI ls), .int (nI ap), .int (bz bd), .int (nI sq), .ref k21, .ref k22, .ref k23, .ref k24, .ref k25, .int (bz pd), .int (nI pl), .int (bz tk), kv, .ref k30, .ref k31, .int (nI tz), .ref k33, .int (nI rs), .int sd])), (k1, .inl (cI, 7, .inl (nIf ki))), (k2, .inl (cI, 7, .inl (nIf op))), (k3, .inl (cI, 7, .inl (nIf (shF sh)))), (k4, .inl (cI, 7, .inl (nIf fa))), (k6, .inl (cI, 6, .inl (nIf K))), (k7, .inl (cI, 6, .inl (nIf G))), (k8, .inl (cI, 6, .inl (nIf T))), (k12, .inl (cI, 7, .inl (nIf kw))), (k13, .inl (cI, 175, .inl (nIf kn))), (k14, .inl (cI, 144, .inl (mIf M))), (k15, .inl (cI, 7, .inl (nIf mw))), (k24, .inl (cI, 48, .inl (nIf kp))), (k10, .inl (cI, 7, .inl (nIf R)))]
      refine v_is (lv2 := [(5, .int (-1)), (0, .ref r0), (1, .int (nI jp)), (2, .int f), (3, .int t), (4, .int w)]) 39 zC dX5_colds_37 (by rw [hnE]; decide) rfl ?_
      refine v_il 41 zC dX5_colds_39 0 rfl ?_
      refine v_if_ge 56 44 zC dX5_colds_41 (fun z => absurd z (by decide +kernel)) (fun _ => ?_)
      refine v_ldc2 (v := (lN 4000000000000000000)) 47 zC dX5_colds_44 kc_X5_276 ?_
      refine v_al_n 48 zC dX5_colds_47 1 rfl ?_
      refine v_il 50 zC dX5_colds_48 0 rfl ?_
      refine v_cV (As := [.int (-1)]) (st := [.long (lN 4000000000000000000)]) 53 0 [0, 13] zC dX5_colds_50 hA (c_X5_refuse (ev_l E) (ev_D E) cI (r0 := r0) (k1 := k1) (k2 := k2) (k3 := k3) (k4 := k4) (k6 := k6) (k7 := k7) (k8 := k8) (k10 := k10) (k12 := k12) (k13 := k13) (k14 := k14) (k15 := k15) (k16 := k16) (k21 := k21) (k22 := k22) (k23 := k23) (k24 := k24) (k25 := k25) (k30 := k30) (k31 := k31) (k33 := k33) (n := n) (m := m) (aw := 0) (ls := ls) (ap := ap) (sq := sq) (pl := pl) (tz := tz) (rs := rs) (bd := bd) (pd := pd) (tk := tk) (kv := kv) (sd := sd) (R := R) (v := (-1)) (j := 1) (hv := (by first | omega | assumption | rfl | (simp only []; omega) | decide)) (h1 := (by first | omega | assumption | rfl | (simp only []; omega) | decide)) (h6 := (by first | omega | assumption | rfl | (simp only []; omega) | decide))) cf_X5_refuse lk_X5_129 rfl rfl rfl rfl rfl (by decide +kernel) (Nat.le_of_ble_eq_true rfl) (fun rv_36 wv_37 hp_38 hm_39 => ?_)
      clear hm_39
      obtain ⟨rfl, rfl⟩ := hp_38
      show VV E 0 0 53 [(5, .int (-1)), (0, .ref r0), (1, .int (nI jp)), (2, .int f), (3, .int t), (4, .int w)] [.int (-1), .long (lN 4000000000000000000)] [(r0, .inr (5, [.int (nI n), .ref k1, .ref k2, .ref k3, .ref k4, .int (nI m), .ref k6, .ref k7, .ref k8, .int (nI 0), .ref k10, .int (nI 0), .ref k12, .ref k13, .ref k14, .ref k15, .ref k16, .int (nI ls), .int (nI ap), .int (bz bd), .int (nI sq), .ref k21, .ref k22, .ref k23, .ref k24, .ref k25, .int (bz pd), .int (nI pl), .int (bz tk), kv, .ref k30, .ref k31, .int (nI tz), .ref k33, .int (nI rs), .int sd])), (k1, .inl (cI, 7, .inl (nIf ki))), (k2, .inl (cI, 7, .inl (nIf op))), (k3, .inl (cI, 7, .inl (nIf (shF sh)))), (k4, .inl (cI, 7, .inl (nIf fa))), (k6, .inl (cI, 6, .inl (nIf K))), (k7, .inl (cI, 6, .inl (nIf G))), (k8, .inl (cI, 6, .inl (nIf T))), (k12, .inl (cI, 7, .inl (nIf kw))), (k13, .inl (cI, 175, .inl (nIf kn))), (k14, .inl (cI, 144, .inl (mIf M))), (k15, .inl (cI, 7, .inl (nIf mw))), (k24, .inl (cI, 48, .inl (nIf kp))), (k10, .inl (cI, 7, .inl (nIf (un R 1 (R 1 + 1)))))]
      refine v_i2l (v := (Int32.toInt64 (-1))) 54 zC dX5_colds_53 rfl ?_
      refine v_lsub (v := ((lN 4000000000000000000) - (Int32.toInt64 (-1)))) 55 zC dX5_colds_54  rfl ?_
      refine v_lret zC zT dX5_colds_55  ?_
      first | (have g9 := hn_p; exact ⟨kw, kn, M, mw, kp, pl, tk, kv, 1, RLF (-1), by unfold q_colds; rw [hn_p], hkw, hkn, hM, rfl, rfl⟩) | (have g9 := hn_f; exact ⟨kw, kn, M, mw, kp, pl, tk, kv, 1, RLF (-1), by unfold q_colds; rw [hi_p]; dsimp only; rw [hn_f], hkw, hkn, hM, rfl, rfl⟩) | (have g9 := hlt_t; exact ⟨kw, kn, M, mw, kp, pl, tk, kv, 4, RLF (-4), by unfold q_colds; rw [hi_p]; dsimp only; rw [hi_f]; dsimp only; rw [if_pos hlt_t], hkw, hkn, hM, rfl, rfl⟩) | (have g9 := hgt_t; exact ⟨kw, kn, M, mw, kp, pl, tk, kv, 6, RLF (-6), by unfold q_colds; rw [hi_p]; dsimp only; rw [hi_f]; dsimp only; rw [if_neg hge_t, if_pos hgt_t], hkw, hkn, hM, rfl, rfl⟩) | (have g9 := hn_w; exact ⟨kw, kn, M, mw, kp, pl, tk, kv, 2, RLF (-2), by unfold q_colds; rw [hi_p]; dsimp only; rw [hi_f]; dsimp only; rw [if_neg hge_t, if_neg hle_t, hn_w], hkw, hkn, hM, rfl, rfl⟩) | exact ⟨_, _, _, _, _, _, _, _, 0, _, by unfold q_colds; rw [hi_p]; dsimp only; rw [hi_f]; dsimp only; rw [if_neg hge_t, if_neg hle_t, hi_w]; dsimp only; rw [nI_clamp (show jt < 2 ^ 31 by omega)]; unfold COLA; rw [show 2 ^ g_n (n, m, sh, 0, ki, op, fa, K, G, T) = z from (by show 2 ^ n = z; omega), ← hs, show jt ^ (g_n (n, m, sh, 0, ki, op, fa, K, G, T) - pcn (g_sh (n, m, sh, 0, ki, op, fa, K, G, T))) = x from hx8.symm]; first | (rw [pto_0 hz9]; done) | (rw [pto_s hz9 (by assumption) rfl]; done) | (rw [pto_t hz9 (by assumption) rfl]; done), hkw2, hkn2, hM2, rfl, rfl⟩
    ·
      show VV E 0 0 17 [(0, .ref r0), (1, .int (nI jp)), (2, .int f), (3, .int t), (4, .int w)] [.int (nI 1)] [(r0, .inr (5, [.int (nI n), .ref k1, .ref k2, .ref k3, .ref k4, .int (nI m), .ref k6, .ref k7, .ref k8, .int (nI 0), .ref k10, .int (nI 0), .ref k12, .ref k13, .ref k14, .ref k15, .ref k16, .int (nI ls), .int (nI ap), .int (bz bd), .int (nI sq), .ref k21, .ref k22, .ref k23, .ref k24, .ref k25, .int (bz pd), .int (nI pl), .int (bz tk), kv, .ref k30, .ref k31, .int (nI tz), .ref k33, .int (nI rs), .int sd])), (k1, .inl (cI, 7, .inl (nIf ki))), (k2, .inl (cI, 7, .inl (nIf op))), (k3, .inl (cI, 7, .inl (nIf (shF sh)))), (k4, .inl (cI, 7, .inl (nIf fa))), (k6, .inl (cI, 6, .inl (nIf K))), (k7, .inl (cI, 6, .inl (nIf G))), (k8, .inl (cI, 6, .inl (nIf T))), (k12, .inl (cI, 7, .inl (nIf kw))), (k13, .inl (cI, 175, .inl (nIf kn))), (k14, .inl (cI, 144, .inl (mIf M))), (k15, .inl (cI, 7, .inl (nIf mw))), (k24, .inl (cI, 48, .inl (nIf kp))), (k10, .inl (cI, 7, .inl (nIf R)))]
      subst he_27
      have hi_f := hi_28
      obtain ⟨jf, hx_jf⟩ : ∃ z, z = j_26 := ⟨_, rfl⟩
      subst hx_jf
      refine v_if_eq 30 20 zC dX5_colds_17 (fun z => absurd z (by decide +kernel)) (fun _ => ?_)
      refine v_il_n 21 zC dX5_colds_20 3 rfl ?_
      refine v_ic (v := (nI 2)) 22 zC dX5_colds_21 (by decide +kernel) ?_
      refine v_bp (v := (nI 20)) 24 zC dX5_colds_22 (by decide +kernel) ?_
      refine v_cS (As := [.int t, .int (nI 2), .int (nI 20)]) (st := []) 27 [] zC dX5_colds_24 hA (c_X5_wrongNumber (ev_l E) (ev_D E) cI (v := t) (a := 2) (b := 20) (ha := (by first | omega | assumption | rfl | (simp only []; omega) | decide)) (hb := (by first | omega | assumption | rfl | (simp only []; omega) | decide))) cf_X5_wrongNumber lk_X5_213 rfl rfl rfl (by decide +kernel) (Nat.le_of_ble_eq_true rfl) (fun rv_41 wv_42 hp_43 hm_44 => ?_)
      clear hm_44
      rcases hp_43 with ⟨hq_45, rfl, rfl⟩ | ⟨hq_46, hq2_47, rfl, rfl⟩ | ⟨j_48, he_49, h1_50, h2_51, rfl, rfl⟩
      ·
        show VV E 0 0 27 [(0, .ref r0), (1, .int (nI jp)), (2, .int (nI jf)), (3, .int t), (4, .int w)] [.int (-4)] [(r0, .inr (5, [.int (nI n), .ref k1, .ref k2, .ref k3, .ref k4, .int (nI m), .ref k6, .ref k7, .ref k8, .int (nI 0), .ref k10, .int (nI 0), .ref k12, .ref k13, .ref k14, .ref k15, .ref k16, .int (nI ls), .int (nI ap), .int (bz bd), .int (nI sq), .ref k21, .ref k22, .ref k23, .ref k24, .ref k25, .int (bz pd), .int (nI pl), .int (bz tk), kv, .ref k30, .ref k31, .int (nI tz), .ref k33, .int (nI rs), .int sd])), (k1, .inl (cI, 7, .inl (nIf ki))), (k2, .inl (cI, 7, .inl (nIf op))), (k3, .inl (cI, 7, .inl (nIf (shF sh)))), (k4, .inl (cI, 7, .inl (nIf fa))), (k6, .inl (cI, 6, .inl (nIf K))), (k7, .inl (cI, 6, .inl (nIf G))), (k8, .inl (cI, 6, .inl (nIf T))), (k12, .inl (cI, 7, .inl (nIf kw))), (k13, .inl (cI, 175, .inl (nIf kn))), (k14, .inl (cI, 144, .inl (mIf M))), (k15, .inl (cI, 7, .inl (nIf mw))), (k24, .inl (cI, 48, .inl (nIf kp))), (k10, .inl (cI, 7, .inl (nIf R)))]
        have hlt_t : t < nI 2 := hq_45
        refine v_goto 31 zC dX5_colds_27 ?_
        refine v_il 33 zC dX5_colds_31 4 rfl ?_
        refine v_ic (v := (nI 1)) 34 zC dX5_colds_33 (by decide +kernel) ?_
        refine v_cS (As := [.int (-4), .int w, .int (nI 1)]) (st := []) 37 [] zC dX5_colds_34 hA (c_X5_wrongBit__N (ev_l E) (ev_D E) cI (w := (-4)) (v := w) (k := 1) (hw0 := (by decide))) cf_X5_wrongBit lk_X5_248 rfl rfl rfl (by decide +kernel) (Nat.le_of_ble_eq_true rfl) (fun rv_52 wv_53 hp_54 hm_55 => ?_)
        clear hm_55
        obtain ⟨rfl, rfl⟩ := hp_54
        show VV E 0 0 37 [(0, .ref r0), (1, .int (nI jp)), (2, .int (nI jf)), (3, .int t), (4, .int w)] [.int (-4)] [(r0, .inr (5, [.int (nI n), .ref k1, .ref k2, .ref k3, .ref k4, .int (nI m), .ref k6, .ref k7, .ref k8, .int (nI 0), .ref k10, .int (nI 0), .ref k12, .ref k13, .ref k14, .ref k15, .ref k16, .int (nI ls), .int (nI ap), .int (bz bd), .int (nI sq), .ref k21, .ref k22, .ref k23, .ref k24, .ref k25, .int (bz pd), .int (nI pl), .int (bz tk), kv, .ref k30, .ref k31, .int (nI tz), .ref k33, .int (nI rs), .int sd])), (k1, .inl (cI, 7, .inl (nIf ki))), (k2, .inl (cI, 7, .inl (nIf op))), (k3, .inl (cI, 7, .inl (nIf (shF sh)))), (k4, .inl (cI, 7, .inl (nIf fa))), (k6, .inl (cI, 6, .inl (nIf K))), (k7, .inl (cI, 6, .inl (nIf G))), (k8, .inl (cI, 6, .inl (nIf T))), (k12, .inl (cI, 7, .inl (nIf kw))), (k13, .inl (cI, 175, .inl (nIf kn))), (k14, .inl (cI, 144, .inl (mIf M))), (k15, .inl (cI, 7, .inl (nIf mw))), (k24, .inl (cI, 48, .inl (nIf kp))), (k10, .inl (cI, 7, .inl (nIf R)))]
        refine v_is (lv2 := [(5, .int (-4)), (0, .ref r0), (1, .int (nI jp)), (2, .int (nI jf)), (3, .int t), (4, .int w)]) 39 zC dX5_colds_37 (by rw [hnE]; decide) rfl ?_
        refine v_il 41 zC dX5_colds_39 0 rfl ?_
        refine v_if_ge 56 44 zC dX5_colds_41 (fun z => absurd z (by decide +kernel)) (fun _ => ?_)
        refine v_ldc2 (v := (lN 4000000000000000000)) 47 zC dX5_colds_44 kc_X5_276 ?_
        refine v_al_n 48 zC dX5_colds_47 1 rfl ?_
        refine v_il 50 zC dX5_colds_48 0 rfl ?_
        refine v_cV (As := [.int (-4)]) (st := [.long (lN 4000000000000000000)]) 53 0 [0, 13] zC dX5_colds_50 hA (c_X5_refuse (ev_l E) (ev_D E) cI (r0 := r0) (k1 := k1) (k2 := k2) (k3 := k3) (k4 := k4) (k6 := k6) (k7 := k7) (k8 := k8) (k10 := k10) (k12 := k12) (k13 := k13) (k14 := k14) (k15 := k15) (k16 := k16) (k21 := k21) (k22 := k22) (k23 := k23) (k24 := k24) (k25 := k25) (k30 := k30) (k31 := k31) (k33 := k33) (n := n) (m := m) (aw := 0) (ls := ls) (ap := ap) (sq := sq) (pl := pl) (tz := tz) (rs := rs) (bd := bd) (pd := pd) (tk := tk) (kv := kv) (sd := sd) (R := R) (v := (-4)) (j := 4) (hv := (by first | omega | assumption | rfl | (simp only []; omega) | decide)) (h1 := (by first | omega | assumption | rfl | (simp only []; omega) | decide)) (h6 := (by first | omega | assumption | rfl | (simp only []; omega) | decide))) cf_X5_refuse lk_X5_129 rfl rfl rfl rfl rfl (by decide +kernel) (Nat.le_of_ble_eq_true rfl) (fun rv_57 wv_58 hp_59 hm_60 => ?_)
        clear hm_60
        obtain ⟨rfl, rfl⟩ := hp_59
        show VV E 0 0 53 [(5, .int (-4)), (0, .ref r0), (1, .int (nI jp)), (2, .int (nI jf)), (3, .int t), (4, .int w)] [.int (-4), .long (lN 4000000000000000000)] [(r0, .inr (5, [.int (nI n), .ref k1, .ref k2, .ref k3, .ref k4, .int (nI m), .ref k6, .ref k7, .ref k8, .int (nI 0), .ref k10, .int (nI 0), .ref k12, .ref k13, .ref k14, .ref k15, .ref k16, .int (nI ls), .int (nI ap), .int (bz bd), .int (nI sq), .ref k21, .ref k22, .ref k23, .ref k24, .ref k25, .int (bz pd), .int (nI pl), .int (bz tk), kv, .ref k30, .ref k31, .int (nI tz), .ref k33, .int (nI rs), .int sd])), (k1, .inl (cI, 7, .inl (nIf ki))), (k2, .inl (cI, 7, .inl (nIf op))), (k3, .inl (cI, 7, .inl (nIf (shF sh)))), (k4, .inl (cI, 7, .inl (nIf fa))), (k6, .inl (cI, 6, .inl (nIf K))), (k7, .inl (cI, 6, .inl (nIf G))), (k8, .inl (cI, 6, .inl (nIf T))), (k12, .inl (cI, 7, .inl (nIf kw))), (k13, .inl (cI, 175, .inl (nIf kn))), (k14, .inl (cI, 144, .inl (mIf M))), (k15, .inl (cI, 7, .inl (nIf mw))), (k24, .inl (cI, 48, .inl (nIf kp))), (k10, .inl (cI, 7, .inl (nIf (un R 4 (R 4 + 1)))))]
        refine v_i2l (v := (Int32.toInt64 (-4))) 54 zC dX5_colds_53 rfl ?_
        refine v_lsub (v := ((lN 4000000000000000000) - (Int32.toInt64 (-4)))) 55 zC dX5_colds_54  rfl ?_
        refine v_lret zC zT dX5_colds_55  ?_
        first | (have g9 := hn_p; exact ⟨kw, kn, M, mw, kp, pl, tk, kv, 1, RLF (-1), by unfold q_colds; rw [hn_p], hkw, hkn, hM, rfl, rfl⟩) | (have g9 := hn_f; exact ⟨kw, kn, M, mw, kp, pl, tk, kv, 1, RLF (-1), by unfold q_colds; rw [hi_p]; dsimp only; rw [hn_f], hkw, hkn, hM, rfl, rfl⟩) | (have g9 := hlt_t; exact ⟨kw, kn, M, mw, kp, pl, tk, kv, 4, RLF (-4), by unfold q_colds; rw [hi_p]; dsimp only; rw [hi_f]; dsimp only; rw [if_pos hlt_t], hkw, hkn, hM, rfl, rfl⟩) | (have g9 := hgt_t; exact ⟨kw, kn, M, mw, kp, pl, tk, kv, 6, RLF (-6), by unfold q_colds; rw [hi_p]; dsimp only; rw [hi_f]; dsimp only; rw [if_neg hge_t, if_pos hgt_t], hkw, hkn, hM, rfl, rfl⟩) | (have g9 := hn_w; exact ⟨kw, kn, M, mw, kp, pl, tk, kv, 2, RLF (-2), by unfold q_colds; rw [hi_p]; dsimp only; rw [hi_f]; dsimp only; rw [if_neg hge_t, if_neg hle_t, hn_w], hkw, hkn, hM, rfl, rfl⟩) | exact ⟨_, _, _, _, _, _, _, _, 0, _, by unfold q_colds; rw [hi_p]; dsimp only; rw [hi_f]; dsimp only; rw [if_neg hge_t, if_neg hle_t, hi_w]; dsimp only; rw [nI_clamp (show jt < 2 ^ 31 by omega)]; unfold COLA; rw [show 2 ^ g_n (n, m, sh, 0, ki, op, fa, K, G, T) = z from (by show 2 ^ n = z; omega), ← hs, show jt ^ (g_n (n, m, sh, 0, ki, op, fa, K, G, T) - pcn (g_sh (n, m, sh, 0, ki, op, fa, K, G, T))) = x from hx8.symm]; first | (rw [pto_0 hz9]; done) | (rw [pto_s hz9 (by assumption) rfl]; done) | (rw [pto_t hz9 (by assumption) rfl]; done), hkw2, hkn2, hM2, rfl, rfl⟩
      ·
        show VV E 0 0 27 [(0, .ref r0), (1, .int (nI jp)), (2, .int (nI jf)), (3, .int t), (4, .int w)] [.int (-6)] [(r0, .inr (5, [.int (nI n), .ref k1, .ref k2, .ref k3, .ref k4, .int (nI m), .ref k6, .ref k7, .ref k8, .int (nI 0), .ref k10, .int (nI 0), .ref k12, .ref k13, .ref k14, .ref k15, .ref k16, .int (nI ls), .int (nI ap), .int (bz bd), .int (nI sq), .ref k21, .ref k22, .ref k23, .ref k24, .ref k25, .int (bz pd), .int (nI pl), .int (bz tk), kv, .ref k30, .ref k31, .int (nI tz), .ref k33, .int (nI rs), .int sd])), (k1, .inl (cI, 7, .inl (nIf ki))), (k2, .inl (cI, 7, .inl (nIf op))), (k3, .inl (cI, 7, .inl (nIf (shF sh)))), (k4, .inl (cI, 7, .inl (nIf fa))), (k6, .inl (cI, 6, .inl (nIf K))), (k7, .inl (cI, 6, .inl (nIf G))), (k8, .inl (cI, 6, .inl (nIf T))), (k12, .inl (cI, 7, .inl (nIf kw))), (k13, .inl (cI, 175, .inl (nIf kn))), (k14, .inl (cI, 144, .inl (mIf M))), (k15, .inl (cI, 7, .inl (nIf mw))), (k24, .inl (cI, 48, .inl (nIf kp))), (k10, .inl (cI, 7, .inl (nIf R)))]
        have hge_t := hq_46
        have hgt_t := hq2_47
        refine v_goto 31 zC dX5_colds_27 ?_
        refine v_il 33 zC dX5_colds_31 4 rfl ?_
        refine v_ic (v := (nI 1)) 34 zC dX5_colds_33 (by decide +kernel) ?_
        refine v_cS (As := [.int (-6), .int w, .int (nI 1)]) (st := []) 37 [] zC dX5_colds_34 hA (c_X5_wrongBit__N (ev_l E) (ev_D E) cI (w := (-6)) (v := w) (k := 1) (hw0 := (by decide))) cf_X5_wrongBit lk_X5_248 rfl rfl rfl (by decide +kernel) (Nat.le_of_ble_eq_true rfl) (fun rv_61 wv_62 hp_63 hm_64 => ?_)
        clear hm_64
        obtain ⟨rfl, rfl⟩ := hp_63
        show VV E 0 0 37 [(0, .ref r0), (1, .int (nI jp)), (2, .int (nI jf)), (3, .int t), (4, .int w)] [.int (-6)] [(r0, .inr (5, [.int (nI n), .ref k1, .ref k2, .ref k3, .ref k4, .int (nI m), .ref k6, .ref k7, .ref k8, .int (nI 0), .ref k10, .int (nI 0), .ref k12, .ref k13, .ref k14, .ref k15, .ref k16, .int (nI ls), .int (nI ap), .int (bz bd), .int (nI sq), .ref k21, .ref k22, .ref k23, .ref k24, .ref k25, .int (bz pd), .int (nI pl), .int (bz tk), kv, .ref k30, .ref k31, .int (nI tz), .ref k33, .int (nI rs), .int sd])), (k1, .inl (cI, 7, .inl (nIf ki))), (k2, .inl (cI, 7, .inl (nIf op))), (k3, .inl (cI, 7, .inl (nIf (shF sh)))), (k4, .inl (cI, 7, .inl (nIf fa))), (k6, .inl (cI, 6, .inl (nIf K))), (k7, .inl (cI, 6, .inl (nIf G))), (k8, .inl (cI, 6, .inl (nIf T))), (k12, .inl (cI, 7, .inl (nIf kw))), (k13, .inl (cI, 175, .inl (nIf kn))), (k14, .inl (cI, 144, .inl (mIf M))), (k15, .inl (cI, 7, .inl (nIf mw))), (k24, .inl (cI, 48, .inl (nIf kp))), (k10, .inl (cI, 7, .inl (nIf R)))]
        refine v_is (lv2 := [(5, .int (-6)), (0, .ref r0), (1, .int (nI jp)), (2, .int (nI jf)), (3, .int t), (4, .int w)]) 39 zC dX5_colds_37 (by rw [hnE]; decide) rfl ?_
        refine v_il 41 zC dX5_colds_39 0 rfl ?_
        refine v_if_ge 56 44 zC dX5_colds_41 (fun z => absurd z (by decide +kernel)) (fun _ => ?_)
        refine v_ldc2 (v := (lN 4000000000000000000)) 47 zC dX5_colds_44 kc_X5_276 ?_
        refine v_al_n 48 zC dX5_colds_47 1 rfl ?_
        refine v_il 50 zC dX5_colds_48 0 rfl ?_
        refine v_cV (As := [.int (-6)]) (st := [.long (lN 4000000000000000000)]) 53 0 [0, 13] zC dX5_colds_50 hA (c_X5_refuse (ev_l E) (ev_D E) cI (r0 := r0) (k1 := k1) (k2 := k2) (k3 := k3) (k4 := k4) (k6 := k6) (k7 := k7) (k8 := k8) (k10 := k10) (k12 := k12) (k13 := k13) (k14 := k14) (k15 := k15) (k16 := k16) (k21 := k21) (k22 := k22) (k23 := k23) (k24 := k24) (k25 := k25) (k30 := k30) (k31 := k31) (k33 := k33) (n := n) (m := m) (aw := 0) (ls := ls) (ap := ap) (sq := sq) (pl := pl) (tz := tz) (rs := rs) (bd := bd) (pd := pd) (tk := tk) (kv := kv) (sd := sd) (R := R) (v := (-6)) (j := 6) (hv := (by first | omega | assumption | rfl | (simp only []; omega) | decide)) (h1 := (by first | omega | assumption | rfl | (simp only []; omega) | decide)) (h6 := (by first | omega | assumption | rfl | (simp only []; omega) | decide))) cf_X5_refuse lk_X5_129 rfl rfl rfl rfl rfl (by decide +kernel) (Nat.le_of_ble_eq_true rfl) (fun rv_66 wv_67 hp_68 hm_69 => ?_)
        clear hm_69
        obtain ⟨rfl, rfl⟩ := hp_68
        show VV E 0 0 53 [(5, .int (-6)), (0, .ref r0), (1, .int (nI jp)), (2, .int (nI jf)), (3, .int t), (4, .int w)] [.int (-6), .long (lN 4000000000000000000)] [(r0, .inr (5, [.int (nI n), .ref k1, .ref k2, .ref k3, .ref k4, .int (nI m), .ref k6, .ref k7, .ref k8, .int (nI 0), .ref k10, .int (nI 0), .ref k12, .ref k13, .ref k14, .ref k15, .ref k16, .int (nI ls), .int (nI ap), .int (bz bd), .int (nI sq), .ref k21, .ref k22, .ref k23, .ref k24, .ref k25, .int (bz pd), .int (nI pl), .int (bz tk), kv, .ref k30, .ref k31, .int (nI tz), .ref k33, .int (nI rs), .int sd])), (k1, .inl (cI, 7, .inl (nIf ki))), (k2, .inl (cI, 7, .inl (nIf op))), (k3, .inl (cI, 7, .inl (nIf (shF sh)))), (k4, .inl (cI, 7, .inl (nIf fa))), (k6, .inl (cI, 6, .inl (nIf K))), (k7, .inl (cI, 6, .inl (nIf G))), (k8, .inl (cI, 6, .inl (nIf T))), (k12, .inl (cI, 7, .inl (nIf kw))), (k13, .inl (cI, 175, .inl (nIf kn))), (k14, .inl (cI, 144, .inl (mIf M))), (k15, .inl (cI, 7, .inl (nIf mw))), (k24, .inl (cI, 48, .inl (nIf kp))), (k10, .inl (cI, 7, .inl (nIf (un R 6 (R 6 + 1)))))]
        refine v_i2l (v := (Int32.toInt64 (-6))) 54 zC dX5_colds_53 rfl ?_
        refine v_lsub (v := ((lN 4000000000000000000) - (Int32.toInt64 (-6)))) 55 zC dX5_colds_54  rfl ?_
        refine v_lret zC zT dX5_colds_55  ?_
        first | (have g9 := hn_p; exact ⟨kw, kn, M, mw, kp, pl, tk, kv, 1, RLF (-1), by unfold q_colds; rw [hn_p], hkw, hkn, hM, rfl, rfl⟩) | (have g9 := hn_f; exact ⟨kw, kn, M, mw, kp, pl, tk, kv, 1, RLF (-1), by unfold q_colds; rw [hi_p]; dsimp only; rw [hn_f], hkw, hkn, hM, rfl, rfl⟩) | (have g9 := hlt_t; exact ⟨kw, kn, M, mw, kp, pl, tk, kv, 4, RLF (-4), by unfold q_colds; rw [hi_p]; dsimp only; rw [hi_f]; dsimp only; rw [if_pos hlt_t], hkw, hkn, hM, rfl, rfl⟩) | (have g9 := hgt_t; exact ⟨kw, kn, M, mw, kp, pl, tk, kv, 6, RLF (-6), by unfold q_colds; rw [hi_p]; dsimp only; rw [hi_f]; dsimp only; rw [if_neg hge_t, if_pos hgt_t], hkw, hkn, hM, rfl, rfl⟩) | (have g9 := hn_w; exact ⟨kw, kn, M, mw, kp, pl, tk, kv, 2, RLF (-2), by unfold q_colds; rw [hi_p]; dsimp only; rw [hi_f]; dsimp only; rw [if_neg hge_t, if_neg hle_t, hn_w], hkw, hkn, hM, rfl, rfl⟩) | exact ⟨_, _, _, _, _, _, _, _, 0, _, by unfold q_colds; rw [hi_p]; dsimp only; rw [hi_f]; dsimp only; rw [if_neg hge_t, if_neg hle_t, hi_w]; dsimp only; rw [nI_clamp (show jt < 2 ^ 31 by omega)]; unfold COLA; rw [show 2 ^ g_n (n, m, sh, 0, ki, op, fa, K, G, T) = z from (by show 2 ^ n = z; omega), ← hs, show jt ^ (g_n (n, m, sh, 0, ki, op, fa, K, G, T) - pcn (g_sh (n, m, sh, 0, ki, op, fa, K, G, T))) = x from hx8.symm]; first | (rw [pto_0 hz9]; done) | (rw [pto_s hz9 (by assumption) rfl]; done) | (rw [pto_t hz9 (by assumption) rfl]; done), hkw2, hkn2, hM2, rfl, rfl⟩
      ·
        show VV E 0 0 27 [(0, .ref r0), (1, .int (nI jp)), (2, .int (nI jf)), (3, .int t), (4, .int w)] [.int (nI 0)] [(r0, .inr (5, [.int (nI n), .ref k1, .ref k2, .ref k3, .ref k4, .int (nI m), .ref k6, .ref k7, .ref k8, .int (nI 0), .ref k10, .int (nI 0), .ref k12, .ref k13, .ref k14, .ref k15, .ref k16, .int (nI ls), .int (nI ap), .int (bz bd), .int (nI sq), .ref k21, .ref k22, .ref k23, .ref k24, .ref k25, .int (bz pd), .int (nI pl), .int (bz tk), kv, .ref k30, .ref k31, .int (nI tz), .ref k33, .int (nI rs), .int sd])), (k1, .inl (cI, 7, .inl (nIf ki))), (k2, .inl (cI, 7, .inl (nIf op))), (k3, .inl (cI, 7, .inl (nIf (shF sh)))), (k4, .inl (cI, 7, .inl (nIf fa))), (k6, .inl (cI, 6, .inl (nIf K))), (k7, .inl (cI, 6, .inl (nIf G))), (k8, .inl (cI, 6, .inl (nIf T))), (k12, .inl (cI, 7, .inl (nIf kw))), (k13, .inl (cI, 175, .inl (nIf kn))), (k14, .inl (cI, 144, .inl (mIf M))), (k15, .inl (cI, 7, .inl (nIf mw))), (k24, .inl (cI, 48, .inl (nIf kp))), (k10, .inl (cI, 7, .inl (nIf R)))]
        have hge_t : ¬ t < nI 2 := by rw [he_49]; exact nI_nlt h1_50 (by omega)
        have hle_t : ¬ nI 20 < t := by rw [he_49]; exact nI_nlt h2_51 (by omega)
        subst he_49
        obtain ⟨jt, he_jt⟩ : ∃ z, z = j_48 := ⟨_, rfl⟩
        subst he_jt
        have h1_t := h1_50
        have h2_t := h2_51
        refine v_goto 31 zC dX5_colds_27 ?_
        refine v_il 33 zC dX5_colds_31 4 rfl ?_
        refine v_ic (v := (nI 1)) 34 zC dX5_colds_33 (by decide +kernel) ?_
        refine v_cS (As := [.int (nI 0), .int w, .int (nI 1)]) (st := []) 37 [] zC dX5_colds_34 hA (c_X5_wrongBit__Z (ev_l E) (ev_D E) cI (v := w) (k := 1) (hk := (by first | omega | assumption | rfl | (simp only []; omega) | decide))) cf_X5_wrongBit lk_X5_248 rfl rfl rfl (by decide +kernel) (Nat.le_of_ble_eq_true rfl) (fun rv_70 wv_71 hp_72 hm_73 => ?_)
        clear hm_73
        rcases hp_72 with ⟨hi_74, rfl, rfl⟩ | ⟨j_75, he_76, hi_77, hj_78, rfl, rfl⟩
        ·
          show VV E 0 0 37 [(0, .ref r0), (1, .int (nI jp)), (2, .int (nI jf)), (3, .int (nI jt)), (4, .int w)] [.int (-2)] [(r0, .inr (5, [.int (nI n), .ref k1, .ref k2, .ref k3, .ref k4, .int (nI m), .ref k6, .ref k7, .ref k8, .int (nI 0), .ref k10, .int (nI 0), .ref k12, .ref k13, .ref k14, .ref k15, .ref k16, .int (nI ls), .int (nI ap), .int (bz bd), .int (nI sq), .ref k21, .ref k22, .ref k23, .ref k24, .ref k25, .int (bz pd), .int (nI pl), .int (bz tk), kv, .ref k30, .ref k31, .int (nI tz), .ref k33, .int (nI rs), .int sd])), (k1, .inl (cI, 7, .inl (nIf ki))), (k2, .inl (cI, 7, .inl (nIf op))), (k3, .inl (cI, 7, .inl (nIf (shF sh)))), (k4, .inl (cI, 7, .inl (nIf fa))), (k6, .inl (cI, 6, .inl (nIf K))), (k7, .inl (cI, 6, .inl (nIf G))), (k8, .inl (cI, 6, .inl (nIf T))), (k12, .inl (cI, 7, .inl (nIf kw))), (k13, .inl (cI, 175, .inl (nIf kn))), (k14, .inl (cI, 144, .inl (mIf M))), (k15, .inl (cI, 7, .inl (nIf mw))), (k24, .inl (cI, 48, .inl (nIf kp))), (k10, .inl (cI, 7, .inl (nIf R)))]
          have hn_w := hi_74
          refine v_is (lv2 := [(5, .int (-2)), (0, .ref r0), (1, .int (nI jp)), (2, .int (nI jf)), (3, .int (nI jt)), (4, .int w)]) 39 zC dX5_colds_37 (by rw [hnE]; decide) rfl ?_
          refine v_il 41 zC dX5_colds_39 0 rfl ?_
          refine v_if_ge 56 44 zC dX5_colds_41 (fun z => absurd z (by decide +kernel)) (fun _ => ?_)
          refine v_ldc2 (v := (lN 4000000000000000000)) 47 zC dX5_colds_44 kc_X5_276 ?_
          refine v_al_n 48 zC dX5_colds_47 1 rfl ?_
          refine v_il 50 zC dX5_colds_48 0 rfl ?_
          refine v_cV (As := [.int (-2)]) (st := [.long (lN 4000000000000000000)]) 53 0 [0, 13] zC dX5_colds_50 hA (c_X5_refuse (ev_l E) (ev_D E) cI (r0 := r0) (k1 := k1) (k2 := k2) (k3 := k3) (k4 := k4) (k6 := k6) (k7 := k7) (k8 := k8) (k10 := k10) (k12 := k12) (k13 := k13) (k14 := k14) (k15 := k15) (k16 := k16) (k21 := k21) (k22 := k22) (k23 := k23) (k24 := k24) (k25 := k25) (k30 := k30) (k31 := k31) (k33 := k33) (n := n) (m := m) (aw := 0) (ls := ls) (ap := ap) (sq := sq) (pl := pl) (tz := tz) (rs := rs) (bd := bd) (pd := pd) (tk := tk) (kv := kv) (sd := sd) (R := R) (v := (-2)) (j := 2) (hv := (by first | omega | assumption | rfl | (simp only []; omega) | decide)) (h1 := (by first | omega | assumption | rfl | (simp only []; omega) | decide)) (h6 := (by first | omega | assumption | rfl | (simp only []; omega) | decide))) cf_X5_refuse lk_X5_129 rfl rfl rfl rfl rfl (by decide +kernel) (Nat.le_of_ble_eq_true rfl) (fun rv_80 wv_81 hp_82 hm_83 => ?_)
          clear hm_83
          obtain ⟨rfl, rfl⟩ := hp_82
          show VV E 0 0 53 [(5, .int (-2)), (0, .ref r0), (1, .int (nI jp)), (2, .int (nI jf)), (3, .int (nI jt)), (4, .int w)] [.int (-2), .long (lN 4000000000000000000)] [(r0, .inr (5, [.int (nI n), .ref k1, .ref k2, .ref k3, .ref k4, .int (nI m), .ref k6, .ref k7, .ref k8, .int (nI 0), .ref k10, .int (nI 0), .ref k12, .ref k13, .ref k14, .ref k15, .ref k16, .int (nI ls), .int (nI ap), .int (bz bd), .int (nI sq), .ref k21, .ref k22, .ref k23, .ref k24, .ref k25, .int (bz pd), .int (nI pl), .int (bz tk), kv, .ref k30, .ref k31, .int (nI tz), .ref k33, .int (nI rs), .int sd])), (k1, .inl (cI, 7, .inl (nIf ki))), (k2, .inl (cI, 7, .inl (nIf op))), (k3, .inl (cI, 7, .inl (nIf (shF sh)))), (k4, .inl (cI, 7, .inl (nIf fa))), (k6, .inl (cI, 6, .inl (nIf K))), (k7, .inl (cI, 6, .inl (nIf G))), (k8, .inl (cI, 6, .inl (nIf T))), (k12, .inl (cI, 7, .inl (nIf kw))), (k13, .inl (cI, 175, .inl (nIf kn))), (k14, .inl (cI, 144, .inl (mIf M))), (k15, .inl (cI, 7, .inl (nIf mw))), (k24, .inl (cI, 48, .inl (nIf kp))), (k10, .inl (cI, 7, .inl (nIf (un R 2 (R 2 + 1)))))]
          refine v_i2l (v := (Int32.toInt64 (-2))) 54 zC dX5_colds_53 rfl ?_
          refine v_lsub (v := ((lN 4000000000000000000) - (Int32.toInt64 (-2)))) 55 zC dX5_colds_54  rfl ?_
          refine v_lret zC zT dX5_colds_55  ?_
          first | (have g9 := hn_p; exact ⟨kw, kn, M, mw, kp, pl, tk, kv, 1, RLF (-1), by unfold q_colds; rw [hn_p], hkw, hkn, hM, rfl, rfl⟩) | (have g9 := hn_f; exact ⟨kw, kn, M, mw, kp, pl, tk, kv, 1, RLF (-1), by unfold q_colds; rw [hi_p]; dsimp only; rw [hn_f], hkw, hkn, hM, rfl, rfl⟩) | (have g9 := hlt_t; exact ⟨kw, kn, M, mw, kp, pl, tk, kv, 4, RLF (-4), by unfold q_colds; rw [hi_p]; dsimp only; rw [hi_f]; dsimp only; rw [if_pos hlt_t], hkw, hkn, hM, rfl, rfl⟩) | (have g9 := hgt_t; exact ⟨kw, kn, M, mw, kp, pl, tk, kv, 6, RLF (-6), by unfold q_colds; rw [hi_p]; dsimp only; rw [hi_f]; dsimp only; rw [if_neg hge_t, if_pos hgt_t], hkw, hkn, hM, rfl, rfl⟩) | (have g9 := hn_w; exact ⟨kw, kn, M, mw, kp, pl, tk, kv, 2, RLF (-2), by unfold q_colds; rw [hi_p]; dsimp only; rw [hi_f]; dsimp only; rw [if_neg hge_t, if_neg hle_t, hn_w], hkw, hkn, hM, rfl, rfl⟩) | exact ⟨_, _, _, _, _, _, _, _, 0, _, by unfold q_colds; rw [hi_p]; dsimp only; rw [hi_f]; dsimp only; rw [if_neg hge_t, if_neg hle_t, hi_w]; dsimp only; rw [nI_clamp (show jt < 2 ^ 31 by omega)]; unfold COLA; rw [show 2 ^ g_n (n, m, sh, 0, ki, op, fa, K, G, T) = z from (by show 2 ^ n = z; omega), ← hs, show jt ^ (g_n (n, m, sh, 0, ki, op, fa, K, G, T) - pcn (g_sh (n, m, sh, 0, ki, op, fa, K, G, T))) = x from hx8.symm]; first | (rw [pto_0 hz9]; done) | (rw [pto_s hz9 (by assumption) rfl]; done) | (rw [pto_t hz9 (by assumption) rfl]; done), hkw2, hkn2, hM2, rfl, rfl⟩
        ·
          show VV E 0 0 37 [(0, .ref r0), (1, .int (nI jp)), (2, .int (nI jf)), (3, .int (nI jt)), (4, .int w)] [.int (nI 0)] [(r0, .inr (5, [.int (nI n), .ref k1, .ref k2, .ref k3, .ref k4, .int (nI m), .ref k6, .ref k7, .ref k8, .int (nI 0), .ref k10, .int (nI 0), .ref k12, .ref k13, .ref k14, .ref k15, .ref k16, .int (nI ls), .int (nI ap), .int (bz bd), .int (nI sq), .ref k21, .ref k22, .ref k23, .ref k24, .ref k25, .int (bz pd), .int (nI pl), .int (bz tk), kv, .ref k30, .ref k31, .int (nI tz), .ref k33, .int (nI rs), .int sd])), (k1, .inl (cI, 7, .inl (nIf ki))), (k2, .inl (cI, 7, .inl (nIf op))), (k3, .inl (cI, 7, .inl (nIf (shF sh)))), (k4, .inl (cI, 7, .inl (nIf fa))), (k6, .inl (cI, 6, .inl (nIf K))), (k7, .inl (cI, 6, .inl (nIf G))), (k8, .inl (cI, 6, .inl (nIf T))), (k12, .inl (cI, 7, .inl (nIf kw))), (k13, .inl (cI, 175, .inl (nIf kn))), (k14, .inl (cI, 144, .inl (mIf M))), (k15, .inl (cI, 7, .inl (nIf mw))), (k24, .inl (cI, 48, .inl (nIf kp))), (k10, .inl (cI, 7, .inl (nIf R)))]
          subst he_76
          have hi_w := hi_77
          obtain ⟨jw, hx_jw⟩ : ∃ z, z = j_75 := ⟨_, rfl⟩
          subst hx_jw
          refine v_is (lv2 := [(5, .int (nI 0)), (0, .ref r0), (1, .int (nI jp)), (2, .int (nI jf)), (3, .int (nI jt)), (4, .int (nI jw))]) 39 zC dX5_colds_37 (by rw [hnE]; decide) rfl ?_
          refine v_il 41 zC dX5_colds_39 0 rfl ?_
          refine v_if_ge 56 44 zC dX5_colds_41 (fun _ => ?_) (fun z => absurd (by decide +kernel) z)
          refine v_al_n 57 zC dX5_colds_56 1 rfl ?_
          refine v_cV (As := []) (st := []) 60 0 [0, 3] zC dX5_colds_57 hA (c_X5_shutBits (ev_l E) (ev_D E) cI (r0 := r0) (k1 := k1) (k2 := k2) (k3 := k3) (k4 := k4) (k6 := k6) (k7 := k7) (k8 := k8) (k10 := k10) (k12 := k12) (k13 := k13) (k14 := k14) (k15 := k15) (k16 := k16) (k21 := k21) (k22 := k22) (k23 := k23) (k24 := k24) (k25 := k25) (k30 := k30) (k31 := k31) (k33 := k33) (n := n) (m := m) (aw := 0) (ls := ls) (ap := ap) (sq := sq) (pl := pl) (tz := tz) (rs := rs) (bd := bd) (pd := pd) (tk := tk) (kv := kv) (sd := sd) (sh := sh) (hn := (by first | omega | assumption | rfl | (simp only []; omega) | decide)) (hsh := (by first | omega | assumption | rfl | (simp only []; omega) | decide))) cf_X5_shutBits lk_X5_251 rfl rfl rfl rfl rfl (by decide +kernel) (Nat.le_of_ble_eq_true rfl) (fun rv_85 wv_86 hp_87 hm_88 => ?_)
          clear hm_88
          obtain ⟨rfl, rfl⟩ := hp_87
          show VV E 0 0 60 [(5, .int (nI 0)), (0, .ref r0), (1, .int (nI jp)), (2, .int (nI jf)), (3, .int (nI jt)), (4, .int (nI jw))] [.int (nI sh)] [(r0, .inr (5, [.int (nI n), .ref k1, .ref k2, .ref k3, .ref k4, .int (nI m), .ref k6, .ref k7, .ref k8, .int (nI 0), .ref k10, .int (nI 0), .ref k12, .ref k13, .ref k14, .ref k15, .ref k16, .int (nI ls), .int (nI ap), .int (bz bd), .int (nI sq), .ref k21, .ref k22, .ref k23, .ref k24, .ref k25, .int (bz pd), .int (nI pl), .int (bz tk), kv, .ref k30, .ref k31, .int (nI tz), .ref k33, .int (nI rs), .int sd])), (k1, .inl (cI, 7, .inl (nIf ki))), (k2, .inl (cI, 7, .inl (nIf op))), (k3, .inl (cI, 7, .inl (nIf (shF sh)))), (k4, .inl (cI, 7, .inl (nIf fa))), (k6, .inl (cI, 6, .inl (nIf K))), (k7, .inl (cI, 6, .inl (nIf G))), (k8, .inl (cI, 6, .inl (nIf T))), (k12, .inl (cI, 7, .inl (nIf kw))), (k13, .inl (cI, 175, .inl (nIf kn))), (k14, .inl (cI, 144, .inl (mIf M))), (k15, .inl (cI, 7, .inl (nIf mw))), (k24, .inl (cI, 48, .inl (nIf kp))), (k10, .inl (cI, 7, .inl (nIf R)))]
          refine v_is (lv2 := [(6, .int (nI sh)), (5, .int (nI 0)), (0, .ref r0), (1, .int (nI jp)), (2, .int (nI jf)), (3, .int (nI jt)), (4, .int (nI jw))]) 62 zC dX5_colds_60 (by rw [hnE]; decide) rfl ?_
          refine v_lc (v := lN 0) 63 zC dX5_colds_62 (by decide +kernel) ?_
          refine v_ls (lv2 := [(7, .long (lN 0)), (6, .int (nI sh)), (5, .int (nI 0)), (0, .ref r0), (1, .int (nI jp)), (2, .int (nI jf)), (3, .int (nI jt)), (4, .int (nI jw))]) 65 zC dX5_colds_63 (by rw [hnE]; decide) rfl ?_
          refine v_lc (v := lN 1) 66 zC dX5_colds_65 (by decide +kernel) ?_
          refine v_ls (lv2 := [(9, .long (lN 1)), (7, .long (lN 0)), (6, .int (nI sh)), (5, .int (nI 0)), (0, .ref r0), (1, .int (nI jp)), (2, .int (nI jf)), (3, .int (nI jt)), (4, .int (nI jw))]) 68 zC dX5_colds_66 (by rw [hnE]; decide) rfl ?_
          refine v_ic (v := (nI 0)) 69 zC dX5_colds_68 (by decide +kernel) ?_
          refine v_is (lv2 := [(11, .int (nI 0)), (9, .long (lN 1)), (7, .long (lN 0)), (6, .int (nI sh)), (5, .int (nI 0)), (0, .ref r0), (1, .int (nI jp)), (2, .int (nI jf)), (3, .int (nI jt)), (4, .int (nI jw))]) 71 zC dX5_colds_69 (by rw [hnE]; decide) rfl ?_
          have lp71 : ∀ (mz : Nat) (x : Nat) (q : Nat), (x = jt ^ ctn (fun i => !(Nat.testBit sh i)) q) → (q ≤ n) → n - q = mz → VV E 0 0 71 [(11, .int (nI q)), (9, .long (lN x)), (7, .long (lN 0)), (6, .int (nI sh)), (5, .int (nI 0)), (0, .ref r0), (1, .int (nI jp)), (2, .int (nI jf)), (3, .int (nI jt)), (4, .int (nI jw))] [] [(r0, .inr (5, [.int (nI n), .ref k1, .ref k2, .ref k3, .ref k4, .int (nI m), .ref k6, .ref k7, .ref k8, .int (nI 0), .ref k10, .int (nI 0), .ref k12, .ref k13, .ref k14, .ref k15, .ref k16, .int (nI ls), .int (nI ap), .int (bz bd), .int (nI sq), .ref k21, .ref k22, .ref k23, .ref k24, .ref k25, .int (bz pd), .int (nI pl), .int (bz tk), kv, .ref k30, .ref k31, .int (nI tz), .ref k33, .int (nI rs), .int sd])), (k1, .inl (cI, 7, .inl (nIf ki))), (k2, .inl (cI, 7, .inl (nIf op))), (k3, .inl (cI, 7, .inl (nIf (shF sh)))), (k4, .inl (cI, 7, .inl (nIf fa))), (k6, .inl (cI, 6, .inl (nIf K))), (k7, .inl (cI, 6, .inl (nIf G))), (k8, .inl (cI, 6, .inl (nIf T))), (k12, .inl (cI, 7, .inl (nIf kw))), (k13, .inl (cI, 175, .inl (nIf kn))), (k14, .inl (cI, 144, .inl (mIf M))), (k15, .inl (cI, 7, .inl (nIf mw))), (k24, .inl (cI, 48, .inl (nIf kp))), (k10, .inl (cI, 7, .inl (nIf R)))] := by
            intro mz
            induction mz using Nat.strongRecOn with
            | _ mz ih71 =>
            intro x q hx hq hm71
            refine v_il 73 zC dX5_colds_71 0 rfl ?_
            refine v_al_n 74 zC dX5_colds_73 5 rfl ?_
            refine v_gf 77 0 zC dX5_colds_74 gf_X5_77 rfl rfl ?_
            refine v_icmpn_ge 107 80 zC dX5_colds_77 (fun h_89 => ?_) (fun h_89 => ?_)
            ·
              refine v_al_n 108 zC dX5_colds_107 5 rfl ?_
              have hx8 : x = jt ^ (n - pcn sh) := by rw [hx, show q = n by omega, cn_1 hsh]
              have hpw8 : jt ^ (n - pcn sh) ≤ 1280000000 := pw_le (by omega) (by omega)
              refine v_cV (As := []) (st := []) 111 0 [0, 1, 2, 3, 4, 5, 6, 7, 12] zC dX5_colds_108 hA (c_X5_think (ev_l E) (ev_D E) cI (r0 := r0) (k1 := k1) (k2 := k2) (k3 := k3) (k4 := k4) (k6 := k6) (k7 := k7) (k8 := k8) (k10 := k10) (k12 := k12) (k13 := k13) (k14 := k14) (k15 := k15) (k16 := k16) (k21 := k21) (k22 := k22) (k23 := k23) (k24 := k24) (k25 := k25) (k30 := k30) (k31 := k31) (k33 := k33) (n := n) (m := m) (aw := 0) (ls := ls) (ap := ap) (sq := sq) (pl := pl) (tz := tz) (rs := rs) (bd := bd) (pd := pd) (tk := tk) (kv := kv) (sd := sd) (ki := ki) (op := op) (fa := fa) (K := K) (G := G) (T := T) (sh := sh) (kp := kp) ) cf_X5_think lk_X5_254 rfl rfl rfl rfl rfl (by decide +kernel) (Nat.le_of_ble_eq_true rfl) (fun rv_90 wv_91 hp_92 hm_93 => ?_)
              clear hm_93
              obtain ⟨kp1_94, hE_95, rfl, rfl⟩ := hp_92
              show VV E 0 0 111 [(11, .int (nI q)), (9, .long (lN x)), (7, .long (lN 0)), (6, .int (nI sh)), (5, .int (nI 0)), (0, .ref r0), (1, .int (nI jp)), (2, .int (nI jf)), (3, .int (nI jt)), (4, .int (nI jw))] [] [(r0, .inr (5, [.int (nI n), .ref k1, .ref k2, .ref k3, .ref k4, .int (nI m), .ref k6, .ref k7, .ref k8, .int (nI 0), .ref k10, .int (nI 0), .ref k12, .ref k13, .ref k14, .ref k15, .ref k16, .int (nI ls), .int (nI ap), .int (bz bd), .int (nI sq), .ref k21, .ref k22, .ref k23, .ref k24, .ref k25, .int (bz pd), .int (nI 48), .int (bz true), .ref k24, .ref k30, .ref k31, .int (nI tz), .ref k33, .int (nI rs), .int sd])), (k1, .inl (cI, 7, .inl (nIf ki))), (k2, .inl (cI, 7, .inl (nIf op))), (k3, .inl (cI, 7, .inl (nIf (shF sh)))), (k4, .inl (cI, 7, .inl (nIf fa))), (k6, .inl (cI, 6, .inl (nIf K))), (k7, .inl (cI, 6, .inl (nIf G))), (k8, .inl (cI, 6, .inl (nIf T))), (k12, .inl (cI, 7, .inl (nIf kw))), (k13, .inl (cI, 175, .inl (nIf kn))), (k14, .inl (cI, 144, .inl (mIf M))), (k15, .inl (cI, 7, .inl (nIf mw))), (k24, .inl (cI, 48, .inl (nIf kp1_94))), (k10, .inl (cI, 7, .inl (nIf R)))]
              have hE9 := hE_95
              refine v_ic (v := (nI 0)) 112 zC dX5_colds_111 (by decide +kernel) ?_
              refine v_is (lv2 := [(11, .int (nI 0)), (9, .long (lN x)), (7, .long (lN 0)), (6, .int (nI sh)), (5, .int (nI 0)), (0, .ref r0), (1, .int (nI jp)), (2, .int (nI jf)), (3, .int (nI jt)), (4, .int (nI jw))]) 114 zC dX5_colds_112 (by rw [hnE]; decide) rfl ?_
              have lp114 : ∀ (mz : Nat) (kw2 : Nat → Nat) (kn2 : Nat → Nat) (M2 : Nat → Option Nat) (mw2 : Nat → Nat) (s1 : Nat) (acc : Nat) (z : Nat), (∀ z, kw2 z < 1024) → (∀ z, kn2 z < 1024) → (∀ z v, M2 z = some v → v < 7) → (s1 < 2 ^ n) → (acc = it (colS (n, m, sh, 0, ki, op, fa, K, G, T) jp jf jt) 0 z) → (z ≤ 2 ^ n) → (acc ≤ z * 1280000000) → 2 ^ n - z = mz → VV E 0 0 114 [(11, .int (nI z)), (9, .long (lN x)), (7, .long (lN acc)), (6, .int (nI sh)), (5, .int (nI 0)), (0, .ref r0), (1, .int (nI jp)), (2, .int (nI jf)), (3, .int (nI jt)), (4, .int (nI jw))] [] [(r0, .inr (5, [.int (nI n), .ref k1, .ref k2, .ref k3, .ref k4, .int (nI m), .ref k6, .ref k7, .ref k8, .int (nI 0), .ref k10, .int (nI 0), .ref k12, .ref k13, .ref k14, .ref k15, .ref k16, .int (nI ls), .int (nI ap), .int (bz bd), .int (nI sq), .ref k21, .ref k22, .ref k23, .ref k24, .ref k25, .int (bz pd), .int (nI 48), .int (bz true), .ref k24, .ref k30, .ref k31, .int (nI tz), .ref k33, .int (nI rs), .int sd])), (k1, .inl (cI, 7, .inl (nIf ki))), (k2, .inl (cI, 7, .inl (nIf op))), (k3, .inl (cI, 7, .inl (nIf (shF s1)))), (k4, .inl (cI, 7, .inl (nIf fa))), (k6, .inl (cI, 6, .inl (nIf K))), (k7, .inl (cI, 6, .inl (nIf G))), (k8, .inl (cI, 6, .inl (nIf T))), (k12, .inl (cI, 7, .inl (nIf kw2))), (k13, .inl (cI, 175, .inl (nIf kn2))), (k14, .inl (cI, 144, .inl (mIf M2))), (k15, .inl (cI, 7, .inl (nIf mw2))), (k24, .inl (cI, 48, .inl (nIf kp1_94))), (k10, .inl (cI, 7, .inl (nIf R)))] := by
                intro mz
                induction mz using Nat.strongRecOn with
                | _ mz ih114 =>
                intro kw2 kn2 M2 mw2 s1 acc z hkw2 hkn2 hM2 hs1 hs hz hxl hm114
                refine v_il 116 zC dX5_colds_114 0 rfl ?_
                refine v_ic (v := (nI 1)) 117 zC dX5_colds_116 (by decide +kernel) ?_
                refine v_al_n 118 zC dX5_colds_117 5 rfl ?_
                refine v_gf 121 0 zC dX5_colds_118 gf_X5_77 rfl rfl ?_
                refine v_ishl (v := (nI (2 ^ n))) 122 zC dX5_colds_121 (b1n (by omega)) ?_
                refine v_icmpn_ge 230 125 zC dX5_colds_122 (fun h_96 => ?_) (fun h_96 => ?_)
                ·
                  refine v_al_n 231 zC dX5_colds_230 5 rfl ?_
                  have hac8 : acc < 2 ^ 62 := by have h9 : z * 1280000000 ≤ 128 * 1280000000 := Nat.mul_le_mul_right _ (by omega); omega
                  have hx7 : x < 2 ^ 62 := by omega
                  refine v_cV (As := []) (st := []) 234 0 [0, 1, 2, 3, 4, 5, 6, 7, 12] zC dX5_colds_231 hA (c_X5_again (ev_l E) (ev_D E) cI (r0 := r0) (k1 := k1) (k2 := k2) (k3 := k3) (k4 := k4) (k6 := k6) (k7 := k7) (k8 := k8) (k10 := k10) (k12 := k12) (k13 := k13) (k14 := k14) (k15 := k15) (k16 := k16) (k21 := k21) (k22 := k22) (k23 := k23) (k24 := k24) (k25 := k25) (k30 := k30) (k31 := k31) (k33 := k33) (n := n) (m := m) (aw := 0) (ls := ls) (ap := ap) (sq := sq) (pl := 48) (tz := tz) (rs := rs) (bd := bd) (pd := pd) (tk := true) (kv := (.ref k24 : Value)) (sd := sd) (ki := ki) (op := op) (fa := fa) (K := K) (G := G) (T := T) (sh := s1) (kp := kp1_94) (n1 := n) (m1 := m) (sh1 := sh) (aw1 := 0) (ki1 := ki) (op1 := op) (fa1 := fa) (K1 := K) (G1 := G) (T1 := T) (hw := ⟨hn, hm, hs1, hki, hop, hfa, hK, hG, hT, vki, vop, vfa, vK, vG, vT⟩) (hw1 := hw) (hE := hE9)) cf_X5_again lk_X5_260 rfl rfl rfl rfl rfl (by decide +kernel) (Nat.le_of_ble_eq_true rfl) (fun rv_97 wv_98 hp_99 hm_100 => ?_)
                  clear hm_100
                  obtain ⟨rfl, rfl⟩ := hp_99
                  show VV E 0 0 234 [(11, .int (nI z)), (9, .long (lN x)), (7, .long (lN acc)), (6, .int (nI sh)), (5, .int (nI 0)), (0, .ref r0), (1, .int (nI jp)), (2, .int (nI jf)), (3, .int (nI jt)), (4, .int (nI jw))] [] [(r0, .inr (5, [.int (nI n), .ref k1, .ref k2, .ref k3, .ref k4, .int (nI m), .ref k6, .ref k7, .ref k8, .int (nI 0), .ref k10, .int (nI 0), .ref k12, .ref k13, .ref k14, .ref k15, .ref k16, .int (nI ls), .int (nI ap), .int (bz bd), .int (nI sq), .ref k21, .ref k22, .ref k23, .ref k24, .ref k25, .int (bz pd), .int (nI 48), .int (bz false), .ref k24, .ref k30, .ref k31, .int (nI tz), .ref k33, .int (nI rs), .int sd])), (k1, .inl (cI, 7, .inl (nIf ki))), (k2, .inl (cI, 7, .inl (nIf op))), (k3, .inl (cI, 7, .inl (nIf (shF sh)))), (k4, .inl (cI, 7, .inl (nIf fa))), (k6, .inl (cI, 6, .inl (nIf K))), (k7, .inl (cI, 6, .inl (nIf G))), (k8, .inl (cI, 6, .inl (nIf T))), (k12, .inl (cI, 7, .inl (nIf kw2))), (k13, .inl (cI, 175, .inl (nIf kn2))), (k14, .inl (cI, 144, .inl (mIf M2))), (k15, .inl (cI, 7, .inl (nIf mw2))), (k24, .inl (cI, 48, .inl (nIf kp1_94))), (k10, .inl (cI, 7, .inl (nIf R)))]
                  refine v_ll 236 zC dX5_colds_234 2 rfl ?_
                  refine v_lc (v := lN 0) 237 zC dX5_colds_236 (by decide +kernel) ?_
                  refine v_lcmp 238 zC dX5_colds_237 ?_
                  refine v_ifl_ne 245 241 zC dX5_colds_238 (fun h_101 => ?_) (fun h_101 => ?_)
                  ·
                    have hz9 : acc ≠ 0 := fun z => h_101 (by rw [z])
                    have hg1 := gcd_0 (b := x) hz9
                    have hg2 := gcd_le (b := x) hz9
                    refine v_ll 247 zC dX5_colds_245 2 rfl ?_
                    refine v_ll 249 zC dX5_colds_247 1 rfl ?_
                    refine v_cS (As := [.long (lN acc), .long (lN x)]) (st := []) 252 [] zC dX5_colds_249 hA (c_X5_divisor (ev_l E) (ev_D E) cI (a := acc) (b := x) (ha := (by first | omega | assumption | rfl | (simp only []; omega) | decide)) (hb := (by first | omega | assumption | rfl | (simp only []; omega) | decide))) cf_X5_divisor lk_X5_278 rfl rfl rfl (by decide +kernel) (Nat.le_of_ble_eq_true rfl) (fun rv_102 wv_103 hp_104 hm_105 => ?_)
                    clear hm_105
                    obtain ⟨rfl, rfl⟩ := hp_104
                    show VV E 0 0 252 [(11, .int (nI z)), (9, .long (lN x)), (7, .long (lN acc)), (6, .int (nI sh)), (5, .int (nI 0)), (0, .ref r0), (1, .int (nI jp)), (2, .int (nI jf)), (3, .int (nI jt)), (4, .int (nI jw))] [.long (lN (Nat.gcd acc x))] [(r0, .inr (5, [.int (nI n), .ref k1, .ref k2, .ref k3, .ref k4, .int (nI m), .ref k6, .ref k7, .ref k8, .int (nI 0), .ref k10, .int (nI 0), .ref k12, .ref k13, .ref k14, .ref k15, .ref k16, .int (nI ls), .int (nI ap), .int (bz bd), .int (nI sq), .ref k21, .ref k22, .ref k23, .ref k24, .ref k25, .int (bz pd), .int (nI 48), .int (bz false), .ref k24, .ref k30, .ref k31, .int (nI tz), .ref k33, .int (nI rs), .int sd])), (k1, .inl (cI, 7, .inl (nIf ki))), (k2, .inl (cI, 7, .inl (nIf op))), (k3, .inl (cI, 7, .inl (nIf (shF sh)))), (k4, .inl (cI, 7, .inl (nIf fa))), (k6, .inl (cI, 6, .inl (nIf K))), (k7, .inl (cI, 6, .inl (nIf G))), (k8, .inl (cI, 6, .inl (nIf T))), (k12, .inl (cI, 7, .inl (nIf kw2))), (k13, .inl (cI, 175, .inl (nIf kn2))), (k14, .inl (cI, 144, .inl (mIf M2))), (k15, .inl (cI, 7, .inl (nIf mw2))), (k24, .inl (cI, 48, .inl (nIf kp1_94))), (k10, .inl (cI, 7, .inl (nIf R)))]
                    refine v_ls (lv2 := [(11, .long (lN (Nat.gcd acc x))), (9, .long (lN x)), (7, .long (lN acc)), (6, .int (nI sh)), (5, .int (nI 0)), (0, .ref r0), (1, .int (nI jp)), (2, .int (nI jf)), (3, .int (nI jt)), (4, .int (nI jw))]) 254 zC dX5_colds_252 (by rw [hnE]; decide) rfl ?_
                    refine v_il 256 zC dX5_colds_254 9 rfl ?_
                    refine v_ifn_ne 267 259 zC dX5_colds_256 (fun h_106 => ?_) (fun h_106 => ?_)
                    ·
                      refine v_ll 269 zC dX5_colds_267 1 rfl ?_
                      refine v_ll 271 zC dX5_colds_269 0 rfl ?_
                      refine v_ldiv (v := (lN (x / Nat.gcd acc x))) 272 zC dX5_colds_271 (lN_ne0 hg1 (by omega)) (pk_lDiv (by omega) hg1 (by omega)) ?_
                      refine v_lret zC zT dX5_colds_272  ?_
                      first | (have g9 := hn_p; exact ⟨kw, kn, M, mw, kp, pl, tk, kv, 1, RLF (-1), by unfold q_colds; rw [hn_p], hkw, hkn, hM, rfl, rfl⟩) | (have g9 := hn_f; exact ⟨kw, kn, M, mw, kp, pl, tk, kv, 1, RLF (-1), by unfold q_colds; rw [hi_p]; dsimp only; rw [hn_f], hkw, hkn, hM, rfl, rfl⟩) | (have g9 := hlt_t; exact ⟨kw, kn, M, mw, kp, pl, tk, kv, 4, RLF (-4), by unfold q_colds; rw [hi_p]; dsimp only; rw [hi_f]; dsimp only; rw [if_pos hlt_t], hkw, hkn, hM, rfl, rfl⟩) | (have g9 := hgt_t; exact ⟨kw, kn, M, mw, kp, pl, tk, kv, 6, RLF (-6), by unfold q_colds; rw [hi_p]; dsimp only; rw [hi_f]; dsimp only; rw [if_neg hge_t, if_pos hgt_t], hkw, hkn, hM, rfl, rfl⟩) | (have g9 := hn_w; exact ⟨kw, kn, M, mw, kp, pl, tk, kv, 2, RLF (-2), by unfold q_colds; rw [hi_p]; dsimp only; rw [hi_f]; dsimp only; rw [if_neg hge_t, if_neg hle_t, hn_w], hkw, hkn, hM, rfl, rfl⟩) | exact ⟨_, _, _, _, _, _, _, _, 0, _, by unfold q_colds; rw [hi_p]; dsimp only; rw [hi_f]; dsimp only; rw [if_neg hge_t, if_neg hle_t, hi_w]; dsimp only; rw [nI_clamp (show jt < 2 ^ 31 by omega)]; unfold COLA; rw [show 2 ^ g_n (n, m, sh, 0, ki, op, fa, K, G, T) = z from (by show 2 ^ n = z; omega), ← hs, show jt ^ (g_n (n, m, sh, 0, ki, op, fa, K, G, T) - pcn (g_sh (n, m, sh, 0, ki, op, fa, K, G, T))) = x from hx8.symm]; first | (rw [pto_0 hz9]; done) | (rw [pto_s hz9 (by assumption) rfl]; done) | (rw [pto_t hz9 (by assumption) rfl]; done), hkw2, hkn2, hM2, rfl, rfl⟩
                    ·
                      refine v_ll 261 zC dX5_colds_259 2 rfl ?_
                      refine v_ll 263 zC dX5_colds_261 0 rfl ?_
                      refine v_ldiv (v := (lN (acc / Nat.gcd acc x))) 264 zC dX5_colds_263 (lN_ne0 hg1 (by omega)) (pk_lDiv (by omega) hg1 (by omega)) ?_
                      refine v_goto 272 zC dX5_colds_264 ?_
                      refine v_lret zC zT dX5_colds_272  ?_
                      first | (have g9 := hn_p; exact ⟨kw, kn, M, mw, kp, pl, tk, kv, 1, RLF (-1), by unfold q_colds; rw [hn_p], hkw, hkn, hM, rfl, rfl⟩) | (have g9 := hn_f; exact ⟨kw, kn, M, mw, kp, pl, tk, kv, 1, RLF (-1), by unfold q_colds; rw [hi_p]; dsimp only; rw [hn_f], hkw, hkn, hM, rfl, rfl⟩) | (have g9 := hlt_t; exact ⟨kw, kn, M, mw, kp, pl, tk, kv, 4, RLF (-4), by unfold q_colds; rw [hi_p]; dsimp only; rw [hi_f]; dsimp only; rw [if_pos hlt_t], hkw, hkn, hM, rfl, rfl⟩) | (have g9 := hgt_t; exact ⟨kw, kn, M, mw, kp, pl, tk, kv, 6, RLF (-6), by unfold q_colds; rw [hi_p]; dsimp only; rw [hi_f]; dsimp only; rw [if_neg hge_t, if_pos hgt_t], hkw, hkn, hM, rfl, rfl⟩) | (have g9 := hn_w; exact ⟨kw, kn, M, mw, kp, pl, tk, kv, 2, RLF (-2), by unfold q_colds; rw [hi_p]; dsimp only; rw [hi_f]; dsimp only; rw [if_neg hge_t, if_neg hle_t, hn_w], hkw, hkn, hM, rfl, rfl⟩) | exact ⟨_, _, _, _, _, _, _, _, 0, _, by unfold q_colds; rw [hi_p]; dsimp only; rw [hi_f]; dsimp only; rw [if_neg hge_t, if_neg hle_t, hi_w]; dsimp only; rw [nI_clamp (show jt < 2 ^ 31 by omega)]; unfold COLA; rw [show 2 ^ g_n (n, m, sh, 0, ki, op, fa, K, G, T) = z from (by show 2 ^ n = z; omega), ← hs, show jt ^ (g_n (n, m, sh, 0, ki, op, fa, K, G, T) - pcn (g_sh (n, m, sh, 0, ki, op, fa, K, G, T))) = x from hx8.symm]; first | (rw [pto_0 hz9]; done) | (rw [pto_s hz9 (by assumption) rfl]; done) | (rw [pto_t hz9 (by assumption) rfl]; done), hkw2, hkn2, hM2, rfl, rfl⟩
                  ·
                    have hz9 : acc = 0 := (pk_lEQ (by omega) (show 0 < 2 ^ 63 by decide)).mp h_101
                    refine v_il 243 zC dX5_colds_241 9 rfl ?_
                    refine v_i2l (v := (lN jw)) 244 zC dX5_colds_243 (nI_l (by omega)) ?_
                    refine v_lret zC zT dX5_colds_244  ?_
                    first | (have g9 := hn_p; exact ⟨kw, kn, M, mw, kp, pl, tk, kv, 1, RLF (-1), by unfold q_colds; rw [hn_p], hkw, hkn, hM, rfl, rfl⟩) | (have g9 := hn_f; exact ⟨kw, kn, M, mw, kp, pl, tk, kv, 1, RLF (-1), by unfold q_colds; rw [hi_p]; dsimp only; rw [hn_f], hkw, hkn, hM, rfl, rfl⟩) | (have g9 := hlt_t; exact ⟨kw, kn, M, mw, kp, pl, tk, kv, 4, RLF (-4), by unfold q_colds; rw [hi_p]; dsimp only; rw [hi_f]; dsimp only; rw [if_pos hlt_t], hkw, hkn, hM, rfl, rfl⟩) | (have g9 := hgt_t; exact ⟨kw, kn, M, mw, kp, pl, tk, kv, 6, RLF (-6), by unfold q_colds; rw [hi_p]; dsimp only; rw [hi_f]; dsimp only; rw [if_neg hge_t, if_pos hgt_t], hkw, hkn, hM, rfl, rfl⟩) | (have g9 := hn_w; exact ⟨kw, kn, M, mw, kp, pl, tk, kv, 2, RLF (-2), by unfold q_colds; rw [hi_p]; dsimp only; rw [hi_f]; dsimp only; rw [if_neg hge_t, if_neg hle_t, hn_w], hkw, hkn, hM, rfl, rfl⟩) | exact ⟨_, _, _, _, _, _, _, _, 0, _, by unfold q_colds; rw [hi_p]; dsimp only; rw [hi_f]; dsimp only; rw [if_neg hge_t, if_neg hle_t, hi_w]; dsimp only; rw [nI_clamp (show jt < 2 ^ 31 by omega)]; unfold COLA; rw [show 2 ^ g_n (n, m, sh, 0, ki, op, fa, K, G, T) = z from (by show 2 ^ n = z; omega), ← hs, show jt ^ (g_n (n, m, sh, 0, ki, op, fa, K, G, T) - pcn (g_sh (n, m, sh, 0, ki, op, fa, K, G, T))) = x from hx8.symm]; first | (rw [pto_0 hz9]; done) | (rw [pto_s hz9 (by assumption) rfl]; done) | (rw [pto_t hz9 (by assumption) rfl]; done), hkw2, hkn2, hM2, rfl, rfl⟩
                ·
                  refine v_il 127 zC dX5_colds_125 0 rfl ?_
                  refine v_il 129 zC dX5_colds_127 3 rfl ?_
                  refine v_iand (v := (nI (z &&& sh))) 130 zC dX5_colds_129 (fa_and _ _) ?_
                  have hzl9 : z &&& sh < 2 ^ n := and_ltl (by omega)
                  refine v_ifn_ne 224 133 zC dX5_colds_130 (fun h_107 => ?_) (fun h_107 => ?_)
                  ·
                    have h19 := h_107
                    refine v_inc (v := (nI (z + 1))) (lv2 := [(11, .int (nI (z + 1))), (9, .long (lN x)), (7, .long (lN acc)), (6, .int (nI sh)), (5, .int (nI 0)), (0, .ref r0), (1, .int (nI jp)), (2, .int (nI jf)), (3, .int (nI jt)), (4, .int (nI jw))]) 227 zC dX5_colds_224 (j := 0) rfl (nI_add _ 1) (by rw [hnE]; decide) rfl ?_
                    refine v_goto 114 zC dX5_colds_227 ?_
                    refine v_lvs (lv2 := [(11, .int (nI (z + 1))), (9, .long (lN x)), (7, .long (lN acc)), (6, .int (nI sh)), (5, .int (nI 0)), (0, .ref r0), (1, .int (nI jp)), (2, .int (nI jf)), (3, .int (nI jt)), (4, .int (nI jw))]) [0, 1, 2, 3, 4, 5, 6, 7, 8, 9] rfl ?_
                    exact ih114 _ (by omega) kw2 kn2 M2 mw2 s1 acc (z + 1) (by first | exact hR9.2.2.2.1 | exact hkw2) (by first | exact hR9.2.2.2.2.1 | exact hkn2) (by first | exact hR9.2.2.2.2.2 | exact hM2) (by first | exact hs1 | exact Nat.or_lt_two_pow hsh (by omega)) (it_s hs (by first | exact (col_1 h29 h49).trans (by first | (rw [hy8]; done) | (rw [hy8]; rfl)) | exact col_2 h19 | exact col_3 h39)) (by first | omega | assumption | rfl | (simp only []; omega) | decide) (by rw [Nat.succ_mul]; first | exact Nat.add_le_add hxl hpw9 | exact Nat.le_trans hxl (Nat.le_add_right _ _)) rfl
                  ·
                    have h29 := h_107
                    refine v_lc (v := lN 1) 134 zC dX5_colds_133 (by decide +kernel) ?_
                    refine v_ls (lv2 := [(12, .long (lN 1)), (11, .int (nI z)), (9, .long (lN x)), (7, .long (lN acc)), (6, .int (nI sh)), (5, .int (nI 0)), (0, .ref r0), (1, .int (nI jp)), (2, .int (nI jf)), (3, .int (nI jt)), (4, .int (nI jw))]) 136 zC dX5_colds_134 (by rw [hnE]; decide) rfl ?_
                    refine v_ic (v := (nI 0)) 137 zC dX5_colds_136 (by decide +kernel) ?_
                    refine v_is (lv2 := [(14, .int (nI 0)), (12, .long (lN 1)), (11, .int (nI z)), (9, .long (lN x)), (7, .long (lN acc)), (6, .int (nI sh)), (5, .int (nI 0)), (0, .ref r0), (1, .int (nI jp)), (2, .int (nI jf)), (3, .int (nI jt)), (4, .int (nI jw))]) 139 zC dX5_colds_137 (by rw [hnE]; decide) rfl ?_
                    have lp139 : ∀ (mz : Nat) (y : Nat) (r : Nat), (y = (jt - 1) ^ ctn (fun i => !(Nat.testBit sh i || Nat.testBit z i)) r) → (r ≤ n) → n - r = mz → VV E 0 0 139 [(14, .int (nI r)), (12, .long (lN y)), (11, .int (nI z)), (9, .long (lN x)), (7, .long (lN acc)), (6, .int (nI sh)), (5, .int (nI 0)), (0, .ref r0), (1, .int (nI jp)), (2, .int (nI jf)), (3, .int (nI jt)), (4, .int (nI jw))] [] [(r0, .inr (5, [.int (nI n), .ref k1, .ref k2, .ref k3, .ref k4, .int (nI m), .ref k6, .ref k7, .ref k8, .int (nI 0), .ref k10, .int (nI 0), .ref k12, .ref k13, .ref k14, .ref k15, .ref k16, .int (nI ls), .int (nI ap), .int (bz bd), .int (nI sq), .ref k21, .ref k22, .ref k23, .ref k24, .ref k25, .int (bz pd), .int (nI 48), .int (bz true), .ref k24, .ref k30, .ref k31, .int (nI tz), .ref k33, .int (nI rs), .int sd])), (k1, .inl (cI, 7, .inl (nIf ki))), (k2, .inl (cI, 7, .inl (nIf op))), (k3, .inl (cI, 7, .inl (nIf (shF s1)))), (k4, .inl (cI, 7, .inl (nIf fa))), (k6, .inl (cI, 6, .inl (nIf K))), (k7, .inl (cI, 6, .inl (nIf G))), (k8, .inl (cI, 6, .inl (nIf T))), (k12, .inl (cI, 7, .inl (nIf kw2))), (k13, .inl (cI, 175, .inl (nIf kn2))), (k14, .inl (cI, 144, .inl (mIf M2))), (k15, .inl (cI, 7, .inl (nIf mw2))), (k24, .inl (cI, 48, .inl (nIf kp1_94))), (k10, .inl (cI, 7, .inl (nIf R)))] := by
                      intro mz
                      induction mz using Nat.strongRecOn with
                      | _ mz ih139 =>
                      intro y r hy hr hm139
                      refine v_il 141 zC dX5_colds_139 0 rfl ?_
                      refine v_al_n 142 zC dX5_colds_141 7 rfl ?_
                      refine v_gf 145 0 zC dX5_colds_142 gf_X5_77 rfl rfl ?_
                      refine v_icmpn_ge 187 148 zC dX5_colds_145 (fun h_108 => ?_) (fun h_108 => ?_)
                      ·
                        refine v_al_n 188 zC dX5_colds_187 7 rfl ?_
                        have hy8 : y = (jt - 1) ^ (n - pcn sh - pcn z) := by rw [hy, show r = n by omega, cn_2 hsh (by omega) h29]
                        have hpw9 : y ≤ 1280000000 := by rw [hy8]; exact pw_le (by omega) (by omega)
                        refine v_il 190 zC dX5_colds_188 2 rfl ?_
                        refine v_il 192 zC dX5_colds_190 5 rfl ?_
                        refine v_ior (v := (nI (sh ||| z))) 193 zC dX5_colds_192 (by rw [fa_or, Nat.or_comm]) ?_
                        refine v_cV (As := [.int (nI (sh ||| z))]) (st := []) 196 0 [0, 3] zC dX5_colds_193 hA (c_X5_shutAll (ev_l E) (ev_D E) cI (r0 := r0) (k1 := k1) (k2 := k2) (k3 := k3) (k4 := k4) (k6 := k6) (k7 := k7) (k8 := k8) (k10 := k10) (k12 := k12) (k13 := k13) (k14 := k14) (k15 := k15) (k16 := k16) (k21 := k21) (k22 := k22) (k23 := k23) (k24 := k24) (k25 := k25) (k30 := k30) (k31 := k31) (k33 := k33) (n := n) (m := m) (aw := 0) (ls := ls) (ap := ap) (sq := sq) (pl := 48) (tz := tz) (rs := rs) (bd := bd) (pd := pd) (tk := true) (kv := (.ref k24 : Value)) (sd := sd) (sh := s1) (s := (sh ||| z)) (hn := (by first | omega | assumption | rfl | (simp only []; omega) | decide)) (hs := (Nat.or_lt_two_pow hsh (by omega))) (hsh := hs1)) cf_X5_shutAll lk_X5_257 rfl rfl rfl rfl rfl (by decide +kernel) (Nat.le_of_ble_eq_true rfl) (fun rv_109 wv_110 hp_111 hm_112 => ?_)
                        clear hm_112
                        obtain ⟨rfl, rfl⟩ := hp_111
                        show VV E 0 0 196 [(14, .int (nI r)), (12, .long (lN y)), (11, .int (nI z)), (9, .long (lN x)), (7, .long (lN acc)), (6, .int (nI sh)), (5, .int (nI 0)), (0, .ref r0), (1, .int (nI jp)), (2, .int (nI jf)), (3, .int (nI jt)), (4, .int (nI jw))] [] [(r0, .inr (5, [.int (nI n), .ref k1, .ref k2, .ref k3, .ref k4, .int (nI m), .ref k6, .ref k7, .ref k8, .int (nI 0), .ref k10, .int (nI 0), .ref k12, .ref k13, .ref k14, .ref k15, .ref k16, .int (nI ls), .int (nI ap), .int (bz bd), .int (nI sq), .ref k21, .ref k22, .ref k23, .ref k24, .ref k25, .int (bz pd), .int (nI 48), .int (bz true), .ref k24, .ref k30, .ref k31, .int (nI tz), .ref k33, .int (nI rs), .int sd])), (k1, .inl (cI, 7, .inl (nIf ki))), (k2, .inl (cI, 7, .inl (nIf op))), (k3, .inl (cI, 7, .inl (nIf (shF (sh ||| z))))), (k4, .inl (cI, 7, .inl (nIf fa))), (k6, .inl (cI, 6, .inl (nIf K))), (k7, .inl (cI, 6, .inl (nIf G))), (k8, .inl (cI, 6, .inl (nIf T))), (k12, .inl (cI, 7, .inl (nIf kw2))), (k13, .inl (cI, 175, .inl (nIf kn2))), (k14, .inl (cI, 144, .inl (mIf M2))), (k15, .inl (cI, 7, .inl (nIf mw2))), (k24, .inl (cI, 48, .inl (nIf kp1_94))), (k10, .inl (cI, 7, .inl (nIf R)))]
                        refine v_al_n 197 zC dX5_colds_196 7 rfl ?_
                        refine v_cV (As := []) (st := []) 200 0 [0, 1, 2, 3, 4, 5, 6, 7, 8, 9, 10, 11] zC dX5_colds_197 hA (c_X5_day (ev_l E) (ev_D E) cI (r0 := r0) (k1 := k1) (k2 := k2) (k3 := k3) (k4 := k4) (k6 := k6) (k7 := k7) (k8 := k8) (k10 := k10) (k12 := k12) (k13 := k13) (k14 := k14) (k15 := k15) (k16 := k16) (k21 := k21) (k22 := k22) (k23 := k23) (k24 := k24) (k25 := k25) (k30 := k30) (k31 := k31) (k33 := k33) (n := n) (m := m) (aw := 0) (ls := ls) (ap := ap) (sq := sq) (pl := 48) (tz := tz) (rs := rs) (bd := bd) (pd := pd) (tk := true) (kv := (.ref k24 : Value)) (sd := sd) (ki := ki) (op := op) (fa := fa) (K := K) (G := G) (T := T) (sh := (sh ||| z)) (kw := kw2) (kn := kn2) (M := M2) (mw := mw2) (hw := ⟨hn, hm, (Nat.or_lt_two_pow hsh (by omega)), hki, hop, hfa, hK, hG, hT, vki, vop, vfa, vK, vG, vT⟩) (hkw := hkw2) (hkn := hkn2) (hM := hM2)) cf_X5_day lk_X5_123 rfl rfl rfl rfl rfl (by decide +kernel) (Nat.le_of_ble_eq_true rfl) (fun rv_113 wv_114 hp_115 hm_116 => ?_)
                        clear hm_116
                        obtain ⟨kw1_117, kn1_118, M1_119, mw1_120, hR_121, rfl, rfl⟩ := hp_115
                        show VV E 0 0 200 [(14, .int (nI r)), (12, .long (lN y)), (11, .int (nI z)), (9, .long (lN x)), (7, .long (lN acc)), (6, .int (nI sh)), (5, .int (nI 0)), (0, .ref r0), (1, .int (nI jp)), (2, .int (nI jf)), (3, .int (nI jt)), (4, .int (nI jw))] [] [(r0, .inr (5, [.int (nI n), .ref k1, .ref k2, .ref k3, .ref k4, .int (nI m), .ref k6, .ref k7, .ref k8, .int (nI 0), .ref k10, .int (nI 0), .ref k12, .ref k13, .ref k14, .ref k15, .ref k16, .int (nI ls), .int (nI ap), .int (bz bd), .int (nI sq), .ref k21, .ref k22, .ref k23, .ref k24, .ref k25, .int (bz pd), .int (nI 48), .int (bz true), .ref k24, .ref k30, .ref k31, .int (nI tz), .ref k33, .int (nI rs), .int sd])), (k1, .inl (cI, 7, .inl (nIf ki))), (k2, .inl (cI, 7, .inl (nIf op))), (k3, .inl (cI, 7, .inl (nIf (shF (sh ||| z))))), (k4, .inl (cI, 7, .inl (nIf fa))), (k6, .inl (cI, 6, .inl (nIf K))), (k7, .inl (cI, 6, .inl (nIf G))), (k8, .inl (cI, 6, .inl (nIf T))), (k12, .inl (cI, 7, .inl (nIf kw1_117))), (k13, .inl (cI, 175, .inl (nIf kn1_118))), (k14, .inl (cI, 144, .inl (mIf M1_119))), (k15, .inl (cI, 7, .inl (nIf mw1_120))), (k24, .inl (cI, 48, .inl (nIf kp1_94))), (k10, .inl (cI, 7, .inl (nIf R)))]
                        have hR9 := hR_121
                        refine v_ll 202 zC dX5_colds_200 4 rfl ?_
                        refine v_al_n 203 zC dX5_colds_202 7 rfl ?_
                        refine v_gf 206 0 zC dX5_colds_203 gf_X5_34 rfl rfl ?_
                        refine v_il_n 207 zC dX5_colds_206 8 rfl ?_
                        refine v_ialn (v := (nI (DR (n, m, (sh ||| z), 0, ki, op, fa, K, G, T) 24 jp))) 208 8 zC dX5_colds_207 rfl (by omega) (congrArg nI (rk_w hR9 (by omega))) ?_
                        refine v_il_n 209 zC dX5_colds_208 9 rfl ?_
                        refine v_cS (As := [.int (nI (DR (n, m, (sh ||| z), 0, ki, op, fa, K, G, T) 24 jp)), .int (nI jf)]) (st := [.long (lN acc)]) 212 [] zC dX5_colds_209 hA (c_X5_hasBit (ev_l E) (ev_D E) cI (x := (DR (n, m, (sh ||| z), 0, ki, op, fa, K, G, T) 24 jp)) (k := jf) (hk := (by first | omega | assumption | rfl | (simp only []; omega) | decide))) cf_X5_hasBit lk_X5_95 rfl rfl rfl (by decide +kernel) (Nat.le_of_ble_eq_true rfl) (fun rv_122 wv_123 hp_124 hm_125 => ?_)
                        clear hm_125
                        obtain ⟨rfl, rfl⟩ := hp_124
                        show VV E 0 0 212 [(14, .int (nI r)), (12, .long (lN y)), (11, .int (nI z)), (9, .long (lN x)), (7, .long (lN acc)), (6, .int (nI sh)), (5, .int (nI 0)), (0, .ref r0), (1, .int (nI jp)), (2, .int (nI jf)), (3, .int (nI jt)), (4, .int (nI jw))] [.int (bz (Nat.testBit (DR (n, m, (sh ||| z), 0, ki, op, fa, K, G, T) 24 jp) jf)), .long (lN acc)] [(r0, .inr (5, [.int (nI n), .ref k1, .ref k2, .ref k3, .ref k4, .int (nI m), .ref k6, .ref k7, .ref k8, .int (nI 0), .ref k10, .int (nI 0), .ref k12, .ref k13, .ref k14, .ref k15, .ref k16, .int (nI ls), .int (nI ap), .int (bz bd), .int (nI sq), .ref k21, .ref k22, .ref k23, .ref k24, .ref k25, .int (bz pd), .int (nI 48), .int (bz true), .ref k24, .ref k30, .ref k31, .int (nI tz), .ref k33, .int (nI rs), .int sd])), (k1, .inl (cI, 7, .inl (nIf ki))), (k2, .inl (cI, 7, .inl (nIf op))), (k3, .inl (cI, 7, .inl (nIf (shF (sh ||| z))))), (k4, .inl (cI, 7, .inl (nIf fa))), (k6, .inl (cI, 6, .inl (nIf K))), (k7, .inl (cI, 6, .inl (nIf G))), (k8, .inl (cI, 6, .inl (nIf T))), (k12, .inl (cI, 7, .inl (nIf kw1_117))), (k13, .inl (cI, 175, .inl (nIf kn1_118))), (k14, .inl (cI, 144, .inl (mIf M1_119))), (k15, .inl (cI, 7, .inl (nIf mw1_120))), (k24, .inl (cI, 48, .inl (nIf kp1_94))), (k10, .inl (cI, 7, .inl (nIf R)))]
                        refine v_ifb_eq 220 215 zC dX5_colds_212 (fun h_126 => ?_) (fun h_126 => ?_)
                        ·
                          have h39 : Nat.testBit (KNW (wsh (n, m, sh, 0, ki, op, fa, K, G, T) (sh ||| z)) jf) jp = false := (knw_bit (s := wsh (n, m, sh, 0, ki, op, fa, K, G, T) (sh ||| z)) (show jp < n by omega)).trans h_126
                          refine v_lc (v := lN 0) 221 zC dX5_colds_220 (by decide +kernel) ?_
                          refine v_ladd (v := (lN acc)) 222 zC dX5_colds_221  (by rw [lN_add, Nat.add_zero]) ?_
                          refine v_ls (lv2 := [(7, .long (lN acc)), (14, .int (nI r)), (12, .long (lN y)), (11, .int (nI z)), (9, .long (lN x)), (6, .int (nI sh)), (5, .int (nI 0)), (0, .ref r0), (1, .int (nI jp)), (2, .int (nI jf)), (3, .int (nI jt)), (4, .int (nI jw))]) 224 zC dX5_colds_222 (by rw [hnE]; decide) rfl ?_
                          refine v_inc (v := (nI (z + 1))) (lv2 := [(11, .int (nI (z + 1))), (7, .long (lN acc)), (14, .int (nI r)), (12, .long (lN y)), (9, .long (lN x)), (6, .int (nI sh)), (5, .int (nI 0)), (0, .ref r0), (1, .int (nI jp)), (2, .int (nI jf)), (3, .int (nI jt)), (4, .int (nI jw))]) 227 zC dX5_colds_224 (j := 3) rfl (nI_add _ 1) (by rw [hnE]; decide) rfl ?_
                          refine v_goto 114 zC dX5_colds_227 ?_
                          refine v_lvs (lv2 := [(11, .int (nI (z + 1))), (9, .long (lN x)), (7, .long (lN acc)), (6, .int (nI sh)), (5, .int (nI 0)), (0, .ref r0), (1, .int (nI jp)), (2, .int (nI jf)), (3, .int (nI jt)), (4, .int (nI jw))]) [0, 4, 1, 5, 6, 7, 8, 9, 10, 11] rfl ?_
                          exact ih114 _ (by omega) kw1_117 kn1_118 M1_119 mw1_120 (sh ||| z) acc (z + 1) (by first | exact hR9.2.2.2.1 | exact hkw2) (by first | exact hR9.2.2.2.2.1 | exact hkn2) (by first | exact hR9.2.2.2.2.2 | exact hM2) (by first | exact hs1 | exact Nat.or_lt_two_pow hsh (by omega)) (it_s hs (by first | exact (col_1 h29 h49).trans (by first | (rw [hy8]; done) | (rw [hy8]; rfl)) | exact col_2 h19 | exact col_3 h39)) (by first | omega | assumption | rfl | (simp only []; omega) | decide) (by rw [Nat.succ_mul]; first | exact Nat.add_le_add hxl hpw9 | exact Nat.le_trans hxl (Nat.le_add_right _ _)) rfl
                        ·
                          have h49 : Nat.testBit (KNW (wsh (n, m, sh, 0, ki, op, fa, K, G, T) (sh ||| z)) jf) jp = true := (knw_bit (s := wsh (n, m, sh, 0, ki, op, fa, K, G, T) (sh ||| z)) (show jp < n by omega)).trans h_126
                          refine v_ll 217 zC dX5_colds_215 1 rfl ?_
                          refine v_goto 221 zC dX5_colds_217 ?_
                          refine v_ladd (v := (lN (acc + y))) 222 zC dX5_colds_221  (lN_add _ _) ?_
                          refine v_ls (lv2 := [(7, .long (lN (acc + y))), (14, .int (nI r)), (12, .long (lN y)), (11, .int (nI z)), (9, .long (lN x)), (6, .int (nI sh)), (5, .int (nI 0)), (0, .ref r0), (1, .int (nI jp)), (2, .int (nI jf)), (3, .int (nI jt)), (4, .int (nI jw))]) 224 zC dX5_colds_222 (by rw [hnE]; decide) rfl ?_
                          refine v_inc (v := (nI (z + 1))) (lv2 := [(11, .int (nI (z + 1))), (7, .long (lN (acc + y))), (14, .int (nI r)), (12, .long (lN y)), (9, .long (lN x)), (6, .int (nI sh)), (5, .int (nI 0)), (0, .ref r0), (1, .int (nI jp)), (2, .int (nI jf)), (3, .int (nI jt)), (4, .int (nI jw))]) 227 zC dX5_colds_224 (j := 3) rfl (nI_add _ 1) (by rw [hnE]; decide) rfl ?_
                          refine v_goto 114 zC dX5_colds_227 ?_
                          refine v_lvs (lv2 := [(11, .int (nI (z + 1))), (9, .long (lN x)), (7, .long (lN (acc + y))), (6, .int (nI sh)), (5, .int (nI 0)), (0, .ref r0), (1, .int (nI jp)), (2, .int (nI jf)), (3, .int (nI jt)), (4, .int (nI jw))]) [0, 4, 1, 5, 6, 7, 8, 9, 10, 11] rfl ?_
                          exact ih114 _ (by omega) kw1_117 kn1_118 M1_119 mw1_120 (sh ||| z) (acc + y) (z + 1) (by first | exact hR9.2.2.2.1 | exact hkw2) (by first | exact hR9.2.2.2.2.1 | exact hkn2) (by first | exact hR9.2.2.2.2.2 | exact hM2) (by first | exact hs1 | exact Nat.or_lt_two_pow hsh (by omega)) (it_s hs (by first | exact (col_1 h29 h49).trans (by first | (rw [hy8]; done) | (rw [hy8]; rfl)) | exact col_2 h19 | exact col_3 h39)) (by first | omega | assumption | rfl | (simp only []; omega) | decide) (by rw [Nat.succ_mul]; first | exact Nat.add_le_add hxl hpw9 | exact Nat.le_trans hxl (Nat.le_add_right _ _)) rfl
                      ·
                        refine v_ll 150 zC dX5_colds_148 1 rfl ?_
                        refine v_il 152 zC dX5_colds_150 5 rfl ?_
                        refine v_il 154 zC dX5_colds_152 0 rfl ?_
                        refine v_cS (As := [.int (nI sh), .int (nI r)]) (st := [.long (lN y)]) 157 [] zC dX5_colds_154 hA (c_X5_hasBit (ev_l E) (ev_D E) cI (x := sh) (k := r) (hk := (by first | omega | assumption | rfl | (simp only []; omega) | decide))) cf_X5_hasBit lk_X5_95 rfl rfl rfl (by decide +kernel) (Nat.le_of_ble_eq_true rfl) (fun rv_127 wv_128 hp_129 hm_130 => ?_)
                        clear hm_130
                        obtain ⟨rfl, rfl⟩ := hp_129
                        show VV E 0 0 157 [(14, .int (nI r)), (12, .long (lN y)), (11, .int (nI z)), (9, .long (lN x)), (7, .long (lN acc)), (6, .int (nI sh)), (5, .int (nI 0)), (0, .ref r0), (1, .int (nI jp)), (2, .int (nI jf)), (3, .int (nI jt)), (4, .int (nI jw))] [.int (bz (Nat.testBit sh r)), .long (lN y)] [(r0, .inr (5, [.int (nI n), .ref k1, .ref k2, .ref k3, .ref k4, .int (nI m), .ref k6, .ref k7, .ref k8, .int (nI 0), .ref k10, .int (nI 0), .ref k12, .ref k13, .ref k14, .ref k15, .ref k16, .int (nI ls), .int (nI ap), .int (bz bd), .int (nI sq), .ref k21, .ref k22, .ref k23, .ref k24, .ref k25, .int (bz pd), .int (nI 48), .int (bz true), .ref k24, .ref k30, .ref k31, .int (nI tz), .ref k33, .int (nI rs), .int sd])), (k1, .inl (cI, 7, .inl (nIf ki))), (k2, .inl (cI, 7, .inl (nIf op))), (k3, .inl (cI, 7, .inl (nIf (shF s1)))), (k4, .inl (cI, 7, .inl (nIf fa))), (k6, .inl (cI, 6, .inl (nIf K))), (k7, .inl (cI, 6, .inl (nIf G))), (k8, .inl (cI, 6, .inl (nIf T))), (k12, .inl (cI, 7, .inl (nIf kw2))), (k13, .inl (cI, 175, .inl (nIf kn2))), (k14, .inl (cI, 144, .inl (mIf M2))), (k15, .inl (cI, 7, .inl (nIf mw2))), (k24, .inl (cI, 48, .inl (nIf kp1_94))), (k10, .inl (cI, 7, .inl (nIf R)))]
                        refine v_ifb_ne 170 160 zC dX5_colds_157 (fun h_131 => ?_) (fun h_131 => ?_)
                        ·
                          have hb9 : (fun i => !(Nat.testBit sh i || Nat.testBit z i)) r = false := by show (!(Nat.testBit sh r || Nat.testBit z r)) = false; rw [h_131]; rfl
                          refine v_lc (v := lN 1) 171 zC dX5_colds_170 (by decide +kernel) ?_
                          refine v_goto 178 zC dX5_colds_171 ?_
                          refine v_lmul (v := (lN y)) 179 zC dX5_colds_178  (by rw [lN_mul, Nat.mul_one]) ?_
                          refine v_ls (lv2 := [(12, .long (lN y)), (14, .int (nI r)), (11, .int (nI z)), (9, .long (lN x)), (7, .long (lN acc)), (6, .int (nI sh)), (5, .int (nI 0)), (0, .ref r0), (1, .int (nI jp)), (2, .int (nI jf)), (3, .int (nI jt)), (4, .int (nI jw))]) 181 zC dX5_colds_179 (by rw [hnE]; decide) rfl ?_
                          refine v_inc (v := (nI (r + 1))) (lv2 := [(14, .int (nI (r + 1))), (12, .long (lN y)), (11, .int (nI z)), (9, .long (lN x)), (7, .long (lN acc)), (6, .int (nI sh)), (5, .int (nI 0)), (0, .ref r0), (1, .int (nI jp)), (2, .int (nI jf)), (3, .int (nI jt)), (4, .int (nI jw))]) 184 zC dX5_colds_181 (j := 1) rfl (nI_add _ 1) (by rw [hnE]; decide) rfl ?_
                          refine v_goto 139 zC dX5_colds_184 ?_
                          refine v_lvs (lv2 := [(14, .int (nI (r + 1))), (12, .long (lN y)), (11, .int (nI z)), (9, .long (lN x)), (7, .long (lN acc)), (6, .int (nI sh)), (5, .int (nI 0)), (0, .ref r0), (1, .int (nI jp)), (2, .int (nI jf)), (3, .int (nI jt)), (4, .int (nI jw))]) [0, 1, 2, 3, 4, 5, 6, 7, 8, 9, 10, 11] rfl ?_
                          exact ih139 _ (by omega) y (r + 1) (by first | exact pw_1 hy hc9 | exact pw_0 hy hb9) (by first | omega | assumption | rfl | (simp only []; omega) | decide) rfl
                        ·
                          have ha9 := h_131
                          refine v_il 162 zC dX5_colds_160 2 rfl ?_
                          refine v_il 164 zC dX5_colds_162 0 rfl ?_
                          refine v_cS (As := [.int (nI z), .int (nI r)]) (st := [.long (lN y)]) 167 [] zC dX5_colds_164 hA (c_X5_hasBit (ev_l E) (ev_D E) cI (x := z) (k := r) (hk := (by first | omega | assumption | rfl | (simp only []; omega) | decide))) cf_X5_hasBit lk_X5_95 rfl rfl rfl (by decide +kernel) (Nat.le_of_ble_eq_true rfl) (fun rv_132 wv_133 hp_134 hm_135 => ?_)
                          clear hm_135
                          obtain ⟨rfl, rfl⟩ := hp_134
                          show VV E 0 0 167 [(14, .int (nI r)), (12, .long (lN y)), (11, .int (nI z)), (9, .long (lN x)), (7, .long (lN acc)), (6, .int (nI sh)), (5, .int (nI 0)), (0, .ref r0), (1, .int (nI jp)), (2, .int (nI jf)), (3, .int (nI jt)), (4, .int (nI jw))] [.int (bz (Nat.testBit z r)), .long (lN y)] [(r0, .inr (5, [.int (nI n), .ref k1, .ref k2, .ref k3, .ref k4, .int (nI m), .ref k6, .ref k7, .ref k8, .int (nI 0), .ref k10, .int (nI 0), .ref k12, .ref k13, .ref k14, .ref k15, .ref k16, .int (nI ls), .int (nI ap), .int (bz bd), .int (nI sq), .ref k21, .ref k22, .ref k23, .ref k24, .ref k25, .int (bz pd), .int (nI 48), .int (bz true), .ref k24, .ref k30, .ref k31, .int (nI tz), .ref k33, .int (nI rs), .int sd])), (k1, .inl (cI, 7, .inl (nIf ki))), (k2, .inl (cI, 7, .inl (nIf op))), (k3, .inl (cI, 7, .inl (nIf (shF s1)))), (k4, .inl (cI, 7, .inl (nIf fa))), (k6, .inl (cI, 6, .inl (nIf K))), (k7, .inl (cI, 6, .inl (nIf G))), (k8, .inl (cI, 6, .inl (nIf T))), (k12, .inl (cI, 7, .inl (nIf kw2))), (k13, .inl (cI, 175, .inl (nIf kn2))), (k14, .inl (cI, 144, .inl (mIf M2))), (k15, .inl (cI, 7, .inl (nIf mw2))), (k24, .inl (cI, 48, .inl (nIf kp1_94))), (k10, .inl (cI, 7, .inl (nIf R)))]
                          refine v_ifb_eq 174 170 zC dX5_colds_167 (fun h_136 => ?_) (fun h_136 => ?_)
                          ·
                            have hc9 : (fun i => !(Nat.testBit sh i || Nat.testBit z i)) r = true := by show (!(Nat.testBit sh r || Nat.testBit z r)) = true; rw [ha9, h_136]; rfl
                            refine v_il_n 175 zC dX5_colds_174 10 rfl ?_
                            refine v_ic (v := (nI 1)) 176 zC dX5_colds_175 (by decide +kernel) ?_
                            refine v_isub (v := (nI (jt - 1))) 177 zC dX5_colds_176 (pk_sub (by first | omega | exact Nat.one_le_two_pow)) ?_
                            refine v_i2l (v := (lN (jt - 1))) 178 zC dX5_colds_177 (nI_l (by omega)) ?_
                            refine v_lmul (v := (lN (y * (jt - 1)))) 179 zC dX5_colds_178  (lN_mul _ _) ?_
                            refine v_ls (lv2 := [(12, .long (lN (y * (jt - 1)))), (14, .int (nI r)), (11, .int (nI z)), (9, .long (lN x)), (7, .long (lN acc)), (6, .int (nI sh)), (5, .int (nI 0)), (0, .ref r0), (1, .int (nI jp)), (2, .int (nI jf)), (3, .int (nI jt)), (4, .int (nI jw))]) 181 zC dX5_colds_179 (by rw [hnE]; decide) rfl ?_
                            refine v_inc (v := (nI (r + 1))) (lv2 := [(14, .int (nI (r + 1))), (12, .long (lN (y * (jt - 1)))), (11, .int (nI z)), (9, .long (lN x)), (7, .long (lN acc)), (6, .int (nI sh)), (5, .int (nI 0)), (0, .ref r0), (1, .int (nI jp)), (2, .int (nI jf)), (3, .int (nI jt)), (4, .int (nI jw))]) 184 zC dX5_colds_181 (j := 1) rfl (nI_add _ 1) (by rw [hnE]; decide) rfl ?_
                            refine v_goto 139 zC dX5_colds_184 ?_
                            refine v_lvs (lv2 := [(14, .int (nI (r + 1))), (12, .long (lN (y * (jt - 1)))), (11, .int (nI z)), (9, .long (lN x)), (7, .long (lN acc)), (6, .int (nI sh)), (5, .int (nI 0)), (0, .ref r0), (1, .int (nI jp)), (2, .int (nI jf)), (3, .int (nI jt)), (4, .int (nI jw))]) [0, 1, 2, 3, 4, 5, 6, 7, 8, 9, 10, 11] rfl ?_
                            exact ih139 _ (by omega) (y * (jt - 1)) (r + 1) (by first | exact pw_1 hy hc9 | exact pw_0 hy hb9) (by first | omega | assumption | rfl | (simp only []; omega) | decide) rfl
                          ·
                            have hb9 : (fun i => !(Nat.testBit sh i || Nat.testBit z i)) r = false := by show (!(Nat.testBit sh r || Nat.testBit z r)) = false; rw [ha9, h_136]; rfl
                            refine v_lc (v := lN 1) 171 zC dX5_colds_170 (by decide +kernel) ?_
                            refine v_goto 178 zC dX5_colds_171 ?_
                            refine v_lmul (v := (lN y)) 179 zC dX5_colds_178  (by rw [lN_mul, Nat.mul_one]) ?_
                            refine v_ls (lv2 := [(12, .long (lN y)), (14, .int (nI r)), (11, .int (nI z)), (9, .long (lN x)), (7, .long (lN acc)), (6, .int (nI sh)), (5, .int (nI 0)), (0, .ref r0), (1, .int (nI jp)), (2, .int (nI jf)), (3, .int (nI jt)), (4, .int (nI jw))]) 181 zC dX5_colds_179 (by rw [hnE]; decide) rfl ?_
                            refine v_inc (v := (nI (r + 1))) (lv2 := [(14, .int (nI (r + 1))), (12, .long (lN y)), (11, .int (nI z)), (9, .long (lN x)), (7, .long (lN acc)), (6, .int (nI sh)), (5, .int (nI 0)), (0, .ref r0), (1, .int (nI jp)), (2, .int (nI jf)), (3, .int (nI jt)), (4, .int (nI jw))]) 184 zC dX5_colds_181 (j := 1) rfl (nI_add _ 1) (by rw [hnE]; decide) rfl ?_
                            refine v_goto 139 zC dX5_colds_184 ?_
                            refine v_lvs (lv2 := [(14, .int (nI (r + 1))), (12, .long (lN y)), (11, .int (nI z)), (9, .long (lN x)), (7, .long (lN acc)), (6, .int (nI sh)), (5, .int (nI 0)), (0, .ref r0), (1, .int (nI jp)), (2, .int (nI jf)), (3, .int (nI jt)), (4, .int (nI jw))]) [0, 1, 2, 3, 4, 5, 6, 7, 8, 9, 10, 11] rfl ?_
                            exact ih139 _ (by omega) y (r + 1) (by first | exact pw_1 hy hc9 | exact pw_0 hy hb9) (by first | omega | assumption | rfl | (simp only []; omega) | decide) rfl
                    refine v_lvs (lv2 := [(14, .int (nI 0)), (12, .long (lN 1)), (11, .int (nI z)), (9, .long (lN x)), (7, .long (lN acc)), (6, .int (nI sh)), (5, .int (nI 0)), (0, .ref r0), (1, .int (nI jp)), (2, .int (nI jf)), (3, .int (nI jt)), (4, .int (nI jw))]) [0, 1, 2, 3, 4, 5, 6, 7, 8, 9, 10, 11] rfl ?_
                    exact lp139 _ 1 0 rfl (by first | omega | assumption | rfl | (simp only []; omega) | decide) rfl
              refine v_lvs (lv2 := [(11, .int (nI 0)), (9, .long (lN x)), (7, .long (lN 0)), (6, .int (nI sh)), (5, .int (nI 0)), (0, .ref r0), (1, .int (nI jp)), (2, .int (nI jf)), (3, .int (nI jt)), (4, .int (nI jw))]) [0, 1, 2, 3, 4, 5, 6, 7, 8, 9] rfl ?_
              exact lp114 _ kw kn M mw sh 0 0 (by first | exact hR9.2.2.2.1 | exact hkw) (by first | exact hR9.2.2.2.2.1 | exact hkn) (by first | exact hR9.2.2.2.2.2 | exact hM) hsh rfl (Nat.zero_le _) (Nat.zero_le _) rfl
            ·
              refine v_ll 82 zC dX5_colds_80 1 rfl ?_
              refine v_il 84 zC dX5_colds_82 3 rfl ?_
              refine v_il 86 zC dX5_colds_84 0 rfl ?_
              refine v_cS (As := [.int (nI sh), .int (nI q)]) (st := [.long (lN x)]) 89 [] zC dX5_colds_86 hA (c_X5_hasBit (ev_l E) (ev_D E) cI (x := sh) (k := q) (hk := (by first | omega | assumption | rfl | (simp only []; omega) | decide))) cf_X5_hasBit lk_X5_95 rfl rfl rfl (by decide +kernel) (Nat.le_of_ble_eq_true rfl) (fun rv_137 wv_138 hp_139 hm_140 => ?_)
              clear hm_140
              obtain ⟨rfl, rfl⟩ := hp_139
              show VV E 0 0 89 [(11, .int (nI q)), (9, .long (lN x)), (7, .long (lN 0)), (6, .int (nI sh)), (5, .int (nI 0)), (0, .ref r0), (1, .int (nI jp)), (2, .int (nI jf)), (3, .int (nI jt)), (4, .int (nI jw))] [.int (bz (Nat.testBit sh q)), .long (lN x)] [(r0, .inr (5, [.int (nI n), .ref k1, .ref k2, .ref k3, .ref k4, .int (nI m), .ref k6, .ref k7, .ref k8, .int (nI 0), .ref k10, .int (nI 0), .ref k12, .ref k13, .ref k14, .ref k15, .ref k16, .int (nI ls), .int (nI ap), .int (bz bd), .int (nI sq), .ref k21, .ref k22, .ref k23, .ref k24, .ref k25, .int (bz pd), .int (nI pl), .int (bz tk), kv, .ref k30, .ref k31, .int (nI tz), .ref k33, .int (nI rs), .int sd])), (k1, .inl (cI, 7, .inl (nIf ki))), (k2, .inl (cI, 7, .inl (nIf op))), (k3, .inl (cI, 7, .inl (nIf (shF sh)))), (k4, .inl (cI, 7, .inl (nIf fa))), (k6, .inl (cI, 6, .inl (nIf K))), (k7, .inl (cI, 6, .inl (nIf G))), (k8, .inl (cI, 6, .inl (nIf T))), (k12, .inl (cI, 7, .inl (nIf kw))), (k13, .inl (cI, 175, .inl (nIf kn))), (k14, .inl (cI, 144, .inl (mIf M))), (k15, .inl (cI, 7, .inl (nIf mw))), (k24, .inl (cI, 48, .inl (nIf kp))), (k10, .inl (cI, 7, .inl (nIf R)))]
              refine v_ifb_eq 96 92 zC dX5_colds_89 (fun h_141 => ?_) (fun h_141 => ?_)
              ·
                have hv9 : (fun i => !(Nat.testBit sh i)) q = true := by show (!(Nat.testBit sh q)) = true; rw [h_141]; rfl
                refine v_il_n 97 zC dX5_colds_96 8 rfl ?_
                refine v_i2l (v := (lN jt)) 98 zC dX5_colds_97 (nI_l (by omega)) ?_
                refine v_lmul (v := (lN (x * jt))) 99 zC dX5_colds_98  (lN_mul _ _) ?_
                refine v_ls (lv2 := [(9, .long (lN (x * jt))), (11, .int (nI q)), (7, .long (lN 0)), (6, .int (nI sh)), (5, .int (nI 0)), (0, .ref r0), (1, .int (nI jp)), (2, .int (nI jf)), (3, .int (nI jt)), (4, .int (nI jw))]) 101 zC dX5_colds_99 (by rw [hnE]; decide) rfl ?_
                refine v_inc (v := (nI (q + 1))) (lv2 := [(11, .int (nI (q + 1))), (9, .long (lN (x * jt))), (7, .long (lN 0)), (6, .int (nI sh)), (5, .int (nI 0)), (0, .ref r0), (1, .int (nI jp)), (2, .int (nI jf)), (3, .int (nI jt)), (4, .int (nI jw))]) 104 zC dX5_colds_101 (j := 1) rfl (nI_add _ 1) (by rw [hnE]; decide) rfl ?_
                refine v_goto 71 zC dX5_colds_104 ?_
                refine v_lvs (lv2 := [(11, .int (nI (q + 1))), (9, .long (lN (x * jt))), (7, .long (lN 0)), (6, .int (nI sh)), (5, .int (nI 0)), (0, .ref r0), (1, .int (nI jp)), (2, .int (nI jf)), (3, .int (nI jt)), (4, .int (nI jw))]) [0, 1, 2, 3, 4, 5, 6, 7, 8, 9] rfl ?_
                exact ih71 _ (by omega) (x * jt) (q + 1) (by first | exact pw_1 hx hv9 | exact pw_0 hx hu9) (by first | omega | assumption | rfl | (simp only []; omega) | decide) rfl
              ·
                have hu9 : (fun i => !(Nat.testBit sh i)) q = false := by show (!(Nat.testBit sh q)) = false; rw [h_141]; rfl
                refine v_lc (v := lN 1) 93 zC dX5_colds_92 (by decide +kernel) ?_
                refine v_goto 98 zC dX5_colds_93 ?_
                refine v_lmul (v := (lN x)) 99 zC dX5_colds_98  (by rw [lN_mul, Nat.mul_one]) ?_
                refine v_ls (lv2 := [(9, .long (lN x)), (11, .int (nI q)), (7, .long (lN 0)), (6, .int (nI sh)), (5, .int (nI 0)), (0, .ref r0), (1, .int (nI jp)), (2, .int (nI jf)), (3, .int (nI jt)), (4, .int (nI jw))]) 101 zC dX5_colds_99 (by rw [hnE]; decide) rfl ?_
                refine v_inc (v := (nI (q + 1))) (lv2 := [(11, .int (nI (q + 1))), (9, .long (lN x)), (7, .long (lN 0)), (6, .int (nI sh)), (5, .int (nI 0)), (0, .ref r0), (1, .int (nI jp)), (2, .int (nI jf)), (3, .int (nI jt)), (4, .int (nI jw))]) 104 zC dX5_colds_101 (j := 1) rfl (nI_add _ 1) (by rw [hnE]; decide) rfl ?_
                refine v_goto 71 zC dX5_colds_104 ?_
                refine v_lvs (lv2 := [(11, .int (nI (q + 1))), (9, .long (lN x)), (7, .long (lN 0)), (6, .int (nI sh)), (5, .int (nI 0)), (0, .ref r0), (1, .int (nI jp)), (2, .int (nI jf)), (3, .int (nI jt)), (4, .int (nI jw))]) [0, 1, 2, 3, 4, 5, 6, 7, 8, 9] rfl ?_
                exact ih71 _ (by omega) x (q + 1) (by first | exact pw_1 hx hv9 | exact pw_0 hx hu9) (by first | omega | assumption | rfl | (simp only []; omega) | decide) rfl
          refine v_lvs (lv2 := [(11, .int (nI 0)), (9, .long (lN 1)), (7, .long (lN 0)), (6, .int (nI sh)), (5, .int (nI 0)), (0, .ref r0), (1, .int (nI jp)), (2, .int (nI jf)), (3, .int (nI jt)), (4, .int (nI jw))]) [0, 1, 2, 3, 4, 5, 6, 7, 8, 9] rfl ?_
          exact lp71 _ 1 0 rfl (by first | omega | assumption | rfl | (simp only []; omega) | decide) rfl
