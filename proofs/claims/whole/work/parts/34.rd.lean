/-! the reference's answers -/
theorem in_ix1 {N k : Nat} {p : Int32} (hk : k < 2 ^ 29) (hN : N = k + 1) : (IX N p = none ∧ inB (Int32.toInt64 p) (lN 0) (lN k) = false) ∨ (∃ j : Nat, p = nI j ∧ IX N (nI j) = some j ∧ j < N ∧ inB (Int32.toInt64 p) (lN 0) (lN k) = true) := by
  subst hN
  rcases ix_in (N := k + 1) (p := p) (by omega) with ⟨h1, h2⟩ | ⟨j, h1, h2, h3, h4⟩
  · exact Or.inl ⟨h1, (in_ixk hk).trans h2⟩
  · exact Or.inr ⟨j, h1, h2, h3, (in_ixk hk).trans h4⟩
theorem in_spk {n : Nat} {p : Int32} (hn : n ≤ 7) : (p = -1 ∧ inB (Int32.toInt64 p) (-1) (Int32.toInt64 (nI n - nI 1)) = true) ∨ (¬ p = -1 ∧ IX n p = none ∧ inB (Int32.toInt64 p) (-1) (Int32.toInt64 (nI n - nI 1)) = false) ∨ (∃ j : Nat, p = nI j ∧ IX n (nI j) = some j ∧ j < n ∧ inB (Int32.toInt64 p) (-1) (Int32.toInt64 (nI n - nI 1)) = true) := by
  have e1 : (nI n - nI 1).toInt = (n : Int) - 1 := pk_sub_toInt (by omega) (by decide)
  have em : (-1 : Int64) = Int32.toInt64 (-1) := by decide +kernel
  have emi : (-1 : Int32).toInt = -1 := by decide +kernel
  have hin : inB (Int32.toInt64 p) (-1) (Int32.toInt64 (nI n - nI 1)) = decide (-1 ≤ p ∧ p ≤ nI n - nI 1) := by
    unfold inB
    rw [em]
    exact decide_eq_decide.mpr (and_congr i2l_le i2l_le)
  rw [hin]
  by_cases c : p = -1
  · refine Or.inl ⟨c, decide_eq_true ?_⟩
    subst c
    rw [Int32.le_iff_toInt_le, Int32.le_iff_toInt_le, e1, emi]
    omega
  · have h0 := in_ixp (n := n) (p := p) (by omega)
    rw [l2i_0 (show 0 < 2 ^ 31 by decide)] at h0
    unfold inB at h0
    rw [decide_eq_decide.mpr (and_congr i2l_le i2l_le)] at h0
    have e00 : (nI 0).toInt = 0 := rfl
    have h2 : decide (-1 ≤ p ∧ p ≤ nI n - nI 1) = decide (nI 0 ≤ p ∧ p ≤ nI n - nI 1) := by
      refine decide_eq_decide.mpr (and_congr ?_ Iff.rfl)
      rw [Int32.le_iff_toInt_le, Int32.le_iff_toInt_le, emi, e00]
      have c2 : p.toInt ≠ -1 := fun h => c (Int32.toInt_inj.mp (h.trans emi.symm))
      omega
    rw [h2, h0]
    rcases ix_in (N := n) (p := p) (by omega) with ⟨h3, h4⟩ | ⟨j, h3, h4, h5, h6⟩
    · exact Or.inr (Or.inl ⟨c, h3, h4⟩)
    · exact Or.inr (Or.inr ⟨j, h3, h4, h5, h6⟩)
theorem anb_k {P : Nat → Bool} {k : Nat} (h : true = anb P k) : true = anb P (k + 1) := by simp [anb, ← h]
theorem anb_y {P : Nat → Bool} {k : Nat} (h : P k = true) : true = anb P (k + 1) := by simp [anb, h]
theorem anb_z {P : Nat → Bool} {k : Nat} (h : false = anb P k) (hp : P k = false) : false = anb P (k + 1) := by simp [anb, ← h, hp]
theorem orn_bit {c : Nat → Bool} {T : Nat → Nat} {f : Nat} : ∀ m, Nat.testBit (orn (fun d => if c d = true then 2 ^ T d else 0) m) f = anb (fun d => c d && decide (T d = f)) m
  | 0 => by simp [orn, anb]
  | m + 1 => by
    simp only [orn, anb]
    rw [Nat.testBit_or, orn_bit m]
    cases h : c m with
    | true => rw [if_pos rfl, Nat.testBit_two_pow, Bool.true_and]
    | false => rw [if_neg (by decide), Nat.zero_testBit, Bool.false_and]
theorem spt_bit {s : SG} {p h d : Nat} (hd : d < g_m s) : Nat.testBit (SPT s p h) d = (DM s h d == some p) := by
  unfold SPT
  rw [mkn_bit, decide_eq_true hd, Bool.true_and]
theorem say_bit {s : SG} {p f h : Nat} : Nat.testBit (SAY s p h) f = SAIDB s p f h := by
  unfold SAY SAIDB
  rw [orn_bit]
  exact anb_c (fun d hd => by rw [spt_bit hd])
theorem say_0 {s : SG} {p h : Nat} : SAY s p h = 0 ↔ SPT s p h = 0 := by
  constructor
  · intro e
    apply Nat.eq_of_testBit_eq
    intro d
    rw [Nat.zero_testBit]
    by_cases hd : d < g_m s
    · cases c : Nat.testBit (SPT s p h) d with
      | false => rfl
      | true =>
        have h2 : SAIDB s p (g_T s d) h = true := q15_said hd c rfl
        rw [← say_bit, e, Nat.zero_testBit] at h2
        cases h2
    · exact Nat.testBit_lt_two_pow (Nat.lt_of_lt_of_le (mkn_lt _ _) (Nat.pow_le_pow_right (by decide) (by omega)))
  · intro e
    apply Nat.eq_of_testBit_eq
    intro f
    rw [Nat.zero_testBit, say_bit]
    cases c : SAIDB s p f h with
    | false => rfl
    | true =>
      unfold SAIDB at c
      rw [e] at c
      have : ∀ k, anb (fun d => Nat.testBit 0 d && decide (g_T s d = f)) k = false := by
        intro k
        induction k with
        | zero => rfl
        | succ k ih => exact anb_0 ih (by rw [Nat.zero_testBit, Bool.false_and])
      rw [this] at c
      cases c
theorem or_bit {a k : Nat} (h : Nat.testBit a k = true) : a ||| 2 ^ k = a := by
  apply Nat.eq_of_testBit_eq
  intro i
  rw [Nat.testBit_or, Nat.testBit_two_pow]
  by_cases c : k = i
  · subst c
    rw [h]; rfl
  · rw [decide_eq_false c, Bool.or_false]
theorem que_1 {T : Nat → Nat} {d u v : Nat} (h : Nat.testBit v (T d) = true) : queS T d (u, v) = (u, v ||| 2 ^ T d) := by
  unfold queS
  rw [if_pos h, or_bit h]
theorem que_0 {T : Nat → Nat} {d u v : Nat} (h : Nat.testBit v (T d) = false) : queS T d (u, v) = (u ||| 2 ^ d, v ||| 2 ^ T d) := if_neg (by rw [h]; decide)
theorem sub_add1 {a b : Nat} (h : b ≤ a + 1) : nI a - nI b + nI 1 = nI (a + 1 - b) := by
  have e : nI (a + 1 - b) = nI (a + 1) - nI b := (pk_sub h).symm
  rw [e, ← nI_add, Int32.sub_eq_add_neg, Int32.sub_eq_add_neg, Int32.add_assoc, Int32.add_assoc, Int32.add_comm (-(nI b)) (nI 1)]
theorem sil_s1 {s : SG} {h a r l : Nat} {f : Option Nat} (e : SPK s h ≠ 0) : silS s h (a, r, l, f) = (a, 0, l, f) := if_pos e
theorem sil_s2 {s : SG} {h a r l : Nat} {f : Option Nat} (e : ¬ SPK s h ≠ 0) (c : l < r + 1) : silS s h (a, r, l, f) = (a + 1, r + 1, r + 1, some (h + 1 - (r + 1))) := by
  unfold silS
  rw [if_neg e]
  exact if_pos c
theorem sil_s3 {s : SG} {h a r l : Nat} {f : Option Nat} (e : ¬ SPK s h ≠ 0) (c : r + 1 ≤ l) : silS s h (a, r, l, f) = (a + 1, r + 1, l, f) := by
  unfold silS
  rw [if_neg e]
  exact if_neg (Nat.not_lt.mpr c)
theorem mI_le2 {x y : Option Nat} (hx : ∀ v, x = some v → v < 2 ^ 31) (hy : ∀ v, y = some v → v < 2 ^ 31) : (mI x ≤ mI y → mxO y x = y) ∧ (¬ mI x ≤ mI y → mxO y x = x) := by
  have en : (mI none).toInt = -9 := rfl
  cases x with
  | none => cases y with
    | none => exact ⟨fun _ => rfl, fun _ => rfl⟩
    | some b => exact ⟨fun _ => rfl, fun h => absurd (Int32.le_iff_toInt_le.mpr (by
        rw [en, show (mI (some b)).toInt = (b : Int) from nI_toInt (hy b rfl)]
        omega)) h⟩
  | some a => cases y with
    | none => exact ⟨fun h => by
        have h2 := Int32.le_iff_toInt_le.mp h
        rw [en, show (mI (some a)).toInt = (a : Int) from nI_toInt (hx a rfl)] at h2
        omega, fun _ => rfl⟩
    | some b =>
      have e : mI (some a) ≤ mI (some b) ↔ a ≤ b := nI_leI (hx a rfl) (hy b rfl)
      unfold mxO
      dsimp only
      refine ⟨fun h => ?_, fun h => ?_⟩
      · by_cases c : b < a
        · have := e.mp h; omega
        · rw [if_neg c]
      · by_cases c : b < a
        · rw [if_pos c]
        · exact absurd (e.mpr (by omega)) h
theorem ctn_add {P : Nat → Bool} : ∀ n, ctn P n = sm (fun i => if P i = true then 1 else 0) n
  | 0 => rfl
  | n + 1 => by simp only [ctn, sm]; rw [ctn_add n]
theorem sm_add {f g : Nat → Nat} : ∀ n, sm (fun i => f i + g i) n = sm f n + sm g n
  | 0 => rfl
  | n + 1 => by simp only [sm]; rw [sm_add n]; omega
theorem sm_0 : ∀ n, sm (fun _ => 0) n = 0
  | 0 => rfl
  | n + 1 => by simp only [sm]; rw [sm_0 n]
theorem sm_swap {Q : Nat → Nat → Nat} {a : Nat} : ∀ b, sm (fun h => sm (fun d => Q h d) b) a = sm (fun d => sm (fun h => Q h d) a) b
  | 0 => sm_0 a
  | b + 1 => by
    simp only [sm]
    rw [sm_add, sm_swap b]
theorem pcn_mkn {P : Nat → Bool} {n : Nat} : pcn (mkn P n) = ctn P n := by
  rw [pcn_ctn n _ (mkn_lt P n)]
  exact ctn_c (fun k hk => by rw [mkn_bit, decide_eq_true hk, Bool.true_and])
theorem loud_e {s : SG} {p : Nat} : sm (fun h => pcn (SPT s p h)) 24 = LOUD s p := by
  unfold LOUD
  rw [sm_c (f := fun h => pcn (SPT s p h)) (g := fun h => sm (fun d => if (DM s h d == some p) = true then 1 else 0) (g_m s)) (fun h _ => by
    unfold SPT
    rw [pcn_mkn, ctn_add]), sm_swap]
  exact sm_c (fun d _ => by
    unfold THRU
    rw [ctn_add])
/-- dinner: the reference's best and least -/
def DN (s : SG) (k f b l : Nat) : Prop := (f = 0 ∧ b = 0 ∧ l = 999) ∨ it (dinS s k) (none, 0) f = (some b, l)
theorem dn_1 {s : SG} {k f b l y : Nat} (h : DN s k f b l) (hy : DINS s k f = y) (c : y < l) : DN s k (f + 1) f y := by
  refine Or.inr ?_
  show dinS s k f (it (dinS s k) (none, 0) f) = _
  rcases h with ⟨rfl, rfl, rfl⟩ | h
  · exact (din_1 rfl).trans (by rw [hy])
  · rw [h]
    exact (din_2 (by rw [hy]; exact c)).trans (by rw [hy])
theorem dn_0 {s : SG} {k f b l y : Nat} (h : DN s k f b l) (hy : DINS s k f = y) (hl : y ≤ 900) (c : l ≤ y) : DN s k (f + 1) b l := by
  rcases h with ⟨rfl, rfl, rfl⟩ | h
  · omega
  · refine Or.inr ?_
    show dinS s k f (it (dinS s k) (none, 0) f) = _
    rw [h]
    exact din_0 rfl (by rw [hy]; exact c)
theorem dn_e {s : SG} {k f b l : Nat} (h : DN s k f b l) (hf : 0 < f) : it (dinS s k) (none, 0) f = (some b, l) := by
  rcases h with ⟨rfl, _⟩ | h
  · omega
  · exact h
theorem orn_tb {f : Nat → Nat} {i : Nat} : ∀ n, Nat.testBit (orn f n) i = anb (fun p => Nat.testBit (f p) i) n
  | 0 => by simp [orn, anb]
  | n + 1 => by simp only [orn, anb]; rw [Nat.testBit_or, orn_tb n]
theorem kto_all {s : SG} : KTO s (2 ^ g_n s - 1) = orn (fun p => DR s 24 p) (g_n s) := orn_c (fun p hp => by rw [Nat.testBit_two_pow_sub_one, if_pos (decide_eq_true hp)])
theorem ann_tb {f : Nat → Nat} {i : Nat} (hi : i < 10) : ∀ n, Nat.testBit (ann f n) i = decide (ctn (fun p => Nat.testBit (f p) i) n = n)
  | 0 => by
    show Nat.testBit 1023 i = true
    have g : ∀ k, k < 10 → Nat.testBit 1023 k = true := by decide +kernel
    exact g i hi
  | n + 1 => by
    have ih := ann_tb (f := f) hi n
    have hc := ctn_le (fun p => Nat.testBit (f p) i) n
    show Nat.testBit (ann f n &&& f n) i = _
    rcases Bool.eq_false_or_eq_true (Nat.testBit (f n) i) with h | h
    · have e := ctn_1 (P := fun p => Nat.testBit (f p) i) (k := n) h
      rw [Nat.testBit_and, ih, h, Bool.and_true]
      exact decide_eq_decide.mpr (by rw [e]; omega)
    · have e := ctn_0 (P := fun p => Nat.testBit (f p) i) (k := n) h
      rw [Nat.testBit_and, ih, h, Bool.and_false]
      exact (decide_eq_false (by rw [e]; omega)).symm
theorem anb_ctn {P : Nat → Bool} : ∀ n, anb P n = decide (0 < ctn P n)
  | 0 => rfl
  | n + 1 => by
    have ih := anb_ctn (P := P) n
    show (anb P n || P n) = _
    rcases Bool.eq_false_or_eq_true (P n) with h | h
    · rw [ih, h, Bool.or_true]
      exact (decide_eq_true (by rw [ctn_1 h]; omega)).symm
    · rw [ih, h, Bool.or_false]
      exact decide_eq_decide.mpr (by rw [ctn_0 h])
def SEB (s : SG) (f : Nat) : Bool := decide (0 < pcn (KNW s f)) && decide (pcn (KNW s f) < g_n s)
theorem knw_c {s : SG} {f : Nat} : pcn (KNW s f) = ctn (fun p => Nat.testBit (DR s 24 p) f) (g_n s) := pcn_mkn
theorem secr_e {s : SG} (hK : KTO s (2 ^ g_n s - 1) < 1024) : mkn (SEB s) 10 = SECR s := by
  apply Nat.eq_of_testBit_eq
  intro f
  unfold SECR
  rw [andn_bit, mkn_bit]
  by_cases hf : f < 10
  · rw [decide_eq_true hf, Bool.true_and, kto_all, orn_tb, anb_ctn]
    unfold SEB
    rw [knw_c]
    have hc := ctn_le (fun p => Nat.testBit (DR s 24 p) f) (g_n s)
    by_cases h0 : g_n s = 0
    · rw [if_pos h0, h0, Nat.zero_testBit]
      rfl
    · rw [if_neg h0, ann_tb hf]
      by_cases c : ctn (fun p => Nat.testBit (DR s 24 p) f) (g_n s) = g_n s
      · rw [decide_eq_true c, decide_eq_false (show ¬ ctn (fun p => Nat.testBit (DR s 24 p) f) (g_n s) < g_n s by omega)]
        rfl
      · rw [decide_eq_false c, decide_eq_true (show ctn (fun p => Nat.testBit (DR s 24 p) f) (g_n s) < g_n s by omega)]
        rfl
  · rw [decide_eq_false hf, Bool.false_and, Nat.testBit_lt_two_pow (Nat.lt_of_lt_of_le hK (Nat.le_trans (show 1024 ≤ 2 ^ 10 by decide) (Nat.pow_le_pow_right (show 0 < 2 by decide) (show 10 ≤ f by omega))))]
    rfl
theorem bcon {b : Bool} (h1 : b = true) (h2 : b = false) : False := by rw [h1] at h2; cases h2
/-- least of a set of sets, by how many and by number -/
def LMN (P : Nat → Prop) (b : Nat) : Prop := P b ∧ ∀ t, P t → pcn b < pcn t ∨ (pcn b = pcn t ∧ b ≤ t)
theorem lmn_u {P : Nat → Prop} {a b : Nat} (ha : LMN P a) (hb : LMN P b) : a = b := by
  have h1 := ha.2 b hb.1
  have h2 := hb.2 a ha.1
  omega
theorem lmn_c {P Q : Nat → Prop} {b : Nat} (h : ∀ t, P t ↔ Q t) (hb : LMN P b) : LMN Q b := ⟨(h b).mp hb.1, fun t ht => hb.2 t ((h t).mpr ht)⟩
theorem pcn_full : ∀ n, pcn (2 ^ n - 1) = n
  | 0 => pcn_0
  | n + 1 => by
    have h : 2 ^ (n + 1) = 2 * 2 ^ n := by rw [Nat.pow_succ, Nat.mul_comm]
    have h0 : 0 < 2 ^ n := Nat.pow_pos (by decide)
    rw [pcn_s, show (2 ^ (n + 1) - 1) % 2 = 1 by omega, show (2 ^ (n + 1) - 1) / 2 = 2 ^ n - 1 by omega, pcn_full n]
    omega
theorem pcn_less : ∀ (n t : Nat), t < 2 ^ n - 1 → pcn t < n
  | 0, t, h => by omega
  | n + 1, t, h => by
    have e : 2 ^ (n + 1) = 2 * 2 ^ n := by rw [Nat.pow_succ, Nat.mul_comm]
    rw [pcn_s]
    by_cases c : t / 2 < 2 ^ n - 1
    · have := pcn_less n (t / 2) c
      omega
    · have h2 := pcn_k n (t / 2) (by omega)
      have h3 : t % 2 = 0 := by omega
      have h4 : t / 2 = 2 ^ n - 1 := by omega
      rw [h4, pcn_full] 
      omega
def SYP (s : SG) (t : Nat) : Prop := KTO s t = KTO s (2 ^ g_n s - 1)
theorem syn_up {s : SG} : ∀ k, k ≤ 2 ^ g_n s - 1 → LMN (fun t => (t < k ∧ SYP s t) ∨ t = 2 ^ g_n s - 1) (it (synS s) (2 ^ g_n s - 1) k)
  | 0, _ => ⟨Or.inr rfl, fun t ht => by
      rcases ht with ht | ht
      · omega
      · subst ht
        exact Or.inr ⟨rfl, Nat.le_refl _⟩⟩
  | k + 1, hk => by
    have ih := syn_up (s := s) k (by omega)
    show LMN _ (synS s k (it (synS s) (2 ^ g_n s - 1) k))
    generalize it (synS s) (2 ^ g_n s - 1) k = b at ih
    unfold synS
    by_cases c : pcn k < pcn b ∧ KTO s k = KTO s (2 ^ g_n s - 1)
    · rw [if_pos c]
      refine ⟨Or.inl ⟨by omega, c.2⟩, fun t ht => ?_⟩
      rcases ht with ⟨h1, h2⟩ | ht
      · by_cases e : t = k
        · subst e; exact Or.inr ⟨rfl, Nat.le_refl _⟩
        · have := ih.2 t (Or.inl ⟨by omega, h2⟩)
          omega
      · have := ih.2 t (Or.inr ht)
        omega
    · rw [if_neg c]
      refine ⟨?_, fun t ht => ?_⟩
      · rcases ih.1 with h | h
        · exact Or.inl ⟨by omega, h.2⟩
        · exact Or.inr h
      · rcases ht with ⟨h1, h2⟩ | ht
        · by_cases e : t = k
          · subst e
            have c2 : ¬ pcn t < pcn b := fun q => c ⟨q, h2⟩
            have hb : b < t ∨ b = 2 ^ g_n s - 1 := by
              rcases ih.1 with h | h
              · exact Or.inl h.1
              · exact Or.inr h
            rcases hb with hb | hb
            · omega
            · have h3 := pcn_less (g_n s) t (by omega)
              rw [hb, pcn_full] at c2
              omega
          · exact ih.2 t (Or.inl ⟨by omega, h2⟩)
        · exact ih.2 t (Or.inr ht)
/-- the reference's way: falling -/
def synD (s : SG) (b t : Nat) : Nat := if pcn t ≤ pcn b then (if KTO s t = KTO s (2 ^ g_n s - 1) then t else b) else b
theorem syd_1 {s : SG} {b t : Nat} (h : LMN (fun u => (t < u ∧ u ≤ 2 ^ g_n s - 1 ∧ SYP s u) ∨ u = 2 ^ g_n s - 1) b) (h1 : pcn t ≤ pcn b) (h2 : SYP s t) (ht : t ≤ 2 ^ g_n s - 1) : LMN (fun u => (t ≤ u ∧ u ≤ 2 ^ g_n s - 1 ∧ SYP s u) ∨ u = 2 ^ g_n s - 1) t := by
  refine ⟨Or.inl ⟨Nat.le_refl _, ht, h2⟩, fun u hu => ?_⟩
  by_cases e : u = t
  · subst e; exact Or.inr ⟨rfl, Nat.le_refl _⟩
  · have h3 := h.2 u (by
      rcases hu with hu | hu
      · exact Or.inl ⟨by omega, hu.2.1, hu.2.2⟩
      · exact Or.inr hu)
    rcases hu with hu | hu <;> omega
theorem syd_0 {s : SG} {b t : Nat} (h : LMN (fun u => (t < u ∧ u ≤ 2 ^ g_n s - 1 ∧ SYP s u) ∨ u = 2 ^ g_n s - 1) b) (h1 : ¬ pcn t ≤ pcn b ∨ ¬ SYP s t) : LMN (fun u => (t ≤ u ∧ u ≤ 2 ^ g_n s - 1 ∧ SYP s u) ∨ u = 2 ^ g_n s - 1) b := by
  refine ⟨?_, fun u hu => ?_⟩
  · rcases h.1 with q | q
    · exact Or.inl ⟨by omega, q.2.1, q.2.2⟩
    · exact Or.inr q
  · rcases hu with hu | hu
    · by_cases e : u = t
      · subst e
        rcases h1 with h1 | h1
        · exact Or.inl (by omega)
        · exact absurd hu.2.2 h1
      · exact h.2 u (Or.inl ⟨by omega, hu.2.1, hu.2.2⟩)
    · exact h.2 u (Or.inr hu)
theorem syd_e {s : SG} {b : Nat} (h : LMN (fun u => (0 ≤ u ∧ u ≤ 2 ^ g_n s - 1 ∧ SYP s u) ∨ u = 2 ^ g_n s - 1) b) : b = SYNO s := by
  refine lmn_u h (lmn_c (fun t => ?_) (syn_up (s := s) (2 ^ g_n s - 1) (Nat.le_refl _)))
  constructor
  · intro q
    rcases q with q | q
    · exact Or.inl ⟨Nat.zero_le _, by omega, q.2⟩
    · exact Or.inr q
  · intro q
    rcases q with q | q
    · by_cases e : t = 2 ^ g_n s - 1
      · exact Or.inr e
      · exact Or.inl ⟨by omega, q.2.2⟩
    · exact Or.inr q
theorem lmn_i {s : SG} : LMN (fun u => (2 ^ g_n s - 1 < u ∧ u ≤ 2 ^ g_n s - 1 ∧ SYP s u) ∨ u = 2 ^ g_n s - 1) (2 ^ g_n s - 1) := ⟨Or.inr rfl, fun t ht => by
  rcases ht with ht | ht
  · omega
  · subst ht
    exact Or.inr ⟨rfl, Nat.le_refl _⟩⟩
theorem dec_m1 (x : Int32) : x + Int32.ofInt (-1) = x - nI 1 := by
  rw [Int32.sub_eq_add_neg]
  rfl

set_option maxRecDepth 100000 in
set_option maxHeartbeats 4000000 in
theorem c_X5_knows (l : Launch) (D : va_G) (cI : ClassId) (r0 k1 k2 k3 k4 k6 k7 k8 k10 k12 k13 k14 k15 k16 k21 k22 k23 k24 k25 k30 k31 k33 : Nat) (n m ls ap sq pl tz rs : Nat) (bd pd tk : Bool) (kv : Value) (sd : Int32) (ki op fa K G T : Nat → Nat) (sh : Nat) (kw kn : Nat → Nat) (M : Nat → Option Nat) (mw : Nat → Nat) (R : Nat → Nat) (p q : Int32) (hw : FW n m sh ki op fa K G T) (hkw : ∀ z, kw z < 1024) (hkn : ∀ z, kn z < 1024) (hM : ∀ z v, M z = some v → v < 7) : CT l yX5_knows cX5_knows 4 (some .int) { frames := 6, cells := 0, slots := 0, locals := 138 } D cI [.ref r0, .int p, .int q] [(r0, .inr (5, [.int (nI n), .ref k1, .ref k2, .ref k3, .ref k4, .int (nI m), .ref k6, .ref k7, .ref k8, .int (nI 0), .ref k10, .int (nI 0), .ref k12, .ref k13, .ref k14, .ref k15, .ref k16, .int (nI ls), .int (nI ap), .int (bz bd), .int (nI sq), .ref k21, .ref k22, .ref k23, .ref k24, .ref k25, .int (bz pd), .int (nI pl), .int (bz tk), kv, .ref k30, .ref k31, .int (nI tz), .ref k33, .int (nI rs), .int sd])), (k1, .inl (cI, 7, .inl (nIf ki))), (k2, .inl (cI, 7, .inl (nIf op))), (k3, .inl (cI, 7, .inl (nIf (shF sh)))), (k4, .inl (cI, 7, .inl (nIf fa))), (k6, .inl (cI, 6, .inl (nIf K))), (k7, .inl (cI, 6, .inl (nIf G))), (k8, .inl (cI, 6, .inl (nIf T))), (k12, .inl (cI, 7, .inl (nIf kw))), (k13, .inl (cI, 175, .inl (nIf kn))), (k14, .inl (cI, 144, .inl (mIf M))), (k15, .inl (cI, 7, .inl (nIf mw))), (k10, .inl (cI, 7, .inl (nIf R)))] (fun zr zw => (∃ kw1 : Nat → Nat, ∃ kn1 : Nat → Nat, ∃ M1 : Nat → Option Nat, ∃ mw1 : Nat → Nat, ∃ rc : Nat, ∃ rv : Int32, (q_knows (n, m, sh, 0, ki, op, fa, K, G, T) p q = (rc, rv)) ∧ (∀ z, kw1 z < 1024) ∧ (∀ z, kn1 z < 1024) ∧ (∀ z v, M1 z = some v → v < 7) ∧ zr = some (.int rv) ∧ zw = [(r0, .inr (5, [.int (nI n), .ref k1, .ref k2, .ref k3, .ref k4, .int (nI m), .ref k6, .ref k7, .ref k8, .int (nI 0), .ref k10, .int (nI 0), .ref k12, .ref k13, .ref k14, .ref k15, .ref k16, .int (nI ls), .int (nI ap), .int (bz bd), .int (nI sq), .ref k21, .ref k22, .ref k23, .ref k24, .ref k25, .int (bz pd), .int (nI pl), .int (bz tk), kv, .ref k30, .ref k31, .int (nI tz), .ref k33, .int (nI rs), .int sd])), (k1, .inl (cI, 7, .inl (nIf ki))), (k2, .inl (cI, 7, .inl (nIf op))), (k3, .inl (cI, 7, .inl (nIf (shF sh)))), (k4, .inl (cI, 7, .inl (nIf fa))), (k6, .inl (cI, 6, .inl (nIf K))), (k7, .inl (cI, 6, .inl (nIf G))), (k8, .inl (cI, 6, .inl (nIf T))), (k12, .inl (cI, 7, .inl (nIf kw1))), (k13, .inl (cI, 175, .inl (nIf kn1))), (k14, .inl (cI, 144, .inl (mIf M1))), (k15, .inl (cI, 7, .inl (nIf mw1))), (k10, .inl (cI, 7, .inl (nIf (rf R rc))))])) := by
  refine CT_of RX5 rfl (by decide +kernel) (Nat.le_of_ble_eq_true rfl) (fun E hnE zC zT => ?_)
  have hA : ∀ q, (ev_s E).heap.size ≤ q → ev_A E q := fun q h => by rw [zT.2]; exact Or.inr h
  obtain ⟨hn, hm, hsh, hki, hop, hfa, hK, hG, hT, vki, vop, vfa, vK, vG, vT⟩ := id hw
  show VV E 0 0 0 [(0, .ref r0), (1, .int p), (2, .int q)] [] [(r0, .inr (5, [.int (nI n), .ref k1, .ref k2, .ref k3, .ref k4, .int (nI m), .ref k6, .ref k7, .ref k8, .int (nI 0), .ref k10, .int (nI 0), .ref k12, .ref k13, .ref k14, .ref k15, .ref k16, .int (nI ls), .int (nI ap), .int (bz bd), .int (nI sq), .ref k21, .ref k22, .ref k23, .ref k24, .ref k25, .int (bz pd), .int (nI pl), .int (bz tk), kv, .ref k30, .ref k31, .int (nI tz), .ref k33, .int (nI rs), .int sd])), (k1, .inl (cI, 7, .inl (nIf ki))), (k2, .inl (cI, 7, .inl (nIf op))), (k3, .inl (cI, 7, .inl (nIf (shF sh)))), (k4, .inl (cI, 7, .inl (nIf fa))), (k6, .inl (cI, 6, .inl (nIf K))), (k7, .inl (cI, 6, .inl (nIf G))), (k8, .inl (cI, 6, .inl (nIf T))), (k12, .inl (cI, 7, .inl (nIf kw))), (k13, .inl (cI, 175, .inl (nIf kn))), (k14, .inl (cI, 144, .inl (mIf M))), (k15, .inl (cI, 7, .inl (nIf mw))), (k10, .inl (cI, 7, .inl (nIf R)))]
  refine v_al_n 1 zC dX5_knows_0 0 rfl ?_
  refine v_ic (v := (nI 0)) 2 zC dX5_knows_1 (by decide +kernel) ?_
  refine v_pf (ws2 := [(r0, .inr (5, [.int (nI n), .ref k1, .ref k2, .ref k3, .ref k4, .int (nI m), .ref k6, .ref k7, .ref k8, .int (nI 0), .ref k10, .int (nI 0), .ref k12, .ref k13, .ref k14, .ref k15, .ref k16, .int (nI ls), .int (nI ap), .int (bz bd), .int (nI sq), .ref k21, .ref k22, .ref k23, .ref k24, .ref k25, .int (bz pd), .int (nI pl), .int (bz tk), kv, .ref k30, .ref k31, .int (nI tz), .ref k33, .int (nI rs), .int sd])), (k1, .inl (cI, 7, .inl (nIf ki))), (k2, .inl (cI, 7, .inl (nIf op))), (k3, .inl (cI, 7, .inl (nIf (shF sh)))), (k4, .inl (cI, 7, .inl (nIf fa))), (k6, .inl (cI, 6, .inl (nIf K))), (k7, .inl (cI, 6, .inl (nIf G))), (k8, .inl (cI, 6, .inl (nIf T))), (k12, .inl (cI, 7, .inl (nIf kw))), (k13, .inl (cI, 175, .inl (nIf kn))), (k14, .inl (cI, 144, .inl (mIf M))), (k15, .inl (cI, 7, .inl (nIf mw))), (k10, .inl (cI, 7, .inl (nIf R)))]) 5 0 zC dX5_knows_2 pf_X5_73 rfl (Nat.le_of_ble_eq_true rfl) rfl rfl rfl ?_
  refine v_al_n 6 zC dX5_knows_5 0 rfl ?_
  refine v_il_n 7 zC dX5_knows_6 1 rfl ?_
  refine v_cV (As := [.int p]) (st := []) 10 0 [0] zC dX5_knows_7 hA (c_X5_isOne (ev_l E) (ev_D E) cI (r0 := r0) (k1 := k1) (k2 := k2) (k3 := k3) (k4 := k4) (k6 := k6) (k7 := k7) (k8 := k8) (k10 := k10) (k12 := k12) (k13 := k13) (k14 := k14) (k15 := k15) (k16 := k16) (k21 := k21) (k22 := k22) (k23 := k23) (k24 := k24) (k25 := k25) (k30 := k30) (k31 := k31) (k33 := k33) (n := n) (m := m) (aw := 0) (ls := ls) (ap := ap) (sq := sq) (pl := pl) (tz := tz) (rs := rs) (bd := bd) (pd := pd) (tk := tk) (kv := kv) (sd := sd) (p := p) (hn := (by first | omega | assumption | rfl | (simp only []; omega) | decide))) cf_X5_isOne lk_X5_164 rfl rfl rfl rfl rfl (by decide +kernel) (Nat.le_of_ble_eq_true rfl) (fun rv_1 wv_2 hp_3 hm_4 => ?_)
  clear hm_4
  rcases hp_3 with ⟨hi_5, rfl, rfl⟩ | ⟨j_6, he_7, hi_8, hj_9, rfl, rfl⟩
  ·
    show VV E 0 0 10 [(0, .ref r0), (1, .int p), (2, .int q)] [.int (nI 0)] [(r0, .inr (5, [.int (nI n), .ref k1, .ref k2, .ref k3, .ref k4, .int (nI m), .ref k6, .ref k7, .ref k8, .int (nI 0), .ref k10, .int (nI 0), .ref k12, .ref k13, .ref k14, .ref k15, .ref k16, .int (nI ls), .int (nI ap), .int (bz bd), .int (nI sq), .ref k21, .ref k22, .ref k23, .ref k24, .ref k25, .int (bz pd), .int (nI pl), .int (bz tk), kv, .ref k30, .ref k31, .int (nI tz), .ref k33, .int (nI rs), .int sd])), (k1, .inl (cI, 7, .inl (nIf ki))), (k2, .inl (cI, 7, .inl (nIf op))), (k3, .inl (cI, 7, .inl (nIf (shF sh)))), (k4, .inl (cI, 7, .inl (nIf fa))), (k6, .inl (cI, 6, .inl (nIf K))), (k7, .inl (cI, 6, .inl (nIf G))), (k8, .inl (cI, 6, .inl (nIf T))), (k12, .inl (cI, 7, .inl (nIf kw))), (k13, .inl (cI, 175, .inl (nIf kn))), (k14, .inl (cI, 144, .inl (mIf M))), (k15, .inl (cI, 7, .inl (nIf mw))), (k10, .inl (cI, 7, .inl (nIf R)))]
    have hn_p := hi_5
    refine v_if_eq 23 13 zC dX5_knows_10 (fun _ => ?_) (fun z => absurd (by decide +kernel) z)
    refine v_ic (v := (-1)) 24 zC dX5_knows_23 (by decide +kernel) ?_
    refine v_is_n (lv2 := [(3, .int (-1)), (0, .ref r0), (1, .int p), (2, .int q)]) 25 zC dX5_knows_24 (by rw [hnE]; decide) rfl ?_
    refine v_il_n 26 zC dX5_knows_25 0 rfl ?_
    refine v_if_ge 35 29 zC dX5_knows_26 (fun z => absurd z (by decide +kernel)) (fun _ => ?_)
    refine v_al_n 30 zC dX5_knows_29 1 rfl ?_
    refine v_il_n 31 zC dX5_knows_30 0 rfl ?_
    refine v_cV (As := [.int (-1)]) (st := []) 34 0 [0, 12] zC dX5_knows_31 hA (c_X5_refuse (ev_l E) (ev_D E) cI (r0 := r0) (k1 := k1) (k2 := k2) (k3 := k3) (k4 := k4) (k6 := k6) (k7 := k7) (k8 := k8) (k10 := k10) (k12 := k12) (k13 := k13) (k14 := k14) (k15 := k15) (k16 := k16) (k21 := k21) (k22 := k22) (k23 := k23) (k24 := k24) (k25 := k25) (k30 := k30) (k31 := k31) (k33 := k33) (n := n) (m := m) (aw := 0) (ls := ls) (ap := ap) (sq := sq) (pl := pl) (tz := tz) (rs := rs) (bd := bd) (pd := pd) (tk := tk) (kv := kv) (sd := sd) (R := R) (v := (-1)) (j := 1) (hv := (by first | omega | assumption | rfl | (simp only []; omega) | decide)) (h1 := (by first | omega | assumption | rfl | (simp only []; omega) | decide)) (h6 := (by first | omega | assumption | rfl | (simp only []; omega) | decide))) cf_X5_refuse lk_X5_129 rfl rfl rfl rfl rfl (by decide +kernel) (Nat.le_of_ble_eq_true rfl) (fun rv_12 wv_13 hp_14 hm_15 => ?_)
    clear hm_15
    obtain ⟨rfl, rfl⟩ := hp_14
    show VV E 0 0 34 [(3, .int (-1)), (0, .ref r0), (1, .int p), (2, .int q)] [.int (-1)] [(r0, .inr (5, [.int (nI n), .ref k1, .ref k2, .ref k3, .ref k4, .int (nI m), .ref k6, .ref k7, .ref k8, .int (nI 0), .ref k10, .int (nI 0), .ref k12, .ref k13, .ref k14, .ref k15, .ref k16, .int (nI ls), .int (nI ap), .int (bz bd), .int (nI sq), .ref k21, .ref k22, .ref k23, .ref k24, .ref k25, .int (bz pd), .int (nI pl), .int (bz tk), kv, .ref k30, .ref k31, .int (nI tz), .ref k33, .int (nI rs), .int sd])), (k1, .inl (cI, 7, .inl (nIf ki))), (k2, .inl (cI, 7, .inl (nIf op))), (k3, .inl (cI, 7, .inl (nIf (shF sh)))), (k4, .inl (cI, 7, .inl (nIf fa))), (k6, .inl (cI, 6, .inl (nIf K))), (k7, .inl (cI, 6, .inl (nIf G))), (k8, .inl (cI, 6, .inl (nIf T))), (k12, .inl (cI, 7, .inl (nIf kw))), (k13, .inl (cI, 175, .inl (nIf kn))), (k14, .inl (cI, 144, .inl (mIf M))), (k15, .inl (cI, 7, .inl (nIf mw))), (k10, .inl (cI, 7, .inl (nIf (un R 1 (R 1 + 1)))))]
    refine v_iret zC zT dX5_knows_34  ?_
    first | (have g9 := hn_p; exact ⟨kw, kn, M, mw, 1, _, by unfold q_knows; rw [hn_p], hkw, hkn, hM, rfl, rfl⟩) | (have g9 := hlt_q; exact ⟨kw, kn, M, mw, 4, _, by unfold q_knows; rw [hi_p]; dsimp only; rw [if_pos (show q < 0 from hlt_q)], hkw, hkn, hM, rfl, rfl⟩) | (have g9 := hgt_q; exact ⟨kw, kn, M, mw, 6, _, by unfold q_knows; rw [hi_p]; dsimp only; rw [if_neg (show ¬ q < 0 from hge_q), if_pos hgt_q], hkw, hkn, hM, rfl, rfl⟩) | exact ⟨_, _, _, _, 0, _, by unfold q_knows; rw [hi_p]; dsimp only; rw [if_neg (nI_pos (show jq < 2 ^ 31 by omega)), if_neg (nI_nlt (show jq ≤ 24 by omega) (by decide)), nI_clamp (show jq < 2 ^ 31 by omega)], hR9.2.2.2.1, hR9.2.2.2.2.1, hR9.2.2.2.2.2, rfl, rfl⟩
  ·
    show VV E 0 0 10 [(0, .ref r0), (1, .int p), (2, .int q)] [.int (nI 1)] [(r0, .inr (5, [.int (nI n), .ref k1, .ref k2, .ref k3, .ref k4, .int (nI m), .ref k6, .ref k7, .ref k8, .int (nI 0), .ref k10, .int (nI 0), .ref k12, .ref k13, .ref k14, .ref k15, .ref k16, .int (nI ls), .int (nI ap), .int (bz bd), .int (nI sq), .ref k21, .ref k22, .ref k23, .ref k24, .ref k25, .int (bz pd), .int (nI pl), .int (bz tk), kv, .ref k30, .ref k31, .int (nI tz), .ref k33, .int (nI rs), .int sd])), (k1, .inl (cI, 7, .inl (nIf ki))), (k2, .inl (cI, 7, .inl (nIf op))), (k3, .inl (cI, 7, .inl (nIf (shF sh)))), (k4, .inl (cI, 7, .inl (nIf fa))), (k6, .inl (cI, 6, .inl (nIf K))), (k7, .inl (cI, 6, .inl (nIf G))), (k8, .inl (cI, 6, .inl (nIf T))), (k12, .inl (cI, 7, .inl (nIf kw))), (k13, .inl (cI, 175, .inl (nIf kn))), (k14, .inl (cI, 144, .inl (mIf M))), (k15, .inl (cI, 7, .inl (nIf mw))), (k10, .inl (cI, 7, .inl (nIf R)))]
    subst he_7
    have hi_p := hi_8
    obtain ⟨jp, hx_jp⟩ : ∃ z, z = j_6 := ⟨_, rfl⟩
    subst hx_jp
    refine v_if_eq 23 13 zC dX5_knows_10 (fun z => absurd z (by decide +kernel)) (fun _ => ?_)
    refine v_il_n 14 zC dX5_knows_13 2 rfl ?_
    refine v_ic (v := (nI 0)) 15 zC dX5_knows_14 (by decide +kernel) ?_
    refine v_bp (v := (nI 24)) 17 zC dX5_knows_15 (by decide +kernel) ?_
    refine v_cS (As := [.int q, .int (nI 0), .int (nI 24)]) (st := []) 20 [] zC dX5_knows_17 hA (c_X5_wrongNumber (ev_l E) (ev_D E) cI (v := q) (a := 0) (b := 24) (ha := (by first | omega | assumption | rfl | (simp only []; omega) | decide)) (hb := (by first | omega | assumption | rfl | (simp only []; omega) | decide))) cf_X5_wrongNumber lk_X5_213 rfl rfl rfl (by decide +kernel) (Nat.le_of_ble_eq_true rfl) (fun rv_17 wv_18 hp_19 hm_20 => ?_)
    clear hm_20
    rcases hp_19 with ⟨hq_21, rfl, rfl⟩ | ⟨hq_22, hq2_23, rfl, rfl⟩ | ⟨j_24, he_25, h1_26, h2_27, rfl, rfl⟩
    ·
      show VV E 0 0 20 [(0, .ref r0), (1, .int (nI jp)), (2, .int q)] [.int (-4)] [(r0, .inr (5, [.int (nI n), .ref k1, .ref k2, .ref k3, .ref k4, .int (nI m), .ref k6, .ref k7, .ref k8, .int (nI 0), .ref k10, .int (nI 0), .ref k12, .ref k13, .ref k14, .ref k15, .ref k16, .int (nI ls), .int (nI ap), .int (bz bd), .int (nI sq), .ref k21, .ref k22, .ref k23, .ref k24, .ref k25, .int (bz pd), .int (nI pl), .int (bz tk), kv, .ref k30, .ref k31, .int (nI tz), .ref k33, .int (nI rs), .int sd])), (k1, .inl (cI, 7, .inl (nIf ki))), (k2, .inl (cI, 7, .inl (nIf op))), (k3, .inl (cI, 7, .inl (nIf (shF sh)))), (k4, .inl (cI, 7, .inl (nIf fa))), (k6, .inl (cI, 6, .inl (nIf K))), (k7, .inl (cI, 6, .inl (nIf G))), (k8, .inl (cI, 6, .inl (nIf T))), (k12, .inl (cI, 7, .inl (nIf kw))), (k13, .inl (cI, 175, .inl (nIf kn))), (k14, .inl (cI, 144, .inl (mIf M))), (k15, .inl (cI, 7, .inl (nIf mw))), (k10, .inl (cI, 7, .inl (nIf R)))]
      have hlt_q := hq_21
      refine v_goto 24 zC dX5_knows_20 ?_
      refine v_is_n (lv2 := [(3, .int (-4)), (0, .ref r0), (1, .int (nI jp)), (2, .int q)]) 25 zC dX5_knows_24 (by rw [hnE]; decide) rfl ?_
      refine v_il_n 26 zC dX5_knows_25 0 rfl ?_
      refine v_if_ge 35 29 zC dX5_knows_26 (fun z => absurd z (by decide +kernel)) (fun _ => ?_)
      refine v_al_n 30 zC dX5_knows_29 1 rfl ?_
      refine v_il_n 31 zC dX5_knows_30 0 rfl ?_
      refine v_cV (As := [.int (-4)]) (st := []) 34 0 [0, 12] zC dX5_knows_31 hA (c_X5_refuse (ev_l E) (ev_D E) cI (r0 := r0) (k1 := k1) (k2 := k2) (k3 := k3) (k4 := k4) (k6 := k6) (k7 := k7) (k8 := k8) (k10 := k10) (k12 := k12) (k13 := k13) (k14 := k14) (k15 := k15) (k16 := k16) (k21 := k21) (k22 := k22) (k23 := k23) (k24 := k24) (k25 := k25) (k30 := k30) (k31 := k31) (k33 := k33) (n := n) (m := m) (aw := 0) (ls := ls) (ap := ap) (sq := sq) (pl := pl) (tz := tz) (rs := rs) (bd := bd) (pd := pd) (tk := tk) (kv := kv) (sd := sd) (R := R) (v := (-4)) (j := 4) (hv := (by first | omega | assumption | rfl | (simp only []; omega) | decide)) (h1 := (by first | omega | assumption | rfl | (simp only []; omega) | decide)) (h6 := (by first | omega | assumption | rfl | (simp only []; omega) | decide))) cf_X5_refuse lk_X5_129 rfl rfl rfl rfl rfl (by decide +kernel) (Nat.le_of_ble_eq_true rfl) (fun rv_29 wv_30 hp_31 hm_32 => ?_)
      clear hm_32
      obtain ⟨rfl, rfl⟩ := hp_31
      show VV E 0 0 34 [(3, .int (-4)), (0, .ref r0), (1, .int (nI jp)), (2, .int q)] [.int (-4)] [(r0, .inr (5, [.int (nI n), .ref k1, .ref k2, .ref k3, .ref k4, .int (nI m), .ref k6, .ref k7, .ref k8, .int (nI 0), .ref k10, .int (nI 0), .ref k12, .ref k13, .ref k14, .ref k15, .ref k16, .int (nI ls), .int (nI ap), .int (bz bd), .int (nI sq), .ref k21, .ref k22, .ref k23, .ref k24, .ref k25, .int (bz pd), .int (nI pl), .int (bz tk), kv, .ref k30, .ref k31, .int (nI tz), .ref k33, .int (nI rs), .int sd])), (k1, .inl (cI, 7, .inl (nIf ki))), (k2, .inl (cI, 7, .inl (nIf op))), (k3, .inl (cI, 7, .inl (nIf (shF sh)))), (k4, .inl (cI, 7, .inl (nIf fa))), (k6, .inl (cI, 6, .inl (nIf K))), (k7, .inl (cI, 6, .inl (nIf G))), (k8, .inl (cI, 6, .inl (nIf T))), (k12, .inl (cI, 7, .inl (nIf kw))), (k13, .inl (cI, 175, .inl (nIf kn))), (k14, .inl (cI, 144, .inl (mIf M))), (k15, .inl (cI, 7, .inl (nIf mw))), (k10, .inl (cI, 7, .inl (nIf (un R 4 (R 4 + 1)))))]
      refine v_iret zC zT dX5_knows_34  ?_
      first | (have g9 := hn_p; exact ⟨kw, kn, M, mw, 1, _, by unfold q_knows; rw [hn_p], hkw, hkn, hM, rfl, rfl⟩) | (have g9 := hlt_q; exact ⟨kw, kn, M, mw, 4, _, by unfold q_knows; rw [hi_p]; dsimp only; rw [if_pos (show q < 0 from hlt_q)], hkw, hkn, hM, rfl, rfl⟩) | (have g9 := hgt_q; exact ⟨kw, kn, M, mw, 6, _, by unfold q_knows; rw [hi_p]; dsimp only; rw [if_neg (show ¬ q < 0 from hge_q), if_pos hgt_q], hkw, hkn, hM, rfl, rfl⟩) | exact ⟨_, _, _, _, 0, _, by unfold q_knows; rw [hi_p]; dsimp only; rw [if_neg (nI_pos (show jq < 2 ^ 31 by omega)), if_neg (nI_nlt (show jq ≤ 24 by omega) (by decide)), nI_clamp (show jq < 2 ^ 31 by omega)], hR9.2.2.2.1, hR9.2.2.2.2.1, hR9.2.2.2.2.2, rfl, rfl⟩
    ·
      show VV E 0 0 20 [(0, .ref r0), (1, .int (nI jp)), (2, .int q)] [.int (-6)] [(r0, .inr (5, [.int (nI n), .ref k1, .ref k2, .ref k3, .ref k4, .int (nI m), .ref k6, .ref k7, .ref k8, .int (nI 0), .ref k10, .int (nI 0), .ref k12, .ref k13, .ref k14, .ref k15, .ref k16, .int (nI ls), .int (nI ap), .int (bz bd), .int (nI sq), .ref k21, .ref k22, .ref k23, .ref k24, .ref k25, .int (bz pd), .int (nI pl), .int (bz tk), kv, .ref k30, .ref k31, .int (nI tz), .ref k33, .int (nI rs), .int sd])), (k1, .inl (cI, 7, .inl (nIf ki))), (k2, .inl (cI, 7, .inl (nIf op))), (k3, .inl (cI, 7, .inl (nIf (shF sh)))), (k4, .inl (cI, 7, .inl (nIf fa))), (k6, .inl (cI, 6, .inl (nIf K))), (k7, .inl (cI, 6, .inl (nIf G))), (k8, .inl (cI, 6, .inl (nIf T))), (k12, .inl (cI, 7, .inl (nIf kw))), (k13, .inl (cI, 175, .inl (nIf kn))), (k14, .inl (cI, 144, .inl (mIf M))), (k15, .inl (cI, 7, .inl (nIf mw))), (k10, .inl (cI, 7, .inl (nIf R)))]
      have hge_q := hq_22
      have hgt_q := hq2_23
      refine v_goto 24 zC dX5_knows_20 ?_
      refine v_is_n (lv2 := [(3, .int (-6)), (0, .ref r0), (1, .int (nI jp)), (2, .int q)]) 25 zC dX5_knows_24 (by rw [hnE]; decide) rfl ?_
      refine v_il_n 26 zC dX5_knows_25 0 rfl ?_
      refine v_if_ge 35 29 zC dX5_knows_26 (fun z => absurd z (by decide +kernel)) (fun _ => ?_)
      refine v_al_n 30 zC dX5_knows_29 1 rfl ?_
      refine v_il_n 31 zC dX5_knows_30 0 rfl ?_
      refine v_cV (As := [.int (-6)]) (st := []) 34 0 [0, 12] zC dX5_knows_31 hA (c_X5_refuse (ev_l E) (ev_D E) cI (r0 := r0) (k1 := k1) (k2 := k2) (k3 := k3) (k4 := k4) (k6 := k6) (k7 := k7) (k8 := k8) (k10 := k10) (k12 := k12) (k13 := k13) (k14 := k14) (k15 := k15) (k16 := k16) (k21 := k21) (k22 := k22) (k23 := k23) (k24 := k24) (k25 := k25) (k30 := k30) (k31 := k31) (k33 := k33) (n := n) (m := m) (aw := 0) (ls := ls) (ap := ap) (sq := sq) (pl := pl) (tz := tz) (rs := rs) (bd := bd) (pd := pd) (tk := tk) (kv := kv) (sd := sd) (R := R) (v := (-6)) (j := 6) (hv := (by first | omega | assumption | rfl | (simp only []; omega) | decide)) (h1 := (by first | omega | assumption | rfl | (simp only []; omega) | decide)) (h6 := (by first | omega | assumption | rfl | (simp only []; omega) | decide))) cf_X5_refuse lk_X5_129 rfl rfl rfl rfl rfl (by decide +kernel) (Nat.le_of_ble_eq_true rfl) (fun rv_34 wv_35 hp_36 hm_37 => ?_)
      clear hm_37
      obtain ⟨rfl, rfl⟩ := hp_36
      show VV E 0 0 34 [(3, .int (-6)), (0, .ref r0), (1, .int (nI jp)), (2, .int q)] [.int (-6)] [(r0, .inr (5, [.int (nI n), .ref k1, .ref k2, .ref k3, .ref k4, .int (nI m), .ref k6, .ref k7, .ref k8, .int (nI 0), .ref k10, .int (nI 0), .ref k12, .ref k13, .ref k14, .ref k15, .ref k16, .int (nI ls), .int (nI ap), .int (bz bd), .int (nI sq), .ref k21, .ref k22, .ref k23, .ref k24, .ref k25, .int (bz pd), .int (nI pl), .int (bz tk), kv, .ref k30, .ref k31, .int (nI tz), .ref k33, .int (nI rs), .int sd])), (k1, .inl (cI, 7, .inl (nIf ki))), (k2, .inl (cI, 7, .inl (nIf op))), (k3, .inl (cI, 7, .inl (nIf (shF sh)))), (k4, .inl (cI, 7, .inl (nIf fa))), (k6, .inl (cI, 6, .inl (nIf K))), (k7, .inl (cI, 6, .inl (nIf G))), (k8, .inl (cI, 6, .inl (nIf T))), (k12, .inl (cI, 7, .inl (nIf kw))), (k13, .inl (cI, 175, .inl (nIf kn))), (k14, .inl (cI, 144, .inl (mIf M))), (k15, .inl (cI, 7, .inl (nIf mw))), (k10, .inl (cI, 7, .inl (nIf (un R 6 (R 6 + 1)))))]
      refine v_iret zC zT dX5_knows_34  ?_
      first | (have g9 := hn_p; exact ⟨kw, kn, M, mw, 1, _, by unfold q_knows; rw [hn_p], hkw, hkn, hM, rfl, rfl⟩) | (have g9 := hlt_q; exact ⟨kw, kn, M, mw, 4, _, by unfold q_knows; rw [hi_p]; dsimp only; rw [if_pos (show q < 0 from hlt_q)], hkw, hkn, hM, rfl, rfl⟩) | (have g9 := hgt_q; exact ⟨kw, kn, M, mw, 6, _, by unfold q_knows; rw [hi_p]; dsimp only; rw [if_neg (show ¬ q < 0 from hge_q), if_pos hgt_q], hkw, hkn, hM, rfl, rfl⟩) | exact ⟨_, _, _, _, 0, _, by unfold q_knows; rw [hi_p]; dsimp only; rw [if_neg (nI_pos (show jq < 2 ^ 31 by omega)), if_neg (nI_nlt (show jq ≤ 24 by omega) (by decide)), nI_clamp (show jq < 2 ^ 31 by omega)], hR9.2.2.2.1, hR9.2.2.2.2.1, hR9.2.2.2.2.2, rfl, rfl⟩
    ·
      show VV E 0 0 20 [(0, .ref r0), (1, .int (nI jp)), (2, .int q)] [.int (nI 0)] [(r0, .inr (5, [.int (nI n), .ref k1, .ref k2, .ref k3, .ref k4, .int (nI m), .ref k6, .ref k7, .ref k8, .int (nI 0), .ref k10, .int (nI 0), .ref k12, .ref k13, .ref k14, .ref k15, .ref k16, .int (nI ls), .int (nI ap), .int (bz bd), .int (nI sq), .ref k21, .ref k22, .ref k23, .ref k24, .ref k25, .int (bz pd), .int (nI pl), .int (bz tk), kv, .ref k30, .ref k31, .int (nI tz), .ref k33, .int (nI rs), .int sd])), (k1, .inl (cI, 7, .inl (nIf ki))), (k2, .inl (cI, 7, .inl (nIf op))), (k3, .inl (cI, 7, .inl (nIf (shF sh)))), (k4, .inl (cI, 7, .inl (nIf fa))), (k6, .inl (cI, 6, .inl (nIf K))), (k7, .inl (cI, 6, .inl (nIf G))), (k8, .inl (cI, 6, .inl (nIf T))), (k12, .inl (cI, 7, .inl (nIf kw))), (k13, .inl (cI, 175, .inl (nIf kn))), (k14, .inl (cI, 144, .inl (mIf M))), (k15, .inl (cI, 7, .inl (nIf mw))), (k10, .inl (cI, 7, .inl (nIf R)))]
      subst he_25
      obtain ⟨jq, he_jq⟩ : ∃ z, z = j_24 := ⟨_, rfl⟩
      subst he_jq
      have h1_jq := h1_26
      have h2_jq := h2_27
      refine v_goto 24 zC dX5_knows_20 ?_
      refine v_is_n (lv2 := [(3, .int (nI 0)), (0, .ref r0), (1, .int (nI jp)), (2, .int (nI jq))]) 25 zC dX5_knows_24 (by rw [hnE]; decide) rfl ?_
      refine v_il_n 26 zC dX5_knows_25 0 rfl ?_
      refine v_if_ge 35 29 zC dX5_knows_26 (fun _ => ?_) (fun z => absurd (by decide +kernel) z)
      refine v_al_n 36 zC dX5_knows_35 1 rfl ?_
      refine v_cV (As := []) (st := []) 39 0 [0, 1, 2, 3, 4, 5, 6, 7, 8, 9, 10, 11] zC dX5_knows_36 hA (c_X5_day (ev_l E) (ev_D E) cI (r0 := r0) (k1 := k1) (k2 := k2) (k3 := k3) (k4 := k4) (k6 := k6) (k7 := k7) (k8 := k8) (k10 := k10) (k12 := k12) (k13 := k13) (k14 := k14) (k15 := k15) (k16 := k16) (k21 := k21) (k22 := k22) (k23 := k23) (k24 := k24) (k25 := k25) (k30 := k30) (k31 := k31) (k33 := k33) (n := n) (m := m) (aw := 0) (ls := ls) (ap := ap) (sq := sq) (pl := pl) (tz := tz) (rs := rs) (bd := bd) (pd := pd) (tk := tk) (kv := kv) (sd := sd) (ki := ki) (op := op) (fa := fa) (K := K) (G := G) (T := T) (sh := sh) (kw := kw) (kn := kn) (M := M) (mw := mw) (hw := (by first | omega | assumption | rfl | (simp only []; omega) | decide)) (hkw := (by first | omega | assumption | rfl | (simp only []; omega) | decide)) (hkn := (by first | omega | assumption | rfl | (simp only []; omega) | decide)) (hM := (by first | omega | assumption | rfl | (simp only []; omega) | decide))) cf_X5_day lk_X5_123 rfl rfl rfl rfl rfl (by decide +kernel) (Nat.le_of_ble_eq_true rfl) (fun rv_39 wv_40 hp_41 hm_42 => ?_)
      clear hm_42
      obtain ⟨kw1_43, kn1_44, M1_45, mw1_46, hR_47, rfl, rfl⟩ := hp_41
      show VV E 0 0 39 [(3, .int (nI 0)), (0, .ref r0), (1, .int (nI jp)), (2, .int (nI jq))] [] [(r0, .inr (5, [.int (nI n), .ref k1, .ref k2, .ref k3, .ref k4, .int (nI m), .ref k6, .ref k7, .ref k8, .int (nI 0), .ref k10, .int (nI 0), .ref k12, .ref k13, .ref k14, .ref k15, .ref k16, .int (nI ls), .int (nI ap), .int (bz bd), .int (nI sq), .ref k21, .ref k22, .ref k23, .ref k24, .ref k25, .int (bz pd), .int (nI pl), .int (bz tk), kv, .ref k30, .ref k31, .int (nI tz), .ref k33, .int (nI rs), .int sd])), (k1, .inl (cI, 7, .inl (nIf ki))), (k2, .inl (cI, 7, .inl (nIf op))), (k3, .inl (cI, 7, .inl (nIf (shF sh)))), (k4, .inl (cI, 7, .inl (nIf fa))), (k6, .inl (cI, 6, .inl (nIf K))), (k7, .inl (cI, 6, .inl (nIf G))), (k8, .inl (cI, 6, .inl (nIf T))), (k12, .inl (cI, 7, .inl (nIf kw1_43))), (k13, .inl (cI, 175, .inl (nIf kn1_44))), (k14, .inl (cI, 144, .inl (mIf M1_45))), (k15, .inl (cI, 7, .inl (nIf mw1_46))), (k10, .inl (cI, 7, .inl (nIf R)))]
      have hR9 := hR_47
      refine v_al_n 40 zC dX5_knows_39 1 rfl ?_
      refine v_gf 43 0 zC dX5_knows_40 gf_X5_37 rfl rfl ?_
      refine v_bp (v := (nI 7)) 45 zC dX5_knows_43 (by decide +kernel) ?_
      refine v_il_n 46 zC dX5_knows_45 3 rfl ?_
      refine v_imul (v := (nI (7 * jq))) 47 zC dX5_knows_46 (pk_mul _ _) ?_
      refine v_il_n 48 zC dX5_knows_47 2 rfl ?_
      refine v_iadd (v := (nI ((7 * jq) + jp))) 49 zC dX5_knows_48 (nI_add _ _) ?_
      refine v_ialn (v := (nI (DR (n, m, sh, 0, ki, op, fa, K, G, T) jq jp))) 50 9 zC dX5_knows_49 rfl (by omega) (congrArg nI (rk_n hR9 (by omega) (by omega))) ?_
      refine v_iret zC zT dX5_knows_50  ?_
      first | (have g9 := hn_p; exact ⟨kw, kn, M, mw, 1, _, by unfold q_knows; rw [hn_p], hkw, hkn, hM, rfl, rfl⟩) | (have g9 := hlt_q; exact ⟨kw, kn, M, mw, 4, _, by unfold q_knows; rw [hi_p]; dsimp only; rw [if_pos (show q < 0 from hlt_q)], hkw, hkn, hM, rfl, rfl⟩) | (have g9 := hgt_q; exact ⟨kw, kn, M, mw, 6, _, by unfold q_knows; rw [hi_p]; dsimp only; rw [if_neg (show ¬ q < 0 from hge_q), if_pos hgt_q], hkw, hkn, hM, rfl, rfl⟩) | exact ⟨_, _, _, _, 0, _, by unfold q_knows; rw [hi_p]; dsimp only; rw [if_neg (nI_pos (show jq < 2 ^ 31 by omega)), if_neg (nI_nlt (show jq ≤ 24 by omega) (by decide)), nI_clamp (show jq < 2 ^ 31 by omega)], hR9.2.2.2.1, hR9.2.2.2.2.1, hR9.2.2.2.2.2, rfl, rfl⟩
set_option maxRecDepth 100000 in
set_option maxHeartbeats 4000000 in
theorem c_X5_through (l : Launch) (D : va_G) (cI : ClassId) (r0 k1 k2 k3 k4 k6 k7 k8 k10 k12 k13 k14 k15 k16 k21 k22 k23 k24 k25 k30 k31 k33 : Nat) (n m ls ap sq pl tz rs : Nat) (bd pd tk : Bool) (kv : Value) (sd : Int32) (ki op fa K G T : Nat → Nat) (sh : Nat) (kw kn : Nat → Nat) (M : Nat → Option Nat) (mw : Nat → Nat) (R : Nat → Nat) (d h : Int32) (hw : FW n m sh ki op fa K G T) (hkw : ∀ z, kw z < 1024) (hkn : ∀ z, kn z < 1024) (hM : ∀ z v, M z = some v → v < 7) : CT l yX5_through cX5_through 3 (some .int) { frames := 6, cells := 0, slots := 0, locals := 138 } D cI [.ref r0, .int d, .int h] [(r0, .inr (5, [.int (nI n), .ref k1, .ref k2, .ref k3, .ref k4, .int (nI m), .ref k6, .ref k7, .ref k8, .int (nI 0), .ref k10, .int (nI 0), .ref k12, .ref k13, .ref k14, .ref k15, .ref k16, .int (nI ls), .int (nI ap), .int (bz bd), .int (nI sq), .ref k21, .ref k22, .ref k23, .ref k24, .ref k25, .int (bz pd), .int (nI pl), .int (bz tk), kv, .ref k30, .ref k31, .int (nI tz), .ref k33, .int (nI rs), .int sd])), (k1, .inl (cI, 7, .inl (nIf ki))), (k2, .inl (cI, 7, .inl (nIf op))), (k3, .inl (cI, 7, .inl (nIf (shF sh)))), (k4, .inl (cI, 7, .inl (nIf fa))), (k6, .inl (cI, 6, .inl (nIf K))), (k7, .inl (cI, 6, .inl (nIf G))), (k8, .inl (cI, 6, .inl (nIf T))), (k12, .inl (cI, 7, .inl (nIf kw))), (k13, .inl (cI, 175, .inl (nIf kn))), (k14, .inl (cI, 144, .inl (mIf M))), (k15, .inl (cI, 7, .inl (nIf mw))), (k10, .inl (cI, 7, .inl (nIf R)))] (fun zr zw => (∃ kw1 : Nat → Nat, ∃ kn1 : Nat → Nat, ∃ M1 : Nat → Option Nat, ∃ mw1 : Nat → Nat, ∃ rc : Nat, ∃ rv : Int32, (q_through (n, m, sh, 0, ki, op, fa, K, G, T) d h = (rc, rv)) ∧ (∀ z, kw1 z < 1024) ∧ (∀ z, kn1 z < 1024) ∧ (∀ z v, M1 z = some v → v < 7) ∧ zr = some (.int rv) ∧ zw = [(r0, .inr (5, [.int (nI n), .ref k1, .ref k2, .ref k3, .ref k4, .int (nI m), .ref k6, .ref k7, .ref k8, .int (nI 0), .ref k10, .int (nI 0), .ref k12, .ref k13, .ref k14, .ref k15, .ref k16, .int (nI ls), .int (nI ap), .int (bz bd), .int (nI sq), .ref k21, .ref k22, .ref k23, .ref k24, .ref k25, .int (bz pd), .int (nI pl), .int (bz tk), kv, .ref k30, .ref k31, .int (nI tz), .ref k33, .int (nI rs), .int sd])), (k1, .inl (cI, 7, .inl (nIf ki))), (k2, .inl (cI, 7, .inl (nIf op))), (k3, .inl (cI, 7, .inl (nIf (shF sh)))), (k4, .inl (cI, 7, .inl (nIf fa))), (k6, .inl (cI, 6, .inl (nIf K))), (k7, .inl (cI, 6, .inl (nIf G))), (k8, .inl (cI, 6, .inl (nIf T))), (k12, .inl (cI, 7, .inl (nIf kw1))), (k13, .inl (cI, 175, .inl (nIf kn1))), (k14, .inl (cI, 144, .inl (mIf M1))), (k15, .inl (cI, 7, .inl (nIf mw1))), (k10, .inl (cI, 7, .inl (nIf (rf R rc))))])) := by
  refine CT_of RX5 rfl (by decide +kernel) (Nat.le_of_ble_eq_true rfl) (fun E hnE zC zT => ?_)
  have hA : ∀ q, (ev_s E).heap.size ≤ q → ev_A E q := fun q h => by rw [zT.2]; exact Or.inr h
  obtain ⟨hn, hm, hsh, hki, hop, hfa, hK, hG, hT, vki, vop, vfa, vK, vG, vT⟩ := id hw
  show VV E 0 0 0 [(0, .ref r0), (1, .int d), (2, .int h)] [] [(r0, .inr (5, [.int (nI n), .ref k1, .ref k2, .ref k3, .ref k4, .int (nI m), .ref k6, .ref k7, .ref k8, .int (nI 0), .ref k10, .int (nI 0), .ref k12, .ref k13, .ref k14, .ref k15, .ref k16, .int (nI ls), .int (nI ap), .int (bz bd), .int (nI sq), .ref k21, .ref k22, .ref k23, .ref k24, .ref k25, .int (bz pd), .int (nI pl), .int (bz tk), kv, .ref k30, .ref k31, .int (nI tz), .ref k33, .int (nI rs), .int sd])), (k1, .inl (cI, 7, .inl (nIf ki))), (k2, .inl (cI, 7, .inl (nIf op))), (k3, .inl (cI, 7, .inl (nIf (shF sh)))), (k4, .inl (cI, 7, .inl (nIf fa))), (k6, .inl (cI, 6, .inl (nIf K))), (k7, .inl (cI, 6, .inl (nIf G))), (k8, .inl (cI, 6, .inl (nIf T))), (k12, .inl (cI, 7, .inl (nIf kw))), (k13, .inl (cI, 175, .inl (nIf kn))), (k14, .inl (cI, 144, .inl (mIf M))), (k15, .inl (cI, 7, .inl (nIf mw))), (k10, .inl (cI, 7, .inl (nIf R)))]
  refine v_al_n 1 zC dX5_through_0 0 rfl ?_
  refine v_ic (v := (nI 0)) 2 zC dX5_through_1 (by decide +kernel) ?_
  refine v_pf (ws2 := [(r0, .inr (5, [.int (nI n), .ref k1, .ref k2, .ref k3, .ref k4, .int (nI m), .ref k6, .ref k7, .ref k8, .int (nI 0), .ref k10, .int (nI 0), .ref k12, .ref k13, .ref k14, .ref k15, .ref k16, .int (nI ls), .int (nI ap), .int (bz bd), .int (nI sq), .ref k21, .ref k22, .ref k23, .ref k24, .ref k25, .int (bz pd), .int (nI pl), .int (bz tk), kv, .ref k30, .ref k31, .int (nI tz), .ref k33, .int (nI rs), .int sd])), (k1, .inl (cI, 7, .inl (nIf ki))), (k2, .inl (cI, 7, .inl (nIf op))), (k3, .inl (cI, 7, .inl (nIf (shF sh)))), (k4, .inl (cI, 7, .inl (nIf fa))), (k6, .inl (cI, 6, .inl (nIf K))), (k7, .inl (cI, 6, .inl (nIf G))), (k8, .inl (cI, 6, .inl (nIf T))), (k12, .inl (cI, 7, .inl (nIf kw))), (k13, .inl (cI, 175, .inl (nIf kn))), (k14, .inl (cI, 144, .inl (mIf M))), (k15, .inl (cI, 7, .inl (nIf mw))), (k10, .inl (cI, 7, .inl (nIf R)))]) 5 0 zC dX5_through_2 pf_X5_73 rfl (Nat.le_of_ble_eq_true rfl) rfl rfl rfl ?_
  refine v_al_n 6 zC dX5_through_5 0 rfl ?_
  refine v_il_n 7 zC dX5_through_6 1 rfl ?_
  refine v_cV (As := [.int d]) (st := []) 10 0 [0] zC dX5_through_7 hA (c_X5_isDead (ev_l E) (ev_D E) cI (r0 := r0) (k1 := k1) (k2 := k2) (k3 := k3) (k4 := k4) (k6 := k6) (k7 := k7) (k8 := k8) (k10 := k10) (k12 := k12) (k13 := k13) (k14 := k14) (k15 := k15) (k16 := k16) (k21 := k21) (k22 := k22) (k23 := k23) (k24 := k24) (k25 := k25) (k30 := k30) (k31 := k31) (k33 := k33) (n := n) (m := m) (aw := 0) (ls := ls) (ap := ap) (sq := sq) (pl := pl) (tz := tz) (rs := rs) (bd := bd) (pd := pd) (tk := tk) (kv := kv) (sd := sd) (p := d) (hn := (by first | omega | assumption | rfl | (simp only []; omega) | decide))) cf_X5_isDead lk_X5_208 rfl rfl rfl rfl rfl (by decide +kernel) (Nat.le_of_ble_eq_true rfl) (fun rv_1 wv_2 hp_3 hm_4 => ?_)
  clear hm_4
  rcases hp_3 with ⟨hi_5, rfl, rfl⟩ | ⟨j_6, he_7, hi_8, hj_9, rfl, rfl⟩
  ·
    show VV E 0 0 10 [(0, .ref r0), (1, .int d), (2, .int h)] [.int (nI 0)] [(r0, .inr (5, [.int (nI n), .ref k1, .ref k2, .ref k3, .ref k4, .int (nI m), .ref k6, .ref k7, .ref k8, .int (nI 0), .ref k10, .int (nI 0), .ref k12, .ref k13, .ref k14, .ref k15, .ref k16, .int (nI ls), .int (nI ap), .int (bz bd), .int (nI sq), .ref k21, .ref k22, .ref k23, .ref k24, .ref k25, .int (bz pd), .int (nI pl), .int (bz tk), kv, .ref k30, .ref k31, .int (nI tz), .ref k33, .int (nI rs), .int sd])), (k1, .inl (cI, 7, .inl (nIf ki))), (k2, .inl (cI, 7, .inl (nIf op))), (k3, .inl (cI, 7, .inl (nIf (shF sh)))), (k4, .inl (cI, 7, .inl (nIf fa))), (k6, .inl (cI, 6, .inl (nIf K))), (k7, .inl (cI, 6, .inl (nIf G))), (k8, .inl (cI, 6, .inl (nIf T))), (k12, .inl (cI, 7, .inl (nIf kw))), (k13, .inl (cI, 175, .inl (nIf kn))), (k14, .inl (cI, 144, .inl (mIf M))), (k15, .inl (cI, 7, .inl (nIf mw))), (k10, .inl (cI, 7, .inl (nIf R)))]
    have hn_d := hi_5
    refine v_if_eq 20 13 zC dX5_through_10 (fun _ => ?_) (fun z => absurd (by decide +kernel) z)
    refine v_al_n 21 zC dX5_through_20 0 rfl ?_
    refine v_ic (v := (-1)) 22 zC dX5_through_21 (by decide +kernel) ?_
    refine v_cV (As := [.int (-1)]) (st := []) 25 0 [0, 12] zC dX5_through_22 hA (c_X5_refuse (ev_l E) (ev_D E) cI (r0 := r0) (k1 := k1) (k2 := k2) (k3 := k3) (k4 := k4) (k6 := k6) (k7 := k7) (k8 := k8) (k10 := k10) (k12 := k12) (k13 := k13) (k14 := k14) (k15 := k15) (k16 := k16) (k21 := k21) (k22 := k22) (k23 := k23) (k24 := k24) (k25 := k25) (k30 := k30) (k31 := k31) (k33 := k33) (n := n) (m := m) (aw := 0) (ls := ls) (ap := ap) (sq := sq) (pl := pl) (tz := tz) (rs := rs) (bd := bd) (pd := pd) (tk := tk) (kv := kv) (sd := sd) (R := R) (v := (-1)) (j := 1) (hv := (by first | omega | assumption | rfl | (simp only []; omega) | decide)) (h1 := (by first | omega | assumption | rfl | (simp only []; omega) | decide)) (h6 := (by first | omega | assumption | rfl | (simp only []; omega) | decide))) cf_X5_refuse lk_X5_129 rfl rfl rfl rfl rfl (by decide +kernel) (Nat.le_of_ble_eq_true rfl) (fun rv_11 wv_12 hp_13 hm_14 => ?_)
    clear hm_14
    obtain ⟨rfl, rfl⟩ := hp_13
    show VV E 0 0 25 [(0, .ref r0), (1, .int d), (2, .int h)] [.int (-1)] [(r0, .inr (5, [.int (nI n), .ref k1, .ref k2, .ref k3, .ref k4, .int (nI m), .ref k6, .ref k7, .ref k8, .int (nI 0), .ref k10, .int (nI 0), .ref k12, .ref k13, .ref k14, .ref k15, .ref k16, .int (nI ls), .int (nI ap), .int (bz bd), .int (nI sq), .ref k21, .ref k22, .ref k23, .ref k24, .ref k25, .int (bz pd), .int (nI pl), .int (bz tk), kv, .ref k30, .ref k31, .int (nI tz), .ref k33, .int (nI rs), .int sd])), (k1, .inl (cI, 7, .inl (nIf ki))), (k2, .inl (cI, 7, .inl (nIf op))), (k3, .inl (cI, 7, .inl (nIf (shF sh)))), (k4, .inl (cI, 7, .inl (nIf fa))), (k6, .inl (cI, 6, .inl (nIf K))), (k7, .inl (cI, 6, .inl (nIf G))), (k8, .inl (cI, 6, .inl (nIf T))), (k12, .inl (cI, 7, .inl (nIf kw))), (k13, .inl (cI, 175, .inl (nIf kn))), (k14, .inl (cI, 144, .inl (mIf M))), (k15, .inl (cI, 7, .inl (nIf mw))), (k10, .inl (cI, 7, .inl (nIf (un R 1 (R 1 + 1)))))]
    refine v_iret zC zT dX5_through_25  ?_
    first | (have g9 := hn_d; exact ⟨kw, kn, M, mw, 1, _, by unfold q_through; rw [hn_d], hkw, hkn, hM, rfl, rfl⟩) | (have g9 := hn_h; exact ⟨kw, kn, M, mw, 1, _, by unfold q_through; rw [hi_d]; dsimp only; rw [hn_h], hkw, hkn, hM, rfl, rfl⟩) | exact ⟨_, _, _, _, 0, _, by unfold q_through; rw [hi_d]; dsimp only; rw [hi_h], hR9.2.2.2.1, hR9.2.2.2.2.1, hR9.2.2.2.2.2, rfl, rfl⟩
  ·
    show VV E 0 0 10 [(0, .ref r0), (1, .int d), (2, .int h)] [.int (nI 1)] [(r0, .inr (5, [.int (nI n), .ref k1, .ref k2, .ref k3, .ref k4, .int (nI m), .ref k6, .ref k7, .ref k8, .int (nI 0), .ref k10, .int (nI 0), .ref k12, .ref k13, .ref k14, .ref k15, .ref k16, .int (nI ls), .int (nI ap), .int (bz bd), .int (nI sq), .ref k21, .ref k22, .ref k23, .ref k24, .ref k25, .int (bz pd), .int (nI pl), .int (bz tk), kv, .ref k30, .ref k31, .int (nI tz), .ref k33, .int (nI rs), .int sd])), (k1, .inl (cI, 7, .inl (nIf ki))), (k2, .inl (cI, 7, .inl (nIf op))), (k3, .inl (cI, 7, .inl (nIf (shF sh)))), (k4, .inl (cI, 7, .inl (nIf fa))), (k6, .inl (cI, 6, .inl (nIf K))), (k7, .inl (cI, 6, .inl (nIf G))), (k8, .inl (cI, 6, .inl (nIf T))), (k12, .inl (cI, 7, .inl (nIf kw))), (k13, .inl (cI, 175, .inl (nIf kn))), (k14, .inl (cI, 144, .inl (mIf M))), (k15, .inl (cI, 7, .inl (nIf mw))), (k10, .inl (cI, 7, .inl (nIf R)))]
    subst he_7
    have hi_d := hi_8
    obtain ⟨jd, hx_jd⟩ : ∃ z, z = j_6 := ⟨_, rfl⟩
    subst hx_jd
    refine v_if_eq 20 13 zC dX5_through_10 (fun z => absurd z (by decide +kernel)) (fun _ => ?_)
    refine v_il_n 14 zC dX5_through_13 2 rfl ?_
    refine v_cS (As := [.int h]) (st := []) 17 [] zC dX5_through_14 hA (c_X5_isHour (ev_l E) (ev_D E) cI (p := h) ) cf_X5_isHour lk_X5_219 rfl rfl rfl (by decide +kernel) (Nat.le_of_ble_eq_true rfl) (fun rv_16 wv_17 hp_18 hm_19 => ?_)
    clear hm_19
    rcases hp_18 with ⟨hi_20, rfl, rfl⟩ | ⟨j_21, he_22, hi_23, hj_24, rfl, rfl⟩
    ·
      show VV E 0 0 17 [(0, .ref r0), (1, .int (nI jd)), (2, .int h)] [.int (nI 0)] [(r0, .inr (5, [.int (nI n), .ref k1, .ref k2, .ref k3, .ref k4, .int (nI m), .ref k6, .ref k7, .ref k8, .int (nI 0), .ref k10, .int (nI 0), .ref k12, .ref k13, .ref k14, .ref k15, .ref k16, .int (nI ls), .int (nI ap), .int (bz bd), .int (nI sq), .ref k21, .ref k22, .ref k23, .ref k24, .ref k25, .int (bz pd), .int (nI pl), .int (bz tk), kv, .ref k30, .ref k31, .int (nI tz), .ref k33, .int (nI rs), .int sd])), (k1, .inl (cI, 7, .inl (nIf ki))), (k2, .inl (cI, 7, .inl (nIf op))), (k3, .inl (cI, 7, .inl (nIf (shF sh)))), (k4, .inl (cI, 7, .inl (nIf fa))), (k6, .inl (cI, 6, .inl (nIf K))), (k7, .inl (cI, 6, .inl (nIf G))), (k8, .inl (cI, 6, .inl (nIf T))), (k12, .inl (cI, 7, .inl (nIf kw))), (k13, .inl (cI, 175, .inl (nIf kn))), (k14, .inl (cI, 144, .inl (mIf M))), (k15, .inl (cI, 7, .inl (nIf mw))), (k10, .inl (cI, 7, .inl (nIf R)))]
      have hn_h := hi_20
      refine v_if_ne 26 20 zC dX5_through_17 (fun z => absurd (by decide +kernel) z) (fun _ => ?_)
      refine v_al_n 21 zC dX5_through_20 0 rfl ?_
      refine v_ic (v := (-1)) 22 zC dX5_through_21 (by decide +kernel) ?_
      refine v_cV (As := [.int (-1)]) (st := []) 25 0 [0, 12] zC dX5_through_22 hA (c_X5_refuse (ev_l E) (ev_D E) cI (r0 := r0) (k1 := k1) (k2 := k2) (k3 := k3) (k4 := k4) (k6 := k6) (k7 := k7) (k8 := k8) (k10 := k10) (k12 := k12) (k13 := k13) (k14 := k14) (k15 := k15) (k16 := k16) (k21 := k21) (k22 := k22) (k23 := k23) (k24 := k24) (k25 := k25) (k30 := k30) (k31 := k31) (k33 := k33) (n := n) (m := m) (aw := 0) (ls := ls) (ap := ap) (sq := sq) (pl := pl) (tz := tz) (rs := rs) (bd := bd) (pd := pd) (tk := tk) (kv := kv) (sd := sd) (R := R) (v := (-1)) (j := 1) (hv := (by first | omega | assumption | rfl | (simp only []; omega) | decide)) (h1 := (by first | omega | assumption | rfl | (simp only []; omega) | decide)) (h6 := (by first | omega | assumption | rfl | (simp only []; omega) | decide))) cf_X5_refuse lk_X5_129 rfl rfl rfl rfl rfl (by decide +kernel) (Nat.le_of_ble_eq_true rfl) (fun rv_26 wv_27 hp_28 hm_29 => ?_)
      clear hm_29
      obtain ⟨rfl, rfl⟩ := hp_28
      show VV E 0 0 25 [(0, .ref r0), (1, .int (nI jd)), (2, .int h)] [.int (-1)] [(r0, .inr (5, [.int (nI n), .ref k1, .ref k2, .ref k3, .ref k4, .int (nI m), .ref k6, .ref k7, .ref k8, .int (nI 0), .ref k10, .int (nI 0), .ref k12, .ref k13, .ref k14, .ref k15, .ref k16, .int (nI ls), .int (nI ap), .int (bz bd), .int (nI sq), .ref k21, .ref k22, .ref k23, .ref k24, .ref k25, .int (bz pd), .int (nI pl), .int (bz tk), kv, .ref k30, .ref k31, .int (nI tz), .ref k33, .int (nI rs), .int sd])), (k1, .inl (cI, 7, .inl (nIf ki))), (k2, .inl (cI, 7, .inl (nIf op))), (k3, .inl (cI, 7, .inl (nIf (shF sh)))), (k4, .inl (cI, 7, .inl (nIf fa))), (k6, .inl (cI, 6, .inl (nIf K))), (k7, .inl (cI, 6, .inl (nIf G))), (k8, .inl (cI, 6, .inl (nIf T))), (k12, .inl (cI, 7, .inl (nIf kw))), (k13, .inl (cI, 175, .inl (nIf kn))), (k14, .inl (cI, 144, .inl (mIf M))), (k15, .inl (cI, 7, .inl (nIf mw))), (k10, .inl (cI, 7, .inl (nIf (un R 1 (R 1 + 1)))))]
      refine v_iret zC zT dX5_through_25  ?_
      first | (have g9 := hn_d; exact ⟨kw, kn, M, mw, 1, _, by unfold q_through; rw [hn_d], hkw, hkn, hM, rfl, rfl⟩) | (have g9 := hn_h; exact ⟨kw, kn, M, mw, 1, _, by unfold q_through; rw [hi_d]; dsimp only; rw [hn_h], hkw, hkn, hM, rfl, rfl⟩) | exact ⟨_, _, _, _, 0, _, by unfold q_through; rw [hi_d]; dsimp only; rw [hi_h], hR9.2.2.2.1, hR9.2.2.2.2.1, hR9.2.2.2.2.2, rfl, rfl⟩
    ·
      show VV E 0 0 17 [(0, .ref r0), (1, .int (nI jd)), (2, .int h)] [.int (nI 1)] [(r0, .inr (5, [.int (nI n), .ref k1, .ref k2, .ref k3, .ref k4, .int (nI m), .ref k6, .ref k7, .ref k8, .int (nI 0), .ref k10, .int (nI 0), .ref k12, .ref k13, .ref k14, .ref k15, .ref k16, .int (nI ls), .int (nI ap), .int (bz bd), .int (nI sq), .ref k21, .ref k22, .ref k23, .ref k24, .ref k25, .int (bz pd), .int (nI pl), .int (bz tk), kv, .ref k30, .ref k31, .int (nI tz), .ref k33, .int (nI rs), .int sd])), (k1, .inl (cI, 7, .inl (nIf ki))), (k2, .inl (cI, 7, .inl (nIf op))), (k3, .inl (cI, 7, .inl (nIf (shF sh)))), (k4, .inl (cI, 7, .inl (nIf fa))), (k6, .inl (cI, 6, .inl (nIf K))), (k7, .inl (cI, 6, .inl (nIf G))), (k8, .inl (cI, 6, .inl (nIf T))), (k12, .inl (cI, 7, .inl (nIf kw))), (k13, .inl (cI, 175, .inl (nIf kn))), (k14, .inl (cI, 144, .inl (mIf M))), (k15, .inl (cI, 7, .inl (nIf mw))), (k10, .inl (cI, 7, .inl (nIf R)))]
      subst he_22
      have hi_h := hi_23
      obtain ⟨jh, hx_jh⟩ : ∃ z, z = j_21 := ⟨_, rfl⟩
      subst hx_jh
      refine v_if_ne 26 20 zC dX5_through_17 (fun _ => ?_) (fun z => absurd z (by decide +kernel))
      refine v_al_n 27 zC dX5_through_26 0 rfl ?_
      refine v_cV (As := []) (st := []) 30 0 [0, 1, 2, 3, 4, 5, 6, 7, 8, 9, 10, 11] zC dX5_through_27 hA (c_X5_day (ev_l E) (ev_D E) cI (r0 := r0) (k1 := k1) (k2 := k2) (k3 := k3) (k4 := k4) (k6 := k6) (k7 := k7) (k8 := k8) (k10 := k10) (k12 := k12) (k13 := k13) (k14 := k14) (k15 := k15) (k16 := k16) (k21 := k21) (k22 := k22) (k23 := k23) (k24 := k24) (k25 := k25) (k30 := k30) (k31 := k31) (k33 := k33) (n := n) (m := m) (aw := 0) (ls := ls) (ap := ap) (sq := sq) (pl := pl) (tz := tz) (rs := rs) (bd := bd) (pd := pd) (tk := tk) (kv := kv) (sd := sd) (ki := ki) (op := op) (fa := fa) (K := K) (G := G) (T := T) (sh := sh) (kw := kw) (kn := kn) (M := M) (mw := mw) (hw := (by first | omega | assumption | rfl | (simp only []; omega) | decide)) (hkw := (by first | omega | assumption | rfl | (simp only []; omega) | decide)) (hkn := (by first | omega | assumption | rfl | (simp only []; omega) | decide)) (hM := (by first | omega | assumption | rfl | (simp only []; omega) | decide))) cf_X5_day lk_X5_123 rfl rfl rfl rfl rfl (by decide +kernel) (Nat.le_of_ble_eq_true rfl) (fun rv_31 wv_32 hp_33 hm_34 => ?_)
      clear hm_34
      obtain ⟨kw1_35, kn1_36, M1_37, mw1_38, hR_39, rfl, rfl⟩ := hp_33
      show VV E 0 0 30 [(0, .ref r0), (1, .int (nI jd)), (2, .int (nI jh))] [] [(r0, .inr (5, [.int (nI n), .ref k1, .ref k2, .ref k3, .ref k4, .int (nI m), .ref k6, .ref k7, .ref k8, .int (nI 0), .ref k10, .int (nI 0), .ref k12, .ref k13, .ref k14, .ref k15, .ref k16, .int (nI ls), .int (nI ap), .int (bz bd), .int (nI sq), .ref k21, .ref k22, .ref k23, .ref k24, .ref k25, .int (bz pd), .int (nI pl), .int (bz tk), kv, .ref k30, .ref k31, .int (nI tz), .ref k33, .int (nI rs), .int sd])), (k1, .inl (cI, 7, .inl (nIf ki))), (k2, .inl (cI, 7, .inl (nIf op))), (k3, .inl (cI, 7, .inl (nIf (shF sh)))), (k4, .inl (cI, 7, .inl (nIf fa))), (k6, .inl (cI, 6, .inl (nIf K))), (k7, .inl (cI, 6, .inl (nIf G))), (k8, .inl (cI, 6, .inl (nIf T))), (k12, .inl (cI, 7, .inl (nIf kw1_35))), (k13, .inl (cI, 175, .inl (nIf kn1_36))), (k14, .inl (cI, 144, .inl (mIf M1_37))), (k15, .inl (cI, 7, .inl (nIf mw1_38))), (k10, .inl (cI, 7, .inl (nIf R)))]
      have hR9 := hR_39
      refine v_al_n 31 zC dX5_through_30 0 rfl ?_
      refine v_gf 34 0 zC dX5_through_31 gf_X5_40 rfl rfl ?_
      refine v_bp (v := (nI 6)) 36 zC dX5_through_34 (by decide +kernel) ?_
      refine v_il_n 37 zC dX5_through_36 2 rfl ?_
      refine v_imul (v := (nI (6 * jh))) 38 zC dX5_through_37 (pk_mul _ _) ?_
      refine v_il_n 39 zC dX5_through_38 1 rfl ?_
      refine v_iadd (v := (nI ((6 * jh) + jd))) 40 zC dX5_through_39 (nI_add _ _) ?_
      refine v_ialn (v := (mI (DM (n, m, sh, 0, ki, op, fa, K, G, T) jh jd))) 41 10 zC dX5_through_40 rfl (by omega) (congrArg mI (rk_m hR9 (by omega) (by omega))) ?_
      refine v_iret zC zT dX5_through_41  ?_
      first | (have g9 := hn_d; exact ⟨kw, kn, M, mw, 1, _, by unfold q_through; rw [hn_d], hkw, hkn, hM, rfl, rfl⟩) | (have g9 := hn_h; exact ⟨kw, kn, M, mw, 1, _, by unfold q_through; rw [hi_d]; dsimp only; rw [hn_h], hkw, hkn, hM, rfl, rfl⟩) | exact ⟨_, _, _, _, 0, _, by unfold q_through; rw [hi_d]; dsimp only; rw [hi_h], hR9.2.2.2.1, hR9.2.2.2.2.1, hR9.2.2.2.2.2, rfl, rfl⟩
set_option maxRecDepth 100000 in
set_option maxHeartbeats 4000000 in
theorem c_X5_speak (l : Launch) (D : va_G) (cI : ClassId) (r0 k1 k2 k3 k4 k6 k7 k8 k10 k12 k13 k14 k15 k16 k21 k22 k23 k24 k25 k30 k31 k33 : Nat) (n m ls ap sq pl tz rs : Nat) (bd pd tk : Bool) (kv : Value) (sd : Int32) (ki op fa K G T : Nat → Nat) (sh : Nat) (kw kn : Nat → Nat) (M : Nat → Option Nat) (mw : Nat → Nat) (R : Nat → Nat) (p h : Int32) (hw : FW n m sh ki op fa K G T) (hkw : ∀ z, kw z < 1024) (hkn : ∀ z, kn z < 1024) (hM : ∀ z v, M z = some v → v < 7) : CT l yX5_speak cX5_speak 3 (some .int) { frames := 6, cells := 0, slots := 0, locals := 138 } D cI [.ref r0, .int p, .int h] [(r0, .inr (5, [.int (nI n), .ref k1, .ref k2, .ref k3, .ref k4, .int (nI m), .ref k6, .ref k7, .ref k8, .int (nI 0), .ref k10, .int (nI 0), .ref k12, .ref k13, .ref k14, .ref k15, .ref k16, .int (nI ls), .int (nI ap), .int (bz bd), .int (nI sq), .ref k21, .ref k22, .ref k23, .ref k24, .ref k25, .int (bz pd), .int (nI pl), .int (bz tk), kv, .ref k30, .ref k31, .int (nI tz), .ref k33, .int (nI rs), .int sd])), (k1, .inl (cI, 7, .inl (nIf ki))), (k2, .inl (cI, 7, .inl (nIf op))), (k3, .inl (cI, 7, .inl (nIf (shF sh)))), (k4, .inl (cI, 7, .inl (nIf fa))), (k6, .inl (cI, 6, .inl (nIf K))), (k7, .inl (cI, 6, .inl (nIf G))), (k8, .inl (cI, 6, .inl (nIf T))), (k12, .inl (cI, 7, .inl (nIf kw))), (k13, .inl (cI, 175, .inl (nIf kn))), (k14, .inl (cI, 144, .inl (mIf M))), (k15, .inl (cI, 7, .inl (nIf mw))), (k10, .inl (cI, 7, .inl (nIf R)))] (fun zr zw => (∃ kw1 : Nat → Nat, ∃ kn1 : Nat → Nat, ∃ M1 : Nat → Option Nat, ∃ mw1 : Nat → Nat, ∃ rc : Nat, ∃ rv : Int32, (q_speak (n, m, sh, 0, ki, op, fa, K, G, T) p h = (rc, rv)) ∧ (∀ z, kw1 z < 1024) ∧ (∀ z, kn1 z < 1024) ∧ (∀ z v, M1 z = some v → v < 7) ∧ zr = some (.int rv) ∧ zw = [(r0, .inr (5, [.int (nI n), .ref k1, .ref k2, .ref k3, .ref k4, .int (nI m), .ref k6, .ref k7, .ref k8, .int (nI 0), .ref k10, .int (nI 0), .ref k12, .ref k13, .ref k14, .ref k15, .ref k16, .int (nI ls), .int (nI ap), .int (bz bd), .int (nI sq), .ref k21, .ref k22, .ref k23, .ref k24, .ref k25, .int (bz pd), .int (nI pl), .int (bz tk), kv, .ref k30, .ref k31, .int (nI tz), .ref k33, .int (nI rs), .int sd])), (k1, .inl (cI, 7, .inl (nIf ki))), (k2, .inl (cI, 7, .inl (nIf op))), (k3, .inl (cI, 7, .inl (nIf (shF sh)))), (k4, .inl (cI, 7, .inl (nIf fa))), (k6, .inl (cI, 6, .inl (nIf K))), (k7, .inl (cI, 6, .inl (nIf G))), (k8, .inl (cI, 6, .inl (nIf T))), (k12, .inl (cI, 7, .inl (nIf kw1))), (k13, .inl (cI, 175, .inl (nIf kn1))), (k14, .inl (cI, 144, .inl (mIf M1))), (k15, .inl (cI, 7, .inl (nIf mw1))), (k10, .inl (cI, 7, .inl (nIf (rf R rc))))])) := by
  refine CT_of RX5 rfl (by decide +kernel) (Nat.le_of_ble_eq_true rfl) (fun E hnE zC zT => ?_)
  have hA : ∀ q, (ev_s E).heap.size ≤ q → ev_A E q := fun q h => by rw [zT.2]; exact Or.inr h
  obtain ⟨hn, hm, hsh, hki, hop, hfa, hK, hG, hT, vki, vop, vfa, vK, vG, vT⟩ := id hw
  show VV E 0 0 0 [(0, .ref r0), (1, .int p), (2, .int h)] [] [(r0, .inr (5, [.int (nI n), .ref k1, .ref k2, .ref k3, .ref k4, .int (nI m), .ref k6, .ref k7, .ref k8, .int (nI 0), .ref k10, .int (nI 0), .ref k12, .ref k13, .ref k14, .ref k15, .ref k16, .int (nI ls), .int (nI ap), .int (bz bd), .int (nI sq), .ref k21, .ref k22, .ref k23, .ref k24, .ref k25, .int (bz pd), .int (nI pl), .int (bz tk), kv, .ref k30, .ref k31, .int (nI tz), .ref k33, .int (nI rs), .int sd])), (k1, .inl (cI, 7, .inl (nIf ki))), (k2, .inl (cI, 7, .inl (nIf op))), (k3, .inl (cI, 7, .inl (nIf (shF sh)))), (k4, .inl (cI, 7, .inl (nIf fa))), (k6, .inl (cI, 6, .inl (nIf K))), (k7, .inl (cI, 6, .inl (nIf G))), (k8, .inl (cI, 6, .inl (nIf T))), (k12, .inl (cI, 7, .inl (nIf kw))), (k13, .inl (cI, 175, .inl (nIf kn))), (k14, .inl (cI, 144, .inl (mIf M))), (k15, .inl (cI, 7, .inl (nIf mw))), (k10, .inl (cI, 7, .inl (nIf R)))]
  refine v_al_n 1 zC dX5_speak_0 0 rfl ?_
  refine v_ic (v := (nI 0)) 2 zC dX5_speak_1 (by decide +kernel) ?_
  refine v_pf (ws2 := [(r0, .inr (5, [.int (nI n), .ref k1, .ref k2, .ref k3, .ref k4, .int (nI m), .ref k6, .ref k7, .ref k8, .int (nI 0), .ref k10, .int (nI 0), .ref k12, .ref k13, .ref k14, .ref k15, .ref k16, .int (nI ls), .int (nI ap), .int (bz bd), .int (nI sq), .ref k21, .ref k22, .ref k23, .ref k24, .ref k25, .int (bz pd), .int (nI pl), .int (bz tk), kv, .ref k30, .ref k31, .int (nI tz), .ref k33, .int (nI rs), .int sd])), (k1, .inl (cI, 7, .inl (nIf ki))), (k2, .inl (cI, 7, .inl (nIf op))), (k3, .inl (cI, 7, .inl (nIf (shF sh)))), (k4, .inl (cI, 7, .inl (nIf fa))), (k6, .inl (cI, 6, .inl (nIf K))), (k7, .inl (cI, 6, .inl (nIf G))), (k8, .inl (cI, 6, .inl (nIf T))), (k12, .inl (cI, 7, .inl (nIf kw))), (k13, .inl (cI, 175, .inl (nIf kn))), (k14, .inl (cI, 144, .inl (mIf M))), (k15, .inl (cI, 7, .inl (nIf mw))), (k10, .inl (cI, 7, .inl (nIf R)))]) 5 0 zC dX5_speak_2 pf_X5_73 rfl (Nat.le_of_ble_eq_true rfl) rfl rfl rfl ?_
  refine v_il_n 6 zC dX5_speak_5 1 rfl ?_
  refine v_i2l (v := (Int32.toInt64 p)) 7 zC dX5_speak_6 rfl ?_
  refine v_ldc2 (v := (-1)) 10 zC dX5_speak_7 kc_X5_231 ?_
  refine v_al_n 11 zC dX5_speak_10 0 rfl ?_
  refine v_gf 14 0 zC dX5_speak_11 gf_X5_77 rfl rfl ?_
  refine v_ic (v := (nI 1)) 15 zC dX5_speak_14 (by decide +kernel) ?_
  refine v_isub (v := (nI n - nI 1)) 16 zC dX5_speak_15 rfl ?_
  refine v_i2l (v := (Int32.toInt64 (nI n - nI 1))) 17 zC dX5_speak_16 rfl ?_
  refine v_cS (As := [.long (Int32.toInt64 p), .long (-1), .long (Int32.toInt64 (nI n - nI 1))]) (st := []) 20 [] zC dX5_speak_17 hA (c_X5_in (ev_l E) (ev_D E) cI (x := (Int32.toInt64 p)) (y := (-1)) (z := (Int32.toInt64 (nI n - nI 1))) ) cf_X5_in lk_X5_80 rfl rfl rfl (by decide +kernel) (Nat.le_of_ble_eq_true rfl) (fun rv_1 wv_2 hp_3 hm_4 => ?_)
  clear hm_4
  obtain ⟨rfl, rfl⟩ := hp_3
  show VV E 0 0 20 [(0, .ref r0), (1, .int p), (2, .int h)] [.int (bz (inB (Int32.toInt64 p) (-1) (Int32.toInt64 (nI n - nI 1))))] [(r0, .inr (5, [.int (nI n), .ref k1, .ref k2, .ref k3, .ref k4, .int (nI m), .ref k6, .ref k7, .ref k8, .int (nI 0), .ref k10, .int (nI 0), .ref k12, .ref k13, .ref k14, .ref k15, .ref k16, .int (nI ls), .int (nI ap), .int (bz bd), .int (nI sq), .ref k21, .ref k22, .ref k23, .ref k24, .ref k25, .int (bz pd), .int (nI pl), .int (bz tk), kv, .ref k30, .ref k31, .int (nI tz), .ref k33, .int (nI rs), .int sd])), (k1, .inl (cI, 7, .inl (nIf ki))), (k2, .inl (cI, 7, .inl (nIf op))), (k3, .inl (cI, 7, .inl (nIf (shF sh)))), (k4, .inl (cI, 7, .inl (nIf fa))), (k6, .inl (cI, 6, .inl (nIf K))), (k7, .inl (cI, 6, .inl (nIf G))), (k8, .inl (cI, 6, .inl (nIf T))), (k12, .inl (cI, 7, .inl (nIf kw))), (k13, .inl (cI, 175, .inl (nIf kn))), (k14, .inl (cI, 144, .inl (mIf M))), (k15, .inl (cI, 7, .inl (nIf mw))), (k10, .inl (cI, 7, .inl (nIf R)))]
  rcases in_spk (n := n) (p := p) hn with ⟨e9, b9⟩ | ⟨hm_p, e9, b9⟩ | ⟨jp, e9, i9, l9, b9⟩
  ·
    rw [b9]
    subst e9
    have hone9 := True.intro
    refine v_ifb_eq 30 23 zC dX5_speak_20 (fun z => absurd z (by decide)) (fun _ => ?_)
    refine v_il_n 24 zC dX5_speak_23 2 rfl ?_
    refine v_cS (As := [.int h]) (st := []) 27 [] zC dX5_speak_24 hA (c_X5_isHour (ev_l E) (ev_D E) cI (p := h) ) cf_X5_isHour lk_X5_219 rfl rfl rfl (by decide +kernel) (Nat.le_of_ble_eq_true rfl) (fun rv_6 wv_7 hp_8 hm_9 => ?_)
    clear hm_9
    rcases hp_8 with ⟨hi_10, rfl, rfl⟩ | ⟨j_11, he_12, hi_13, hj_14, rfl, rfl⟩
    ·
      show VV E 0 0 27 [(0, .ref r0), (1, .int (-1)), (2, .int h)] [.int (nI 0)] [(r0, .inr (5, [.int (nI n), .ref k1, .ref k2, .ref k3, .ref k4, .int (nI m), .ref k6, .ref k7, .ref k8, .int (nI 0), .ref k10, .int (nI 0), .ref k12, .ref k13, .ref k14, .ref k15, .ref k16, .int (nI ls), .int (nI ap), .int (bz bd), .int (nI sq), .ref k21, .ref k22, .ref k23, .ref k24, .ref k25, .int (bz pd), .int (nI pl), .int (bz tk), kv, .ref k30, .ref k31, .int (nI tz), .ref k33, .int (nI rs), .int sd])), (k1, .inl (cI, 7, .inl (nIf ki))), (k2, .inl (cI, 7, .inl (nIf op))), (k3, .inl (cI, 7, .inl (nIf (shF sh)))), (k4, .inl (cI, 7, .inl (nIf fa))), (k6, .inl (cI, 6, .inl (nIf K))), (k7, .inl (cI, 6, .inl (nIf G))), (k8, .inl (cI, 6, .inl (nIf T))), (k12, .inl (cI, 7, .inl (nIf kw))), (k13, .inl (cI, 175, .inl (nIf kn))), (k14, .inl (cI, 144, .inl (mIf M))), (k15, .inl (cI, 7, .inl (nIf mw))), (k10, .inl (cI, 7, .inl (nIf R)))]
      have hn_h := hi_10
      refine v_if_ne 36 30 zC dX5_speak_27 (fun z => absurd (by decide +kernel) z) (fun _ => ?_)
      refine v_al_n 31 zC dX5_speak_30 0 rfl ?_
      refine v_ic (v := (-1)) 32 zC dX5_speak_31 (by decide +kernel) ?_
      refine v_cV (As := [.int (-1)]) (st := []) 35 0 [0, 12] zC dX5_speak_32 hA (c_X5_refuse (ev_l E) (ev_D E) cI (r0 := r0) (k1 := k1) (k2 := k2) (k3 := k3) (k4 := k4) (k6 := k6) (k7 := k7) (k8 := k8) (k10 := k10) (k12 := k12) (k13 := k13) (k14 := k14) (k15 := k15) (k16 := k16) (k21 := k21) (k22 := k22) (k23 := k23) (k24 := k24) (k25 := k25) (k30 := k30) (k31 := k31) (k33 := k33) (n := n) (m := m) (aw := 0) (ls := ls) (ap := ap) (sq := sq) (pl := pl) (tz := tz) (rs := rs) (bd := bd) (pd := pd) (tk := tk) (kv := kv) (sd := sd) (R := R) (v := (-1)) (j := 1) (hv := (by first | omega | assumption | rfl | (simp only []; omega) | decide)) (h1 := (by first | omega | assumption | rfl | (simp only []; omega) | decide)) (h6 := (by first | omega | assumption | rfl | (simp only []; omega) | decide))) cf_X5_refuse lk_X5_129 rfl rfl rfl rfl rfl (by decide +kernel) (Nat.le_of_ble_eq_true rfl) (fun rv_16 wv_17 hp_18 hm_19 => ?_)
      clear hm_19
      obtain ⟨rfl, rfl⟩ := hp_18
      show VV E 0 0 35 [(0, .ref r0), (1, .int (-1)), (2, .int h)] [.int (-1)] [(r0, .inr (5, [.int (nI n), .ref k1, .ref k2, .ref k3, .ref k4, .int (nI m), .ref k6, .ref k7, .ref k8, .int (nI 0), .ref k10, .int (nI 0), .ref k12, .ref k13, .ref k14, .ref k15, .ref k16, .int (nI ls), .int (nI ap), .int (bz bd), .int (nI sq), .ref k21, .ref k22, .ref k23, .ref k24, .ref k25, .int (bz pd), .int (nI pl), .int (bz tk), kv, .ref k30, .ref k31, .int (nI tz), .ref k33, .int (nI rs), .int sd])), (k1, .inl (cI, 7, .inl (nIf ki))), (k2, .inl (cI, 7, .inl (nIf op))), (k3, .inl (cI, 7, .inl (nIf (shF sh)))), (k4, .inl (cI, 7, .inl (nIf fa))), (k6, .inl (cI, 6, .inl (nIf K))), (k7, .inl (cI, 6, .inl (nIf G))), (k8, .inl (cI, 6, .inl (nIf T))), (k12, .inl (cI, 7, .inl (nIf kw))), (k13, .inl (cI, 175, .inl (nIf kn))), (k14, .inl (cI, 144, .inl (mIf M))), (k15, .inl (cI, 7, .inl (nIf mw))), (k10, .inl (cI, 7, .inl (nIf (un R 1 (R 1 + 1)))))]
      refine v_iret zC zT dX5_speak_35  ?_
      first | (have g9 := hn_p; exact ⟨kw, kn, M, mw, 1, _, by unfold q_speak; rw [if_neg hm_p, hn_p], hkw, hkn, hM, rfl, rfl⟩) | (have g9 := And.intro hone9 hn_h; exact ⟨kw, kn, M, mw, 1, _, by unfold q_speak; rw [if_pos rfl, hn_h], hkw, hkn, hM, rfl, rfl⟩) | (have g9 := And.intro hi_p hn_h; exact ⟨kw, kn, M, mw, 1, _, by unfold q_speak; rw [if_neg hnm, hi_p]; dsimp only; rw [hn_h], hkw, hkn, hM, rfl, rfl⟩) | exact ⟨_, _, _, _, 0, _, by unfold q_speak; first | (have g9 := hone9; rw [if_pos rfl, hi_h]; done) | (rw [if_neg hnm, hi_p]; dsimp only; rw [hi_h]), hR9.2.2.2.1, hR9.2.2.2.2.1, hR9.2.2.2.2.2, rfl, rfl⟩
    ·
      show VV E 0 0 27 [(0, .ref r0), (1, .int (-1)), (2, .int h)] [.int (nI 1)] [(r0, .inr (5, [.int (nI n), .ref k1, .ref k2, .ref k3, .ref k4, .int (nI m), .ref k6, .ref k7, .ref k8, .int (nI 0), .ref k10, .int (nI 0), .ref k12, .ref k13, .ref k14, .ref k15, .ref k16, .int (nI ls), .int (nI ap), .int (bz bd), .int (nI sq), .ref k21, .ref k22, .ref k23, .ref k24, .ref k25, .int (bz pd), .int (nI pl), .int (bz tk), kv, .ref k30, .ref k31, .int (nI tz), .ref k33, .int (nI rs), .int sd])), (k1, .inl (cI, 7, .inl (nIf ki))), (k2, .inl (cI, 7, .inl (nIf op))), (k3, .inl (cI, 7, .inl (nIf (shF sh)))), (k4, .inl (cI, 7, .inl (nIf fa))), (k6, .inl (cI, 6, .inl (nIf K))), (k7, .inl (cI, 6, .inl (nIf G))), (k8, .inl (cI, 6, .inl (nIf T))), (k12, .inl (cI, 7, .inl (nIf kw))), (k13, .inl (cI, 175, .inl (nIf kn))), (k14, .inl (cI, 144, .inl (mIf M))), (k15, .inl (cI, 7, .inl (nIf mw))), (k10, .inl (cI, 7, .inl (nIf R)))]
      subst he_12
      have hi_h := hi_13
      obtain ⟨jh, hx_jh⟩ : ∃ z, z = j_11 := ⟨_, rfl⟩
      subst hx_jh
      refine v_if_ne 36 30 zC dX5_speak_27 (fun _ => ?_) (fun z => absurd z (by decide +kernel))
      refine v_al_n 37 zC dX5_speak_36 0 rfl ?_
      refine v_cV (As := []) (st := []) 40 0 [0, 1, 2, 3, 4, 5, 6, 7, 8, 9, 10, 11] zC dX5_speak_37 hA (c_X5_day (ev_l E) (ev_D E) cI (r0 := r0) (k1 := k1) (k2 := k2) (k3 := k3) (k4 := k4) (k6 := k6) (k7 := k7) (k8 := k8) (k10 := k10) (k12 := k12) (k13 := k13) (k14 := k14) (k15 := k15) (k16 := k16) (k21 := k21) (k22 := k22) (k23 := k23) (k24 := k24) (k25 := k25) (k30 := k30) (k31 := k31) (k33 := k33) (n := n) (m := m) (aw := 0) (ls := ls) (ap := ap) (sq := sq) (pl := pl) (tz := tz) (rs := rs) (bd := bd) (pd := pd) (tk := tk) (kv := kv) (sd := sd) (ki := ki) (op := op) (fa := fa) (K := K) (G := G) (T := T) (sh := sh) (kw := kw) (kn := kn) (M := M) (mw := mw) (hw := (by first | omega | assumption | rfl | (simp only []; omega) | decide)) (hkw := (by first | omega | assumption | rfl | (simp only []; omega) | decide)) (hkn := (by first | omega | assumption | rfl | (simp only []; omega) | decide)) (hM := (by first | omega | assumption | rfl | (simp only []; omega) | decide))) cf_X5_day lk_X5_123 rfl rfl rfl rfl rfl (by decide +kernel) (Nat.le_of_ble_eq_true rfl) (fun rv_21 wv_22 hp_23 hm_24 => ?_)
      clear hm_24
      obtain ⟨kw1_25, kn1_26, M1_27, mw1_28, hR_29, rfl, rfl⟩ := hp_23
      show VV E 0 0 40 [(0, .ref r0), (1, .int (-1)), (2, .int (nI jh))] [] [(r0, .inr (5, [.int (nI n), .ref k1, .ref k2, .ref k3, .ref k4, .int (nI m), .ref k6, .ref k7, .ref k8, .int (nI 0), .ref k10, .int (nI 0), .ref k12, .ref k13, .ref k14, .ref k15, .ref k16, .int (nI ls), .int (nI ap), .int (bz bd), .int (nI sq), .ref k21, .ref k22, .ref k23, .ref k24, .ref k25, .int (bz pd), .int (nI pl), .int (bz tk), kv, .ref k30, .ref k31, .int (nI tz), .ref k33, .int (nI rs), .int sd])), (k1, .inl (cI, 7, .inl (nIf ki))), (k2, .inl (cI, 7, .inl (nIf op))), (k3, .inl (cI, 7, .inl (nIf (shF sh)))), (k4, .inl (cI, 7, .inl (nIf fa))), (k6, .inl (cI, 6, .inl (nIf K))), (k7, .inl (cI, 6, .inl (nIf G))), (k8, .inl (cI, 6, .inl (nIf T))), (k12, .inl (cI, 7, .inl (nIf kw1_25))), (k13, .inl (cI, 175, .inl (nIf kn1_26))), (k14, .inl (cI, 144, .inl (mIf M1_27))), (k15, .inl (cI, 7, .inl (nIf mw1_28))), (k10, .inl (cI, 7, .inl (nIf R)))]
      have hR9 := hR_29
      refine v_il_n 41 zC dX5_speak_40 1 rfl ?_
      refine v_if_ge 56 44 zC dX5_speak_41 (fun z => absurd z (by decide +kernel)) (fun _ => ?_)
      refine v_al_n 45 zC dX5_speak_44 0 rfl ?_
      refine v_ic (v := (-1)) 46 zC dX5_speak_45 (by decide +kernel) ?_
      refine v_il_n 47 zC dX5_speak_46 2 rfl ?_
      refine v_cV (As := [.int (-1), .int (nI jh)]) (st := []) 50 0 [0, 10] zC dX5_speak_47 hA (c_X5_speakers__A (ev_l E) (ev_D E) cI (r0 := r0) (k1 := k1) (k2 := k2) (k3 := k3) (k4 := k4) (k6 := k6) (k7 := k7) (k8 := k8) (k10 := k10) (k12 := k12) (k13 := k13) (k14 := k14) (k15 := k15) (k16 := k16) (k21 := k21) (k22 := k22) (k23 := k23) (k24 := k24) (k25 := k25) (k30 := k30) (k31 := k31) (k33 := k33) (n := n) (m := m) (aw := 0) (ls := ls) (ap := ap) (sq := sq) (pl := pl) (tz := tz) (rs := rs) (bd := bd) (pd := pd) (tk := tk) (kv := kv) (sd := sd) (ki := ki) (op := op) (fa := fa) (K := K) (G := G) (T := T) (sh := sh) (kw := kw1_25) (kn := kn1_26) (M := M1_27) (h := jh) (hn := (by first | omega | assumption | rfl | (simp only []; omega) | decide)) (hm := (by first | omega | assumption | rfl | (simp only []; omega) | decide)) (hR := hR9) (hh := (by first | omega | assumption | rfl | (simp only []; omega) | decide))) cf_X5_speakers lk_X5_233 rfl rfl rfl rfl rfl (by decide +kernel) (Nat.le_of_ble_eq_true rfl) (fun rv_31 wv_32 hp_33 hm_34 => ?_)
      clear hm_34
      obtain ⟨rfl, rfl⟩ := hp_33
      show VV E 0 0 50 [(0, .ref r0), (1, .int (-1)), (2, .int (nI jh))] [.int (nI (SPK (n, m, sh, 0, ki, op, fa, K, G, T) jh))] [(r0, .inr (5, [.int (nI n), .ref k1, .ref k2, .ref k3, .ref k4, .int (nI m), .ref k6, .ref k7, .ref k8, .int (nI 0), .ref k10, .int (nI 0), .ref k12, .ref k13, .ref k14, .ref k15, .ref k16, .int (nI ls), .int (nI ap), .int (bz bd), .int (nI sq), .ref k21, .ref k22, .ref k23, .ref k24, .ref k25, .int (bz pd), .int (nI pl), .int (bz tk), kv, .ref k30, .ref k31, .int (nI tz), .ref k33, .int (nI rs), .int sd])), (k1, .inl (cI, 7, .inl (nIf ki))), (k2, .inl (cI, 7, .inl (nIf op))), (k3, .inl (cI, 7, .inl (nIf (shF sh)))), (k4, .inl (cI, 7, .inl (nIf fa))), (k6, .inl (cI, 6, .inl (nIf K))), (k7, .inl (cI, 6, .inl (nIf G))), (k8, .inl (cI, 6, .inl (nIf T))), (k12, .inl (cI, 7, .inl (nIf kw1_25))), (k13, .inl (cI, 175, .inl (nIf kn1_26))), (k14, .inl (cI, 144, .inl (mIf M1_27))), (k15, .inl (cI, 7, .inl (nIf mw1_28))), (k10, .inl (cI, 7, .inl (nIf R)))]
      refine v_cS (As := [.int (nI (SPK (n, m, sh, 0, ki, op, fa, K, G, T) jh))]) (st := []) 53 [] zC dX5_speak_50 hA (c_X5_onesOf (ev_l E) (ev_D E) cI (x := (SPK (n, m, sh, 0, ki, op, fa, K, G, T) jh)) (hx := (Nat.lt_of_lt_of_le (m := 2 ^ m) (mkn_lt _ _) (Nat.pow_le_pow_right (by decide) (Nat.le_trans hm (by decide)))))) cf_X5_onesOf lk_X5_120 rfl rfl rfl (by decide +kernel) (Nat.le_of_ble_eq_true rfl) (fun rv_35 wv_36 hp_37 hm_38 => ?_)
      clear hm_38
      obtain ⟨rfl, rfl⟩ := hp_37
      show VV E 0 0 53 [(0, .ref r0), (1, .int (-1)), (2, .int (nI jh))] [.int (nI (pcn (SPK (n, m, sh, 0, ki, op, fa, K, G, T) jh)))] [(r0, .inr (5, [.int (nI n), .ref k1, .ref k2, .ref k3, .ref k4, .int (nI m), .ref k6, .ref k7, .ref k8, .int (nI 0), .ref k10, .int (nI 0), .ref k12, .ref k13, .ref k14, .ref k15, .ref k16, .int (nI ls), .int (nI ap), .int (bz bd), .int (nI sq), .ref k21, .ref k22, .ref k23, .ref k24, .ref k25, .int (bz pd), .int (nI pl), .int (bz tk), kv, .ref k30, .ref k31, .int (nI tz), .ref k33, .int (nI rs), .int sd])), (k1, .inl (cI, 7, .inl (nIf ki))), (k2, .inl (cI, 7, .inl (nIf op))), (k3, .inl (cI, 7, .inl (nIf (shF sh)))), (k4, .inl (cI, 7, .inl (nIf fa))), (k6, .inl (cI, 6, .inl (nIf K))), (k7, .inl (cI, 6, .inl (nIf G))), (k8, .inl (cI, 6, .inl (nIf T))), (k12, .inl (cI, 7, .inl (nIf kw1_25))), (k13, .inl (cI, 175, .inl (nIf kn1_26))), (k14, .inl (cI, 144, .inl (mIf M1_27))), (k15, .inl (cI, 7, .inl (nIf mw1_28))), (k10, .inl (cI, 7, .inl (nIf R)))]
      refine v_goto 62 zC dX5_speak_53 ?_
      refine v_iret zC zT dX5_speak_62  ?_
      first | (have g9 := hn_p; exact ⟨kw, kn, M, mw, 1, _, by unfold q_speak; rw [if_neg hm_p, hn_p], hkw, hkn, hM, rfl, rfl⟩) | (have g9 := And.intro hone9 hn_h; exact ⟨kw, kn, M, mw, 1, _, by unfold q_speak; rw [if_pos rfl, hn_h], hkw, hkn, hM, rfl, rfl⟩) | (have g9 := And.intro hi_p hn_h; exact ⟨kw, kn, M, mw, 1, _, by unfold q_speak; rw [if_neg hnm, hi_p]; dsimp only; rw [hn_h], hkw, hkn, hM, rfl, rfl⟩) | exact ⟨_, _, _, _, 0, _, by unfold q_speak; first | (have g9 := hone9; rw [if_pos rfl, hi_h]; done) | (rw [if_neg hnm, hi_p]; dsimp only; rw [hi_h]), hR9.2.2.2.1, hR9.2.2.2.2.1, hR9.2.2.2.2.2, rfl, rfl⟩
  ·
    rw [b9]
    have hn_p := e9
    refine v_ifb_eq 30 23 zC dX5_speak_20 (fun _ => ?_) (fun z => absurd z (by decide))
    refine v_al_n 31 zC dX5_speak_30 0 rfl ?_
    refine v_ic (v := (-1)) 32 zC dX5_speak_31 (by decide +kernel) ?_
    refine v_cV (As := [.int (-1)]) (st := []) 35 0 [0, 12] zC dX5_speak_32 hA (c_X5_refuse (ev_l E) (ev_D E) cI (r0 := r0) (k1 := k1) (k2 := k2) (k3 := k3) (k4 := k4) (k6 := k6) (k7 := k7) (k8 := k8) (k10 := k10) (k12 := k12) (k13 := k13) (k14 := k14) (k15 := k15) (k16 := k16) (k21 := k21) (k22 := k22) (k23 := k23) (k24 := k24) (k25 := k25) (k30 := k30) (k31 := k31) (k33 := k33) (n := n) (m := m) (aw := 0) (ls := ls) (ap := ap) (sq := sq) (pl := pl) (tz := tz) (rs := rs) (bd := bd) (pd := pd) (tk := tk) (kv := kv) (sd := sd) (R := R) (v := (-1)) (j := 1) (hv := (by first | omega | assumption | rfl | (simp only []; omega) | decide)) (h1 := (by first | omega | assumption | rfl | (simp only []; omega) | decide)) (h6 := (by first | omega | assumption | rfl | (simp only []; omega) | decide))) cf_X5_refuse lk_X5_129 rfl rfl rfl rfl rfl (by decide +kernel) (Nat.le_of_ble_eq_true rfl) (fun rv_40 wv_41 hp_42 hm_43 => ?_)
    clear hm_43
    obtain ⟨rfl, rfl⟩ := hp_42
    show VV E 0 0 35 [(0, .ref r0), (1, .int p), (2, .int h)] [.int (-1)] [(r0, .inr (5, [.int (nI n), .ref k1, .ref k2, .ref k3, .ref k4, .int (nI m), .ref k6, .ref k7, .ref k8, .int (nI 0), .ref k10, .int (nI 0), .ref k12, .ref k13, .ref k14, .ref k15, .ref k16, .int (nI ls), .int (nI ap), .int (bz bd), .int (nI sq), .ref k21, .ref k22, .ref k23, .ref k24, .ref k25, .int (bz pd), .int (nI pl), .int (bz tk), kv, .ref k30, .ref k31, .int (nI tz), .ref k33, .int (nI rs), .int sd])), (k1, .inl (cI, 7, .inl (nIf ki))), (k2, .inl (cI, 7, .inl (nIf op))), (k3, .inl (cI, 7, .inl (nIf (shF sh)))), (k4, .inl (cI, 7, .inl (nIf fa))), (k6, .inl (cI, 6, .inl (nIf K))), (k7, .inl (cI, 6, .inl (nIf G))), (k8, .inl (cI, 6, .inl (nIf T))), (k12, .inl (cI, 7, .inl (nIf kw))), (k13, .inl (cI, 175, .inl (nIf kn))), (k14, .inl (cI, 144, .inl (mIf M))), (k15, .inl (cI, 7, .inl (nIf mw))), (k10, .inl (cI, 7, .inl (nIf (un R 1 (R 1 + 1)))))]
    refine v_iret zC zT dX5_speak_35  ?_
    first | (have g9 := hn_p; exact ⟨kw, kn, M, mw, 1, _, by unfold q_speak; rw [if_neg hm_p, hn_p], hkw, hkn, hM, rfl, rfl⟩) | (have g9 := And.intro hone9 hn_h; exact ⟨kw, kn, M, mw, 1, _, by unfold q_speak; rw [if_pos rfl, hn_h], hkw, hkn, hM, rfl, rfl⟩) | (have g9 := And.intro hi_p hn_h; exact ⟨kw, kn, M, mw, 1, _, by unfold q_speak; rw [if_neg hnm, hi_p]; dsimp only; rw [hn_h], hkw, hkn, hM, rfl, rfl⟩) | exact ⟨_, _, _, _, 0, _, by unfold q_speak; first | (have g9 := hone9; rw [if_pos rfl, hi_h]; done) | (rw [if_neg hnm, hi_p]; dsimp only; rw [hi_h]), hR9.2.2.2.1, hR9.2.2.2.2.1, hR9.2.2.2.2.2, rfl, rfl⟩
  ·
    rw [b9]
    subst e9
    have hi_p := i9
    have hl_p := l9
    have hnm := ne_m1 (show jp < 100 by omega)
    refine v_ifb_eq 30 23 zC dX5_speak_20 (fun z => absurd z (by decide)) (fun _ => ?_)
    refine v_il_n 24 zC dX5_speak_23 2 rfl ?_
    refine v_cS (As := [.int h]) (st := []) 27 [] zC dX5_speak_24 hA (c_X5_isHour (ev_l E) (ev_D E) cI (p := h) ) cf_X5_isHour lk_X5_219 rfl rfl rfl (by decide +kernel) (Nat.le_of_ble_eq_true rfl) (fun rv_45 wv_46 hp_47 hm_48 => ?_)
    clear hm_48
    rcases hp_47 with ⟨hi_49, rfl, rfl⟩ | ⟨j_50, he_51, hi_52, hj_53, rfl, rfl⟩
    ·
      show VV E 0 0 27 [(0, .ref r0), (1, .int (nI jp)), (2, .int h)] [.int (nI 0)] [(r0, .inr (5, [.int (nI n), .ref k1, .ref k2, .ref k3, .ref k4, .int (nI m), .ref k6, .ref k7, .ref k8, .int (nI 0), .ref k10, .int (nI 0), .ref k12, .ref k13, .ref k14, .ref k15, .ref k16, .int (nI ls), .int (nI ap), .int (bz bd), .int (nI sq), .ref k21, .ref k22, .ref k23, .ref k24, .ref k25, .int (bz pd), .int (nI pl), .int (bz tk), kv, .ref k30, .ref k31, .int (nI tz), .ref k33, .int (nI rs), .int sd])), (k1, .inl (cI, 7, .inl (nIf ki))), (k2, .inl (cI, 7, .inl (nIf op))), (k3, .inl (cI, 7, .inl (nIf (shF sh)))), (k4, .inl (cI, 7, .inl (nIf fa))), (k6, .inl (cI, 6, .inl (nIf K))), (k7, .inl (cI, 6, .inl (nIf G))), (k8, .inl (cI, 6, .inl (nIf T))), (k12, .inl (cI, 7, .inl (nIf kw))), (k13, .inl (cI, 175, .inl (nIf kn))), (k14, .inl (cI, 144, .inl (mIf M))), (k15, .inl (cI, 7, .inl (nIf mw))), (k10, .inl (cI, 7, .inl (nIf R)))]
      have hn_h := hi_49
      refine v_if_ne 36 30 zC dX5_speak_27 (fun z => absurd (by decide +kernel) z) (fun _ => ?_)
      refine v_al_n 31 zC dX5_speak_30 0 rfl ?_
      refine v_ic (v := (-1)) 32 zC dX5_speak_31 (by decide +kernel) ?_
      refine v_cV (As := [.int (-1)]) (st := []) 35 0 [0, 12] zC dX5_speak_32 hA (c_X5_refuse (ev_l E) (ev_D E) cI (r0 := r0) (k1 := k1) (k2 := k2) (k3 := k3) (k4 := k4) (k6 := k6) (k7 := k7) (k8 := k8) (k10 := k10) (k12 := k12) (k13 := k13) (k14 := k14) (k15 := k15) (k16 := k16) (k21 := k21) (k22 := k22) (k23 := k23) (k24 := k24) (k25 := k25) (k30 := k30) (k31 := k31) (k33 := k33) (n := n) (m := m) (aw := 0) (ls := ls) (ap := ap) (sq := sq) (pl := pl) (tz := tz) (rs := rs) (bd := bd) (pd := pd) (tk := tk) (kv := kv) (sd := sd) (R := R) (v := (-1)) (j := 1) (hv := (by first | omega | assumption | rfl | (simp only []; omega) | decide)) (h1 := (by first | omega | assumption | rfl | (simp only []; omega) | decide)) (h6 := (by first | omega | assumption | rfl | (simp only []; omega) | decide))) cf_X5_refuse lk_X5_129 rfl rfl rfl rfl rfl (by decide +kernel) (Nat.le_of_ble_eq_true rfl) (fun rv_55 wv_56 hp_57 hm_58 => ?_)
      clear hm_58
      obtain ⟨rfl, rfl⟩ := hp_57
      show VV E 0 0 35 [(0, .ref r0), (1, .int (nI jp)), (2, .int h)] [.int (-1)] [(r0, .inr (5, [.int (nI n), .ref k1, .ref k2, .ref k3, .ref k4, .int (nI m), .ref k6, .ref k7, .ref k8, .int (nI 0), .ref k10, .int (nI 0), .ref k12, .ref k13, .ref k14, .ref k15, .ref k16, .int (nI ls), .int (nI ap), .int (bz bd), .int (nI sq), .ref k21, .ref k22, .ref k23, .ref k24, .ref k25, .int (bz pd), .int (nI pl), .int (bz tk), kv, .ref k30, .ref k31, .int (nI tz), .ref k33, .int (nI rs), .int sd])), (k1, .inl (cI, 7, .inl (nIf ki))), (k2, .inl (cI, 7, .inl (nIf op))), (k3, .inl (cI, 7, .inl (nIf (shF sh)))), (k4, .inl (cI, 7, .inl (nIf fa))), (k6, .inl (cI, 6, .inl (nIf K))), (k7, .inl (cI, 6, .inl (nIf G))), (k8, .inl (cI, 6, .inl (nIf T))), (k12, .inl (cI, 7, .inl (nIf kw))), (k13, .inl (cI, 175, .inl (nIf kn))), (k14, .inl (cI, 144, .inl (mIf M))), (k15, .inl (cI, 7, .inl (nIf mw))), (k10, .inl (cI, 7, .inl (nIf (un R 1 (R 1 + 1)))))]
      refine v_iret zC zT dX5_speak_35  ?_
      first | (have g9 := hn_p; exact ⟨kw, kn, M, mw, 1, _, by unfold q_speak; rw [if_neg hm_p, hn_p], hkw, hkn, hM, rfl, rfl⟩) | (have g9 := And.intro hone9 hn_h; exact ⟨kw, kn, M, mw, 1, _, by unfold q_speak; rw [if_pos rfl, hn_h], hkw, hkn, hM, rfl, rfl⟩) | (have g9 := And.intro hi_p hn_h; exact ⟨kw, kn, M, mw, 1, _, by unfold q_speak; rw [if_neg hnm, hi_p]; dsimp only; rw [hn_h], hkw, hkn, hM, rfl, rfl⟩) | exact ⟨_, _, _, _, 0, _, by unfold q_speak; first | (have g9 := hone9; rw [if_pos rfl, hi_h]; done) | (rw [if_neg hnm, hi_p]; dsimp only; rw [hi_h]), hR9.2.2.2.1, hR9.2.2.2.2.1, hR9.2.2.2.2.2, rfl, rfl⟩
    ·
      show VV E 0 0 27 [(0, .ref r0), (1, .int (nI jp)), (2, .int h)] [.int (nI 1)] [(r0, .inr (5, [.int (nI n), .ref k1, .ref k2, .ref k3, .ref k4, .int (nI m), .ref k6, .ref k7, .ref k8, .int (nI 0), .ref k10, .int (nI 0), .ref k12, .ref k13, .ref k14, .ref k15, .ref k16, .int (nI ls), .int (nI ap), .int (bz bd), .int (nI sq), .ref k21, .ref k22, .ref k23, .ref k24, .ref k25, .int (bz pd), .int (nI pl), .int (bz tk), kv, .ref k30, .ref k31, .int (nI tz), .ref k33, .int (nI rs), .int sd])), (k1, .inl (cI, 7, .inl (nIf ki))), (k2, .inl (cI, 7, .inl (nIf op))), (k3, .inl (cI, 7, .inl (nIf (shF sh)))), (k4, .inl (cI, 7, .inl (nIf fa))), (k6, .inl (cI, 6, .inl (nIf K))), (k7, .inl (cI, 6, .inl (nIf G))), (k8, .inl (cI, 6, .inl (nIf T))), (k12, .inl (cI, 7, .inl (nIf kw))), (k13, .inl (cI, 175, .inl (nIf kn))), (k14, .inl (cI, 144, .inl (mIf M))), (k15, .inl (cI, 7, .inl (nIf mw))), (k10, .inl (cI, 7, .inl (nIf R)))]
      subst he_51
      have hi_h := hi_52
      obtain ⟨jh, hx_jh⟩ : ∃ z, z = j_50 := ⟨_, rfl⟩
      subst hx_jh
      refine v_if_ne 36 30 zC dX5_speak_27 (fun _ => ?_) (fun z => absurd z (by decide +kernel))
      refine v_al_n 37 zC dX5_speak_36 0 rfl ?_
      refine v_cV (As := []) (st := []) 40 0 [0, 1, 2, 3, 4, 5, 6, 7, 8, 9, 10, 11] zC dX5_speak_37 hA (c_X5_day (ev_l E) (ev_D E) cI (r0 := r0) (k1 := k1) (k2 := k2) (k3 := k3) (k4 := k4) (k6 := k6) (k7 := k7) (k8 := k8) (k10 := k10) (k12 := k12) (k13 := k13) (k14 := k14) (k15 := k15) (k16 := k16) (k21 := k21) (k22 := k22) (k23 := k23) (k24 := k24) (k25 := k25) (k30 := k30) (k31 := k31) (k33 := k33) (n := n) (m := m) (aw := 0) (ls := ls) (ap := ap) (sq := sq) (pl := pl) (tz := tz) (rs := rs) (bd := bd) (pd := pd) (tk := tk) (kv := kv) (sd := sd) (ki := ki) (op := op) (fa := fa) (K := K) (G := G) (T := T) (sh := sh) (kw := kw) (kn := kn) (M := M) (mw := mw) (hw := (by first | omega | assumption | rfl | (simp only []; omega) | decide)) (hkw := (by first | omega | assumption | rfl | (simp only []; omega) | decide)) (hkn := (by first | omega | assumption | rfl | (simp only []; omega) | decide)) (hM := (by first | omega | assumption | rfl | (simp only []; omega) | decide))) cf_X5_day lk_X5_123 rfl rfl rfl rfl rfl (by decide +kernel) (Nat.le_of_ble_eq_true rfl) (fun rv_60 wv_61 hp_62 hm_63 => ?_)
      clear hm_63
      obtain ⟨kw1_64, kn1_65, M1_66, mw1_67, hR_68, rfl, rfl⟩ := hp_62
      show VV E 0 0 40 [(0, .ref r0), (1, .int (nI jp)), (2, .int (nI jh))] [] [(r0, .inr (5, [.int (nI n), .ref k1, .ref k2, .ref k3, .ref k4, .int (nI m), .ref k6, .ref k7, .ref k8, .int (nI 0), .ref k10, .int (nI 0), .ref k12, .ref k13, .ref k14, .ref k15, .ref k16, .int (nI ls), .int (nI ap), .int (bz bd), .int (nI sq), .ref k21, .ref k22, .ref k23, .ref k24, .ref k25, .int (bz pd), .int (nI pl), .int (bz tk), kv, .ref k30, .ref k31, .int (nI tz), .ref k33, .int (nI rs), .int sd])), (k1, .inl (cI, 7, .inl (nIf ki))), (k2, .inl (cI, 7, .inl (nIf op))), (k3, .inl (cI, 7, .inl (nIf (shF sh)))), (k4, .inl (cI, 7, .inl (nIf fa))), (k6, .inl (cI, 6, .inl (nIf K))), (k7, .inl (cI, 6, .inl (nIf G))), (k8, .inl (cI, 6, .inl (nIf T))), (k12, .inl (cI, 7, .inl (nIf kw1_64))), (k13, .inl (cI, 175, .inl (nIf kn1_65))), (k14, .inl (cI, 144, .inl (mIf M1_66))), (k15, .inl (cI, 7, .inl (nIf mw1_67))), (k10, .inl (cI, 7, .inl (nIf R)))]
      have hR9 := hR_68
      refine v_il_n 41 zC dX5_speak_40 1 rfl ?_
      refine v_ifn_ge 56 44 zC dX5_speak_41 (fun _ => ?_) (fun z => absurd z (Nat.not_lt_zero _))
      refine v_al_n 57 zC dX5_speak_56 0 rfl ?_
      refine v_il_n 58 zC dX5_speak_57 1 rfl ?_
      refine v_il_n 59 zC dX5_speak_58 2 rfl ?_
      refine v_cV (As := [.int (nI jp), .int (nI jh)]) (st := []) 62 0 [0, 10] zC dX5_speak_59 hA (c_X5_speakers__B (ev_l E) (ev_D E) cI (r0 := r0) (k1 := k1) (k2 := k2) (k3 := k3) (k4 := k4) (k6 := k6) (k7 := k7) (k8 := k8) (k10 := k10) (k12 := k12) (k13 := k13) (k14 := k14) (k15 := k15) (k16 := k16) (k21 := k21) (k22 := k22) (k23 := k23) (k24 := k24) (k25 := k25) (k30 := k30) (k31 := k31) (k33 := k33) (n := n) (m := m) (aw := 0) (ls := ls) (ap := ap) (sq := sq) (pl := pl) (tz := tz) (rs := rs) (bd := bd) (pd := pd) (tk := tk) (kv := kv) (sd := sd) (ki := ki) (op := op) (fa := fa) (K := K) (G := G) (T := T) (sh := sh) (kw := kw1_64) (kn := kn1_65) (M := M1_66) (p := jp) (h := jh) (hn := (by first | omega | assumption | rfl | (simp only []; omega) | decide)) (hm := (by first | omega | assumption | rfl | (simp only []; omega) | decide)) (hR := hR9) (hp := (by first | omega | assumption | rfl | (simp only []; omega) | decide)) (hh := (by first | omega | assumption | rfl | (simp only []; omega) | decide))) cf_X5_speakers lk_X5_233 rfl rfl rfl rfl rfl (by decide +kernel) (Nat.le_of_ble_eq_true rfl) (fun rv_70 wv_71 hp_72 hm_73 => ?_)
      clear hm_73
      obtain ⟨rfl, rfl⟩ := hp_72
      show VV E 0 0 62 [(0, .ref r0), (1, .int (nI jp)), (2, .int (nI jh))] [.int (nI (SPT (n, m, sh, 0, ki, op, fa, K, G, T) jp jh))] [(r0, .inr (5, [.int (nI n), .ref k1, .ref k2, .ref k3, .ref k4, .int (nI m), .ref k6, .ref k7, .ref k8, .int (nI 0), .ref k10, .int (nI 0), .ref k12, .ref k13, .ref k14, .ref k15, .ref k16, .int (nI ls), .int (nI ap), .int (bz bd), .int (nI sq), .ref k21, .ref k22, .ref k23, .ref k24, .ref k25, .int (bz pd), .int (nI pl), .int (bz tk), kv, .ref k30, .ref k31, .int (nI tz), .ref k33, .int (nI rs), .int sd])), (k1, .inl (cI, 7, .inl (nIf ki))), (k2, .inl (cI, 7, .inl (nIf op))), (k3, .inl (cI, 7, .inl (nIf (shF sh)))), (k4, .inl (cI, 7, .inl (nIf fa))), (k6, .inl (cI, 6, .inl (nIf K))), (k7, .inl (cI, 6, .inl (nIf G))), (k8, .inl (cI, 6, .inl (nIf T))), (k12, .inl (cI, 7, .inl (nIf kw1_64))), (k13, .inl (cI, 175, .inl (nIf kn1_65))), (k14, .inl (cI, 144, .inl (mIf M1_66))), (k15, .inl (cI, 7, .inl (nIf mw1_67))), (k10, .inl (cI, 7, .inl (nIf R)))]
      refine v_iret zC zT dX5_speak_62  ?_
      first | (have g9 := hn_p; exact ⟨kw, kn, M, mw, 1, _, by unfold q_speak; rw [if_neg hm_p, hn_p], hkw, hkn, hM, rfl, rfl⟩) | (have g9 := And.intro hone9 hn_h; exact ⟨kw, kn, M, mw, 1, _, by unfold q_speak; rw [if_pos rfl, hn_h], hkw, hkn, hM, rfl, rfl⟩) | (have g9 := And.intro hi_p hn_h; exact ⟨kw, kn, M, mw, 1, _, by unfold q_speak; rw [if_neg hnm, hi_p]; dsimp only; rw [hn_h], hkw, hkn, hM, rfl, rfl⟩) | exact ⟨_, _, _, _, 0, _, by unfold q_speak; first | (have g9 := hone9; rw [if_pos rfl, hi_h]; done) | (rw [if_neg hnm, hi_p]; dsimp only; rw [hi_h]), hR9.2.2.2.1, hR9.2.2.2.2.1, hR9.2.2.2.2.2, rfl, rfl⟩
set_option maxRecDepth 100000 in
set_option maxHeartbeats 4000000 in
theorem c_X5_two (l : Launch) (D : va_G) (cI : ClassId) (r0 k1 k2 k3 k4 k6 k7 k8 k10 k12 k13 k14 k15 k16 k21 k22 k23 k24 k25 k30 k31 k33 : Nat) (n m ls ap sq pl tz rs : Nat) (bd pd tk : Bool) (kv : Value) (sd : Int32) (ki op fa K G T : Nat → Nat) (sh : Nat) (kw kn : Nat → Nat) (M : Nat → Option Nat) (mw : Nat → Nat) (R : Nat → Nat) (w : Int32) (hw : FW n m sh ki op fa K G T) (hkw : ∀ z, kw z < 1024) (hkn : ∀ z, kn z < 1024) (hM : ∀ z v, M z = some v → v < 7) : CT l yX5_two cX5_two 7 (some .int) { frames := 6, cells := 0, slots := 0, locals := 138 } D cI [.ref r0, .int w] [(r0, .inr (5, [.int (nI n), .ref k1, .ref k2, .ref k3, .ref k4, .int (nI m), .ref k6, .ref k7, .ref k8, .int (nI 0), .ref k10, .int (nI 0), .ref k12, .ref k13, .ref k14, .ref k15, .ref k16, .int (nI ls), .int (nI ap), .int (bz bd), .int (nI sq), .ref k21, .ref k22, .ref k23, .ref k24, .ref k25, .int (bz pd), .int (nI pl), .int (bz tk), kv, .ref k30, .ref k31, .int (nI tz), .ref k33, .int (nI rs), .int sd])), (k1, .inl (cI, 7, .inl (nIf ki))), (k2, .inl (cI, 7, .inl (nIf op))), (k3, .inl (cI, 7, .inl (nIf (shF sh)))), (k4, .inl (cI, 7, .inl (nIf fa))), (k6, .inl (cI, 6, .inl (nIf K))), (k7, .inl (cI, 6, .inl (nIf G))), (k8, .inl (cI, 6, .inl (nIf T))), (k12, .inl (cI, 7, .inl (nIf kw))), (k13, .inl (cI, 175, .inl (nIf kn))), (k14, .inl (cI, 144, .inl (mIf M))), (k15, .inl (cI, 7, .inl (nIf mw))), (k10, .inl (cI, 7, .inl (nIf R)))] (fun zr zw => (∃ kw1 : Nat → Nat, ∃ kn1 : Nat → Nat, ∃ M1 : Nat → Option Nat, ∃ mw1 : Nat → Nat, ∃ rc : Nat, ∃ rv : Int32, (q_two (n, m, sh, 0, ki, op, fa, K, G, T) w = (rc, rv)) ∧ (∀ z, kw1 z < 1024) ∧ (∀ z, kn1 z < 1024) ∧ (∀ z v, M1 z = some v → v < 7) ∧ zr = some (.int rv) ∧ zw = [(r0, .inr (5, [.int (nI n), .ref k1, .ref k2, .ref k3, .ref k4, .int (nI m), .ref k6, .ref k7, .ref k8, .int (nI 0), .ref k10, .int (nI 0), .ref k12, .ref k13, .ref k14, .ref k15, .ref k16, .int (nI ls), .int (nI ap), .int (bz bd), .int (nI sq), .ref k21, .ref k22, .ref k23, .ref k24, .ref k25, .int (bz pd), .int (nI pl), .int (bz tk), kv, .ref k30, .ref k31, .int (nI tz), .ref k33, .int (nI rs), .int sd])), (k1, .inl (cI, 7, .inl (nIf ki))), (k2, .inl (cI, 7, .inl (nIf op))), (k3, .inl (cI, 7, .inl (nIf (shF sh)))), (k4, .inl (cI, 7, .inl (nIf fa))), (k6, .inl (cI, 6, .inl (nIf K))), (k7, .inl (cI, 6, .inl (nIf G))), (k8, .inl (cI, 6, .inl (nIf T))), (k12, .inl (cI, 7, .inl (nIf kw1))), (k13, .inl (cI, 175, .inl (nIf kn1))), (k14, .inl (cI, 144, .inl (mIf M1))), (k15, .inl (cI, 7, .inl (nIf mw1))), (k10, .inl (cI, 7, .inl (nIf (rf R rc))))])) := by
  refine CT_of RX5 rfl (by decide +kernel) (Nat.le_of_ble_eq_true rfl) (fun E hnE zC zT => ?_)
  have hA : ∀ q, (ev_s E).heap.size ≤ q → ev_A E q := fun q h => by rw [zT.2]; exact Or.inr h
  obtain ⟨hn, hm, hsh, hki, hop, hfa, hK, hG, hT, vki, vop, vfa, vK, vG, vT⟩ := id hw
  show VV E 0 0 0 [(0, .ref r0), (1, .int w)] [] [(r0, .inr (5, [.int (nI n), .ref k1, .ref k2, .ref k3, .ref k4, .int (nI m), .ref k6, .ref k7, .ref k8, .int (nI 0), .ref k10, .int (nI 0), .ref k12, .ref k13, .ref k14, .ref k15, .ref k16, .int (nI ls), .int (nI ap), .int (bz bd), .int (nI sq), .ref k21, .ref k22, .ref k23, .ref k24, .ref k25, .int (bz pd), .int (nI pl), .int (bz tk), kv, .ref k30, .ref k31, .int (nI tz), .ref k33, .int (nI rs), .int sd])), (k1, .inl (cI, 7, .inl (nIf ki))), (k2, .inl (cI, 7, .inl (nIf op))), (k3, .inl (cI, 7, .inl (nIf (shF sh)))), (k4, .inl (cI, 7, .inl (nIf fa))), (k6, .inl (cI, 6, .inl (nIf K))), (k7, .inl (cI, 6, .inl (nIf G))), (k8, .inl (cI, 6, .inl (nIf T))), (k12, .inl (cI, 7, .inl (nIf kw))), (k13, .inl (cI, 175, .inl (nIf kn))), (k14, .inl (cI, 144, .inl (mIf M))), (k15, .inl (cI, 7, .inl (nIf mw))), (k10, .inl (cI, 7, .inl (nIf R)))]
  refine v_al_n 1 zC dX5_two_0 0 rfl ?_
  refine v_ic (v := (nI 0)) 2 zC dX5_two_1 (by decide +kernel) ?_
  refine v_pf (ws2 := [(r0, .inr (5, [.int (nI n), .ref k1, .ref k2, .ref k3, .ref k4, .int (nI m), .ref k6, .ref k7, .ref k8, .int (nI 0), .ref k10, .int (nI 0), .ref k12, .ref k13, .ref k14, .ref k15, .ref k16, .int (nI ls), .int (nI ap), .int (bz bd), .int (nI sq), .ref k21, .ref k22, .ref k23, .ref k24, .ref k25, .int (bz pd), .int (nI pl), .int (bz tk), kv, .ref k30, .ref k31, .int (nI tz), .ref k33, .int (nI rs), .int sd])), (k1, .inl (cI, 7, .inl (nIf ki))), (k2, .inl (cI, 7, .inl (nIf op))), (k3, .inl (cI, 7, .inl (nIf (shF sh)))), (k4, .inl (cI, 7, .inl (nIf fa))), (k6, .inl (cI, 6, .inl (nIf K))), (k7, .inl (cI, 6, .inl (nIf G))), (k8, .inl (cI, 6, .inl (nIf T))), (k12, .inl (cI, 7, .inl (nIf kw))), (k13, .inl (cI, 175, .inl (nIf kn))), (k14, .inl (cI, 144, .inl (mIf M))), (k15, .inl (cI, 7, .inl (nIf mw))), (k10, .inl (cI, 7, .inl (nIf R)))]) 5 0 zC dX5_two_2 pf_X5_73 rfl (Nat.le_of_ble_eq_true rfl) rfl rfl rfl ?_
  refine v_il_n 6 zC dX5_two_5 1 rfl ?_
  refine v_i2l (v := (Int32.toInt64 w)) 7 zC dX5_two_6 rfl ?_
  refine v_lc (v := lN 0) 8 zC dX5_two_7 (by decide +kernel) ?_
  refine v_lc (v := lN 1) 9 zC dX5_two_8 (by decide +kernel) ?_
  refine v_cS (As := [.long (Int32.toInt64 w), .long (lN 0), .long (lN 1)]) (st := []) 12 [] zC dX5_two_9 hA (c_X5_in (ev_l E) (ev_D E) cI (x := (Int32.toInt64 w)) (y := (lN 0)) (z := (lN 1)) ) cf_X5_in lk_X5_80 rfl rfl rfl (by decide +kernel) (Nat.le_of_ble_eq_true rfl) (fun rv_1 wv_2 hp_3 hm_4 => ?_)
  clear hm_4
  obtain ⟨rfl, rfl⟩ := hp_3
  show VV E 0 0 12 [(0, .ref r0), (1, .int w)] [.int (bz (inB (Int32.toInt64 w) (lN 0) (lN 1)))] [(r0, .inr (5, [.int (nI n), .ref k1, .ref k2, .ref k3, .ref k4, .int (nI m), .ref k6, .ref k7, .ref k8, .int (nI 0), .ref k10, .int (nI 0), .ref k12, .ref k13, .ref k14, .ref k15, .ref k16, .int (nI ls), .int (nI ap), .int (bz bd), .int (nI sq), .ref k21, .ref k22, .ref k23, .ref k24, .ref k25, .int (bz pd), .int (nI pl), .int (bz tk), kv, .ref k30, .ref k31, .int (nI tz), .ref k33, .int (nI rs), .int sd])), (k1, .inl (cI, 7, .inl (nIf ki))), (k2, .inl (cI, 7, .inl (nIf op))), (k3, .inl (cI, 7, .inl (nIf (shF sh)))), (k4, .inl (cI, 7, .inl (nIf fa))), (k6, .inl (cI, 6, .inl (nIf K))), (k7, .inl (cI, 6, .inl (nIf G))), (k8, .inl (cI, 6, .inl (nIf T))), (k12, .inl (cI, 7, .inl (nIf kw))), (k13, .inl (cI, 175, .inl (nIf kn))), (k14, .inl (cI, 144, .inl (mIf M))), (k15, .inl (cI, 7, .inl (nIf mw))), (k10, .inl (cI, 7, .inl (nIf R)))]
  rcases in_ix1 (N := 2) (p := w) (show 1 < 2 ^ 29 by decide) rfl with ⟨e9, b9⟩ | ⟨jw, e9, i9, l9, b9⟩
  ·
    rw [b9]
    have hn_w := e9
    refine v_ifb_ne 22 15 zC dX5_two_12 (fun z => absurd z (by decide)) (fun _ => ?_)
    refine v_al_n 16 zC dX5_two_15 0 rfl ?_
    refine v_bp (v := (-2)) 18 zC dX5_two_16 (by decide +kernel) ?_
    refine v_cV (As := [.int (-2)]) (st := []) 21 0 [0, 12] zC dX5_two_18 hA (c_X5_refuse (ev_l E) (ev_D E) cI (r0 := r0) (k1 := k1) (k2 := k2) (k3 := k3) (k4 := k4) (k6 := k6) (k7 := k7) (k8 := k8) (k10 := k10) (k12 := k12) (k13 := k13) (k14 := k14) (k15 := k15) (k16 := k16) (k21 := k21) (k22 := k22) (k23 := k23) (k24 := k24) (k25 := k25) (k30 := k30) (k31 := k31) (k33 := k33) (n := n) (m := m) (aw := 0) (ls := ls) (ap := ap) (sq := sq) (pl := pl) (tz := tz) (rs := rs) (bd := bd) (pd := pd) (tk := tk) (kv := kv) (sd := sd) (R := R) (v := (-2)) (j := 2) (hv := (by first | omega | assumption | rfl | (simp only []; omega) | decide)) (h1 := (by first | omega | assumption | rfl | (simp only []; omega) | decide)) (h6 := (by first | omega | assumption | rfl | (simp only []; omega) | decide))) cf_X5_refuse lk_X5_129 rfl rfl rfl rfl rfl (by decide +kernel) (Nat.le_of_ble_eq_true rfl) (fun rv_6 wv_7 hp_8 hm_9 => ?_)
    clear hm_9
    obtain ⟨rfl, rfl⟩ := hp_8
    show VV E 0 0 21 [(0, .ref r0), (1, .int w)] [.int (-2)] [(r0, .inr (5, [.int (nI n), .ref k1, .ref k2, .ref k3, .ref k4, .int (nI m), .ref k6, .ref k7, .ref k8, .int (nI 0), .ref k10, .int (nI 0), .ref k12, .ref k13, .ref k14, .ref k15, .ref k16, .int (nI ls), .int (nI ap), .int (bz bd), .int (nI sq), .ref k21, .ref k22, .ref k23, .ref k24, .ref k25, .int (bz pd), .int (nI pl), .int (bz tk), kv, .ref k30, .ref k31, .int (nI tz), .ref k33, .int (nI rs), .int sd])), (k1, .inl (cI, 7, .inl (nIf ki))), (k2, .inl (cI, 7, .inl (nIf op))), (k3, .inl (cI, 7, .inl (nIf (shF sh)))), (k4, .inl (cI, 7, .inl (nIf fa))), (k6, .inl (cI, 6, .inl (nIf K))), (k7, .inl (cI, 6, .inl (nIf G))), (k8, .inl (cI, 6, .inl (nIf T))), (k12, .inl (cI, 7, .inl (nIf kw))), (k13, .inl (cI, 175, .inl (nIf kn))), (k14, .inl (cI, 144, .inl (mIf M))), (k15, .inl (cI, 7, .inl (nIf mw))), (k10, .inl (cI, 7, .inl (nIf (un R 2 (R 2 + 1)))))]
    refine v_iret zC zT dX5_two_21  ?_
    first | (have g9 := hn_w; exact ⟨kw, kn, M, mw, 2, _, by unfold q_two; rw [hn_w], hkw, hkn, hM, rfl, rfl⟩) | exact ⟨_, _, _, _, 0, _, by unfold q_two; rw [hi_w]; dsimp only; rw [show (24 : Nat) = h by omega]; first | rw [if_pos (by assumption), hBe] | rw [if_neg (by assumption), hx], hR9.2.2.2.1, hR9.2.2.2.2.1, hR9.2.2.2.2.2, rfl, rfl⟩
  ·
    rw [b9]
    subst e9
    have hi_w := i9
    have hl_w := l9
    refine v_ifb_ne 22 15 zC dX5_two_12 (fun _ => ?_) (fun z => absurd z (by decide))
    refine v_al_n 23 zC dX5_two_22 0 rfl ?_
    refine v_cV (As := []) (st := []) 26 0 [0, 1, 2, 3, 4, 5, 6, 7, 8, 9, 10, 11] zC dX5_two_23 hA (c_X5_day (ev_l E) (ev_D E) cI (r0 := r0) (k1 := k1) (k2 := k2) (k3 := k3) (k4 := k4) (k6 := k6) (k7 := k7) (k8 := k8) (k10 := k10) (k12 := k12) (k13 := k13) (k14 := k14) (k15 := k15) (k16 := k16) (k21 := k21) (k22 := k22) (k23 := k23) (k24 := k24) (k25 := k25) (k30 := k30) (k31 := k31) (k33 := k33) (n := n) (m := m) (aw := 0) (ls := ls) (ap := ap) (sq := sq) (pl := pl) (tz := tz) (rs := rs) (bd := bd) (pd := pd) (tk := tk) (kv := kv) (sd := sd) (ki := ki) (op := op) (fa := fa) (K := K) (G := G) (T := T) (sh := sh) (kw := kw) (kn := kn) (M := M) (mw := mw) (hw := (by first | omega | assumption | rfl | (simp only []; omega) | decide)) (hkw := (by first | omega | assumption | rfl | (simp only []; omega) | decide)) (hkn := (by first | omega | assumption | rfl | (simp only []; omega) | decide)) (hM := (by first | omega | assumption | rfl | (simp only []; omega) | decide))) cf_X5_day lk_X5_123 rfl rfl rfl rfl rfl (by decide +kernel) (Nat.le_of_ble_eq_true rfl) (fun rv_11 wv_12 hp_13 hm_14 => ?_)
    clear hm_14
    obtain ⟨kw1_15, kn1_16, M1_17, mw1_18, hR_19, rfl, rfl⟩ := hp_13
    show VV E 0 0 26 [(0, .ref r0), (1, .int (nI jw))] [] [(r0, .inr (5, [.int (nI n), .ref k1, .ref k2, .ref k3, .ref k4, .int (nI m), .ref k6, .ref k7, .ref k8, .int (nI 0), .ref k10, .int (nI 0), .ref k12, .ref k13, .ref k14, .ref k15, .ref k16, .int (nI ls), .int (nI ap), .int (bz bd), .int (nI sq), .ref k21, .ref k22, .ref k23, .ref k24, .ref k25, .int (bz pd), .int (nI pl), .int (bz tk), kv, .ref k30, .ref k31, .int (nI tz), .ref k33, .int (nI rs), .int sd])), (k1, .inl (cI, 7, .inl (nIf ki))), (k2, .inl (cI, 7, .inl (nIf op))), (k3, .inl (cI, 7, .inl (nIf (shF sh)))), (k4, .inl (cI, 7, .inl (nIf fa))), (k6, .inl (cI, 6, .inl (nIf K))), (k7, .inl (cI, 6, .inl (nIf G))), (k8, .inl (cI, 6, .inl (nIf T))), (k12, .inl (cI, 7, .inl (nIf kw1_15))), (k13, .inl (cI, 175, .inl (nIf kn1_16))), (k14, .inl (cI, 144, .inl (mIf M1_17))), (k15, .inl (cI, 7, .inl (nIf mw1_18))), (k10, .inl (cI, 7, .inl (nIf R)))]
    have hR9 := hR_19
    refine v_bp (v := (-9)) 28 zC dX5_two_26 (by decide +kernel) ?_
    refine v_is_n (lv2 := [(2, .int (-9)), (0, .ref r0), (1, .int (nI jw))]) 29 zC dX5_two_28 (by rw [hnE]; decide) rfl ?_
    refine v_ic (v := (nI 0)) 30 zC dX5_two_29 (by decide +kernel) ?_
    refine v_is_n (lv2 := [(3, .int (nI 0)), (2, .int (-9)), (0, .ref r0), (1, .int (nI jw))]) 31 zC dX5_two_30 (by rw [hnE]; decide) rfl ?_
    refine v_ic (v := (nI 0)) 32 zC dX5_two_31 (by decide +kernel) ?_
    refine v_is (lv2 := [(4, .int (nI 0)), (3, .int (nI 0)), (2, .int (-9)), (0, .ref r0), (1, .int (nI jw))]) 34 zC dX5_two_32 (by rw [hnE]; decide) rfl ?_
    have lp34 : ∀ (mz : Nat) (B : Option Nat) (x : Nat) (h : Nat), (B = fs (TWOB (n, m, sh, 0, ki, op, fa, K, G, T)) h) → (x = ctn (TWOB (n, m, sh, 0, ki, op, fa, K, G, T)) h) → (h ≤ 24) → 24 - h = mz → VV E 0 0 34 [(4, .int (nI h)), (3, .int (nI x)), (2, .int (mI B)), (0, .ref r0), (1, .int (nI jw))] [] [(r0, .inr (5, [.int (nI n), .ref k1, .ref k2, .ref k3, .ref k4, .int (nI m), .ref k6, .ref k7, .ref k8, .int (nI 0), .ref k10, .int (nI 0), .ref k12, .ref k13, .ref k14, .ref k15, .ref k16, .int (nI ls), .int (nI ap), .int (bz bd), .int (nI sq), .ref k21, .ref k22, .ref k23, .ref k24, .ref k25, .int (bz pd), .int (nI pl), .int (bz tk), kv, .ref k30, .ref k31, .int (nI tz), .ref k33, .int (nI rs), .int sd])), (k1, .inl (cI, 7, .inl (nIf ki))), (k2, .inl (cI, 7, .inl (nIf op))), (k3, .inl (cI, 7, .inl (nIf (shF sh)))), (k4, .inl (cI, 7, .inl (nIf fa))), (k6, .inl (cI, 6, .inl (nIf K))), (k7, .inl (cI, 6, .inl (nIf G))), (k8, .inl (cI, 6, .inl (nIf T))), (k12, .inl (cI, 7, .inl (nIf kw1_15))), (k13, .inl (cI, 175, .inl (nIf kn1_16))), (k14, .inl (cI, 144, .inl (mIf M1_17))), (k15, .inl (cI, 7, .inl (nIf mw1_18))), (k10, .inl (cI, 7, .inl (nIf R)))] := by
      intro mz
      induction mz using Nat.strongRecOn with
      | _ mz ih34 =>
      intro B x h hBe hx hh hm34
      refine v_il 36 zC dX5_two_34 0 rfl ?_
      refine v_bp (v := (nI 24)) 38 zC dX5_two_36 (by decide +kernel) ?_
      refine v_icmpn_ge 124 41 zC dX5_two_38 (fun h_20 => ?_) (fun h_20 => ?_)
      ·
        refine v_il_n 125 zC dX5_two_124 4 rfl ?_
        refine v_ifn_ne 132 128 zC dX5_two_125 (fun h_21 => ?_) (fun h_21 => ?_)
        ·
          refine v_il_n 133 zC dX5_two_132 1 rfl ?_
          refine v_iret zC zT dX5_two_133  ?_
          first | (have g9 := hn_w; exact ⟨kw, kn, M, mw, 2, _, by unfold q_two; rw [hn_w], hkw, hkn, hM, rfl, rfl⟩) | exact ⟨_, _, _, _, 0, _, by unfold q_two; rw [hi_w]; dsimp only; rw [show (24 : Nat) = h by omega]; first | rw [if_pos (by assumption), hBe] | rw [if_neg (by assumption), hx], hR9.2.2.2.1, hR9.2.2.2.2.1, hR9.2.2.2.2.2, rfl, rfl⟩
        ·
          refine v_il_n 129 zC dX5_two_128 2 rfl ?_
          refine v_goto 133 zC dX5_two_129 ?_
          refine v_iret zC zT dX5_two_133  ?_
          first | (have g9 := hn_w; exact ⟨kw, kn, M, mw, 2, _, by unfold q_two; rw [hn_w], hkw, hkn, hM, rfl, rfl⟩) | exact ⟨_, _, _, _, 0, _, by unfold q_two; rw [hi_w]; dsimp only; rw [show (24 : Nat) = h by omega]; first | rw [if_pos (by assumption), hBe] | rw [if_neg (by assumption), hx], hR9.2.2.2.1, hR9.2.2.2.2.1, hR9.2.2.2.2.2, rfl, rfl⟩
      ·
        refine v_ic (v := (nI 0)) 42 zC dX5_two_41 (by decide +kernel) ?_
        refine v_is (lv2 := [(5, .int (nI 0)), (4, .int (nI h)), (3, .int (nI x)), (2, .int (mI B)), (0, .ref r0), (1, .int (nI jw))]) 44 zC dX5_two_42 (by rw [hnE]; decide) rfl ?_
        refine v_ic (v := (nI 0)) 45 zC dX5_two_44 (by decide +kernel) ?_
        refine v_is (lv2 := [(6, .int (nI 0)), (5, .int (nI 0)), (4, .int (nI h)), (3, .int (nI x)), (2, .int (mI B)), (0, .ref r0), (1, .int (nI jw))]) 47 zC dX5_two_45 (by rw [hnE]; decide) rfl ?_
        have lp47 : ∀ (mz : Nat) (u : Bool) (p : Nat), (u = anb (fun p => decide (2 ≤ pcn (SPT (n, m, sh, 0, ki, op, fa, K, G, T) p h))) p) → (p ≤ n) → n - p = mz → VV E 0 0 47 [(6, .int (nI p)), (5, .int (bz u)), (4, .int (nI h)), (3, .int (nI x)), (2, .int (mI B)), (0, .ref r0), (1, .int (nI jw))] [] [(r0, .inr (5, [.int (nI n), .ref k1, .ref k2, .ref k3, .ref k4, .int (nI m), .ref k6, .ref k7, .ref k8, .int (nI 0), .ref k10, .int (nI 0), .ref k12, .ref k13, .ref k14, .ref k15, .ref k16, .int (nI ls), .int (nI ap), .int (bz bd), .int (nI sq), .ref k21, .ref k22, .ref k23, .ref k24, .ref k25, .int (bz pd), .int (nI pl), .int (bz tk), kv, .ref k30, .ref k31, .int (nI tz), .ref k33, .int (nI rs), .int sd])), (k1, .inl (cI, 7, .inl (nIf ki))), (k2, .inl (cI, 7, .inl (nIf op))), (k3, .inl (cI, 7, .inl (nIf (shF sh)))), (k4, .inl (cI, 7, .inl (nIf fa))), (k6, .inl (cI, 6, .inl (nIf K))), (k7, .inl (cI, 6, .inl (nIf G))), (k8, .inl (cI, 6, .inl (nIf T))), (k12, .inl (cI, 7, .inl (nIf kw1_15))), (k13, .inl (cI, 175, .inl (nIf kn1_16))), (k14, .inl (cI, 144, .inl (mIf M1_17))), (k15, .inl (cI, 7, .inl (nIf mw1_18))), (k10, .inl (cI, 7, .inl (nIf R)))] := by
          intro mz
          induction mz using Nat.strongRecOn with
          | _ mz ih47 =>
          intro u p hu hp hm47
          refine v_il 49 zC dX5_two_47 0 rfl ?_
          refine v_al_n 50 zC dX5_two_49 5 rfl ?_
          refine v_gf 53 0 zC dX5_two_50 gf_X5_77 rfl rfl ?_
          refine v_icmpn_ge 89 56 zC dX5_two_53 (fun h_22 => ?_) (fun h_22 => ?_)
          ·
            refine v_il 91 zC dX5_two_89 1 rfl ?_
            have hw9 : u = TWOB (n, m, sh, 0, ki, op, fa, K, G, T) h := by rw [hu, show p = n by omega]; rfl
            refine v_ifb_eq 103 94 zC dX5_two_91 (fun h_23 => ?_) (fun h_23 => ?_)
            ·
              subst h_23
              refine v_il_n 104 zC dX5_two_103 4 rfl ?_
              refine v_is_n (lv2 := [(2, .int (mI B)), (6, .int (nI p)), (5, .int (bz false)), (4, .int (nI h)), (3, .int (nI x)), (0, .ref r0), (1, .int (nI jw))]) 105 zC dX5_two_104 (by rw [hnE]; decide) rfl ?_
              refine v_il_n 106 zC dX5_two_105 4 rfl ?_
              refine v_il 108 zC dX5_two_106 2 rfl ?_
              refine v_ifb_eq 115 111 zC dX5_two_108 (fun _ => ?_) (fun z => absurd z (by decide))
              refine v_ic (v := (nI 0)) 116 zC dX5_two_115 (by decide +kernel) ?_
              refine v_iadd (v := (nI x)) 117 zC dX5_two_116 (nI_add _ 0) ?_
              refine v_is_n (lv2 := [(3, .int (nI x)), (2, .int (mI B)), (6, .int (nI p)), (5, .int (bz false)), (4, .int (nI h)), (0, .ref r0), (1, .int (nI jw))]) 118 zC dX5_two_117 (by rw [hnE]; decide) rfl ?_
              refine v_inc (v := (nI (h + 1))) (lv2 := [(4, .int (nI (h + 1))), (3, .int (nI x)), (2, .int (mI B)), (6, .int (nI p)), (5, .int (bz false)), (0, .ref r0), (1, .int (nI jw))]) 121 zC dX5_two_118 (j := 4) rfl (nI_add _ 1) (by rw [hnE]; decide) rfl ?_
              refine v_goto 34 zC dX5_two_121 ?_
              refine v_lvs (lv2 := [(4, .int (nI (h + 1))), (3, .int (nI x)), (2, .int (mI B)), (0, .ref r0), (1, .int (nI jw))]) [0, 1, 2, 5, 6] rfl ?_
              exact ih34 _ (by omega) B x (h + 1) (by first | exact fs_k hBe (by assumption) | exact fs_u hBe (by assumption) hw9.symm | exact fs_v hBe hw9.symm) (by first | (rw [hx]; exact (ctn_1 hw9.symm).symm) | (rw [hx]; exact (ctn_0 hw9.symm).symm)) (by first | omega | assumption | rfl | (simp only []; omega) | decide) rfl
            ·
              subst h_23
              refine v_il_n 95 zC dX5_two_94 4 rfl ?_
              refine v_ifo_ge 103 98 zC dX5_two_95 (fun v e => Nat.lt_trans (fs_lt (hBe ▸ e)).1 (by omega)) (fun h_25 => ?_) (fun h_25 => ?_)
              ·
                refine v_il_n 104 zC dX5_two_103 4 rfl ?_
                refine v_is_n (lv2 := [(2, .int (mI B)), (6, .int (nI p)), (5, .int (bz true)), (4, .int (nI h)), (3, .int (nI x)), (0, .ref r0), (1, .int (nI jw))]) 105 zC dX5_two_104 (by rw [hnE]; decide) rfl ?_
                refine v_il_n 106 zC dX5_two_105 4 rfl ?_
                refine v_il 108 zC dX5_two_106 2 rfl ?_
                refine v_ifb_eq 115 111 zC dX5_two_108 (fun z => absurd z (by decide)) (fun _ => ?_)
                refine v_ic (v := (nI 1)) 112 zC dX5_two_111 (by decide +kernel) ?_
                refine v_goto 116 zC dX5_two_112 ?_
                refine v_iadd (v := (nI (x + 1))) 117 zC dX5_two_116 (nI_add _ _) ?_
                refine v_is_n (lv2 := [(3, .int (nI (x + 1))), (2, .int (mI B)), (6, .int (nI p)), (5, .int (bz true)), (4, .int (nI h)), (0, .ref r0), (1, .int (nI jw))]) 118 zC dX5_two_117 (by rw [hnE]; decide) rfl ?_
                refine v_inc (v := (nI (h + 1))) (lv2 := [(4, .int (nI (h + 1))), (3, .int (nI (x + 1))), (2, .int (mI B)), (6, .int (nI p)), (5, .int (bz true)), (0, .ref r0), (1, .int (nI jw))]) 121 zC dX5_two_118 (j := 4) rfl (nI_add _ 1) (by rw [hnE]; decide) rfl ?_
                refine v_goto 34 zC dX5_two_121 ?_
                refine v_lvs (lv2 := [(4, .int (nI (h + 1))), (3, .int (nI (x + 1))), (2, .int (mI B)), (0, .ref r0), (1, .int (nI jw))]) [0, 1, 2, 5, 6] rfl ?_
                exact ih34 _ (by omega) B (x + 1) (h + 1) (by first | exact fs_k hBe (by assumption) | exact fs_u hBe (by assumption) hw9.symm | exact fs_v hBe hw9.symm) (by first | (rw [hx]; exact (ctn_1 hw9.symm).symm) | (rw [hx]; exact (ctn_0 hw9.symm).symm)) (by first | omega | assumption | rfl | (simp only []; omega) | decide) rfl
              ·
                refine v_il 100 zC dX5_two_98 2 rfl ?_
                refine v_goto 104 zC dX5_two_100 ?_
                refine v_is_n (lv2 := [(2, .int (nI h)), (6, .int (nI p)), (5, .int (bz true)), (4, .int (nI h)), (3, .int (nI x)), (0, .ref r0), (1, .int (nI jw))]) 105 zC dX5_two_104 (by rw [hnE]; decide) rfl ?_
                refine v_il_n 106 zC dX5_two_105 4 rfl ?_
                refine v_il 108 zC dX5_two_106 2 rfl ?_
                refine v_ifb_eq 115 111 zC dX5_two_108 (fun z => absurd z (by decide)) (fun _ => ?_)
                refine v_ic (v := (nI 1)) 112 zC dX5_two_111 (by decide +kernel) ?_
                refine v_goto 116 zC dX5_two_112 ?_
                refine v_iadd (v := (nI (x + 1))) 117 zC dX5_two_116 (nI_add _ _) ?_
                refine v_is_n (lv2 := [(3, .int (nI (x + 1))), (2, .int (nI h)), (6, .int (nI p)), (5, .int (bz true)), (4, .int (nI h)), (0, .ref r0), (1, .int (nI jw))]) 118 zC dX5_two_117 (by rw [hnE]; decide) rfl ?_
                refine v_inc (v := (nI (h + 1))) (lv2 := [(4, .int (nI (h + 1))), (3, .int (nI (x + 1))), (2, .int (nI h)), (6, .int (nI p)), (5, .int (bz true)), (0, .ref r0), (1, .int (nI jw))]) 121 zC dX5_two_118 (j := 4) rfl (nI_add _ 1) (by rw [hnE]; decide) rfl ?_
                refine v_goto 34 zC dX5_two_121 ?_
                refine v_lvs (lv2 := [(4, .int (nI (h + 1))), (3, .int (nI (x + 1))), (2, .int (mI (some h))), (0, .ref r0), (1, .int (nI jw))]) [0, 1, 2, 5, 6] rfl ?_
                exact ih34 _ (by omega) (some h) (x + 1) (h + 1) (by first | exact fs_k hBe (by assumption) | exact fs_u hBe (by assumption) hw9.symm | exact fs_v hBe hw9.symm) (by first | (rw [hx]; exact (ctn_1 hw9.symm).symm) | (rw [hx]; exact (ctn_0 hw9.symm).symm)) (by first | omega | assumption | rfl | (simp only []; omega) | decide) rfl
          ·
            refine v_il 58 zC dX5_two_56 1 rfl ?_
            refine v_ifb_ne 76 61 zC dX5_two_58 (fun h_28 => ?_) (fun h_28 => ?_)
            ·
              subst h_28
              refine v_ic (v := (nI 1)) 77 zC dX5_two_76 (by decide +kernel) ?_
              refine v_goto 81 zC dX5_two_77 ?_
              refine v_is (lv2 := [(5, .int (nI 1)), (6, .int (nI p)), (4, .int (nI h)), (3, .int (nI x)), (2, .int (mI B)), (0, .ref r0), (1, .int (nI jw))]) 83 zC dX5_two_81 (by rw [hnE]; decide) rfl ?_
              refine v_inc (v := (nI (p + 1))) (lv2 := [(6, .int (nI (p + 1))), (5, .int (nI 1)), (4, .int (nI h)), (3, .int (nI x)), (2, .int (mI B)), (0, .ref r0), (1, .int (nI jw))]) 86 zC dX5_two_83 (j := 1) rfl (nI_add _ 1) (by rw [hnE]; decide) rfl ?_
              refine v_goto 47 zC dX5_two_86 ?_
              refine v_lvs (lv2 := [(6, .int (nI (p + 1))), (5, .int (bz true)), (4, .int (nI h)), (3, .int (nI x)), (2, .int (mI B)), (0, .ref r0), (1, .int (nI jw))]) [0, 1, 2, 3, 4, 5, 6] rfl ?_
              exact ih47 _ (by omega) true (p + 1) (by first | exact anb_k hu | exact anb_y hs9 | exact anb_z hu hs9) (by first | omega | assumption | rfl | (simp only []; omega) | decide) rfl
            ·
              subst h_28
              refine v_al_n 62 zC dX5_two_61 5 rfl ?_
              refine v_il 64 zC dX5_two_62 0 rfl ?_
              refine v_il 66 zC dX5_two_64 2 rfl ?_
              refine v_cV (As := [.int (nI p), .int (nI h)]) (st := []) 69 0 [0, 10] zC dX5_two_66 hA (c_X5_speakers__B (ev_l E) (ev_D E) cI (r0 := r0) (k1 := k1) (k2 := k2) (k3 := k3) (k4 := k4) (k6 := k6) (k7 := k7) (k8 := k8) (k10 := k10) (k12 := k12) (k13 := k13) (k14 := k14) (k15 := k15) (k16 := k16) (k21 := k21) (k22 := k22) (k23 := k23) (k24 := k24) (k25 := k25) (k30 := k30) (k31 := k31) (k33 := k33) (n := n) (m := m) (aw := 0) (ls := ls) (ap := ap) (sq := sq) (pl := pl) (tz := tz) (rs := rs) (bd := bd) (pd := pd) (tk := tk) (kv := kv) (sd := sd) (ki := ki) (op := op) (fa := fa) (K := K) (G := G) (T := T) (sh := sh) (kw := kw1_15) (kn := kn1_16) (M := M1_17) (p := p) (h := h) (hn := (by first | omega | assumption | rfl | (simp only []; omega) | decide)) (hm := (by first | omega | assumption | rfl | (simp only []; omega) | decide)) (hR := hR9) (hp := (by first | omega | assumption | rfl | (simp only []; omega) | decide)) (hh := (by first | omega | assumption | rfl | (simp only []; omega) | decide))) cf_X5_speakers lk_X5_233 rfl rfl rfl rfl rfl (by decide +kernel) (Nat.le_of_ble_eq_true rfl) (fun rv_29 wv_30 hp_31 hm_32 => ?_)
              clear hm_32
              obtain ⟨rfl, rfl⟩ := hp_31
              show VV E 0 0 69 [(6, .int (nI p)), (5, .int (bz false)), (4, .int (nI h)), (3, .int (nI x)), (2, .int (mI B)), (0, .ref r0), (1, .int (nI jw))] [.int (nI (SPT (n, m, sh, 0, ki, op, fa, K, G, T) p h))] [(r0, .inr (5, [.int (nI n), .ref k1, .ref k2, .ref k3, .ref k4, .int (nI m), .ref k6, .ref k7, .ref k8, .int (nI 0), .ref k10, .int (nI 0), .ref k12, .ref k13, .ref k14, .ref k15, .ref k16, .int (nI ls), .int (nI ap), .int (bz bd), .int (nI sq), .ref k21, .ref k22, .ref k23, .ref k24, .ref k25, .int (bz pd), .int (nI pl), .int (bz tk), kv, .ref k30, .ref k31, .int (nI tz), .ref k33, .int (nI rs), .int sd])), (k1, .inl (cI, 7, .inl (nIf ki))), (k2, .inl (cI, 7, .inl (nIf op))), (k3, .inl (cI, 7, .inl (nIf (shF sh)))), (k4, .inl (cI, 7, .inl (nIf fa))), (k6, .inl (cI, 6, .inl (nIf K))), (k7, .inl (cI, 6, .inl (nIf G))), (k8, .inl (cI, 6, .inl (nIf T))), (k12, .inl (cI, 7, .inl (nIf kw1_15))), (k13, .inl (cI, 175, .inl (nIf kn1_16))), (k14, .inl (cI, 144, .inl (mIf M1_17))), (k15, .inl (cI, 7, .inl (nIf mw1_18))), (k10, .inl (cI, 7, .inl (nIf R)))]
              refine v_cS (As := [.int (nI (SPT (n, m, sh, 0, ki, op, fa, K, G, T) p h))]) (st := []) 72 [] zC dX5_two_69 hA (c_X5_onesOf (ev_l E) (ev_D E) cI (x := (SPT (n, m, sh, 0, ki, op, fa, K, G, T) p h)) (hx := (Nat.lt_of_lt_of_le (m := 2 ^ m) (mkn_lt _ _) (Nat.pow_le_pow_right (by decide) (Nat.le_trans hm (by decide)))))) cf_X5_onesOf lk_X5_120 rfl rfl rfl (by decide +kernel) (Nat.le_of_ble_eq_true rfl) (fun rv_33 wv_34 hp_35 hm_36 => ?_)
              clear hm_36
              obtain ⟨rfl, rfl⟩ := hp_35
              show VV E 0 0 72 [(6, .int (nI p)), (5, .int (bz false)), (4, .int (nI h)), (3, .int (nI x)), (2, .int (mI B)), (0, .ref r0), (1, .int (nI jw))] [.int (nI (pcn (SPT (n, m, sh, 0, ki, op, fa, K, G, T) p h)))] [(r0, .inr (5, [.int (nI n), .ref k1, .ref k2, .ref k3, .ref k4, .int (nI m), .ref k6, .ref k7, .ref k8, .int (nI 0), .ref k10, .int (nI 0), .ref k12, .ref k13, .ref k14, .ref k15, .ref k16, .int (nI ls), .int (nI ap), .int (bz bd), .int (nI sq), .ref k21, .ref k22, .ref k23, .ref k24, .ref k25, .int (bz pd), .int (nI pl), .int (bz tk), kv, .ref k30, .ref k31, .int (nI tz), .ref k33, .int (nI rs), .int sd])), (k1, .inl (cI, 7, .inl (nIf ki))), (k2, .inl (cI, 7, .inl (nIf op))), (k3, .inl (cI, 7, .inl (nIf (shF sh)))), (k4, .inl (cI, 7, .inl (nIf fa))), (k6, .inl (cI, 6, .inl (nIf K))), (k7, .inl (cI, 6, .inl (nIf G))), (k8, .inl (cI, 6, .inl (nIf T))), (k12, .inl (cI, 7, .inl (nIf kw1_15))), (k13, .inl (cI, 175, .inl (nIf kn1_16))), (k14, .inl (cI, 144, .inl (mIf M1_17))), (k15, .inl (cI, 7, .inl (nIf mw1_18))), (k10, .inl (cI, 7, .inl (nIf R)))]
              have hc9 : pcn (SPT (n, m, sh, 0, ki, op, fa, K, G, T) p h) ≤ m := pcn_k m _ (mkn_lt _ _)
              refine v_ic (v := (nI 1)) 73 zC dX5_two_72 (by decide +kernel) ?_
              refine v_icmpn_le 80 76 zC dX5_two_73 (fun h_37 => ?_) (fun h_37 => ?_)
              ·
                have hs9 : (fun p => decide (2 ≤ pcn (SPT (n, m, sh, 0, ki, op, fa, K, G, T) p h))) p = false := decide_eq_false (by omega)
                refine v_ic (v := (nI 0)) 81 zC dX5_two_80 (by decide +kernel) ?_
                refine v_is (lv2 := [(5, .int (nI 0)), (6, .int (nI p)), (4, .int (nI h)), (3, .int (nI x)), (2, .int (mI B)), (0, .ref r0), (1, .int (nI jw))]) 83 zC dX5_two_81 (by rw [hnE]; decide) rfl ?_
                refine v_inc (v := (nI (p + 1))) (lv2 := [(6, .int (nI (p + 1))), (5, .int (nI 0)), (4, .int (nI h)), (3, .int (nI x)), (2, .int (mI B)), (0, .ref r0), (1, .int (nI jw))]) 86 zC dX5_two_83 (j := 1) rfl (nI_add _ 1) (by rw [hnE]; decide) rfl ?_
                refine v_goto 47 zC dX5_two_86 ?_
                refine v_lvs (lv2 := [(6, .int (nI (p + 1))), (5, .int (bz false)), (4, .int (nI h)), (3, .int (nI x)), (2, .int (mI B)), (0, .ref r0), (1, .int (nI jw))]) [0, 1, 2, 3, 4, 5, 6] rfl ?_
                exact ih47 _ (by omega) false (p + 1) (by first | exact anb_k hu | exact anb_y hs9 | exact anb_z hu hs9) (by first | omega | assumption | rfl | (simp only []; omega) | decide) rfl
              ·
                have hs9 : (fun p => decide (2 ≤ pcn (SPT (n, m, sh, 0, ki, op, fa, K, G, T) p h))) p = true := decide_eq_true (by omega)
                refine v_ic (v := (nI 1)) 77 zC dX5_two_76 (by decide +kernel) ?_
                refine v_goto 81 zC dX5_two_77 ?_
                refine v_is (lv2 := [(5, .int (nI 1)), (6, .int (nI p)), (4, .int (nI h)), (3, .int (nI x)), (2, .int (mI B)), (0, .ref r0), (1, .int (nI jw))]) 83 zC dX5_two_81 (by rw [hnE]; decide) rfl ?_
                refine v_inc (v := (nI (p + 1))) (lv2 := [(6, .int (nI (p + 1))), (5, .int (nI 1)), (4, .int (nI h)), (3, .int (nI x)), (2, .int (mI B)), (0, .ref r0), (1, .int (nI jw))]) 86 zC dX5_two_83 (j := 1) rfl (nI_add _ 1) (by rw [hnE]; decide) rfl ?_
                refine v_goto 47 zC dX5_two_86 ?_
                refine v_lvs (lv2 := [(6, .int (nI (p + 1))), (5, .int (bz true)), (4, .int (nI h)), (3, .int (nI x)), (2, .int (mI B)), (0, .ref r0), (1, .int (nI jw))]) [0, 1, 2, 3, 4, 5, 6] rfl ?_
                exact ih47 _ (by omega) true (p + 1) (by first | exact anb_k hu | exact anb_y hs9 | exact anb_z hu hs9) (by first | omega | assumption | rfl | (simp only []; omega) | decide) rfl
        refine v_lvs (lv2 := [(6, .int (nI 0)), (5, .int (bz false)), (4, .int (nI h)), (3, .int (nI x)), (2, .int (mI B)), (0, .ref r0), (1, .int (nI jw))]) [0, 1, 2, 3, 4, 5, 6] rfl ?_
        exact lp47 _ false 0 rfl (by first | omega | assumption | rfl | (simp only []; omega) | decide) rfl
    refine v_lvs (lv2 := [(4, .int (nI 0)), (3, .int (nI 0)), (2, .int (mI none)), (0, .ref r0), (1, .int (nI jw))]) [0, 1, 2, 3, 4] rfl ?_
    exact lp34 _ none 0 0 rfl rfl (by first | omega | assumption | rfl | (simp only []; omega) | decide) rfl
set_option maxRecDepth 100000 in
set_option maxHeartbeats 4000000 in
theorem c_X5_heard (l : Launch) (D : va_G) (cI : ClassId) (r0 k1 k2 k3 k4 k6 k7 k8 k10 k12 k13 k14 k15 k16 k21 k22 k23 k24 k25 k30 k31 k33 : Nat) (n m ls ap sq pl tz rs : Nat) (bd pd tk : Bool) (kv : Value) (sd : Int32) (ki op fa K G T : Nat → Nat) (sh : Nat) (kw kn : Nat → Nat) (M : Nat → Option Nat) (mw : Nat → Nat) (R : Nat → Nat) (p f : Int32) (hw : FW n m sh ki op fa K G T) (hkw : ∀ z, kw z < 1024) (hkn : ∀ z, kn z < 1024) (hM : ∀ z v, M z = some v → v < 7) : CT l yX5_heard cX5_heard 3 (some .int) { frames := 6, cells := 0, slots := 0, locals := 138 } D cI [.ref r0, .int p, .int f] [(r0, .inr (5, [.int (nI n), .ref k1, .ref k2, .ref k3, .ref k4, .int (nI m), .ref k6, .ref k7, .ref k8, .int (nI 0), .ref k10, .int (nI 0), .ref k12, .ref k13, .ref k14, .ref k15, .ref k16, .int (nI ls), .int (nI ap), .int (bz bd), .int (nI sq), .ref k21, .ref k22, .ref k23, .ref k24, .ref k25, .int (bz pd), .int (nI pl), .int (bz tk), kv, .ref k30, .ref k31, .int (nI tz), .ref k33, .int (nI rs), .int sd])), (k1, .inl (cI, 7, .inl (nIf ki))), (k2, .inl (cI, 7, .inl (nIf op))), (k3, .inl (cI, 7, .inl (nIf (shF sh)))), (k4, .inl (cI, 7, .inl (nIf fa))), (k6, .inl (cI, 6, .inl (nIf K))), (k7, .inl (cI, 6, .inl (nIf G))), (k8, .inl (cI, 6, .inl (nIf T))), (k12, .inl (cI, 7, .inl (nIf kw))), (k13, .inl (cI, 175, .inl (nIf kn))), (k14, .inl (cI, 144, .inl (mIf M))), (k15, .inl (cI, 7, .inl (nIf mw))), (k10, .inl (cI, 7, .inl (nIf R)))] (fun zr zw => (∃ kw1 : Nat → Nat, ∃ kn1 : Nat → Nat, ∃ M1 : Nat → Option Nat, ∃ mw1 : Nat → Nat, ∃ rc : Nat, ∃ rv : Int32, (q_heard (n, m, sh, 0, ki, op, fa, K, G, T) p f = (rc, rv)) ∧ (∀ z, kw1 z < 1024) ∧ (∀ z, kn1 z < 1024) ∧ (∀ z v, M1 z = some v → v < 7) ∧ zr = some (.int rv) ∧ zw = [(r0, .inr (5, [.int (nI n), .ref k1, .ref k2, .ref k3, .ref k4, .int (nI m), .ref k6, .ref k7, .ref k8, .int (nI 0), .ref k10, .int (nI 0), .ref k12, .ref k13, .ref k14, .ref k15, .ref k16, .int (nI ls), .int (nI ap), .int (bz bd), .int (nI sq), .ref k21, .ref k22, .ref k23, .ref k24, .ref k25, .int (bz pd), .int (nI pl), .int (bz tk), kv, .ref k30, .ref k31, .int (nI tz), .ref k33, .int (nI rs), .int sd])), (k1, .inl (cI, 7, .inl (nIf ki))), (k2, .inl (cI, 7, .inl (nIf op))), (k3, .inl (cI, 7, .inl (nIf (shF sh)))), (k4, .inl (cI, 7, .inl (nIf fa))), (k6, .inl (cI, 6, .inl (nIf K))), (k7, .inl (cI, 6, .inl (nIf G))), (k8, .inl (cI, 6, .inl (nIf T))), (k12, .inl (cI, 7, .inl (nIf kw1))), (k13, .inl (cI, 175, .inl (nIf kn1))), (k14, .inl (cI, 144, .inl (mIf M1))), (k15, .inl (cI, 7, .inl (nIf mw1))), (k10, .inl (cI, 7, .inl (nIf (rf R rc))))])) := by
  refine CT_of RX5 rfl (by decide +kernel) (Nat.le_of_ble_eq_true rfl) (fun E hnE zC zT => ?_)
  have hA : ∀ q, (ev_s E).heap.size ≤ q → ev_A E q := fun q h => by rw [zT.2]; exact Or.inr h
  obtain ⟨hn, hm, hsh, hki, hop, hfa, hK, hG, hT, vki, vop, vfa, vK, vG, vT⟩ := id hw
  show VV E 0 0 0 [(0, .ref r0), (1, .int p), (2, .int f)] [] [(r0, .inr (5, [.int (nI n), .ref k1, .ref k2, .ref k3, .ref k4, .int (nI m), .ref k6, .ref k7, .ref k8, .int (nI 0), .ref k10, .int (nI 0), .ref k12, .ref k13, .ref k14, .ref k15, .ref k16, .int (nI ls), .int (nI ap), .int (bz bd), .int (nI sq), .ref k21, .ref k22, .ref k23, .ref k24, .ref k25, .int (bz pd), .int (nI pl), .int (bz tk), kv, .ref k30, .ref k31, .int (nI tz), .ref k33, .int (nI rs), .int sd])), (k1, .inl (cI, 7, .inl (nIf ki))), (k2, .inl (cI, 7, .inl (nIf op))), (k3, .inl (cI, 7, .inl (nIf (shF sh)))), (k4, .inl (cI, 7, .inl (nIf fa))), (k6, .inl (cI, 6, .inl (nIf K))), (k7, .inl (cI, 6, .inl (nIf G))), (k8, .inl (cI, 6, .inl (nIf T))), (k12, .inl (cI, 7, .inl (nIf kw))), (k13, .inl (cI, 175, .inl (nIf kn))), (k14, .inl (cI, 144, .inl (mIf M))), (k15, .inl (cI, 7, .inl (nIf mw))), (k10, .inl (cI, 7, .inl (nIf R)))]
  refine v_al_n 1 zC dX5_heard_0 0 rfl ?_
  refine v_ic (v := (nI 0)) 2 zC dX5_heard_1 (by decide +kernel) ?_
  refine v_pf (ws2 := [(r0, .inr (5, [.int (nI n), .ref k1, .ref k2, .ref k3, .ref k4, .int (nI m), .ref k6, .ref k7, .ref k8, .int (nI 0), .ref k10, .int (nI 0), .ref k12, .ref k13, .ref k14, .ref k15, .ref k16, .int (nI ls), .int (nI ap), .int (bz bd), .int (nI sq), .ref k21, .ref k22, .ref k23, .ref k24, .ref k25, .int (bz pd), .int (nI pl), .int (bz tk), kv, .ref k30, .ref k31, .int (nI tz), .ref k33, .int (nI rs), .int sd])), (k1, .inl (cI, 7, .inl (nIf ki))), (k2, .inl (cI, 7, .inl (nIf op))), (k3, .inl (cI, 7, .inl (nIf (shF sh)))), (k4, .inl (cI, 7, .inl (nIf fa))), (k6, .inl (cI, 6, .inl (nIf K))), (k7, .inl (cI, 6, .inl (nIf G))), (k8, .inl (cI, 6, .inl (nIf T))), (k12, .inl (cI, 7, .inl (nIf kw))), (k13, .inl (cI, 175, .inl (nIf kn))), (k14, .inl (cI, 144, .inl (mIf M))), (k15, .inl (cI, 7, .inl (nIf mw))), (k10, .inl (cI, 7, .inl (nIf R)))]) 5 0 zC dX5_heard_2 pf_X5_73 rfl (Nat.le_of_ble_eq_true rfl) rfl rfl rfl ?_
  refine v_al_n 6 zC dX5_heard_5 0 rfl ?_
  refine v_il_n 7 zC dX5_heard_6 1 rfl ?_
  refine v_cV (As := [.int p]) (st := []) 10 0 [0] zC dX5_heard_7 hA (c_X5_isOne (ev_l E) (ev_D E) cI (r0 := r0) (k1 := k1) (k2 := k2) (k3 := k3) (k4 := k4) (k6 := k6) (k7 := k7) (k8 := k8) (k10 := k10) (k12 := k12) (k13 := k13) (k14 := k14) (k15 := k15) (k16 := k16) (k21 := k21) (k22 := k22) (k23 := k23) (k24 := k24) (k25 := k25) (k30 := k30) (k31 := k31) (k33 := k33) (n := n) (m := m) (aw := 0) (ls := ls) (ap := ap) (sq := sq) (pl := pl) (tz := tz) (rs := rs) (bd := bd) (pd := pd) (tk := tk) (kv := kv) (sd := sd) (p := p) (hn := (by first | omega | assumption | rfl | (simp only []; omega) | decide))) cf_X5_isOne lk_X5_164 rfl rfl rfl rfl rfl (by decide +kernel) (Nat.le_of_ble_eq_true rfl) (fun rv_1 wv_2 hp_3 hm_4 => ?_)
  clear hm_4
  rcases hp_3 with ⟨hi_5, rfl, rfl⟩ | ⟨j_6, he_7, hi_8, hj_9, rfl, rfl⟩
  ·
    show VV E 0 0 10 [(0, .ref r0), (1, .int p), (2, .int f)] [.int (nI 0)] [(r0, .inr (5, [.int (nI n), .ref k1, .ref k2, .ref k3, .ref k4, .int (nI m), .ref k6, .ref k7, .ref k8, .int (nI 0), .ref k10, .int (nI 0), .ref k12, .ref k13, .ref k14, .ref k15, .ref k16, .int (nI ls), .int (nI ap), .int (bz bd), .int (nI sq), .ref k21, .ref k22, .ref k23, .ref k24, .ref k25, .int (bz pd), .int (nI pl), .int (bz tk), kv, .ref k30, .ref k31, .int (nI tz), .ref k33, .int (nI rs), .int sd])), (k1, .inl (cI, 7, .inl (nIf ki))), (k2, .inl (cI, 7, .inl (nIf op))), (k3, .inl (cI, 7, .inl (nIf (shF sh)))), (k4, .inl (cI, 7, .inl (nIf fa))), (k6, .inl (cI, 6, .inl (nIf K))), (k7, .inl (cI, 6, .inl (nIf G))), (k8, .inl (cI, 6, .inl (nIf T))), (k12, .inl (cI, 7, .inl (nIf kw))), (k13, .inl (cI, 175, .inl (nIf kn))), (k14, .inl (cI, 144, .inl (mIf M))), (k15, .inl (cI, 7, .inl (nIf mw))), (k10, .inl (cI, 7, .inl (nIf R)))]
    have hn_p := hi_5
    refine v_if_eq 20 13 zC dX5_heard_10 (fun _ => ?_) (fun z => absurd (by decide +kernel) z)
    refine v_al_n 21 zC dX5_heard_20 0 rfl ?_
    refine v_ic (v := (-1)) 22 zC dX5_heard_21 (by decide +kernel) ?_
    refine v_cV (As := [.int (-1)]) (st := []) 25 0 [0, 12] zC dX5_heard_22 hA (c_X5_refuse (ev_l E) (ev_D E) cI (r0 := r0) (k1 := k1) (k2 := k2) (k3 := k3) (k4 := k4) (k6 := k6) (k7 := k7) (k8 := k8) (k10 := k10) (k12 := k12) (k13 := k13) (k14 := k14) (k15 := k15) (k16 := k16) (k21 := k21) (k22 := k22) (k23 := k23) (k24 := k24) (k25 := k25) (k30 := k30) (k31 := k31) (k33 := k33) (n := n) (m := m) (aw := 0) (ls := ls) (ap := ap) (sq := sq) (pl := pl) (tz := tz) (rs := rs) (bd := bd) (pd := pd) (tk := tk) (kv := kv) (sd := sd) (R := R) (v := (-1)) (j := 1) (hv := (by first | omega | assumption | rfl | (simp only []; omega) | decide)) (h1 := (by first | omega | assumption | rfl | (simp only []; omega) | decide)) (h6 := (by first | omega | assumption | rfl | (simp only []; omega) | decide))) cf_X5_refuse lk_X5_129 rfl rfl rfl rfl rfl (by decide +kernel) (Nat.le_of_ble_eq_true rfl) (fun rv_11 wv_12 hp_13 hm_14 => ?_)
    clear hm_14
    obtain ⟨rfl, rfl⟩ := hp_13
    show VV E 0 0 25 [(0, .ref r0), (1, .int p), (2, .int f)] [.int (-1)] [(r0, .inr (5, [.int (nI n), .ref k1, .ref k2, .ref k3, .ref k4, .int (nI m), .ref k6, .ref k7, .ref k8, .int (nI 0), .ref k10, .int (nI 0), .ref k12, .ref k13, .ref k14, .ref k15, .ref k16, .int (nI ls), .int (nI ap), .int (bz bd), .int (nI sq), .ref k21, .ref k22, .ref k23, .ref k24, .ref k25, .int (bz pd), .int (nI pl), .int (bz tk), kv, .ref k30, .ref k31, .int (nI tz), .ref k33, .int (nI rs), .int sd])), (k1, .inl (cI, 7, .inl (nIf ki))), (k2, .inl (cI, 7, .inl (nIf op))), (k3, .inl (cI, 7, .inl (nIf (shF sh)))), (k4, .inl (cI, 7, .inl (nIf fa))), (k6, .inl (cI, 6, .inl (nIf K))), (k7, .inl (cI, 6, .inl (nIf G))), (k8, .inl (cI, 6, .inl (nIf T))), (k12, .inl (cI, 7, .inl (nIf kw))), (k13, .inl (cI, 175, .inl (nIf kn))), (k14, .inl (cI, 144, .inl (mIf M))), (k15, .inl (cI, 7, .inl (nIf mw))), (k10, .inl (cI, 7, .inl (nIf (un R 1 (R 1 + 1)))))]
    refine v_iret zC zT dX5_heard_25  ?_
    first | (have g9 := hn_p; exact ⟨kw, kn, M, mw, 1, _, by unfold q_heard; rw [hn_p], hkw, hkn, hM, rfl, rfl⟩) | (have g9 := hn_f; exact ⟨kw, kn, M, mw, 1, _, by unfold q_heard; rw [hi_p]; dsimp only; rw [hn_f], hkw, hkn, hM, rfl, rfl⟩) | exact ⟨_, _, _, _, 0, _, by unfold q_heard; rw [hi_p]; dsimp only; rw [hi_f], hR9.2.2.2.1, hR9.2.2.2.2.1, hR9.2.2.2.2.2, rfl, rfl⟩
  ·
    show VV E 0 0 10 [(0, .ref r0), (1, .int p), (2, .int f)] [.int (nI 1)] [(r0, .inr (5, [.int (nI n), .ref k1, .ref k2, .ref k3, .ref k4, .int (nI m), .ref k6, .ref k7, .ref k8, .int (nI 0), .ref k10, .int (nI 0), .ref k12, .ref k13, .ref k14, .ref k15, .ref k16, .int (nI ls), .int (nI ap), .int (bz bd), .int (nI sq), .ref k21, .ref k22, .ref k23, .ref k24, .ref k25, .int (bz pd), .int (nI pl), .int (bz tk), kv, .ref k30, .ref k31, .int (nI tz), .ref k33, .int (nI rs), .int sd])), (k1, .inl (cI, 7, .inl (nIf ki))), (k2, .inl (cI, 7, .inl (nIf op))), (k3, .inl (cI, 7, .inl (nIf (shF sh)))), (k4, .inl (cI, 7, .inl (nIf fa))), (k6, .inl (cI, 6, .inl (nIf K))), (k7, .inl (cI, 6, .inl (nIf G))), (k8, .inl (cI, 6, .inl (nIf T))), (k12, .inl (cI, 7, .inl (nIf kw))), (k13, .inl (cI, 175, .inl (nIf kn))), (k14, .inl (cI, 144, .inl (mIf M))), (k15, .inl (cI, 7, .inl (nIf mw))), (k10, .inl (cI, 7, .inl (nIf R)))]
    subst he_7
    have hi_p := hi_8
    obtain ⟨jp, hx_jp⟩ : ∃ z, z = j_6 := ⟨_, rfl⟩
    subst hx_jp
    refine v_if_eq 20 13 zC dX5_heard_10 (fun z => absurd z (by decide +kernel)) (fun _ => ?_)
    refine v_il_n 14 zC dX5_heard_13 2 rfl ?_
    refine v_cS (As := [.int f]) (st := []) 17 [] zC dX5_heard_14 hA (c_X5_isFact (ev_l E) (ev_D E) cI (p := f) ) cf_X5_isFact lk_X5_225 rfl rfl rfl (by decide +kernel) (Nat.le_of_ble_eq_true rfl) (fun rv_16 wv_17 hp_18 hm_19 => ?_)
    clear hm_19
    rcases hp_18 with ⟨hi_20, rfl, rfl⟩ | ⟨j_21, he_22, hi_23, hj_24, rfl, rfl⟩
    ·
      show VV E 0 0 17 [(0, .ref r0), (1, .int (nI jp)), (2, .int f)] [.int (nI 0)] [(r0, .inr (5, [.int (nI n), .ref k1, .ref k2, .ref k3, .ref k4, .int (nI m), .ref k6, .ref k7, .ref k8, .int (nI 0), .ref k10, .int (nI 0), .ref k12, .ref k13, .ref k14, .ref k15, .ref k16, .int (nI ls), .int (nI ap), .int (bz bd), .int (nI sq), .ref k21, .ref k22, .ref k23, .ref k24, .ref k25, .int (bz pd), .int (nI pl), .int (bz tk), kv, .ref k30, .ref k31, .int (nI tz), .ref k33, .int (nI rs), .int sd])), (k1, .inl (cI, 7, .inl (nIf ki))), (k2, .inl (cI, 7, .inl (nIf op))), (k3, .inl (cI, 7, .inl (nIf (shF sh)))), (k4, .inl (cI, 7, .inl (nIf fa))), (k6, .inl (cI, 6, .inl (nIf K))), (k7, .inl (cI, 6, .inl (nIf G))), (k8, .inl (cI, 6, .inl (nIf T))), (k12, .inl (cI, 7, .inl (nIf kw))), (k13, .inl (cI, 175, .inl (nIf kn))), (k14, .inl (cI, 144, .inl (mIf M))), (k15, .inl (cI, 7, .inl (nIf mw))), (k10, .inl (cI, 7, .inl (nIf R)))]
      have hn_f := hi_20
      refine v_if_ne 26 20 zC dX5_heard_17 (fun z => absurd (by decide +kernel) z) (fun _ => ?_)
      refine v_al_n 21 zC dX5_heard_20 0 rfl ?_
      refine v_ic (v := (-1)) 22 zC dX5_heard_21 (by decide +kernel) ?_
      refine v_cV (As := [.int (-1)]) (st := []) 25 0 [0, 12] zC dX5_heard_22 hA (c_X5_refuse (ev_l E) (ev_D E) cI (r0 := r0) (k1 := k1) (k2 := k2) (k3 := k3) (k4 := k4) (k6 := k6) (k7 := k7) (k8 := k8) (k10 := k10) (k12 := k12) (k13 := k13) (k14 := k14) (k15 := k15) (k16 := k16) (k21 := k21) (k22 := k22) (k23 := k23) (k24 := k24) (k25 := k25) (k30 := k30) (k31 := k31) (k33 := k33) (n := n) (m := m) (aw := 0) (ls := ls) (ap := ap) (sq := sq) (pl := pl) (tz := tz) (rs := rs) (bd := bd) (pd := pd) (tk := tk) (kv := kv) (sd := sd) (R := R) (v := (-1)) (j := 1) (hv := (by first | omega | assumption | rfl | (simp only []; omega) | decide)) (h1 := (by first | omega | assumption | rfl | (simp only []; omega) | decide)) (h6 := (by first | omega | assumption | rfl | (simp only []; omega) | decide))) cf_X5_refuse lk_X5_129 rfl rfl rfl rfl rfl (by decide +kernel) (Nat.le_of_ble_eq_true rfl) (fun rv_26 wv_27 hp_28 hm_29 => ?_)
      clear hm_29
      obtain ⟨rfl, rfl⟩ := hp_28
      show VV E 0 0 25 [(0, .ref r0), (1, .int (nI jp)), (2, .int f)] [.int (-1)] [(r0, .inr (5, [.int (nI n), .ref k1, .ref k2, .ref k3, .ref k4, .int (nI m), .ref k6, .ref k7, .ref k8, .int (nI 0), .ref k10, .int (nI 0), .ref k12, .ref k13, .ref k14, .ref k15, .ref k16, .int (nI ls), .int (nI ap), .int (bz bd), .int (nI sq), .ref k21, .ref k22, .ref k23, .ref k24, .ref k25, .int (bz pd), .int (nI pl), .int (bz tk), kv, .ref k30, .ref k31, .int (nI tz), .ref k33, .int (nI rs), .int sd])), (k1, .inl (cI, 7, .inl (nIf ki))), (k2, .inl (cI, 7, .inl (nIf op))), (k3, .inl (cI, 7, .inl (nIf (shF sh)))), (k4, .inl (cI, 7, .inl (nIf fa))), (k6, .inl (cI, 6, .inl (nIf K))), (k7, .inl (cI, 6, .inl (nIf G))), (k8, .inl (cI, 6, .inl (nIf T))), (k12, .inl (cI, 7, .inl (nIf kw))), (k13, .inl (cI, 175, .inl (nIf kn))), (k14, .inl (cI, 144, .inl (mIf M))), (k15, .inl (cI, 7, .inl (nIf mw))), (k10, .inl (cI, 7, .inl (nIf (un R 1 (R 1 + 1)))))]
      refine v_iret zC zT dX5_heard_25  ?_
      first | (have g9 := hn_p; exact ⟨kw, kn, M, mw, 1, _, by unfold q_heard; rw [hn_p], hkw, hkn, hM, rfl, rfl⟩) | (have g9 := hn_f; exact ⟨kw, kn, M, mw, 1, _, by unfold q_heard; rw [hi_p]; dsimp only; rw [hn_f], hkw, hkn, hM, rfl, rfl⟩) | exact ⟨_, _, _, _, 0, _, by unfold q_heard; rw [hi_p]; dsimp only; rw [hi_f], hR9.2.2.2.1, hR9.2.2.2.2.1, hR9.2.2.2.2.2, rfl, rfl⟩
    ·
      show VV E 0 0 17 [(0, .ref r0), (1, .int (nI jp)), (2, .int f)] [.int (nI 1)] [(r0, .inr (5, [.int (nI n), .ref k1, .ref k2, .ref k3, .ref k4, .int (nI m), .ref k6, .ref k7, .ref k8, .int (nI 0), .ref k10, .int (nI 0), .ref k12, .ref k13, .ref k14, .ref k15, .ref k16, .int (nI ls), .int (nI ap), .int (bz bd), .int (nI sq), .ref k21, .ref k22, .ref k23, .ref k24, .ref k25, .int (bz pd), .int (nI pl), .int (bz tk), kv, .ref k30, .ref k31, .int (nI tz), .ref k33, .int (nI rs), .int sd])), (k1, .inl (cI, 7, .inl (nIf ki))), (k2, .inl (cI, 7, .inl (nIf op))), (k3, .inl (cI, 7, .inl (nIf (shF sh)))), (k4, .inl (cI, 7, .inl (nIf fa))), (k6, .inl (cI, 6, .inl (nIf K))), (k7, .inl (cI, 6, .inl (nIf G))), (k8, .inl (cI, 6, .inl (nIf T))), (k12, .inl (cI, 7, .inl (nIf kw))), (k13, .inl (cI, 175, .inl (nIf kn))), (k14, .inl (cI, 144, .inl (mIf M))), (k15, .inl (cI, 7, .inl (nIf mw))), (k10, .inl (cI, 7, .inl (nIf R)))]
      subst he_22
      have hi_f := hi_23
      obtain ⟨jf, hx_jf⟩ : ∃ z, z = j_21 := ⟨_, rfl⟩
      subst hx_jf
      refine v_if_ne 26 20 zC dX5_heard_17 (fun _ => ?_) (fun z => absurd z (by decide +kernel))
      refine v_al_n 27 zC dX5_heard_26 0 rfl ?_
      refine v_cV (As := []) (st := []) 30 0 [0, 1, 2, 3, 4, 5, 6, 7, 8, 9, 10, 11] zC dX5_heard_27 hA (c_X5_day (ev_l E) (ev_D E) cI (r0 := r0) (k1 := k1) (k2 := k2) (k3 := k3) (k4 := k4) (k6 := k6) (k7 := k7) (k8 := k8) (k10 := k10) (k12 := k12) (k13 := k13) (k14 := k14) (k15 := k15) (k16 := k16) (k21 := k21) (k22 := k22) (k23 := k23) (k24 := k24) (k25 := k25) (k30 := k30) (k31 := k31) (k33 := k33) (n := n) (m := m) (aw := 0) (ls := ls) (ap := ap) (sq := sq) (pl := pl) (tz := tz) (rs := rs) (bd := bd) (pd := pd) (tk := tk) (kv := kv) (sd := sd) (ki := ki) (op := op) (fa := fa) (K := K) (G := G) (T := T) (sh := sh) (kw := kw) (kn := kn) (M := M) (mw := mw) (hw := (by first | omega | assumption | rfl | (simp only []; omega) | decide)) (hkw := (by first | omega | assumption | rfl | (simp only []; omega) | decide)) (hkn := (by first | omega | assumption | rfl | (simp only []; omega) | decide)) (hM := (by first | omega | assumption | rfl | (simp only []; omega) | decide))) cf_X5_day lk_X5_123 rfl rfl rfl rfl rfl (by decide +kernel) (Nat.le_of_ble_eq_true rfl) (fun rv_31 wv_32 hp_33 hm_34 => ?_)
      clear hm_34
      obtain ⟨kw1_35, kn1_36, M1_37, mw1_38, hR_39, rfl, rfl⟩ := hp_33
      show VV E 0 0 30 [(0, .ref r0), (1, .int (nI jp)), (2, .int (nI jf))] [] [(r0, .inr (5, [.int (nI n), .ref k1, .ref k2, .ref k3, .ref k4, .int (nI m), .ref k6, .ref k7, .ref k8, .int (nI 0), .ref k10, .int (nI 0), .ref k12, .ref k13, .ref k14, .ref k15, .ref k16, .int (nI ls), .int (nI ap), .int (bz bd), .int (nI sq), .ref k21, .ref k22, .ref k23, .ref k24, .ref k25, .int (bz pd), .int (nI pl), .int (bz tk), kv, .ref k30, .ref k31, .int (nI tz), .ref k33, .int (nI rs), .int sd])), (k1, .inl (cI, 7, .inl (nIf ki))), (k2, .inl (cI, 7, .inl (nIf op))), (k3, .inl (cI, 7, .inl (nIf (shF sh)))), (k4, .inl (cI, 7, .inl (nIf fa))), (k6, .inl (cI, 6, .inl (nIf K))), (k7, .inl (cI, 6, .inl (nIf G))), (k8, .inl (cI, 6, .inl (nIf T))), (k12, .inl (cI, 7, .inl (nIf kw1_35))), (k13, .inl (cI, 175, .inl (nIf kn1_36))), (k14, .inl (cI, 144, .inl (mIf M1_37))), (k15, .inl (cI, 7, .inl (nIf mw1_38))), (k10, .inl (cI, 7, .inl (nIf R)))]
      have hR9 := hR_39
      refine v_al_n 31 zC dX5_heard_30 0 rfl ?_
      refine v_il_n 32 zC dX5_heard_31 1 rfl ?_
      refine v_il_n 33 zC dX5_heard_32 2 rfl ?_
      refine v_cV (As := [.int (nI jp), .int (nI jf)]) (st := []) 36 0 [0, 9] zC dX5_heard_33 hA (c_X5_heardAt (ev_l E) (ev_D E) cI (r0 := r0) (k1 := k1) (k2 := k2) (k3 := k3) (k4 := k4) (k6 := k6) (k7 := k7) (k8 := k8) (k10 := k10) (k12 := k12) (k13 := k13) (k14 := k14) (k15 := k15) (k16 := k16) (k21 := k21) (k22 := k22) (k23 := k23) (k24 := k24) (k25 := k25) (k30 := k30) (k31 := k31) (k33 := k33) (n := n) (m := m) (aw := 0) (ls := ls) (ap := ap) (sq := sq) (pl := pl) (tz := tz) (rs := rs) (bd := bd) (pd := pd) (tk := tk) (kv := kv) (sd := sd) (ki := ki) (op := op) (fa := fa) (K := K) (G := G) (T := T) (sh := sh) (kw := kw1_35) (kn := kn1_36) (M := M1_37) (p := jp) (f := jf) (hn := (by first | omega | assumption | rfl | (simp only []; omega) | decide)) (hm := (by first | omega | assumption | rfl | (simp only []; omega) | decide)) (hR := hR9) (hp := (by first | omega | assumption | rfl | (simp only []; omega) | decide)) (hf := (by first | omega | assumption | rfl | (simp only []; omega) | decide))) cf_X5_heardAt lk_X5_236 rfl rfl rfl rfl rfl (by decide +kernel) (Nat.le_of_ble_eq_true rfl) (fun rv_40 wv_41 hp_42 hm_43 => ?_)
      clear hm_43
      obtain ⟨rfl, rfl⟩ := hp_42
      show VV E 0 0 36 [(0, .ref r0), (1, .int (nI jp)), (2, .int (nI jf))] [.int (mI (HEARD (n, m, sh, 0, ki, op, fa, K, G, T) jp jf))] [(r0, .inr (5, [.int (nI n), .ref k1, .ref k2, .ref k3, .ref k4, .int (nI m), .ref k6, .ref k7, .ref k8, .int (nI 0), .ref k10, .int (nI 0), .ref k12, .ref k13, .ref k14, .ref k15, .ref k16, .int (nI ls), .int (nI ap), .int (bz bd), .int (nI sq), .ref k21, .ref k22, .ref k23, .ref k24, .ref k25, .int (bz pd), .int (nI pl), .int (bz tk), kv, .ref k30, .ref k31, .int (nI tz), .ref k33, .int (nI rs), .int sd])), (k1, .inl (cI, 7, .inl (nIf ki))), (k2, .inl (cI, 7, .inl (nIf op))), (k3, .inl (cI, 7, .inl (nIf (shF sh)))), (k4, .inl (cI, 7, .inl (nIf fa))), (k6, .inl (cI, 6, .inl (nIf K))), (k7, .inl (cI, 6, .inl (nIf G))), (k8, .inl (cI, 6, .inl (nIf T))), (k12, .inl (cI, 7, .inl (nIf kw1_35))), (k13, .inl (cI, 175, .inl (nIf kn1_36))), (k14, .inl (cI, 144, .inl (mIf M1_37))), (k15, .inl (cI, 7, .inl (nIf mw1_38))), (k10, .inl (cI, 7, .inl (nIf R)))]
      refine v_iret zC zT dX5_heard_36  ?_
      first | (have g9 := hn_p; exact ⟨kw, kn, M, mw, 1, _, by unfold q_heard; rw [hn_p], hkw, hkn, hM, rfl, rfl⟩) | (have g9 := hn_f; exact ⟨kw, kn, M, mw, 1, _, by unfold q_heard; rw [hi_p]; dsimp only; rw [hn_f], hkw, hkn, hM, rfl, rfl⟩) | exact ⟨_, _, _, _, 0, _, by unfold q_heard; rw [hi_p]; dsimp only; rw [hi_f], hR9.2.2.2.1, hR9.2.2.2.2.1, hR9.2.2.2.2.2, rfl, rfl⟩
set_option maxRecDepth 100000 in
set_option maxHeartbeats 4000000 in
theorem c_X5_spoke (l : Launch) (D : va_G) (cI : ClassId) (r0 k1 k2 k3 k4 k6 k7 k8 k10 k12 k13 k14 k15 k16 k21 k22 k23 k24 k25 k30 k31 k33 : Nat) (n m ls ap sq pl tz rs : Nat) (bd pd tk : Bool) (kv : Value) (sd : Int32) (ki op fa K G T : Nat → Nat) (sh : Nat) (kw kn : Nat → Nat) (M : Nat → Option Nat) (mw : Nat → Nat) (R : Nat → Nat) (d : Int32) (hw : FW n m sh ki op fa K G T) (hkw : ∀ z, kw z < 1024) (hkn : ∀ z, kn z < 1024) (hM : ∀ z v, M z = some v → v < 7) : CT l yX5_spoke cX5_spoke 2 (some .int) { frames := 6, cells := 0, slots := 0, locals := 138 } D cI [.ref r0, .int d] [(r0, .inr (5, [.int (nI n), .ref k1, .ref k2, .ref k3, .ref k4, .int (nI m), .ref k6, .ref k7, .ref k8, .int (nI 0), .ref k10, .int (nI 0), .ref k12, .ref k13, .ref k14, .ref k15, .ref k16, .int (nI ls), .int (nI ap), .int (bz bd), .int (nI sq), .ref k21, .ref k22, .ref k23, .ref k24, .ref k25, .int (bz pd), .int (nI pl), .int (bz tk), kv, .ref k30, .ref k31, .int (nI tz), .ref k33, .int (nI rs), .int sd])), (k1, .inl (cI, 7, .inl (nIf ki))), (k2, .inl (cI, 7, .inl (nIf op))), (k3, .inl (cI, 7, .inl (nIf (shF sh)))), (k4, .inl (cI, 7, .inl (nIf fa))), (k6, .inl (cI, 6, .inl (nIf K))), (k7, .inl (cI, 6, .inl (nIf G))), (k8, .inl (cI, 6, .inl (nIf T))), (k12, .inl (cI, 7, .inl (nIf kw))), (k13, .inl (cI, 175, .inl (nIf kn))), (k14, .inl (cI, 144, .inl (mIf M))), (k15, .inl (cI, 7, .inl (nIf mw))), (k10, .inl (cI, 7, .inl (nIf R)))] (fun zr zw => (∃ kw1 : Nat → Nat, ∃ kn1 : Nat → Nat, ∃ M1 : Nat → Option Nat, ∃ mw1 : Nat → Nat, ∃ rc : Nat, ∃ rv : Int32, (q_spoke (n, m, sh, 0, ki, op, fa, K, G, T) d = (rc, rv)) ∧ (∀ z, kw1 z < 1024) ∧ (∀ z, kn1 z < 1024) ∧ (∀ z v, M1 z = some v → v < 7) ∧ zr = some (.int rv) ∧ zw = [(r0, .inr (5, [.int (nI n), .ref k1, .ref k2, .ref k3, .ref k4, .int (nI m), .ref k6, .ref k7, .ref k8, .int (nI 0), .ref k10, .int (nI 0), .ref k12, .ref k13, .ref k14, .ref k15, .ref k16, .int (nI ls), .int (nI ap), .int (bz bd), .int (nI sq), .ref k21, .ref k22, .ref k23, .ref k24, .ref k25, .int (bz pd), .int (nI pl), .int (bz tk), kv, .ref k30, .ref k31, .int (nI tz), .ref k33, .int (nI rs), .int sd])), (k1, .inl (cI, 7, .inl (nIf ki))), (k2, .inl (cI, 7, .inl (nIf op))), (k3, .inl (cI, 7, .inl (nIf (shF sh)))), (k4, .inl (cI, 7, .inl (nIf fa))), (k6, .inl (cI, 6, .inl (nIf K))), (k7, .inl (cI, 6, .inl (nIf G))), (k8, .inl (cI, 6, .inl (nIf T))), (k12, .inl (cI, 7, .inl (nIf kw1))), (k13, .inl (cI, 175, .inl (nIf kn1))), (k14, .inl (cI, 144, .inl (mIf M1))), (k15, .inl (cI, 7, .inl (nIf mw1))), (k10, .inl (cI, 7, .inl (nIf (rf R rc))))])) := by
  refine CT_of RX5 rfl (by decide +kernel) (Nat.le_of_ble_eq_true rfl) (fun E hnE zC zT => ?_)
  have hA : ∀ q, (ev_s E).heap.size ≤ q → ev_A E q := fun q h => by rw [zT.2]; exact Or.inr h
  obtain ⟨hn, hm, hsh, hki, hop, hfa, hK, hG, hT, vki, vop, vfa, vK, vG, vT⟩ := id hw
  show VV E 0 0 0 [(0, .ref r0), (1, .int d)] [] [(r0, .inr (5, [.int (nI n), .ref k1, .ref k2, .ref k3, .ref k4, .int (nI m), .ref k6, .ref k7, .ref k8, .int (nI 0), .ref k10, .int (nI 0), .ref k12, .ref k13, .ref k14, .ref k15, .ref k16, .int (nI ls), .int (nI ap), .int (bz bd), .int (nI sq), .ref k21, .ref k22, .ref k23, .ref k24, .ref k25, .int (bz pd), .int (nI pl), .int (bz tk), kv, .ref k30, .ref k31, .int (nI tz), .ref k33, .int (nI rs), .int sd])), (k1, .inl (cI, 7, .inl (nIf ki))), (k2, .inl (cI, 7, .inl (nIf op))), (k3, .inl (cI, 7, .inl (nIf (shF sh)))), (k4, .inl (cI, 7, .inl (nIf fa))), (k6, .inl (cI, 6, .inl (nIf K))), (k7, .inl (cI, 6, .inl (nIf G))), (k8, .inl (cI, 6, .inl (nIf T))), (k12, .inl (cI, 7, .inl (nIf kw))), (k13, .inl (cI, 175, .inl (nIf kn))), (k14, .inl (cI, 144, .inl (mIf M))), (k15, .inl (cI, 7, .inl (nIf mw))), (k10, .inl (cI, 7, .inl (nIf R)))]
  refine v_al_n 1 zC dX5_spoke_0 0 rfl ?_
  refine v_ic (v := (nI 0)) 2 zC dX5_spoke_1 (by decide +kernel) ?_
  refine v_pf (ws2 := [(r0, .inr (5, [.int (nI n), .ref k1, .ref k2, .ref k3, .ref k4, .int (nI m), .ref k6, .ref k7, .ref k8, .int (nI 0), .ref k10, .int (nI 0), .ref k12, .ref k13, .ref k14, .ref k15, .ref k16, .int (nI ls), .int (nI ap), .int (bz bd), .int (nI sq), .ref k21, .ref k22, .ref k23, .ref k24, .ref k25, .int (bz pd), .int (nI pl), .int (bz tk), kv, .ref k30, .ref k31, .int (nI tz), .ref k33, .int (nI rs), .int sd])), (k1, .inl (cI, 7, .inl (nIf ki))), (k2, .inl (cI, 7, .inl (nIf op))), (k3, .inl (cI, 7, .inl (nIf (shF sh)))), (k4, .inl (cI, 7, .inl (nIf fa))), (k6, .inl (cI, 6, .inl (nIf K))), (k7, .inl (cI, 6, .inl (nIf G))), (k8, .inl (cI, 6, .inl (nIf T))), (k12, .inl (cI, 7, .inl (nIf kw))), (k13, .inl (cI, 175, .inl (nIf kn))), (k14, .inl (cI, 144, .inl (mIf M))), (k15, .inl (cI, 7, .inl (nIf mw))), (k10, .inl (cI, 7, .inl (nIf R)))]) 5 0 zC dX5_spoke_2 pf_X5_73 rfl (Nat.le_of_ble_eq_true rfl) rfl rfl rfl ?_
  refine v_al_n 6 zC dX5_spoke_5 0 rfl ?_
  refine v_il_n 7 zC dX5_spoke_6 1 rfl ?_
  refine v_cV (As := [.int d]) (st := []) 10 0 [0] zC dX5_spoke_7 hA (c_X5_isDead (ev_l E) (ev_D E) cI (r0 := r0) (k1 := k1) (k2 := k2) (k3 := k3) (k4 := k4) (k6 := k6) (k7 := k7) (k8 := k8) (k10 := k10) (k12 := k12) (k13 := k13) (k14 := k14) (k15 := k15) (k16 := k16) (k21 := k21) (k22 := k22) (k23 := k23) (k24 := k24) (k25 := k25) (k30 := k30) (k31 := k31) (k33 := k33) (n := n) (m := m) (aw := 0) (ls := ls) (ap := ap) (sq := sq) (pl := pl) (tz := tz) (rs := rs) (bd := bd) (pd := pd) (tk := tk) (kv := kv) (sd := sd) (p := d) (hn := (by first | omega | assumption | rfl | (simp only []; omega) | decide))) cf_X5_isDead lk_X5_208 rfl rfl rfl rfl rfl (by decide +kernel) (Nat.le_of_ble_eq_true rfl) (fun rv_1 wv_2 hp_3 hm_4 => ?_)
  clear hm_4
  rcases hp_3 with ⟨hi_5, rfl, rfl⟩ | ⟨j_6, he_7, hi_8, hj_9, rfl, rfl⟩
  ·
    show VV E 0 0 10 [(0, .ref r0), (1, .int d)] [.int (nI 0)] [(r0, .inr (5, [.int (nI n), .ref k1, .ref k2, .ref k3, .ref k4, .int (nI m), .ref k6, .ref k7, .ref k8, .int (nI 0), .ref k10, .int (nI 0), .ref k12, .ref k13, .ref k14, .ref k15, .ref k16, .int (nI ls), .int (nI ap), .int (bz bd), .int (nI sq), .ref k21, .ref k22, .ref k23, .ref k24, .ref k25, .int (bz pd), .int (nI pl), .int (bz tk), kv, .ref k30, .ref k31, .int (nI tz), .ref k33, .int (nI rs), .int sd])), (k1, .inl (cI, 7, .inl (nIf ki))), (k2, .inl (cI, 7, .inl (nIf op))), (k3, .inl (cI, 7, .inl (nIf (shF sh)))), (k4, .inl (cI, 7, .inl (nIf fa))), (k6, .inl (cI, 6, .inl (nIf K))), (k7, .inl (cI, 6, .inl (nIf G))), (k8, .inl (cI, 6, .inl (nIf T))), (k12, .inl (cI, 7, .inl (nIf kw))), (k13, .inl (cI, 175, .inl (nIf kn))), (k14, .inl (cI, 144, .inl (mIf M))), (k15, .inl (cI, 7, .inl (nIf mw))), (k10, .inl (cI, 7, .inl (nIf R)))]
    have hn_d := hi_5
    refine v_if_ne 19 13 zC dX5_spoke_10 (fun z => absurd (by decide +kernel) z) (fun _ => ?_)
    refine v_al_n 14 zC dX5_spoke_13 0 rfl ?_
    refine v_ic (v := (-1)) 15 zC dX5_spoke_14 (by decide +kernel) ?_
    refine v_cV (As := [.int (-1)]) (st := []) 18 0 [0, 12] zC dX5_spoke_15 hA (c_X5_refuse (ev_l E) (ev_D E) cI (r0 := r0) (k1 := k1) (k2 := k2) (k3 := k3) (k4 := k4) (k6 := k6) (k7 := k7) (k8 := k8) (k10 := k10) (k12 := k12) (k13 := k13) (k14 := k14) (k15 := k15) (k16 := k16) (k21 := k21) (k22 := k22) (k23 := k23) (k24 := k24) (k25 := k25) (k30 := k30) (k31 := k31) (k33 := k33) (n := n) (m := m) (aw := 0) (ls := ls) (ap := ap) (sq := sq) (pl := pl) (tz := tz) (rs := rs) (bd := bd) (pd := pd) (tk := tk) (kv := kv) (sd := sd) (R := R) (v := (-1)) (j := 1) (hv := (by first | omega | assumption | rfl | (simp only []; omega) | decide)) (h1 := (by first | omega | assumption | rfl | (simp only []; omega) | decide)) (h6 := (by first | omega | assumption | rfl | (simp only []; omega) | decide))) cf_X5_refuse lk_X5_129 rfl rfl rfl rfl rfl (by decide +kernel) (Nat.le_of_ble_eq_true rfl) (fun rv_11 wv_12 hp_13 hm_14 => ?_)
    clear hm_14
    obtain ⟨rfl, rfl⟩ := hp_13
    show VV E 0 0 18 [(0, .ref r0), (1, .int d)] [.int (-1)] [(r0, .inr (5, [.int (nI n), .ref k1, .ref k2, .ref k3, .ref k4, .int (nI m), .ref k6, .ref k7, .ref k8, .int (nI 0), .ref k10, .int (nI 0), .ref k12, .ref k13, .ref k14, .ref k15, .ref k16, .int (nI ls), .int (nI ap), .int (bz bd), .int (nI sq), .ref k21, .ref k22, .ref k23, .ref k24, .ref k25, .int (bz pd), .int (nI pl), .int (bz tk), kv, .ref k30, .ref k31, .int (nI tz), .ref k33, .int (nI rs), .int sd])), (k1, .inl (cI, 7, .inl (nIf ki))), (k2, .inl (cI, 7, .inl (nIf op))), (k3, .inl (cI, 7, .inl (nIf (shF sh)))), (k4, .inl (cI, 7, .inl (nIf fa))), (k6, .inl (cI, 6, .inl (nIf K))), (k7, .inl (cI, 6, .inl (nIf G))), (k8, .inl (cI, 6, .inl (nIf T))), (k12, .inl (cI, 7, .inl (nIf kw))), (k13, .inl (cI, 175, .inl (nIf kn))), (k14, .inl (cI, 144, .inl (mIf M))), (k15, .inl (cI, 7, .inl (nIf mw))), (k10, .inl (cI, 7, .inl (nIf (un R 1 (R 1 + 1)))))]
    refine v_iret zC zT dX5_spoke_18  ?_
    first | (have g9 := hn_d; exact ⟨kw, kn, M, mw, 1, _, by unfold q_spoke; rw [hn_d], hkw, hkn, hM, rfl, rfl⟩) | exact ⟨_, _, _, _, 0, _, by unfold q_spoke; rw [hi_d], hR9.2.2.2.1, hR9.2.2.2.2.1, hR9.2.2.2.2.2, rfl, rfl⟩
  ·
    show VV E 0 0 10 [(0, .ref r0), (1, .int d)] [.int (nI 1)] [(r0, .inr (5, [.int (nI n), .ref k1, .ref k2, .ref k3, .ref k4, .int (nI m), .ref k6, .ref k7, .ref k8, .int (nI 0), .ref k10, .int (nI 0), .ref k12, .ref k13, .ref k14, .ref k15, .ref k16, .int (nI ls), .int (nI ap), .int (bz bd), .int (nI sq), .ref k21, .ref k22, .ref k23, .ref k24, .ref k25, .int (bz pd), .int (nI pl), .int (bz tk), kv, .ref k30, .ref k31, .int (nI tz), .ref k33, .int (nI rs), .int sd])), (k1, .inl (cI, 7, .inl (nIf ki))), (k2, .inl (cI, 7, .inl (nIf op))), (k3, .inl (cI, 7, .inl (nIf (shF sh)))), (k4, .inl (cI, 7, .inl (nIf fa))), (k6, .inl (cI, 6, .inl (nIf K))), (k7, .inl (cI, 6, .inl (nIf G))), (k8, .inl (cI, 6, .inl (nIf T))), (k12, .inl (cI, 7, .inl (nIf kw))), (k13, .inl (cI, 175, .inl (nIf kn))), (k14, .inl (cI, 144, .inl (mIf M))), (k15, .inl (cI, 7, .inl (nIf mw))), (k10, .inl (cI, 7, .inl (nIf R)))]
    subst he_7
    have hi_d := hi_8
    obtain ⟨jd, hx_jd⟩ : ∃ z, z = j_6 := ⟨_, rfl⟩
    subst hx_jd
    refine v_if_ne 19 13 zC dX5_spoke_10 (fun _ => ?_) (fun z => absurd z (by decide +kernel))
    refine v_al_n 20 zC dX5_spoke_19 0 rfl ?_
    refine v_cV (As := []) (st := []) 23 0 [0, 1, 2, 3, 4, 5, 6, 7, 8, 9, 10, 11] zC dX5_spoke_20 hA (c_X5_day (ev_l E) (ev_D E) cI (r0 := r0) (k1 := k1) (k2 := k2) (k3 := k3) (k4 := k4) (k6 := k6) (k7 := k7) (k8 := k8) (k10 := k10) (k12 := k12) (k13 := k13) (k14 := k14) (k15 := k15) (k16 := k16) (k21 := k21) (k22 := k22) (k23 := k23) (k24 := k24) (k25 := k25) (k30 := k30) (k31 := k31) (k33 := k33) (n := n) (m := m) (aw := 0) (ls := ls) (ap := ap) (sq := sq) (pl := pl) (tz := tz) (rs := rs) (bd := bd) (pd := pd) (tk := tk) (kv := kv) (sd := sd) (ki := ki) (op := op) (fa := fa) (K := K) (G := G) (T := T) (sh := sh) (kw := kw) (kn := kn) (M := M) (mw := mw) (hw := (by first | omega | assumption | rfl | (simp only []; omega) | decide)) (hkw := (by first | omega | assumption | rfl | (simp only []; omega) | decide)) (hkn := (by first | omega | assumption | rfl | (simp only []; omega) | decide)) (hM := (by first | omega | assumption | rfl | (simp only []; omega) | decide))) cf_X5_day lk_X5_123 rfl rfl rfl rfl rfl (by decide +kernel) (Nat.le_of_ble_eq_true rfl) (fun rv_16 wv_17 hp_18 hm_19 => ?_)
    clear hm_19
    obtain ⟨kw1_20, kn1_21, M1_22, mw1_23, hR_24, rfl, rfl⟩ := hp_18
    show VV E 0 0 23 [(0, .ref r0), (1, .int (nI jd))] [] [(r0, .inr (5, [.int (nI n), .ref k1, .ref k2, .ref k3, .ref k4, .int (nI m), .ref k6, .ref k7, .ref k8, .int (nI 0), .ref k10, .int (nI 0), .ref k12, .ref k13, .ref k14, .ref k15, .ref k16, .int (nI ls), .int (nI ap), .int (bz bd), .int (nI sq), .ref k21, .ref k22, .ref k23, .ref k24, .ref k25, .int (bz pd), .int (nI pl), .int (bz tk), kv, .ref k30, .ref k31, .int (nI tz), .ref k33, .int (nI rs), .int sd])), (k1, .inl (cI, 7, .inl (nIf ki))), (k2, .inl (cI, 7, .inl (nIf op))), (k3, .inl (cI, 7, .inl (nIf (shF sh)))), (k4, .inl (cI, 7, .inl (nIf fa))), (k6, .inl (cI, 6, .inl (nIf K))), (k7, .inl (cI, 6, .inl (nIf G))), (k8, .inl (cI, 6, .inl (nIf T))), (k12, .inl (cI, 7, .inl (nIf kw1_20))), (k13, .inl (cI, 175, .inl (nIf kn1_21))), (k14, .inl (cI, 144, .inl (mIf M1_22))), (k15, .inl (cI, 7, .inl (nIf mw1_23))), (k10, .inl (cI, 7, .inl (nIf R)))]
    have hR9 := hR_24
    refine v_al_n 24 zC dX5_spoke_23 0 rfl ?_
    refine v_il_n 25 zC dX5_spoke_24 1 rfl ?_
    refine v_cV (As := [.int (nI jd)]) (st := []) 28 0 [0, 10] zC dX5_spoke_25 hA (c_X5_spokeOf (ev_l E) (ev_D E) cI (r0 := r0) (k1 := k1) (k2 := k2) (k3 := k3) (k4 := k4) (k6 := k6) (k7 := k7) (k8 := k8) (k10 := k10) (k12 := k12) (k13 := k13) (k14 := k14) (k15 := k15) (k16 := k16) (k21 := k21) (k22 := k22) (k23 := k23) (k24 := k24) (k25 := k25) (k30 := k30) (k31 := k31) (k33 := k33) (n := n) (m := m) (aw := 0) (ls := ls) (ap := ap) (sq := sq) (pl := pl) (tz := tz) (rs := rs) (bd := bd) (pd := pd) (tk := tk) (kv := kv) (sd := sd) (ki := ki) (op := op) (fa := fa) (K := K) (G := G) (T := T) (sh := sh) (kw := kw1_20) (kn := kn1_21) (M := M1_22) (d := jd) (hn := (by first | omega | assumption | rfl | (simp only []; omega) | decide)) (hm := (by first | omega | assumption | rfl | (simp only []; omega) | decide)) (hR := hR9) (hd := (by first | omega | assumption | rfl | (simp only []; omega) | decide))) cf_X5_spokeOf lk_X5_239 rfl rfl rfl rfl rfl (by decide +kernel) (Nat.le_of_ble_eq_true rfl) (fun rv_25 wv_26 hp_27 hm_28 => ?_)
    clear hm_28
    obtain ⟨rfl, rfl⟩ := hp_27
    show VV E 0 0 28 [(0, .ref r0), (1, .int (nI jd))] [.int (nI (SPOKE (n, m, sh, 0, ki, op, fa, K, G, T) jd))] [(r0, .inr (5, [.int (nI n), .ref k1, .ref k2, .ref k3, .ref k4, .int (nI m), .ref k6, .ref k7, .ref k8, .int (nI 0), .ref k10, .int (nI 0), .ref k12, .ref k13, .ref k14, .ref k15, .ref k16, .int (nI ls), .int (nI ap), .int (bz bd), .int (nI sq), .ref k21, .ref k22, .ref k23, .ref k24, .ref k25, .int (bz pd), .int (nI pl), .int (bz tk), kv, .ref k30, .ref k31, .int (nI tz), .ref k33, .int (nI rs), .int sd])), (k1, .inl (cI, 7, .inl (nIf ki))), (k2, .inl (cI, 7, .inl (nIf op))), (k3, .inl (cI, 7, .inl (nIf (shF sh)))), (k4, .inl (cI, 7, .inl (nIf fa))), (k6, .inl (cI, 6, .inl (nIf K))), (k7, .inl (cI, 6, .inl (nIf G))), (k8, .inl (cI, 6, .inl (nIf T))), (k12, .inl (cI, 7, .inl (nIf kw1_20))), (k13, .inl (cI, 175, .inl (nIf kn1_21))), (k14, .inl (cI, 144, .inl (mIf M1_22))), (k15, .inl (cI, 7, .inl (nIf mw1_23))), (k10, .inl (cI, 7, .inl (nIf R)))]
    refine v_iret zC zT dX5_spoke_28  ?_
    first | (have g9 := hn_d; exact ⟨kw, kn, M, mw, 1, _, by unfold q_spoke; rw [hn_d], hkw, hkn, hM, rfl, rfl⟩) | exact ⟨_, _, _, _, 0, _, by unfold q_spoke; rw [hi_d], hR9.2.2.2.1, hR9.2.2.2.2.1, hR9.2.2.2.2.2, rfl, rfl⟩
set_option maxRecDepth 100000 in
set_option maxHeartbeats 4000000 in
theorem c_X5_told (l : Launch) (D : va_G) (cI : ClassId) (r0 k1 k2 k3 k4 k6 k7 k8 k10 k12 k13 k14 k15 k16 k21 k22 k23 k24 k25 k30 k31 k33 : Nat) (n m ls ap sq pl tz rs : Nat) (bd pd tk : Bool) (kv : Value) (sd : Int32) (ki op fa K G T : Nat → Nat) (sh : Nat) (kw kn : Nat → Nat) (M : Nat → Option Nat) (mw : Nat → Nat) (R : Nat → Nat) (f w : Int32) (hw : FW n m sh ki op fa K G T) (hkw : ∀ z, kw z < 1024) (hkn : ∀ z, kn z < 1024) (hM : ∀ z v, M z = some v → v < 7) : CT l yX5_told cX5_told 5 (some .int) { frames := 6, cells := 0, slots := 0, locals := 138 } D cI [.ref r0, .int f, .int w] [(r0, .inr (5, [.int (nI n), .ref k1, .ref k2, .ref k3, .ref k4, .int (nI m), .ref k6, .ref k7, .ref k8, .int (nI 0), .ref k10, .int (nI 0), .ref k12, .ref k13, .ref k14, .ref k15, .ref k16, .int (nI ls), .int (nI ap), .int (bz bd), .int (nI sq), .ref k21, .ref k22, .ref k23, .ref k24, .ref k25, .int (bz pd), .int (nI pl), .int (bz tk), kv, .ref k30, .ref k31, .int (nI tz), .ref k33, .int (nI rs), .int sd])), (k1, .inl (cI, 7, .inl (nIf ki))), (k2, .inl (cI, 7, .inl (nIf op))), (k3, .inl (cI, 7, .inl (nIf (shF sh)))), (k4, .inl (cI, 7, .inl (nIf fa))), (k6, .inl (cI, 6, .inl (nIf K))), (k7, .inl (cI, 6, .inl (nIf G))), (k8, .inl (cI, 6, .inl (nIf T))), (k12, .inl (cI, 7, .inl (nIf kw))), (k13, .inl (cI, 175, .inl (nIf kn))), (k14, .inl (cI, 144, .inl (mIf M))), (k15, .inl (cI, 7, .inl (nIf mw))), (k10, .inl (cI, 7, .inl (nIf R)))] (fun zr zw => (∃ kw1 : Nat → Nat, ∃ kn1 : Nat → Nat, ∃ M1 : Nat → Option Nat, ∃ mw1 : Nat → Nat, ∃ rc : Nat, ∃ rv : Int32, (q_told (n, m, sh, 0, ki, op, fa, K, G, T) f w = (rc, rv)) ∧ (∀ z, kw1 z < 1024) ∧ (∀ z, kn1 z < 1024) ∧ (∀ z v, M1 z = some v → v < 7) ∧ zr = some (.int rv) ∧ zw = [(r0, .inr (5, [.int (nI n), .ref k1, .ref k2, .ref k3, .ref k4, .int (nI m), .ref k6, .ref k7, .ref k8, .int (nI 0), .ref k10, .int (nI 0), .ref k12, .ref k13, .ref k14, .ref k15, .ref k16, .int (nI ls), .int (nI ap), .int (bz bd), .int (nI sq), .ref k21, .ref k22, .ref k23, .ref k24, .ref k25, .int (bz pd), .int (nI pl), .int (bz tk), kv, .ref k30, .ref k31, .int (nI tz), .ref k33, .int (nI rs), .int sd])), (k1, .inl (cI, 7, .inl (nIf ki))), (k2, .inl (cI, 7, .inl (nIf op))), (k3, .inl (cI, 7, .inl (nIf (shF sh)))), (k4, .inl (cI, 7, .inl (nIf fa))), (k6, .inl (cI, 6, .inl (nIf K))), (k7, .inl (cI, 6, .inl (nIf G))), (k8, .inl (cI, 6, .inl (nIf T))), (k12, .inl (cI, 7, .inl (nIf kw1))), (k13, .inl (cI, 175, .inl (nIf kn1))), (k14, .inl (cI, 144, .inl (mIf M1))), (k15, .inl (cI, 7, .inl (nIf mw1))), (k10, .inl (cI, 7, .inl (nIf (rf R rc))))])) := by
  refine CT_of RX5 rfl (by decide +kernel) (Nat.le_of_ble_eq_true rfl) (fun E hnE zC zT => ?_)
  have hA : ∀ q, (ev_s E).heap.size ≤ q → ev_A E q := fun q h => by rw [zT.2]; exact Or.inr h
  obtain ⟨hn, hm, hsh, hki, hop, hfa, hK, hG, hT, vki, vop, vfa, vK, vG, vT⟩ := id hw
  show VV E 0 0 0 [(0, .ref r0), (1, .int f), (2, .int w)] [] [(r0, .inr (5, [.int (nI n), .ref k1, .ref k2, .ref k3, .ref k4, .int (nI m), .ref k6, .ref k7, .ref k8, .int (nI 0), .ref k10, .int (nI 0), .ref k12, .ref k13, .ref k14, .ref k15, .ref k16, .int (nI ls), .int (nI ap), .int (bz bd), .int (nI sq), .ref k21, .ref k22, .ref k23, .ref k24, .ref k25, .int (bz pd), .int (nI pl), .int (bz tk), kv, .ref k30, .ref k31, .int (nI tz), .ref k33, .int (nI rs), .int sd])), (k1, .inl (cI, 7, .inl (nIf ki))), (k2, .inl (cI, 7, .inl (nIf op))), (k3, .inl (cI, 7, .inl (nIf (shF sh)))), (k4, .inl (cI, 7, .inl (nIf fa))), (k6, .inl (cI, 6, .inl (nIf K))), (k7, .inl (cI, 6, .inl (nIf G))), (k8, .inl (cI, 6, .inl (nIf T))), (k12, .inl (cI, 7, .inl (nIf kw))), (k13, .inl (cI, 175, .inl (nIf kn))), (k14, .inl (cI, 144, .inl (mIf M))), (k15, .inl (cI, 7, .inl (nIf mw))), (k10, .inl (cI, 7, .inl (nIf R)))]
  refine v_al_n 1 zC dX5_told_0 0 rfl ?_
  refine v_ic (v := (nI 0)) 2 zC dX5_told_1 (by decide +kernel) ?_
  refine v_pf (ws2 := [(r0, .inr (5, [.int (nI n), .ref k1, .ref k2, .ref k3, .ref k4, .int (nI m), .ref k6, .ref k7, .ref k8, .int (nI 0), .ref k10, .int (nI 0), .ref k12, .ref k13, .ref k14, .ref k15, .ref k16, .int (nI ls), .int (nI ap), .int (bz bd), .int (nI sq), .ref k21, .ref k22, .ref k23, .ref k24, .ref k25, .int (bz pd), .int (nI pl), .int (bz tk), kv, .ref k30, .ref k31, .int (nI tz), .ref k33, .int (nI rs), .int sd])), (k1, .inl (cI, 7, .inl (nIf ki))), (k2, .inl (cI, 7, .inl (nIf op))), (k3, .inl (cI, 7, .inl (nIf (shF sh)))), (k4, .inl (cI, 7, .inl (nIf fa))), (k6, .inl (cI, 6, .inl (nIf K))), (k7, .inl (cI, 6, .inl (nIf G))), (k8, .inl (cI, 6, .inl (nIf T))), (k12, .inl (cI, 7, .inl (nIf kw))), (k13, .inl (cI, 175, .inl (nIf kn))), (k14, .inl (cI, 144, .inl (mIf M))), (k15, .inl (cI, 7, .inl (nIf mw))), (k10, .inl (cI, 7, .inl (nIf R)))]) 5 0 zC dX5_told_2 pf_X5_73 rfl (Nat.le_of_ble_eq_true rfl) rfl rfl rfl ?_
  refine v_il_n 6 zC dX5_told_5 1 rfl ?_
  refine v_cS (As := [.int f]) (st := []) 9 [] zC dX5_told_6 hA (c_X5_isFact (ev_l E) (ev_D E) cI (p := f) ) cf_X5_isFact lk_X5_225 rfl rfl rfl (by decide +kernel) (Nat.le_of_ble_eq_true rfl) (fun rv_1 wv_2 hp_3 hm_4 => ?_)
  clear hm_4
  rcases hp_3 with ⟨hi_5, rfl, rfl⟩ | ⟨j_6, he_7, hi_8, hj_9, rfl, rfl⟩
  ·
    show VV E 0 0 9 [(0, .ref r0), (1, .int f), (2, .int w)] [.int (nI 0)] [(r0, .inr (5, [.int (nI n), .ref k1, .ref k2, .ref k3, .ref k4, .int (nI m), .ref k6, .ref k7, .ref k8, .int (nI 0), .ref k10, .int (nI 0), .ref k12, .ref k13, .ref k14, .ref k15, .ref k16, .int (nI ls), .int (nI ap), .int (bz bd), .int (nI sq), .ref k21, .ref k22, .ref k23, .ref k24, .ref k25, .int (bz pd), .int (nI pl), .int (bz tk), kv, .ref k30, .ref k31, .int (nI tz), .ref k33, .int (nI rs), .int sd])), (k1, .inl (cI, 7, .inl (nIf ki))), (k2, .inl (cI, 7, .inl (nIf op))), (k3, .inl (cI, 7, .inl (nIf (shF sh)))), (k4, .inl (cI, 7, .inl (nIf fa))), (k6, .inl (cI, 6, .inl (nIf K))), (k7, .inl (cI, 6, .inl (nIf G))), (k8, .inl (cI, 6, .inl (nIf T))), (k12, .inl (cI, 7, .inl (nIf kw))), (k13, .inl (cI, 175, .inl (nIf kn))), (k14, .inl (cI, 144, .inl (mIf M))), (k15, .inl (cI, 7, .inl (nIf mw))), (k10, .inl (cI, 7, .inl (nIf R)))]
    have hn_f := hi_5
    refine v_if_eq 22 12 zC dX5_told_9 (fun _ => ?_) (fun z => absurd (by decide +kernel) z)
    refine v_al_n 23 zC dX5_told_22 0 rfl ?_
    refine v_il_n 24 zC dX5_told_23 1 rfl ?_
    refine v_cS (As := [.int f]) (st := [.ref r0]) 27 [] zC dX5_told_24 hA (c_X5_isFact (ev_l E) (ev_D E) cI (p := f) ) cf_X5_isFact lk_X5_225 rfl rfl rfl (by decide +kernel) (Nat.le_of_ble_eq_true rfl) (fun rv_11 wv_12 hp_13 hm_14 => ?_)
    clear hm_14
    rcases hp_13 with ⟨hi_15, rfl, rfl⟩ | ⟨j_16, he_17, hi_18, hj_19, rfl, rfl⟩
    ·
      show VV E 0 0 27 [(0, .ref r0), (1, .int f), (2, .int w)] [.int (nI 0), .ref r0] [(r0, .inr (5, [.int (nI n), .ref k1, .ref k2, .ref k3, .ref k4, .int (nI m), .ref k6, .ref k7, .ref k8, .int (nI 0), .ref k10, .int (nI 0), .ref k12, .ref k13, .ref k14, .ref k15, .ref k16, .int (nI ls), .int (nI ap), .int (bz bd), .int (nI sq), .ref k21, .ref k22, .ref k23, .ref k24, .ref k25, .int (bz pd), .int (nI pl), .int (bz tk), kv, .ref k30, .ref k31, .int (nI tz), .ref k33, .int (nI rs), .int sd])), (k1, .inl (cI, 7, .inl (nIf ki))), (k2, .inl (cI, 7, .inl (nIf op))), (k3, .inl (cI, 7, .inl (nIf (shF sh)))), (k4, .inl (cI, 7, .inl (nIf fa))), (k6, .inl (cI, 6, .inl (nIf K))), (k7, .inl (cI, 6, .inl (nIf G))), (k8, .inl (cI, 6, .inl (nIf T))), (k12, .inl (cI, 7, .inl (nIf kw))), (k13, .inl (cI, 175, .inl (nIf kn))), (k14, .inl (cI, 144, .inl (mIf M))), (k15, .inl (cI, 7, .inl (nIf mw))), (k10, .inl (cI, 7, .inl (nIf R)))]
      refine v_if_eq 35 30 zC dX5_told_27 (fun _ => ?_) (fun z => absurd (by decide +kernel) z)
      refine v_ic (v := (-1)) 36 zC dX5_told_35 (by decide +kernel) ?_
      refine v_cV (As := [.int (-1)]) (st := []) 39 0 [0, 12] zC dX5_told_36 hA (c_X5_refuse (ev_l E) (ev_D E) cI (r0 := r0) (k1 := k1) (k2 := k2) (k3 := k3) (k4 := k4) (k6 := k6) (k7 := k7) (k8 := k8) (k10 := k10) (k12 := k12) (k13 := k13) (k14 := k14) (k15 := k15) (k16 := k16) (k21 := k21) (k22 := k22) (k23 := k23) (k24 := k24) (k25 := k25) (k30 := k30) (k31 := k31) (k33 := k33) (n := n) (m := m) (aw := 0) (ls := ls) (ap := ap) (sq := sq) (pl := pl) (tz := tz) (rs := rs) (bd := bd) (pd := pd) (tk := tk) (kv := kv) (sd := sd) (R := R) (v := (-1)) (j := 1) (hv := (by first | omega | assumption | rfl | (simp only []; omega) | decide)) (h1 := (by first | omega | assumption | rfl | (simp only []; omega) | decide)) (h6 := (by first | omega | assumption | rfl | (simp only []; omega) | decide))) cf_X5_refuse lk_X5_129 rfl rfl rfl rfl rfl (by decide +kernel) (Nat.le_of_ble_eq_true rfl) (fun rv_21 wv_22 hp_23 hm_24 => ?_)
      clear hm_24
      obtain ⟨rfl, rfl⟩ := hp_23
      show VV E 0 0 39 [(0, .ref r0), (1, .int f), (2, .int w)] [.int (-1)] [(r0, .inr (5, [.int (nI n), .ref k1, .ref k2, .ref k3, .ref k4, .int (nI m), .ref k6, .ref k7, .ref k8, .int (nI 0), .ref k10, .int (nI 0), .ref k12, .ref k13, .ref k14, .ref k15, .ref k16, .int (nI ls), .int (nI ap), .int (bz bd), .int (nI sq), .ref k21, .ref k22, .ref k23, .ref k24, .ref k25, .int (bz pd), .int (nI pl), .int (bz tk), kv, .ref k30, .ref k31, .int (nI tz), .ref k33, .int (nI rs), .int sd])), (k1, .inl (cI, 7, .inl (nIf ki))), (k2, .inl (cI, 7, .inl (nIf op))), (k3, .inl (cI, 7, .inl (nIf (shF sh)))), (k4, .inl (cI, 7, .inl (nIf fa))), (k6, .inl (cI, 6, .inl (nIf K))), (k7, .inl (cI, 6, .inl (nIf G))), (k8, .inl (cI, 6, .inl (nIf T))), (k12, .inl (cI, 7, .inl (nIf kw))), (k13, .inl (cI, 175, .inl (nIf kn))), (k14, .inl (cI, 144, .inl (mIf M))), (k15, .inl (cI, 7, .inl (nIf mw))), (k10, .inl (cI, 7, .inl (nIf (un R 1 (R 1 + 1)))))]
      refine v_iret zC zT dX5_told_39  ?_
      first | (have g9 := hn_f; exact ⟨kw, kn, M, mw, 1, _, by unfold q_told; rw [hn_f], hkw, hkn, hM, rfl, rfl⟩) | (have g9 := hn_w; exact ⟨kw, kn, M, mw, 2, _, by unfold q_told; rw [hi_f]; dsimp only; rw [hn_w], hkw, hkn, hM, rfl, rfl⟩) | exact ⟨_, _, _, _, 0, _, by unfold q_told; rw [hi_f]; dsimp only; rw [hi_w]; dsimp only; first | (rw [if_pos (show jw = 1 by omega)]; done) | (rw [if_neg (show ¬ jw = 1 by omega), hx, show d = m by omega]), hR9.2.2.2.1, hR9.2.2.2.2.1, hR9.2.2.2.2.2, rfl, rfl⟩
    ·
      show VV E 0 0 27 [(0, .ref r0), (1, .int f), (2, .int w)] [.int (nI 1), .ref r0] [(r0, .inr (5, [.int (nI n), .ref k1, .ref k2, .ref k3, .ref k4, .int (nI m), .ref k6, .ref k7, .ref k8, .int (nI 0), .ref k10, .int (nI 0), .ref k12, .ref k13, .ref k14, .ref k15, .ref k16, .int (nI ls), .int (nI ap), .int (bz bd), .int (nI sq), .ref k21, .ref k22, .ref k23, .ref k24, .ref k25, .int (bz pd), .int (nI pl), .int (bz tk), kv, .ref k30, .ref k31, .int (nI tz), .ref k33, .int (nI rs), .int sd])), (k1, .inl (cI, 7, .inl (nIf ki))), (k2, .inl (cI, 7, .inl (nIf op))), (k3, .inl (cI, 7, .inl (nIf (shF sh)))), (k4, .inl (cI, 7, .inl (nIf fa))), (k6, .inl (cI, 6, .inl (nIf K))), (k7, .inl (cI, 6, .inl (nIf G))), (k8, .inl (cI, 6, .inl (nIf T))), (k12, .inl (cI, 7, .inl (nIf kw))), (k13, .inl (cI, 175, .inl (nIf kn))), (k14, .inl (cI, 144, .inl (mIf M))), (k15, .inl (cI, 7, .inl (nIf mw))), (k10, .inl (cI, 7, .inl (nIf R)))]
      rw [he_17] at hn_f
      exact absurd (hn_f.symm.trans hi_18) (fun z => by cases z)
  ·
    show VV E 0 0 9 [(0, .ref r0), (1, .int f), (2, .int w)] [.int (nI 1)] [(r0, .inr (5, [.int (nI n), .ref k1, .ref k2, .ref k3, .ref k4, .int (nI m), .ref k6, .ref k7, .ref k8, .int (nI 0), .ref k10, .int (nI 0), .ref k12, .ref k13, .ref k14, .ref k15, .ref k16, .int (nI ls), .int (nI ap), .int (bz bd), .int (nI sq), .ref k21, .ref k22, .ref k23, .ref k24, .ref k25, .int (bz pd), .int (nI pl), .int (bz tk), kv, .ref k30, .ref k31, .int (nI tz), .ref k33, .int (nI rs), .int sd])), (k1, .inl (cI, 7, .inl (nIf ki))), (k2, .inl (cI, 7, .inl (nIf op))), (k3, .inl (cI, 7, .inl (nIf (shF sh)))), (k4, .inl (cI, 7, .inl (nIf fa))), (k6, .inl (cI, 6, .inl (nIf K))), (k7, .inl (cI, 6, .inl (nIf G))), (k8, .inl (cI, 6, .inl (nIf T))), (k12, .inl (cI, 7, .inl (nIf kw))), (k13, .inl (cI, 175, .inl (nIf kn))), (k14, .inl (cI, 144, .inl (mIf M))), (k15, .inl (cI, 7, .inl (nIf mw))), (k10, .inl (cI, 7, .inl (nIf R)))]
    subst he_7
    have hi_f := hi_8
    obtain ⟨jf, hx_jf⟩ : ∃ z, z = j_6 := ⟨_, rfl⟩
    subst hx_jf
    refine v_if_eq 22 12 zC dX5_told_9 (fun z => absurd z (by decide +kernel)) (fun _ => ?_)
    refine v_il_n 13 zC dX5_told_12 2 rfl ?_
    refine v_i2l (v := (Int32.toInt64 w)) 14 zC dX5_told_13 rfl ?_
    refine v_lc (v := lN 0) 15 zC dX5_told_14 (by decide +kernel) ?_
    refine v_lc (v := lN 1) 16 zC dX5_told_15 (by decide +kernel) ?_
    refine v_cS (As := [.long (Int32.toInt64 w), .long (lN 0), .long (lN 1)]) (st := []) 19 [] zC dX5_told_16 hA (c_X5_in (ev_l E) (ev_D E) cI (x := (Int32.toInt64 w)) (y := (lN 0)) (z := (lN 1)) ) cf_X5_in lk_X5_80 rfl rfl rfl (by decide +kernel) (Nat.le_of_ble_eq_true rfl) (fun rv_26 wv_27 hp_28 hm_29 => ?_)
    clear hm_29
    obtain ⟨rfl, rfl⟩ := hp_28
    show VV E 0 0 19 [(0, .ref r0), (1, .int (nI jf)), (2, .int w)] [.int (bz (inB (Int32.toInt64 w) (lN 0) (lN 1)))] [(r0, .inr (5, [.int (nI n), .ref k1, .ref k2, .ref k3, .ref k4, .int (nI m), .ref k6, .ref k7, .ref k8, .int (nI 0), .ref k10, .int (nI 0), .ref k12, .ref k13, .ref k14, .ref k15, .ref k16, .int (nI ls), .int (nI ap), .int (bz bd), .int (nI sq), .ref k21, .ref k22, .ref k23, .ref k24, .ref k25, .int (bz pd), .int (nI pl), .int (bz tk), kv, .ref k30, .ref k31, .int (nI tz), .ref k33, .int (nI rs), .int sd])), (k1, .inl (cI, 7, .inl (nIf ki))), (k2, .inl (cI, 7, .inl (nIf op))), (k3, .inl (cI, 7, .inl (nIf (shF sh)))), (k4, .inl (cI, 7, .inl (nIf fa))), (k6, .inl (cI, 6, .inl (nIf K))), (k7, .inl (cI, 6, .inl (nIf G))), (k8, .inl (cI, 6, .inl (nIf T))), (k12, .inl (cI, 7, .inl (nIf kw))), (k13, .inl (cI, 175, .inl (nIf kn))), (k14, .inl (cI, 144, .inl (mIf M))), (k15, .inl (cI, 7, .inl (nIf mw))), (k10, .inl (cI, 7, .inl (nIf R)))]
    rcases in_ix1 (N := 2) (p := w) (show 1 < 2 ^ 29 by decide) rfl with ⟨e9, b9⟩ | ⟨jw, e9, i9, l9, b9⟩
    ·
      rw [b9]
      have hn_w := e9
      refine v_ifb_ne 40 22 zC dX5_told_19 (fun z => absurd z (by decide)) (fun _ => ?_)
      refine v_al_n 23 zC dX5_told_22 0 rfl ?_
      refine v_il_n 24 zC dX5_told_23 1 rfl ?_
      refine v_cS (As := [.int (nI jf)]) (st := [.ref r0]) 27 [] zC dX5_told_24 hA (c_X5_isFact (ev_l E) (ev_D E) cI (p := (nI jf)) ) cf_X5_isFact lk_X5_225 rfl rfl rfl (by decide +kernel) (Nat.le_of_ble_eq_true rfl) (fun rv_31 wv_32 hp_33 hm_34 => ?_)
      clear hm_34
      rcases hp_33 with ⟨hi_35, rfl, rfl⟩ | ⟨j_36, he_37, hi_38, hj_39, rfl, rfl⟩
      ·
        show VV E 0 0 27 [(0, .ref r0), (1, .int (nI jf)), (2, .int w)] [.int (nI 0), .ref r0] [(r0, .inr (5, [.int (nI n), .ref k1, .ref k2, .ref k3, .ref k4, .int (nI m), .ref k6, .ref k7, .ref k8, .int (nI 0), .ref k10, .int (nI 0), .ref k12, .ref k13, .ref k14, .ref k15, .ref k16, .int (nI ls), .int (nI ap), .int (bz bd), .int (nI sq), .ref k21, .ref k22, .ref k23, .ref k24, .ref k25, .int (bz pd), .int (nI pl), .int (bz tk), kv, .ref k30, .ref k31, .int (nI tz), .ref k33, .int (nI rs), .int sd])), (k1, .inl (cI, 7, .inl (nIf ki))), (k2, .inl (cI, 7, .inl (nIf op))), (k3, .inl (cI, 7, .inl (nIf (shF sh)))), (k4, .inl (cI, 7, .inl (nIf fa))), (k6, .inl (cI, 6, .inl (nIf K))), (k7, .inl (cI, 6, .inl (nIf G))), (k8, .inl (cI, 6, .inl (nIf T))), (k12, .inl (cI, 7, .inl (nIf kw))), (k13, .inl (cI, 175, .inl (nIf kn))), (k14, .inl (cI, 144, .inl (mIf M))), (k15, .inl (cI, 7, .inl (nIf mw))), (k10, .inl (cI, 7, .inl (nIf R)))]
        exact absurd (hi_f.symm.trans hi_35) (fun z => by cases z)
      ·
        show VV E 0 0 27 [(0, .ref r0), (1, .int (nI jf)), (2, .int w)] [.int (nI 1), .ref r0] [(r0, .inr (5, [.int (nI n), .ref k1, .ref k2, .ref k3, .ref k4, .int (nI m), .ref k6, .ref k7, .ref k8, .int (nI 0), .ref k10, .int (nI 0), .ref k12, .ref k13, .ref k14, .ref k15, .ref k16, .int (nI ls), .int (nI ap), .int (bz bd), .int (nI sq), .ref k21, .ref k22, .ref k23, .ref k24, .ref k25, .int (bz pd), .int (nI pl), .int (bz tk), kv, .ref k30, .ref k31, .int (nI tz), .ref k33, .int (nI rs), .int sd])), (k1, .inl (cI, 7, .inl (nIf ki))), (k2, .inl (cI, 7, .inl (nIf op))), (k3, .inl (cI, 7, .inl (nIf (shF sh)))), (k4, .inl (cI, 7, .inl (nIf fa))), (k6, .inl (cI, 6, .inl (nIf K))), (k7, .inl (cI, 6, .inl (nIf G))), (k8, .inl (cI, 6, .inl (nIf T))), (k12, .inl (cI, 7, .inl (nIf kw))), (k13, .inl (cI, 175, .inl (nIf kn))), (k14, .inl (cI, 144, .inl (mIf M))), (k15, .inl (cI, 7, .inl (nIf mw))), (k10, .inl (cI, 7, .inl (nIf R)))]
        refine v_if_eq 35 30 zC dX5_told_27 (fun z => absurd z (by decide +kernel)) (fun _ => ?_)
        refine v_bp (v := (-2)) 32 zC dX5_told_30 (by decide +kernel) ?_
        refine v_goto 36 zC dX5_told_32 ?_
        refine v_cV (As := [.int (-2)]) (st := []) 39 0 [0, 12] zC dX5_told_36 hA (c_X5_refuse (ev_l E) (ev_D E) cI (r0 := r0) (k1 := k1) (k2 := k2) (k3 := k3) (k4 := k4) (k6 := k6) (k7 := k7) (k8 := k8) (k10 := k10) (k12 := k12) (k13 := k13) (k14 := k14) (k15 := k15) (k16 := k16) (k21 := k21) (k22 := k22) (k23 := k23) (k24 := k24) (k25 := k25) (k30 := k30) (k31 := k31) (k33 := k33) (n := n) (m := m) (aw := 0) (ls := ls) (ap := ap) (sq := sq) (pl := pl) (tz := tz) (rs := rs) (bd := bd) (pd := pd) (tk := tk) (kv := kv) (sd := sd) (R := R) (v := (-2)) (j := 2) (hv := (by first | omega | assumption | rfl | (simp only []; omega) | decide)) (h1 := (by first | omega | assumption | rfl | (simp only []; omega) | decide)) (h6 := (by first | omega | assumption | rfl | (simp only []; omega) | decide))) cf_X5_refuse lk_X5_129 rfl rfl rfl rfl rfl (by decide +kernel) (Nat.le_of_ble_eq_true rfl) (fun rv_41 wv_42 hp_43 hm_44 => ?_)
        clear hm_44
        obtain ⟨rfl, rfl⟩ := hp_43
        show VV E 0 0 39 [(0, .ref r0), (1, .int (nI jf)), (2, .int w)] [.int (-2)] [(r0, .inr (5, [.int (nI n), .ref k1, .ref k2, .ref k3, .ref k4, .int (nI m), .ref k6, .ref k7, .ref k8, .int (nI 0), .ref k10, .int (nI 0), .ref k12, .ref k13, .ref k14, .ref k15, .ref k16, .int (nI ls), .int (nI ap), .int (bz bd), .int (nI sq), .ref k21, .ref k22, .ref k23, .ref k24, .ref k25, .int (bz pd), .int (nI pl), .int (bz tk), kv, .ref k30, .ref k31, .int (nI tz), .ref k33, .int (nI rs), .int sd])), (k1, .inl (cI, 7, .inl (nIf ki))), (k2, .inl (cI, 7, .inl (nIf op))), (k3, .inl (cI, 7, .inl (nIf (shF sh)))), (k4, .inl (cI, 7, .inl (nIf fa))), (k6, .inl (cI, 6, .inl (nIf K))), (k7, .inl (cI, 6, .inl (nIf G))), (k8, .inl (cI, 6, .inl (nIf T))), (k12, .inl (cI, 7, .inl (nIf kw))), (k13, .inl (cI, 175, .inl (nIf kn))), (k14, .inl (cI, 144, .inl (mIf M))), (k15, .inl (cI, 7, .inl (nIf mw))), (k10, .inl (cI, 7, .inl (nIf (un R 2 (R 2 + 1)))))]
        refine v_iret zC zT dX5_told_39  ?_
        first | (have g9 := hn_f; exact ⟨kw, kn, M, mw, 1, _, by unfold q_told; rw [hn_f], hkw, hkn, hM, rfl, rfl⟩) | (have g9 := hn_w; exact ⟨kw, kn, M, mw, 2, _, by unfold q_told; rw [hi_f]; dsimp only; rw [hn_w], hkw, hkn, hM, rfl, rfl⟩) | exact ⟨_, _, _, _, 0, _, by unfold q_told; rw [hi_f]; dsimp only; rw [hi_w]; dsimp only; first | (rw [if_pos (show jw = 1 by omega)]; done) | (rw [if_neg (show ¬ jw = 1 by omega), hx, show d = m by omega]), hR9.2.2.2.1, hR9.2.2.2.2.1, hR9.2.2.2.2.2, rfl, rfl⟩
    ·
      rw [b9]
      subst e9
      have hi_w := i9
      have hl_w := l9
      refine v_ifb_ne 40 22 zC dX5_told_19 (fun _ => ?_) (fun z => absurd z (by decide))
      refine v_al_n 41 zC dX5_told_40 0 rfl ?_
      refine v_cV (As := []) (st := []) 44 0 [0, 1, 2, 3, 4, 5, 6, 7, 8, 9, 10, 11] zC dX5_told_41 hA (c_X5_day (ev_l E) (ev_D E) cI (r0 := r0) (k1 := k1) (k2 := k2) (k3 := k3) (k4 := k4) (k6 := k6) (k7 := k7) (k8 := k8) (k10 := k10) (k12 := k12) (k13 := k13) (k14 := k14) (k15 := k15) (k16 := k16) (k21 := k21) (k22 := k22) (k23 := k23) (k24 := k24) (k25 := k25) (k30 := k30) (k31 := k31) (k33 := k33) (n := n) (m := m) (aw := 0) (ls := ls) (ap := ap) (sq := sq) (pl := pl) (tz := tz) (rs := rs) (bd := bd) (pd := pd) (tk := tk) (kv := kv) (sd := sd) (ki := ki) (op := op) (fa := fa) (K := K) (G := G) (T := T) (sh := sh) (kw := kw) (kn := kn) (M := M) (mw := mw) (hw := (by first | omega | assumption | rfl | (simp only []; omega) | decide)) (hkw := (by first | omega | assumption | rfl | (simp only []; omega) | decide)) (hkn := (by first | omega | assumption | rfl | (simp only []; omega) | decide)) (hM := (by first | omega | assumption | rfl | (simp only []; omega) | decide))) cf_X5_day lk_X5_123 rfl rfl rfl rfl rfl (by decide +kernel) (Nat.le_of_ble_eq_true rfl) (fun rv_46 wv_47 hp_48 hm_49 => ?_)
      clear hm_49
      obtain ⟨kw1_50, kn1_51, M1_52, mw1_53, hR_54, rfl, rfl⟩ := hp_48
      show VV E 0 0 44 [(0, .ref r0), (1, .int (nI jf)), (2, .int (nI jw))] [] [(r0, .inr (5, [.int (nI n), .ref k1, .ref k2, .ref k3, .ref k4, .int (nI m), .ref k6, .ref k7, .ref k8, .int (nI 0), .ref k10, .int (nI 0), .ref k12, .ref k13, .ref k14, .ref k15, .ref k16, .int (nI ls), .int (nI ap), .int (bz bd), .int (nI sq), .ref k21, .ref k22, .ref k23, .ref k24, .ref k25, .int (bz pd), .int (nI pl), .int (bz tk), kv, .ref k30, .ref k31, .int (nI tz), .ref k33, .int (nI rs), .int sd])), (k1, .inl (cI, 7, .inl (nIf ki))), (k2, .inl (cI, 7, .inl (nIf op))), (k3, .inl (cI, 7, .inl (nIf (shF sh)))), (k4, .inl (cI, 7, .inl (nIf fa))), (k6, .inl (cI, 6, .inl (nIf K))), (k7, .inl (cI, 6, .inl (nIf G))), (k8, .inl (cI, 6, .inl (nIf T))), (k12, .inl (cI, 7, .inl (nIf kw1_50))), (k13, .inl (cI, 175, .inl (nIf kn1_51))), (k14, .inl (cI, 144, .inl (mIf M1_52))), (k15, .inl (cI, 7, .inl (nIf mw1_53))), (k10, .inl (cI, 7, .inl (nIf R)))]
      have hR9 := hR_54
      refine v_ic (v := (nI 0)) 45 zC dX5_told_44 (by decide +kernel) ?_
      refine v_is_n (lv2 := [(3, .int (nI 0)), (0, .ref r0), (1, .int (nI jf)), (2, .int (nI jw))]) 46 zC dX5_told_45 (by rw [hnE]; decide) rfl ?_
      refine v_ic (v := (nI 0)) 47 zC dX5_told_46 (by decide +kernel) ?_
      refine v_is (lv2 := [(4, .int (nI 0)), (3, .int (nI 0)), (0, .ref r0), (1, .int (nI jf)), (2, .int (nI jw))]) 49 zC dX5_told_47 (by rw [hnE]; decide) rfl ?_
      have lp49 : ∀ (mz : Nat) (x : Nat) (d : Nat), (x = sm (fun d => if T d = jf then SPOKE (n, m, sh, 0, ki, op, fa, K, G, T) d else 0) d) → (d ≤ m) → (x ≤ 24 * d) → m - d = mz → VV E 0 0 49 [(4, .int (nI d)), (3, .int (nI x)), (0, .ref r0), (1, .int (nI jf)), (2, .int (nI jw))] [] [(r0, .inr (5, [.int (nI n), .ref k1, .ref k2, .ref k3, .ref k4, .int (nI m), .ref k6, .ref k7, .ref k8, .int (nI 0), .ref k10, .int (nI 0), .ref k12, .ref k13, .ref k14, .ref k15, .ref k16, .int (nI ls), .int (nI ap), .int (bz bd), .int (nI sq), .ref k21, .ref k22, .ref k23, .ref k24, .ref k25, .int (bz pd), .int (nI pl), .int (bz tk), kv, .ref k30, .ref k31, .int (nI tz), .ref k33, .int (nI rs), .int sd])), (k1, .inl (cI, 7, .inl (nIf ki))), (k2, .inl (cI, 7, .inl (nIf op))), (k3, .inl (cI, 7, .inl (nIf (shF sh)))), (k4, .inl (cI, 7, .inl (nIf fa))), (k6, .inl (cI, 6, .inl (nIf K))), (k7, .inl (cI, 6, .inl (nIf G))), (k8, .inl (cI, 6, .inl (nIf T))), (k12, .inl (cI, 7, .inl (nIf kw1_50))), (k13, .inl (cI, 175, .inl (nIf kn1_51))), (k14, .inl (cI, 144, .inl (mIf M1_52))), (k15, .inl (cI, 7, .inl (nIf mw1_53))), (k10, .inl (cI, 7, .inl (nIf R)))] := by
        intro mz
        induction mz using Nat.strongRecOn with
        | _ mz ih49 =>
        intro x d hx hd hxl hm49
        refine v_il 51 zC dX5_told_49 0 rfl ?_
        refine v_al_n 52 zC dX5_told_51 2 rfl ?_
        refine v_gf 55 0 zC dX5_told_52 gf_X5_84 rfl rfl ?_
        refine v_icmpn_ge 88 58 zC dX5_told_55 (fun h_55 => ?_) (fun h_55 => ?_)
        ·
          refine v_il_n 89 zC dX5_told_88 4 rfl ?_
          refine v_ifn_ne 96 92 zC dX5_told_89 (fun h_56 => ?_) (fun h_56 => ?_)
          ·
            refine v_al_n 97 zC dX5_told_96 2 rfl ?_
            refine v_il_n 98 zC dX5_told_97 3 rfl ?_
            refine v_cV (As := [.int (nI jf)]) (st := []) 101 0 [0, 8] zC dX5_told_98 hA (c_X5_knowing (ev_l E) (ev_D E) cI (r0 := r0) (k1 := k1) (k2 := k2) (k3 := k3) (k4 := k4) (k6 := k6) (k7 := k7) (k8 := k8) (k10 := k10) (k12 := k12) (k13 := k13) (k14 := k14) (k15 := k15) (k16 := k16) (k21 := k21) (k22 := k22) (k23 := k23) (k24 := k24) (k25 := k25) (k30 := k30) (k31 := k31) (k33 := k33) (n := n) (m := m) (aw := 0) (ls := ls) (ap := ap) (sq := sq) (pl := pl) (tz := tz) (rs := rs) (bd := bd) (pd := pd) (tk := tk) (kv := kv) (sd := sd) (ki := ki) (op := op) (fa := fa) (K := K) (G := G) (T := T) (sh := sh) (kw := kw1_50) (kn := kn1_51) (M := M1_52) (f := jf) (hn := (by first | omega | assumption | rfl | (simp only []; omega) | decide)) (hm := (by first | omega | assumption | rfl | (simp only []; omega) | decide)) (hR := hR9) (hf := (by first | omega | assumption | rfl | (simp only []; omega) | decide))) cf_X5_knowing lk_X5_242 rfl rfl rfl rfl rfl (by decide +kernel) (Nat.le_of_ble_eq_true rfl) (fun rv_57 wv_58 hp_59 hm_60 => ?_)
            clear hm_60
            obtain ⟨rfl, rfl⟩ := hp_59
            show VV E 0 0 101 [(4, .int (nI d)), (3, .int (nI x)), (0, .ref r0), (1, .int (nI jf)), (2, .int (nI jw))] [.int (nI (KNW (n, m, sh, 0, ki, op, fa, K, G, T) jf))] [(r0, .inr (5, [.int (nI n), .ref k1, .ref k2, .ref k3, .ref k4, .int (nI m), .ref k6, .ref k7, .ref k8, .int (nI 0), .ref k10, .int (nI 0), .ref k12, .ref k13, .ref k14, .ref k15, .ref k16, .int (nI ls), .int (nI ap), .int (bz bd), .int (nI sq), .ref k21, .ref k22, .ref k23, .ref k24, .ref k25, .int (bz pd), .int (nI pl), .int (bz tk), kv, .ref k30, .ref k31, .int (nI tz), .ref k33, .int (nI rs), .int sd])), (k1, .inl (cI, 7, .inl (nIf ki))), (k2, .inl (cI, 7, .inl (nIf op))), (k3, .inl (cI, 7, .inl (nIf (shF sh)))), (k4, .inl (cI, 7, .inl (nIf fa))), (k6, .inl (cI, 6, .inl (nIf K))), (k7, .inl (cI, 6, .inl (nIf G))), (k8, .inl (cI, 6, .inl (nIf T))), (k12, .inl (cI, 7, .inl (nIf kw1_50))), (k13, .inl (cI, 175, .inl (nIf kn1_51))), (k14, .inl (cI, 144, .inl (mIf M1_52))), (k15, .inl (cI, 7, .inl (nIf mw1_53))), (k10, .inl (cI, 7, .inl (nIf R)))]
            refine v_cS (As := [.int (nI (KNW (n, m, sh, 0, ki, op, fa, K, G, T) jf))]) (st := []) 104 [] zC dX5_told_101 hA (c_X5_onesOf (ev_l E) (ev_D E) cI (x := (KNW (n, m, sh, 0, ki, op, fa, K, G, T) jf)) (hx := (Nat.lt_trans (mkn_7 _ hn) (by decide)))) cf_X5_onesOf lk_X5_120 rfl rfl rfl (by decide +kernel) (Nat.le_of_ble_eq_true rfl) (fun rv_61 wv_62 hp_63 hm_64 => ?_)
            clear hm_64
            obtain ⟨rfl, rfl⟩ := hp_63
            show VV E 0 0 104 [(4, .int (nI d)), (3, .int (nI x)), (0, .ref r0), (1, .int (nI jf)), (2, .int (nI jw))] [.int (nI (pcn (KNW (n, m, sh, 0, ki, op, fa, K, G, T) jf)))] [(r0, .inr (5, [.int (nI n), .ref k1, .ref k2, .ref k3, .ref k4, .int (nI m), .ref k6, .ref k7, .ref k8, .int (nI 0), .ref k10, .int (nI 0), .ref k12, .ref k13, .ref k14, .ref k15, .ref k16, .int (nI ls), .int (nI ap), .int (bz bd), .int (nI sq), .ref k21, .ref k22, .ref k23, .ref k24, .ref k25, .int (bz pd), .int (nI pl), .int (bz tk), kv, .ref k30, .ref k31, .int (nI tz), .ref k33, .int (nI rs), .int sd])), (k1, .inl (cI, 7, .inl (nIf ki))), (k2, .inl (cI, 7, .inl (nIf op))), (k3, .inl (cI, 7, .inl (nIf (shF sh)))), (k4, .inl (cI, 7, .inl (nIf fa))), (k6, .inl (cI, 6, .inl (nIf K))), (k7, .inl (cI, 6, .inl (nIf G))), (k8, .inl (cI, 6, .inl (nIf T))), (k12, .inl (cI, 7, .inl (nIf kw1_50))), (k13, .inl (cI, 175, .inl (nIf kn1_51))), (k14, .inl (cI, 144, .inl (mIf M1_52))), (k15, .inl (cI, 7, .inl (nIf mw1_53))), (k10, .inl (cI, 7, .inl (nIf R)))]
            refine v_iret zC zT dX5_told_104  ?_
            first | (have g9 := hn_f; exact ⟨kw, kn, M, mw, 1, _, by unfold q_told; rw [hn_f], hkw, hkn, hM, rfl, rfl⟩) | (have g9 := hn_w; exact ⟨kw, kn, M, mw, 2, _, by unfold q_told; rw [hi_f]; dsimp only; rw [hn_w], hkw, hkn, hM, rfl, rfl⟩) | exact ⟨_, _, _, _, 0, _, by unfold q_told; rw [hi_f]; dsimp only; rw [hi_w]; dsimp only; first | (rw [if_pos (show jw = 1 by omega)]; done) | (rw [if_neg (show ¬ jw = 1 by omega), hx, show d = m by omega]), hR9.2.2.2.1, hR9.2.2.2.2.1, hR9.2.2.2.2.2, rfl, rfl⟩
          ·
            refine v_il_n 93 zC dX5_told_92 1 rfl ?_
            refine v_goto 104 zC dX5_told_93 ?_
            refine v_iret zC zT dX5_told_104  ?_
            first | (have g9 := hn_f; exact ⟨kw, kn, M, mw, 1, _, by unfold q_told; rw [hn_f], hkw, hkn, hM, rfl, rfl⟩) | (have g9 := hn_w; exact ⟨kw, kn, M, mw, 2, _, by unfold q_told; rw [hi_f]; dsimp only; rw [hn_w], hkw, hkn, hM, rfl, rfl⟩) | exact ⟨_, _, _, _, 0, _, by unfold q_told; rw [hi_f]; dsimp only; rw [hi_w]; dsimp only; first | (rw [if_pos (show jw = 1 by omega)]; done) | (rw [if_neg (show ¬ jw = 1 by omega), hx, show d = m by omega]), hR9.2.2.2.1, hR9.2.2.2.2.1, hR9.2.2.2.2.2, rfl, rfl⟩
        ·
          refine v_il_n 59 zC dX5_told_58 1 rfl ?_
          refine v_al_n 60 zC dX5_told_59 2 rfl ?_
          refine v_gf 63 0 zC dX5_told_60 gf_X5_28 rfl rfl ?_
          refine v_il 65 zC dX5_told_63 0 rfl ?_
          refine v_ialn (v := (nI (T d))) 66 7 zC dX5_told_65 rfl (by omega) rfl ?_
          have hb_65 := hT d
          refine v_il_n 67 zC dX5_told_66 3 rfl ?_
          refine v_icmpn_ne 79 70 zC dX5_told_67 (fun h_66 => ?_) (fun h_66 => ?_)
          ·
            have hv9 := h_66
            refine v_ic (v := (nI 0)) 80 zC dX5_told_79 (by decide +kernel) ?_
            refine v_iadd (v := (nI x)) 81 zC dX5_told_80 (nI_add _ 0) ?_
            refine v_is_n (lv2 := [(3, .int (nI x)), (4, .int (nI d)), (0, .ref r0), (1, .int (nI jf)), (2, .int (nI jw))]) 82 zC dX5_told_81 (by rw [hnE]; decide) rfl ?_
            refine v_inc (v := (nI (d + 1))) (lv2 := [(4, .int (nI (d + 1))), (3, .int (nI x)), (0, .ref r0), (1, .int (nI jf)), (2, .int (nI jw))]) 85 zC dX5_told_82 (j := 1) rfl (nI_add _ 1) (by rw [hnE]; decide) rfl ?_
            refine v_goto 49 zC dX5_told_85 ?_
            refine v_lvs (lv2 := [(4, .int (nI (d + 1))), (3, .int (nI x)), (0, .ref r0), (1, .int (nI jf)), (2, .int (nI jw))]) [0, 1, 2, 3, 4] rfl ?_
            exact ih49 _ (by omega) x (d + 1) (by rw [hx]; first | (simp [sm, hu9]; done) | (simp [sm, hv9]; done)) (by first | omega | assumption | rfl | (simp only []; omega) | decide) (by first | omega | assumption | rfl | (simp only []; omega) | decide) rfl
          ·
            have hu9 := h_66
            refine v_al_n 71 zC dX5_told_70 2 rfl ?_
            refine v_il 73 zC dX5_told_71 0 rfl ?_
            refine v_cV (As := [.int (nI d)]) (st := [.int (nI x)]) 76 0 [0, 10] zC dX5_told_73 hA (c_X5_spokeOf (ev_l E) (ev_D E) cI (r0 := r0) (k1 := k1) (k2 := k2) (k3 := k3) (k4 := k4) (k6 := k6) (k7 := k7) (k8 := k8) (k10 := k10) (k12 := k12) (k13 := k13) (k14 := k14) (k15 := k15) (k16 := k16) (k21 := k21) (k22 := k22) (k23 := k23) (k24 := k24) (k25 := k25) (k30 := k30) (k31 := k31) (k33 := k33) (n := n) (m := m) (aw := 0) (ls := ls) (ap := ap) (sq := sq) (pl := pl) (tz := tz) (rs := rs) (bd := bd) (pd := pd) (tk := tk) (kv := kv) (sd := sd) (ki := ki) (op := op) (fa := fa) (K := K) (G := G) (T := T) (sh := sh) (kw := kw1_50) (kn := kn1_51) (M := M1_52) (d := d) (hn := (by first | omega | assumption | rfl | (simp only []; omega) | decide)) (hm := (by first | omega | assumption | rfl | (simp only []; omega) | decide)) (hR := hR9) (hd := (by first | omega | assumption | rfl | (simp only []; omega) | decide))) cf_X5_spokeOf lk_X5_239 rfl rfl rfl rfl rfl (by decide +kernel) (Nat.le_of_ble_eq_true rfl) (fun rv_67 wv_68 hp_69 hm_70 => ?_)
            clear hm_70
            obtain ⟨rfl, rfl⟩ := hp_69
            show VV E 0 0 76 [(4, .int (nI d)), (3, .int (nI x)), (0, .ref r0), (1, .int (nI jf)), (2, .int (nI jw))] [.int (nI (SPOKE (n, m, sh, 0, ki, op, fa, K, G, T) d)), .int (nI x)] [(r0, .inr (5, [.int (nI n), .ref k1, .ref k2, .ref k3, .ref k4, .int (nI m), .ref k6, .ref k7, .ref k8, .int (nI 0), .ref k10, .int (nI 0), .ref k12, .ref k13, .ref k14, .ref k15, .ref k16, .int (nI ls), .int (nI ap), .int (bz bd), .int (nI sq), .ref k21, .ref k22, .ref k23, .ref k24, .ref k25, .int (bz pd), .int (nI pl), .int (bz tk), kv, .ref k30, .ref k31, .int (nI tz), .ref k33, .int (nI rs), .int sd])), (k1, .inl (cI, 7, .inl (nIf ki))), (k2, .inl (cI, 7, .inl (nIf op))), (k3, .inl (cI, 7, .inl (nIf (shF sh)))), (k4, .inl (cI, 7, .inl (nIf fa))), (k6, .inl (cI, 6, .inl (nIf K))), (k7, .inl (cI, 6, .inl (nIf G))), (k8, .inl (cI, 6, .inl (nIf T))), (k12, .inl (cI, 7, .inl (nIf kw1_50))), (k13, .inl (cI, 175, .inl (nIf kn1_51))), (k14, .inl (cI, 144, .inl (mIf M1_52))), (k15, .inl (cI, 7, .inl (nIf mw1_53))), (k10, .inl (cI, 7, .inl (nIf R)))]
            have hc9 : SPOKE (n, m, sh, 0, ki, op, fa, K, G, T) d ≤ 24 := spo_le
            refine v_goto 80 zC dX5_told_76 ?_
            refine v_iadd (v := (nI (x + (SPOKE (n, m, sh, 0, ki, op, fa, K, G, T) d)))) 81 zC dX5_told_80 (nI_add _ _) ?_
            refine v_is_n (lv2 := [(3, .int (nI (x + (SPOKE (n, m, sh, 0, ki, op, fa, K, G, T) d)))), (4, .int (nI d)), (0, .ref r0), (1, .int (nI jf)), (2, .int (nI jw))]) 82 zC dX5_told_81 (by rw [hnE]; decide) rfl ?_
            refine v_inc (v := (nI (d + 1))) (lv2 := [(4, .int (nI (d + 1))), (3, .int (nI (x + (SPOKE (n, m, sh, 0, ki, op, fa, K, G, T) d)))), (0, .ref r0), (1, .int (nI jf)), (2, .int (nI jw))]) 85 zC dX5_told_82 (j := 1) rfl (nI_add _ 1) (by rw [hnE]; decide) rfl ?_
            refine v_goto 49 zC dX5_told_85 ?_
            refine v_lvs (lv2 := [(4, .int (nI (d + 1))), (3, .int (nI (x + (SPOKE (n, m, sh, 0, ki, op, fa, K, G, T) d)))), (0, .ref r0), (1, .int (nI jf)), (2, .int (nI jw))]) [0, 1, 2, 3, 4] rfl ?_
            exact ih49 _ (by omega) (x + (SPOKE (n, m, sh, 0, ki, op, fa, K, G, T) d)) (d + 1) (by rw [hx]; first | (simp [sm, hu9]; done) | (simp [sm, hv9]; done)) (by first | omega | assumption | rfl | (simp only []; omega) | decide) (by first | omega | assumption | rfl | (simp only []; omega) | decide) rfl
      refine v_lvs (lv2 := [(4, .int (nI 0)), (3, .int (nI 0)), (0, .ref r0), (1, .int (nI jf)), (2, .int (nI jw))]) [0, 1, 2, 3, 4] rfl ?_
      exact lp49 _ 0 0 rfl (by first | omega | assumption | rfl | (simp only []; omega) | decide) (by first | omega | assumption | rfl | (simp only []; omega) | decide) rfl
set_option maxRecDepth 100000 in
set_option maxHeartbeats 4000000 in
theorem c_X5_all (l : Launch) (D : va_G) (cI : ClassId) (r0 k1 k2 k3 k4 k6 k7 k8 k10 k12 k13 k14 k15 k16 k21 k22 k23 k24 k25 k30 k31 k33 : Nat) (n m ls ap sq pl tz rs : Nat) (bd pd tk : Bool) (kv : Value) (sd : Int32) (ki op fa K G T : Nat → Nat) (sh : Nat) (kw kn : Nat → Nat) (M : Nat → Option Nat) (mw : Nat → Nat) (hw : FW n m sh ki op fa K G T) (hkw : ∀ z, kw z < 1024) (hkn : ∀ z, kn z < 1024) (hM : ∀ z v, M z = some v → v < 7) : CT l yX5_all cX5_all 1 (some .int) { frames := 7, cells := 0, slots := 0, locals := 158 } D cI [.ref r0] [(r0, .inr (5, [.int (nI n), .ref k1, .ref k2, .ref k3, .ref k4, .int (nI m), .ref k6, .ref k7, .ref k8, .int (nI 0), .ref k10, .int (nI 0), .ref k12, .ref k13, .ref k14, .ref k15, .ref k16, .int (nI ls), .int (nI ap), .int (bz bd), .int (nI sq), .ref k21, .ref k22, .ref k23, .ref k24, .ref k25, .int (bz pd), .int (nI pl), .int (bz tk), kv, .ref k30, .ref k31, .int (nI tz), .ref k33, .int (nI rs), .int sd])), (k1, .inl (cI, 7, .inl (nIf ki))), (k2, .inl (cI, 7, .inl (nIf op))), (k3, .inl (cI, 7, .inl (nIf (shF sh)))), (k4, .inl (cI, 7, .inl (nIf fa))), (k6, .inl (cI, 6, .inl (nIf K))), (k7, .inl (cI, 6, .inl (nIf G))), (k8, .inl (cI, 6, .inl (nIf T))), (k12, .inl (cI, 7, .inl (nIf kw))), (k13, .inl (cI, 175, .inl (nIf kn))), (k14, .inl (cI, 144, .inl (mIf M))), (k15, .inl (cI, 7, .inl (nIf mw)))] (fun zr zw => (∃ kw1 : Nat → Nat, ∃ kn1 : Nat → Nat, ∃ M1 : Nat → Option Nat, ∃ mw1 : Nat → Nat, (∀ z, kw1 z < 1024) ∧ (∀ z, kn1 z < 1024) ∧ (∀ z v, M1 z = some v → v < 7) ∧ zr = some (.int (nI (ALL (n, m, sh, 0, ki, op, fa, K, G, T)))) ∧ zw = [(r0, .inr (5, [.int (nI n), .ref k1, .ref k2, .ref k3, .ref k4, .int (nI m), .ref k6, .ref k7, .ref k8, .int (nI 0), .ref k10, .int (nI 0), .ref k12, .ref k13, .ref k14, .ref k15, .ref k16, .int (nI ls), .int (nI ap), .int (bz bd), .int (nI sq), .ref k21, .ref k22, .ref k23, .ref k24, .ref k25, .int (bz pd), .int (nI pl), .int (bz tk), kv, .ref k30, .ref k31, .int (nI tz), .ref k33, .int (nI rs), .int sd])), (k1, .inl (cI, 7, .inl (nIf ki))), (k2, .inl (cI, 7, .inl (nIf op))), (k3, .inl (cI, 7, .inl (nIf (shF sh)))), (k4, .inl (cI, 7, .inl (nIf fa))), (k6, .inl (cI, 6, .inl (nIf K))), (k7, .inl (cI, 6, .inl (nIf G))), (k8, .inl (cI, 6, .inl (nIf T))), (k12, .inl (cI, 7, .inl (nIf kw1))), (k13, .inl (cI, 175, .inl (nIf kn1))), (k14, .inl (cI, 144, .inl (mIf M1))), (k15, .inl (cI, 7, .inl (nIf mw1)))])) := by
  refine CT_of RX5 rfl (by decide +kernel) (Nat.le_of_ble_eq_true rfl) (fun E hnE zC zT => ?_)
  have hA : ∀ q, (ev_s E).heap.size ≤ q → ev_A E q := fun q h => by rw [zT.2]; exact Or.inr h
  obtain ⟨hn, hm, hsh, hki, hop, hfa, hK, hG, hT, vki, vop, vfa, vK, vG, vT⟩ := id hw
  show VV E 0 0 0 [(0, .ref r0)] [] [(r0, .inr (5, [.int (nI n), .ref k1, .ref k2, .ref k3, .ref k4, .int (nI m), .ref k6, .ref k7, .ref k8, .int (nI 0), .ref k10, .int (nI 0), .ref k12, .ref k13, .ref k14, .ref k15, .ref k16, .int (nI ls), .int (nI ap), .int (bz bd), .int (nI sq), .ref k21, .ref k22, .ref k23, .ref k24, .ref k25, .int (bz pd), .int (nI pl), .int (bz tk), kv, .ref k30, .ref k31, .int (nI tz), .ref k33, .int (nI rs), .int sd])), (k1, .inl (cI, 7, .inl (nIf ki))), (k2, .inl (cI, 7, .inl (nIf op))), (k3, .inl (cI, 7, .inl (nIf (shF sh)))), (k4, .inl (cI, 7, .inl (nIf fa))), (k6, .inl (cI, 6, .inl (nIf K))), (k7, .inl (cI, 6, .inl (nIf G))), (k8, .inl (cI, 6, .inl (nIf T))), (k12, .inl (cI, 7, .inl (nIf kw))), (k13, .inl (cI, 175, .inl (nIf kn))), (k14, .inl (cI, 144, .inl (mIf M))), (k15, .inl (cI, 7, .inl (nIf mw)))]
  refine v_al_n 1 zC dX5_all_0 0 rfl ?_
  refine v_ic (v := (nI 0)) 2 zC dX5_all_1 (by decide +kernel) ?_
  refine v_pf (ws2 := [(r0, .inr (5, [.int (nI n), .ref k1, .ref k2, .ref k3, .ref k4, .int (nI m), .ref k6, .ref k7, .ref k8, .int (nI 0), .ref k10, .int (nI 0), .ref k12, .ref k13, .ref k14, .ref k15, .ref k16, .int (nI ls), .int (nI ap), .int (bz bd), .int (nI sq), .ref k21, .ref k22, .ref k23, .ref k24, .ref k25, .int (bz pd), .int (nI pl), .int (bz tk), kv, .ref k30, .ref k31, .int (nI tz), .ref k33, .int (nI rs), .int sd])), (k1, .inl (cI, 7, .inl (nIf ki))), (k2, .inl (cI, 7, .inl (nIf op))), (k3, .inl (cI, 7, .inl (nIf (shF sh)))), (k4, .inl (cI, 7, .inl (nIf fa))), (k6, .inl (cI, 6, .inl (nIf K))), (k7, .inl (cI, 6, .inl (nIf G))), (k8, .inl (cI, 6, .inl (nIf T))), (k12, .inl (cI, 7, .inl (nIf kw))), (k13, .inl (cI, 175, .inl (nIf kn))), (k14, .inl (cI, 144, .inl (mIf M))), (k15, .inl (cI, 7, .inl (nIf mw)))]) 5 0 zC dX5_all_2 pf_X5_73 rfl (Nat.le_of_ble_eq_true rfl) rfl rfl rfl ?_
  refine v_al_n 6 zC dX5_all_5 0 rfl ?_
  refine v_cV (As := []) (st := []) 9 0 [0, 1, 2, 3, 4, 5, 6, 7, 8, 9, 10, 11] zC dX5_all_6 hA (c_X5_allNow (ev_l E) (ev_D E) cI (r0 := r0) (k1 := k1) (k2 := k2) (k3 := k3) (k4 := k4) (k6 := k6) (k7 := k7) (k8 := k8) (k10 := k10) (k12 := k12) (k13 := k13) (k14 := k14) (k15 := k15) (k16 := k16) (k21 := k21) (k22 := k22) (k23 := k23) (k24 := k24) (k25 := k25) (k30 := k30) (k31 := k31) (k33 := k33) (n := n) (m := m) (aw := 0) (ls := ls) (ap := ap) (sq := sq) (pl := pl) (tz := tz) (rs := rs) (bd := bd) (pd := pd) (tk := tk) (kv := kv) (sd := sd) (ki := ki) (op := op) (fa := fa) (K := K) (G := G) (T := T) (sh := sh) (kw := kw) (kn := kn) (M := M) (mw := mw) (hw := (by first | omega | assumption | rfl | (simp only []; omega) | decide)) (hkw := (by first | omega | assumption | rfl | (simp only []; omega) | decide)) (hkn := (by first | omega | assumption | rfl | (simp only []; omega) | decide)) (hM := (by first | omega | assumption | rfl | (simp only []; omega) | decide))) cf_X5_allNow lk_X5_245 rfl rfl rfl rfl rfl (by decide +kernel) (Nat.le_of_ble_eq_true rfl) (fun rv_1 wv_2 hp_3 hm_4 => ?_)
  clear hm_4
  obtain ⟨kw1_5, kn1_6, M1_7, mw1_8, hR_9, hl_10, rfl, rfl⟩ := hp_3
  show VV E 0 0 9 [(0, .ref r0)] [.int (nI (ALL (n, m, sh, 0, ki, op, fa, K, G, T)))] [(r0, .inr (5, [.int (nI n), .ref k1, .ref k2, .ref k3, .ref k4, .int (nI m), .ref k6, .ref k7, .ref k8, .int (nI 0), .ref k10, .int (nI 0), .ref k12, .ref k13, .ref k14, .ref k15, .ref k16, .int (nI ls), .int (nI ap), .int (bz bd), .int (nI sq), .ref k21, .ref k22, .ref k23, .ref k24, .ref k25, .int (bz pd), .int (nI pl), .int (bz tk), kv, .ref k30, .ref k31, .int (nI tz), .ref k33, .int (nI rs), .int sd])), (k1, .inl (cI, 7, .inl (nIf ki))), (k2, .inl (cI, 7, .inl (nIf op))), (k3, .inl (cI, 7, .inl (nIf (shF sh)))), (k4, .inl (cI, 7, .inl (nIf fa))), (k6, .inl (cI, 6, .inl (nIf K))), (k7, .inl (cI, 6, .inl (nIf G))), (k8, .inl (cI, 6, .inl (nIf T))), (k12, .inl (cI, 7, .inl (nIf kw1_5))), (k13, .inl (cI, 175, .inl (nIf kn1_6))), (k14, .inl (cI, 144, .inl (mIf M1_7))), (k15, .inl (cI, 7, .inl (nIf mw1_8)))]
  have hR9 := hR_9
  refine v_iret zC zT dX5_all_9  ?_
  exact ⟨_, _, _, _, hR9.2.2.2.1, hR9.2.2.2.2.1, hR9.2.2.2.2.2, rfl, rfl⟩
set_option maxRecDepth 100000 in
set_option maxHeartbeats 4000000 in
theorem c_X5_can (l : Launch) (D : va_G) (cI : ClassId) (r0 k1 k2 k3 k4 k6 k7 k8 k10 k12 k13 k14 k15 k16 k21 k22 k23 k24 k25 k30 k31 k33 : Nat) (n m ls ap sq pl tz rs : Nat) (bd pd tk : Bool) (kv : Value) (sd : Int32) (ki op fa K G T : Nat → Nat) (sh : Nat) (kw kn : Nat → Nat) (M : Nat → Option Nat) (mw : Nat → Nat) (R : Nat → Nat) (p f h : Int32) (hw : FW n m sh ki op fa K G T) (hkw : ∀ z, kw z < 1024) (hkn : ∀ z, kn z < 1024) (hM : ∀ z v, M z = some v → v < 7) : CT l yX5_can cX5_can 4 (some .int) { frames := 6, cells := 0, slots := 0, locals := 138 } D cI [.ref r0, .int p, .int f, .int h] [(r0, .inr (5, [.int (nI n), .ref k1, .ref k2, .ref k3, .ref k4, .int (nI m), .ref k6, .ref k7, .ref k8, .int (nI 0), .ref k10, .int (nI 0), .ref k12, .ref k13, .ref k14, .ref k15, .ref k16, .int (nI ls), .int (nI ap), .int (bz bd), .int (nI sq), .ref k21, .ref k22, .ref k23, .ref k24, .ref k25, .int (bz pd), .int (nI pl), .int (bz tk), kv, .ref k30, .ref k31, .int (nI tz), .ref k33, .int (nI rs), .int sd])), (k1, .inl (cI, 7, .inl (nIf ki))), (k2, .inl (cI, 7, .inl (nIf op))), (k3, .inl (cI, 7, .inl (nIf (shF sh)))), (k4, .inl (cI, 7, .inl (nIf fa))), (k6, .inl (cI, 6, .inl (nIf K))), (k7, .inl (cI, 6, .inl (nIf G))), (k8, .inl (cI, 6, .inl (nIf T))), (k12, .inl (cI, 7, .inl (nIf kw))), (k13, .inl (cI, 175, .inl (nIf kn))), (k14, .inl (cI, 144, .inl (mIf M))), (k15, .inl (cI, 7, .inl (nIf mw))), (k10, .inl (cI, 7, .inl (nIf R)))] (fun zr zw => (∃ kw1 : Nat → Nat, ∃ kn1 : Nat → Nat, ∃ M1 : Nat → Option Nat, ∃ mw1 : Nat → Nat, ∃ rc : Nat, ∃ rv : Int32, (q_can (n, m, sh, 0, ki, op, fa, K, G, T) p f h = (rc, rv)) ∧ (∀ z, kw1 z < 1024) ∧ (∀ z, kn1 z < 1024) ∧ (∀ z v, M1 z = some v → v < 7) ∧ zr = some (.int rv) ∧ zw = [(r0, .inr (5, [.int (nI n), .ref k1, .ref k2, .ref k3, .ref k4, .int (nI m), .ref k6, .ref k7, .ref k8, .int (nI 0), .ref k10, .int (nI 0), .ref k12, .ref k13, .ref k14, .ref k15, .ref k16, .int (nI ls), .int (nI ap), .int (bz bd), .int (nI sq), .ref k21, .ref k22, .ref k23, .ref k24, .ref k25, .int (bz pd), .int (nI pl), .int (bz tk), kv, .ref k30, .ref k31, .int (nI tz), .ref k33, .int (nI rs), .int sd])), (k1, .inl (cI, 7, .inl (nIf ki))), (k2, .inl (cI, 7, .inl (nIf op))), (k3, .inl (cI, 7, .inl (nIf (shF sh)))), (k4, .inl (cI, 7, .inl (nIf fa))), (k6, .inl (cI, 6, .inl (nIf K))), (k7, .inl (cI, 6, .inl (nIf G))), (k8, .inl (cI, 6, .inl (nIf T))), (k12, .inl (cI, 7, .inl (nIf kw1))), (k13, .inl (cI, 175, .inl (nIf kn1))), (k14, .inl (cI, 144, .inl (mIf M1))), (k15, .inl (cI, 7, .inl (nIf mw1))), (k10, .inl (cI, 7, .inl (nIf (rf R rc))))])) := by
  refine CT_of RX5 rfl (by decide +kernel) (Nat.le_of_ble_eq_true rfl) (fun E hnE zC zT => ?_)
  have hA : ∀ q, (ev_s E).heap.size ≤ q → ev_A E q := fun q h => by rw [zT.2]; exact Or.inr h
  obtain ⟨hn, hm, hsh, hki, hop, hfa, hK, hG, hT, vki, vop, vfa, vK, vG, vT⟩ := id hw
  show VV E 0 0 0 [(0, .ref r0), (1, .int p), (2, .int f), (3, .int h)] [] [(r0, .inr (5, [.int (nI n), .ref k1, .ref k2, .ref k3, .ref k4, .int (nI m), .ref k6, .ref k7, .ref k8, .int (nI 0), .ref k10, .int (nI 0), .ref k12, .ref k13, .ref k14, .ref k15, .ref k16, .int (nI ls), .int (nI ap), .int (bz bd), .int (nI sq), .ref k21, .ref k22, .ref k23, .ref k24, .ref k25, .int (bz pd), .int (nI pl), .int (bz tk), kv, .ref k30, .ref k31, .int (nI tz), .ref k33, .int (nI rs), .int sd])), (k1, .inl (cI, 7, .inl (nIf ki))), (k2, .inl (cI, 7, .inl (nIf op))), (k3, .inl (cI, 7, .inl (nIf (shF sh)))), (k4, .inl (cI, 7, .inl (nIf fa))), (k6, .inl (cI, 6, .inl (nIf K))), (k7, .inl (cI, 6, .inl (nIf G))), (k8, .inl (cI, 6, .inl (nIf T))), (k12, .inl (cI, 7, .inl (nIf kw))), (k13, .inl (cI, 175, .inl (nIf kn))), (k14, .inl (cI, 144, .inl (mIf M))), (k15, .inl (cI, 7, .inl (nIf mw))), (k10, .inl (cI, 7, .inl (nIf R)))]
  refine v_al_n 1 zC dX5_can_0 0 rfl ?_
  refine v_ic (v := (nI 0)) 2 zC dX5_can_1 (by decide +kernel) ?_
  refine v_pf (ws2 := [(r0, .inr (5, [.int (nI n), .ref k1, .ref k2, .ref k3, .ref k4, .int (nI m), .ref k6, .ref k7, .ref k8, .int (nI 0), .ref k10, .int (nI 0), .ref k12, .ref k13, .ref k14, .ref k15, .ref k16, .int (nI ls), .int (nI ap), .int (bz bd), .int (nI sq), .ref k21, .ref k22, .ref k23, .ref k24, .ref k25, .int (bz pd), .int (nI pl), .int (bz tk), kv, .ref k30, .ref k31, .int (nI tz), .ref k33, .int (nI rs), .int sd])), (k1, .inl (cI, 7, .inl (nIf ki))), (k2, .inl (cI, 7, .inl (nIf op))), (k3, .inl (cI, 7, .inl (nIf (shF sh)))), (k4, .inl (cI, 7, .inl (nIf fa))), (k6, .inl (cI, 6, .inl (nIf K))), (k7, .inl (cI, 6, .inl (nIf G))), (k8, .inl (cI, 6, .inl (nIf T))), (k12, .inl (cI, 7, .inl (nIf kw))), (k13, .inl (cI, 175, .inl (nIf kn))), (k14, .inl (cI, 144, .inl (mIf M))), (k15, .inl (cI, 7, .inl (nIf mw))), (k10, .inl (cI, 7, .inl (nIf R)))]) 5 0 zC dX5_can_2 pf_X5_73 rfl (Nat.le_of_ble_eq_true rfl) rfl rfl rfl ?_
  refine v_al_n 6 zC dX5_can_5 0 rfl ?_
  refine v_il_n 7 zC dX5_can_6 1 rfl ?_
  refine v_cV (As := [.int p]) (st := []) 10 0 [0] zC dX5_can_7 hA (c_X5_isOne (ev_l E) (ev_D E) cI (r0 := r0) (k1 := k1) (k2 := k2) (k3 := k3) (k4 := k4) (k6 := k6) (k7 := k7) (k8 := k8) (k10 := k10) (k12 := k12) (k13 := k13) (k14 := k14) (k15 := k15) (k16 := k16) (k21 := k21) (k22 := k22) (k23 := k23) (k24 := k24) (k25 := k25) (k30 := k30) (k31 := k31) (k33 := k33) (n := n) (m := m) (aw := 0) (ls := ls) (ap := ap) (sq := sq) (pl := pl) (tz := tz) (rs := rs) (bd := bd) (pd := pd) (tk := tk) (kv := kv) (sd := sd) (p := p) (hn := (by first | omega | assumption | rfl | (simp only []; omega) | decide))) cf_X5_isOne lk_X5_164 rfl rfl rfl rfl rfl (by decide +kernel) (Nat.le_of_ble_eq_true rfl) (fun rv_1 wv_2 hp_3 hm_4 => ?_)
  clear hm_4
  rcases hp_3 with ⟨hi_5, rfl, rfl⟩ | ⟨j_6, he_7, hi_8, hj_9, rfl, rfl⟩
  ·
    show VV E 0 0 10 [(0, .ref r0), (1, .int p), (2, .int f), (3, .int h)] [.int (nI 0)] [(r0, .inr (5, [.int (nI n), .ref k1, .ref k2, .ref k3, .ref k4, .int (nI m), .ref k6, .ref k7, .ref k8, .int (nI 0), .ref k10, .int (nI 0), .ref k12, .ref k13, .ref k14, .ref k15, .ref k16, .int (nI ls), .int (nI ap), .int (bz bd), .int (nI sq), .ref k21, .ref k22, .ref k23, .ref k24, .ref k25, .int (bz pd), .int (nI pl), .int (bz tk), kv, .ref k30, .ref k31, .int (nI tz), .ref k33, .int (nI rs), .int sd])), (k1, .inl (cI, 7, .inl (nIf ki))), (k2, .inl (cI, 7, .inl (nIf op))), (k3, .inl (cI, 7, .inl (nIf (shF sh)))), (k4, .inl (cI, 7, .inl (nIf fa))), (k6, .inl (cI, 6, .inl (nIf K))), (k7, .inl (cI, 6, .inl (nIf G))), (k8, .inl (cI, 6, .inl (nIf T))), (k12, .inl (cI, 7, .inl (nIf kw))), (k13, .inl (cI, 175, .inl (nIf kn))), (k14, .inl (cI, 144, .inl (mIf M))), (k15, .inl (cI, 7, .inl (nIf mw))), (k10, .inl (cI, 7, .inl (nIf R)))]
    have hn_p := hi_5
    refine v_if_eq 27 13 zC dX5_can_10 (fun _ => ?_) (fun z => absurd (by decide +kernel) z)
    refine v_al_n 28 zC dX5_can_27 0 rfl ?_
    refine v_ic (v := (-1)) 29 zC dX5_can_28 (by decide +kernel) ?_
    refine v_cV (As := [.int (-1)]) (st := []) 32 0 [0, 12] zC dX5_can_29 hA (c_X5_refuse (ev_l E) (ev_D E) cI (r0 := r0) (k1 := k1) (k2 := k2) (k3 := k3) (k4 := k4) (k6 := k6) (k7 := k7) (k8 := k8) (k10 := k10) (k12 := k12) (k13 := k13) (k14 := k14) (k15 := k15) (k16 := k16) (k21 := k21) (k22 := k22) (k23 := k23) (k24 := k24) (k25 := k25) (k30 := k30) (k31 := k31) (k33 := k33) (n := n) (m := m) (aw := 0) (ls := ls) (ap := ap) (sq := sq) (pl := pl) (tz := tz) (rs := rs) (bd := bd) (pd := pd) (tk := tk) (kv := kv) (sd := sd) (R := R) (v := (-1)) (j := 1) (hv := (by first | omega | assumption | rfl | (simp only []; omega) | decide)) (h1 := (by first | omega | assumption | rfl | (simp only []; omega) | decide)) (h6 := (by first | omega | assumption | rfl | (simp only []; omega) | decide))) cf_X5_refuse lk_X5_129 rfl rfl rfl rfl rfl (by decide +kernel) (Nat.le_of_ble_eq_true rfl) (fun rv_11 wv_12 hp_13 hm_14 => ?_)
    clear hm_14
    obtain ⟨rfl, rfl⟩ := hp_13
    show VV E 0 0 32 [(0, .ref r0), (1, .int p), (2, .int f), (3, .int h)] [.int (-1)] [(r0, .inr (5, [.int (nI n), .ref k1, .ref k2, .ref k3, .ref k4, .int (nI m), .ref k6, .ref k7, .ref k8, .int (nI 0), .ref k10, .int (nI 0), .ref k12, .ref k13, .ref k14, .ref k15, .ref k16, .int (nI ls), .int (nI ap), .int (bz bd), .int (nI sq), .ref k21, .ref k22, .ref k23, .ref k24, .ref k25, .int (bz pd), .int (nI pl), .int (bz tk), kv, .ref k30, .ref k31, .int (nI tz), .ref k33, .int (nI rs), .int sd])), (k1, .inl (cI, 7, .inl (nIf ki))), (k2, .inl (cI, 7, .inl (nIf op))), (k3, .inl (cI, 7, .inl (nIf (shF sh)))), (k4, .inl (cI, 7, .inl (nIf fa))), (k6, .inl (cI, 6, .inl (nIf K))), (k7, .inl (cI, 6, .inl (nIf G))), (k8, .inl (cI, 6, .inl (nIf T))), (k12, .inl (cI, 7, .inl (nIf kw))), (k13, .inl (cI, 175, .inl (nIf kn))), (k14, .inl (cI, 144, .inl (mIf M))), (k15, .inl (cI, 7, .inl (nIf mw))), (k10, .inl (cI, 7, .inl (nIf (un R 1 (R 1 + 1)))))]
    refine v_iret zC zT dX5_can_32  ?_
    first | (have g9 := hn_p; exact ⟨kw, kn, M, mw, 1, _, by unfold q_can; rw [hn_p], hkw, hkn, hM, rfl, rfl⟩) | (have g9 := hn_f; exact ⟨kw, kn, M, mw, 1, _, by unfold q_can; rw [hi_p]; dsimp only; rw [hn_f], hkw, hkn, hM, rfl, rfl⟩) | (have g9 := hn_h; exact ⟨kw, kn, M, mw, 1, _, by unfold q_can; rw [hi_p]; dsimp only; rw [hi_f]; dsimp only; rw [hn_h], hkw, hkn, hM, rfl, rfl⟩) | exact ⟨_, _, _, _, 0, _, by unfold q_can; rw [hi_p]; dsimp only; rw [hi_f]; dsimp only; rw [hi_h]; dsimp only; exact congrArg (fun b => ((0 : Nat), bz b)) say_bit.symm, hR9.2.2.2.1, hR9.2.2.2.2.1, hR9.2.2.2.2.2, rfl, rfl⟩
  ·
    show VV E 0 0 10 [(0, .ref r0), (1, .int p), (2, .int f), (3, .int h)] [.int (nI 1)] [(r0, .inr (5, [.int (nI n), .ref k1, .ref k2, .ref k3, .ref k4, .int (nI m), .ref k6, .ref k7, .ref k8, .int (nI 0), .ref k10, .int (nI 0), .ref k12, .ref k13, .ref k14, .ref k15, .ref k16, .int (nI ls), .int (nI ap), .int (bz bd), .int (nI sq), .ref k21, .ref k22, .ref k23, .ref k24, .ref k25, .int (bz pd), .int (nI pl), .int (bz tk), kv, .ref k30, .ref k31, .int (nI tz), .ref k33, .int (nI rs), .int sd])), (k1, .inl (cI, 7, .inl (nIf ki))), (k2, .inl (cI, 7, .inl (nIf op))), (k3, .inl (cI, 7, .inl (nIf (shF sh)))), (k4, .inl (cI, 7, .inl (nIf fa))), (k6, .inl (cI, 6, .inl (nIf K))), (k7, .inl (cI, 6, .inl (nIf G))), (k8, .inl (cI, 6, .inl (nIf T))), (k12, .inl (cI, 7, .inl (nIf kw))), (k13, .inl (cI, 175, .inl (nIf kn))), (k14, .inl (cI, 144, .inl (mIf M))), (k15, .inl (cI, 7, .inl (nIf mw))), (k10, .inl (cI, 7, .inl (nIf R)))]
    subst he_7
    have hi_p := hi_8
    obtain ⟨jp, hx_jp⟩ : ∃ z, z = j_6 := ⟨_, rfl⟩
    subst hx_jp
    refine v_if_eq 27 13 zC dX5_can_10 (fun z => absurd z (by decide +kernel)) (fun _ => ?_)
    refine v_il_n 14 zC dX5_can_13 2 rfl ?_
    refine v_cS (As := [.int f]) (st := []) 17 [] zC dX5_can_14 hA (c_X5_isFact (ev_l E) (ev_D E) cI (p := f) ) cf_X5_isFact lk_X5_225 rfl rfl rfl (by decide +kernel) (Nat.le_of_ble_eq_true rfl) (fun rv_16 wv_17 hp_18 hm_19 => ?_)
    clear hm_19
    rcases hp_18 with ⟨hi_20, rfl, rfl⟩ | ⟨j_21, he_22, hi_23, hj_24, rfl, rfl⟩
    ·
      show VV E 0 0 17 [(0, .ref r0), (1, .int (nI jp)), (2, .int f), (3, .int h)] [.int (nI 0)] [(r0, .inr (5, [.int (nI n), .ref k1, .ref k2, .ref k3, .ref k4, .int (nI m), .ref k6, .ref k7, .ref k8, .int (nI 0), .ref k10, .int (nI 0), .ref k12, .ref k13, .ref k14, .ref k15, .ref k16, .int (nI ls), .int (nI ap), .int (bz bd), .int (nI sq), .ref k21, .ref k22, .ref k23, .ref k24, .ref k25, .int (bz pd), .int (nI pl), .int (bz tk), kv, .ref k30, .ref k31, .int (nI tz), .ref k33, .int (nI rs), .int sd])), (k1, .inl (cI, 7, .inl (nIf ki))), (k2, .inl (cI, 7, .inl (nIf op))), (k3, .inl (cI, 7, .inl (nIf (shF sh)))), (k4, .inl (cI, 7, .inl (nIf fa))), (k6, .inl (cI, 6, .inl (nIf K))), (k7, .inl (cI, 6, .inl (nIf G))), (k8, .inl (cI, 6, .inl (nIf T))), (k12, .inl (cI, 7, .inl (nIf kw))), (k13, .inl (cI, 175, .inl (nIf kn))), (k14, .inl (cI, 144, .inl (mIf M))), (k15, .inl (cI, 7, .inl (nIf mw))), (k10, .inl (cI, 7, .inl (nIf R)))]
      have hn_f := hi_20
      refine v_if_eq 27 20 zC dX5_can_17 (fun _ => ?_) (fun z => absurd (by decide +kernel) z)
      refine v_al_n 28 zC dX5_can_27 0 rfl ?_
      refine v_ic (v := (-1)) 29 zC dX5_can_28 (by decide +kernel) ?_
      refine v_cV (As := [.int (-1)]) (st := []) 32 0 [0, 12] zC dX5_can_29 hA (c_X5_refuse (ev_l E) (ev_D E) cI (r0 := r0) (k1 := k1) (k2 := k2) (k3 := k3) (k4 := k4) (k6 := k6) (k7 := k7) (k8 := k8) (k10 := k10) (k12 := k12) (k13 := k13) (k14 := k14) (k15 := k15) (k16 := k16) (k21 := k21) (k22 := k22) (k23 := k23) (k24 := k24) (k25 := k25) (k30 := k30) (k31 := k31) (k33 := k33) (n := n) (m := m) (aw := 0) (ls := ls) (ap := ap) (sq := sq) (pl := pl) (tz := tz) (rs := rs) (bd := bd) (pd := pd) (tk := tk) (kv := kv) (sd := sd) (R := R) (v := (-1)) (j := 1) (hv := (by first | omega | assumption | rfl | (simp only []; omega) | decide)) (h1 := (by first | omega | assumption | rfl | (simp only []; omega) | decide)) (h6 := (by first | omega | assumption | rfl | (simp only []; omega) | decide))) cf_X5_refuse lk_X5_129 rfl rfl rfl rfl rfl (by decide +kernel) (Nat.le_of_ble_eq_true rfl) (fun rv_26 wv_27 hp_28 hm_29 => ?_)
      clear hm_29
      obtain ⟨rfl, rfl⟩ := hp_28
      show VV E 0 0 32 [(0, .ref r0), (1, .int (nI jp)), (2, .int f), (3, .int h)] [.int (-1)] [(r0, .inr (5, [.int (nI n), .ref k1, .ref k2, .ref k3, .ref k4, .int (nI m), .ref k6, .ref k7, .ref k8, .int (nI 0), .ref k10, .int (nI 0), .ref k12, .ref k13, .ref k14, .ref k15, .ref k16, .int (nI ls), .int (nI ap), .int (bz bd), .int (nI sq), .ref k21, .ref k22, .ref k23, .ref k24, .ref k25, .int (bz pd), .int (nI pl), .int (bz tk), kv, .ref k30, .ref k31, .int (nI tz), .ref k33, .int (nI rs), .int sd])), (k1, .inl (cI, 7, .inl (nIf ki))), (k2, .inl (cI, 7, .inl (nIf op))), (k3, .inl (cI, 7, .inl (nIf (shF sh)))), (k4, .inl (cI, 7, .inl (nIf fa))), (k6, .inl (cI, 6, .inl (nIf K))), (k7, .inl (cI, 6, .inl (nIf G))), (k8, .inl (cI, 6, .inl (nIf T))), (k12, .inl (cI, 7, .inl (nIf kw))), (k13, .inl (cI, 175, .inl (nIf kn))), (k14, .inl (cI, 144, .inl (mIf M))), (k15, .inl (cI, 7, .inl (nIf mw))), (k10, .inl (cI, 7, .inl (nIf (un R 1 (R 1 + 1)))))]
      refine v_iret zC zT dX5_can_32  ?_
      first | (have g9 := hn_p; exact ⟨kw, kn, M, mw, 1, _, by unfold q_can; rw [hn_p], hkw, hkn, hM, rfl, rfl⟩) | (have g9 := hn_f; exact ⟨kw, kn, M, mw, 1, _, by unfold q_can; rw [hi_p]; dsimp only; rw [hn_f], hkw, hkn, hM, rfl, rfl⟩) | (have g9 := hn_h; exact ⟨kw, kn, M, mw, 1, _, by unfold q_can; rw [hi_p]; dsimp only; rw [hi_f]; dsimp only; rw [hn_h], hkw, hkn, hM, rfl, rfl⟩) | exact ⟨_, _, _, _, 0, _, by unfold q_can; rw [hi_p]; dsimp only; rw [hi_f]; dsimp only; rw [hi_h]; dsimp only; exact congrArg (fun b => ((0 : Nat), bz b)) say_bit.symm, hR9.2.2.2.1, hR9.2.2.2.2.1, hR9.2.2.2.2.2, rfl, rfl⟩
    ·
      show VV E 0 0 17 [(0, .ref r0), (1, .int (nI jp)), (2, .int f), (3, .int h)] [.int (nI 1)] [(r0, .inr (5, [.int (nI n), .ref k1, .ref k2, .ref k3, .ref k4, .int (nI m), .ref k6, .ref k7, .ref k8, .int (nI 0), .ref k10, .int (nI 0), .ref k12, .ref k13, .ref k14, .ref k15, .ref k16, .int (nI ls), .int (nI ap), .int (bz bd), .int (nI sq), .ref k21, .ref k22, .ref k23, .ref k24, .ref k25, .int (bz pd), .int (nI pl), .int (bz tk), kv, .ref k30, .ref k31, .int (nI tz), .ref k33, .int (nI rs), .int sd])), (k1, .inl (cI, 7, .inl (nIf ki))), (k2, .inl (cI, 7, .inl (nIf op))), (k3, .inl (cI, 7, .inl (nIf (shF sh)))), (k4, .inl (cI, 7, .inl (nIf fa))), (k6, .inl (cI, 6, .inl (nIf K))), (k7, .inl (cI, 6, .inl (nIf G))), (k8, .inl (cI, 6, .inl (nIf T))), (k12, .inl (cI, 7, .inl (nIf kw))), (k13, .inl (cI, 175, .inl (nIf kn))), (k14, .inl (cI, 144, .inl (mIf M))), (k15, .inl (cI, 7, .inl (nIf mw))), (k10, .inl (cI, 7, .inl (nIf R)))]
      subst he_22
      have hi_f := hi_23
      obtain ⟨jf, hx_jf⟩ : ∃ z, z = j_21 := ⟨_, rfl⟩
      subst hx_jf
      refine v_if_eq 27 20 zC dX5_can_17 (fun z => absurd z (by decide +kernel)) (fun _ => ?_)
      refine v_il_n 21 zC dX5_can_20 3 rfl ?_
      refine v_cS (As := [.int h]) (st := []) 24 [] zC dX5_can_21 hA (c_X5_isHour (ev_l E) (ev_D E) cI (p := h) ) cf_X5_isHour lk_X5_219 rfl rfl rfl (by decide +kernel) (Nat.le_of_ble_eq_true rfl) (fun rv_31 wv_32 hp_33 hm_34 => ?_)
      clear hm_34
      rcases hp_33 with ⟨hi_35, rfl, rfl⟩ | ⟨j_36, he_37, hi_38, hj_39, rfl, rfl⟩
      ·
        show VV E 0 0 24 [(0, .ref r0), (1, .int (nI jp)), (2, .int (nI jf)), (3, .int h)] [.int (nI 0)] [(r0, .inr (5, [.int (nI n), .ref k1, .ref k2, .ref k3, .ref k4, .int (nI m), .ref k6, .ref k7, .ref k8, .int (nI 0), .ref k10, .int (nI 0), .ref k12, .ref k13, .ref k14, .ref k15, .ref k16, .int (nI ls), .int (nI ap), .int (bz bd), .int (nI sq), .ref k21, .ref k22, .ref k23, .ref k24, .ref k25, .int (bz pd), .int (nI pl), .int (bz tk), kv, .ref k30, .ref k31, .int (nI tz), .ref k33, .int (nI rs), .int sd])), (k1, .inl (cI, 7, .inl (nIf ki))), (k2, .inl (cI, 7, .inl (nIf op))), (k3, .inl (cI, 7, .inl (nIf (shF sh)))), (k4, .inl (cI, 7, .inl (nIf fa))), (k6, .inl (cI, 6, .inl (nIf K))), (k7, .inl (cI, 6, .inl (nIf G))), (k8, .inl (cI, 6, .inl (nIf T))), (k12, .inl (cI, 7, .inl (nIf kw))), (k13, .inl (cI, 175, .inl (nIf kn))), (k14, .inl (cI, 144, .inl (mIf M))), (k15, .inl (cI, 7, .inl (nIf mw))), (k10, .inl (cI, 7, .inl (nIf R)))]
        have hn_h := hi_35
        refine v_if_ne 33 27 zC dX5_can_24 (fun z => absurd (by decide +kernel) z) (fun _ => ?_)
        refine v_al_n 28 zC dX5_can_27 0 rfl ?_
        refine v_ic (v := (-1)) 29 zC dX5_can_28 (by decide +kernel) ?_
        refine v_cV (As := [.int (-1)]) (st := []) 32 0 [0, 12] zC dX5_can_29 hA (c_X5_refuse (ev_l E) (ev_D E) cI (r0 := r0) (k1 := k1) (k2 := k2) (k3 := k3) (k4 := k4) (k6 := k6) (k7 := k7) (k8 := k8) (k10 := k10) (k12 := k12) (k13 := k13) (k14 := k14) (k15 := k15) (k16 := k16) (k21 := k21) (k22 := k22) (k23 := k23) (k24 := k24) (k25 := k25) (k30 := k30) (k31 := k31) (k33 := k33) (n := n) (m := m) (aw := 0) (ls := ls) (ap := ap) (sq := sq) (pl := pl) (tz := tz) (rs := rs) (bd := bd) (pd := pd) (tk := tk) (kv := kv) (sd := sd) (R := R) (v := (-1)) (j := 1) (hv := (by first | omega | assumption | rfl | (simp only []; omega) | decide)) (h1 := (by first | omega | assumption | rfl | (simp only []; omega) | decide)) (h6 := (by first | omega | assumption | rfl | (simp only []; omega) | decide))) cf_X5_refuse lk_X5_129 rfl rfl rfl rfl rfl (by decide +kernel) (Nat.le_of_ble_eq_true rfl) (fun rv_41 wv_42 hp_43 hm_44 => ?_)
        clear hm_44
        obtain ⟨rfl, rfl⟩ := hp_43
        show VV E 0 0 32 [(0, .ref r0), (1, .int (nI jp)), (2, .int (nI jf)), (3, .int h)] [.int (-1)] [(r0, .inr (5, [.int (nI n), .ref k1, .ref k2, .ref k3, .ref k4, .int (nI m), .ref k6, .ref k7, .ref k8, .int (nI 0), .ref k10, .int (nI 0), .ref k12, .ref k13, .ref k14, .ref k15, .ref k16, .int (nI ls), .int (nI ap), .int (bz bd), .int (nI sq), .ref k21, .ref k22, .ref k23, .ref k24, .ref k25, .int (bz pd), .int (nI pl), .int (bz tk), kv, .ref k30, .ref k31, .int (nI tz), .ref k33, .int (nI rs), .int sd])), (k1, .inl (cI, 7, .inl (nIf ki))), (k2, .inl (cI, 7, .inl (nIf op))), (k3, .inl (cI, 7, .inl (nIf (shF sh)))), (k4, .inl (cI, 7, .inl (nIf fa))), (k6, .inl (cI, 6, .inl (nIf K))), (k7, .inl (cI, 6, .inl (nIf G))), (k8, .inl (cI, 6, .inl (nIf T))), (k12, .inl (cI, 7, .inl (nIf kw))), (k13, .inl (cI, 175, .inl (nIf kn))), (k14, .inl (cI, 144, .inl (mIf M))), (k15, .inl (cI, 7, .inl (nIf mw))), (k10, .inl (cI, 7, .inl (nIf (un R 1 (R 1 + 1)))))]
        refine v_iret zC zT dX5_can_32  ?_
        first | (have g9 := hn_p; exact ⟨kw, kn, M, mw, 1, _, by unfold q_can; rw [hn_p], hkw, hkn, hM, rfl, rfl⟩) | (have g9 := hn_f; exact ⟨kw, kn, M, mw, 1, _, by unfold q_can; rw [hi_p]; dsimp only; rw [hn_f], hkw, hkn, hM, rfl, rfl⟩) | (have g9 := hn_h; exact ⟨kw, kn, M, mw, 1, _, by unfold q_can; rw [hi_p]; dsimp only; rw [hi_f]; dsimp only; rw [hn_h], hkw, hkn, hM, rfl, rfl⟩) | exact ⟨_, _, _, _, 0, _, by unfold q_can; rw [hi_p]; dsimp only; rw [hi_f]; dsimp only; rw [hi_h]; dsimp only; exact congrArg (fun b => ((0 : Nat), bz b)) say_bit.symm, hR9.2.2.2.1, hR9.2.2.2.2.1, hR9.2.2.2.2.2, rfl, rfl⟩
      ·
        show VV E 0 0 24 [(0, .ref r0), (1, .int (nI jp)), (2, .int (nI jf)), (3, .int h)] [.int (nI 1)] [(r0, .inr (5, [.int (nI n), .ref k1, .ref k2, .ref k3, .ref k4, .int (nI m), .ref k6, .ref k7, .ref k8, .int (nI 0), .ref k10, .int (nI 0), .ref k12, .ref k13, .ref k14, .ref k15, .ref k16, .int (nI ls), .int (nI ap), .int (bz bd), .int (nI sq), .ref k21, .ref k22, .ref k23, .ref k24, .ref k25, .int (bz pd), .int (nI pl), .int (bz tk), kv, .ref k30, .ref k31, .int (nI tz), .ref k33, .int (nI rs), .int sd])), (k1, .inl (cI, 7, .inl (nIf ki))), (k2, .inl (cI, 7, .inl (nIf op))), (k3, .inl (cI, 7, .inl (nIf (shF sh)))), (k4, .inl (cI, 7, .inl (nIf fa))), (k6, .inl (cI, 6, .inl (nIf K))), (k7, .inl (cI, 6, .inl (nIf G))), (k8, .inl (cI, 6, .inl (nIf T))), (k12, .inl (cI, 7, .inl (nIf kw))), (k13, .inl (cI, 175, .inl (nIf kn))), (k14, .inl (cI, 144, .inl (mIf M))), (k15, .inl (cI, 7, .inl (nIf mw))), (k10, .inl (cI, 7, .inl (nIf R)))]
        subst he_37
        have hi_h := hi_38
        obtain ⟨jh, hx_jh⟩ : ∃ z, z = j_36 := ⟨_, rfl⟩
        subst hx_jh
        refine v_if_ne 33 27 zC dX5_can_24 (fun _ => ?_) (fun z => absurd z (by decide +kernel))
        refine v_al_n 34 zC dX5_can_33 0 rfl ?_
        refine v_cV (As := []) (st := []) 37 0 [0, 1, 2, 3, 4, 5, 6, 7, 8, 9, 10, 11] zC dX5_can_34 hA (c_X5_day (ev_l E) (ev_D E) cI (r0 := r0) (k1 := k1) (k2 := k2) (k3 := k3) (k4 := k4) (k6 := k6) (k7 := k7) (k8 := k8) (k10 := k10) (k12 := k12) (k13 := k13) (k14 := k14) (k15 := k15) (k16 := k16) (k21 := k21) (k22 := k22) (k23 := k23) (k24 := k24) (k25 := k25) (k30 := k30) (k31 := k31) (k33 := k33) (n := n) (m := m) (aw := 0) (ls := ls) (ap := ap) (sq := sq) (pl := pl) (tz := tz) (rs := rs) (bd := bd) (pd := pd) (tk := tk) (kv := kv) (sd := sd) (ki := ki) (op := op) (fa := fa) (K := K) (G := G) (T := T) (sh := sh) (kw := kw) (kn := kn) (M := M) (mw := mw) (hw := (by first | omega | assumption | rfl | (simp only []; omega) | decide)) (hkw := (by first | omega | assumption | rfl | (simp only []; omega) | decide)) (hkn := (by first | omega | assumption | rfl | (simp only []; omega) | decide)) (hM := (by first | omega | assumption | rfl | (simp only []; omega) | decide))) cf_X5_day lk_X5_123 rfl rfl rfl rfl rfl (by decide +kernel) (Nat.le_of_ble_eq_true rfl) (fun rv_46 wv_47 hp_48 hm_49 => ?_)
        clear hm_49
        obtain ⟨kw1_50, kn1_51, M1_52, mw1_53, hR_54, rfl, rfl⟩ := hp_48
        show VV E 0 0 37 [(0, .ref r0), (1, .int (nI jp)), (2, .int (nI jf)), (3, .int (nI jh))] [] [(r0, .inr (5, [.int (nI n), .ref k1, .ref k2, .ref k3, .ref k4, .int (nI m), .ref k6, .ref k7, .ref k8, .int (nI 0), .ref k10, .int (nI 0), .ref k12, .ref k13, .ref k14, .ref k15, .ref k16, .int (nI ls), .int (nI ap), .int (bz bd), .int (nI sq), .ref k21, .ref k22, .ref k23, .ref k24, .ref k25, .int (bz pd), .int (nI pl), .int (bz tk), kv, .ref k30, .ref k31, .int (nI tz), .ref k33, .int (nI rs), .int sd])), (k1, .inl (cI, 7, .inl (nIf ki))), (k2, .inl (cI, 7, .inl (nIf op))), (k3, .inl (cI, 7, .inl (nIf (shF sh)))), (k4, .inl (cI, 7, .inl (nIf fa))), (k6, .inl (cI, 6, .inl (nIf K))), (k7, .inl (cI, 6, .inl (nIf G))), (k8, .inl (cI, 6, .inl (nIf T))), (k12, .inl (cI, 7, .inl (nIf kw1_50))), (k13, .inl (cI, 175, .inl (nIf kn1_51))), (k14, .inl (cI, 144, .inl (mIf M1_52))), (k15, .inl (cI, 7, .inl (nIf mw1_53))), (k10, .inl (cI, 7, .inl (nIf R)))]
        have hR9 := hR_54
        refine v_al_n 38 zC dX5_can_37 0 rfl ?_
        refine v_il_n 39 zC dX5_can_38 1 rfl ?_
        refine v_il_n 40 zC dX5_can_39 3 rfl ?_
        refine v_cV (As := [.int (nI jp), .int (nI jh)]) (st := []) 43 0 [0, 7, 10] zC dX5_can_40 hA (c_X5_saidBy (ev_l E) (ev_D E) cI (r0 := r0) (k1 := k1) (k2 := k2) (k3 := k3) (k4 := k4) (k6 := k6) (k7 := k7) (k8 := k8) (k10 := k10) (k12 := k12) (k13 := k13) (k14 := k14) (k15 := k15) (k16 := k16) (k21 := k21) (k22 := k22) (k23 := k23) (k24 := k24) (k25 := k25) (k30 := k30) (k31 := k31) (k33 := k33) (n := n) (m := m) (aw := 0) (ls := ls) (ap := ap) (sq := sq) (pl := pl) (tz := tz) (rs := rs) (bd := bd) (pd := pd) (tk := tk) (kv := kv) (sd := sd) (ki := ki) (op := op) (fa := fa) (K := K) (G := G) (T := T) (sh := sh) (kw := kw1_50) (kn := kn1_51) (M := M1_52) (p := jp) (h := jh) (hn := (by first | omega | assumption | rfl | (simp only []; omega) | decide)) (hm := (by first | omega | assumption | rfl | (simp only []; omega) | decide)) (hR := hR9) (hp := (by first | omega | assumption | rfl | (simp only []; omega) | decide)) (hh := (by first | omega | assumption | rfl | (simp only []; omega) | decide)) (hT := hT)) cf_X5_saidBy lk_X5_267 rfl rfl rfl rfl rfl (by decide +kernel) (Nat.le_of_ble_eq_true rfl) (fun rv_55 wv_56 hp_57 hm_58 => ?_)
        clear hm_58
        obtain ⟨rfl, rfl⟩ := hp_57
        show VV E 0 0 43 [(0, .ref r0), (1, .int (nI jp)), (2, .int (nI jf)), (3, .int (nI jh))] [.int (nI (SAY (n, m, sh, 0, ki, op, fa, K, G, T) jp jh))] [(r0, .inr (5, [.int (nI n), .ref k1, .ref k2, .ref k3, .ref k4, .int (nI m), .ref k6, .ref k7, .ref k8, .int (nI 0), .ref k10, .int (nI 0), .ref k12, .ref k13, .ref k14, .ref k15, .ref k16, .int (nI ls), .int (nI ap), .int (bz bd), .int (nI sq), .ref k21, .ref k22, .ref k23, .ref k24, .ref k25, .int (bz pd), .int (nI pl), .int (bz tk), kv, .ref k30, .ref k31, .int (nI tz), .ref k33, .int (nI rs), .int sd])), (k1, .inl (cI, 7, .inl (nIf ki))), (k2, .inl (cI, 7, .inl (nIf op))), (k3, .inl (cI, 7, .inl (nIf (shF sh)))), (k4, .inl (cI, 7, .inl (nIf fa))), (k6, .inl (cI, 6, .inl (nIf K))), (k7, .inl (cI, 6, .inl (nIf G))), (k8, .inl (cI, 6, .inl (nIf T))), (k12, .inl (cI, 7, .inl (nIf kw1_50))), (k13, .inl (cI, 175, .inl (nIf kn1_51))), (k14, .inl (cI, 144, .inl (mIf M1_52))), (k15, .inl (cI, 7, .inl (nIf mw1_53))), (k10, .inl (cI, 7, .inl (nIf R)))]
        refine v_il_n 44 zC dX5_can_43 2 rfl ?_
        refine v_ishr (v := ((nI (SAY (n, m, sh, 0, ki, op, fa, K, G, T) jp jh)) >>> (nI jf))) 45 zC dX5_can_44 (sr_of (by omega)) ?_
        refine v_ic (v := (nI 1)) 46 zC dX5_can_45 (by decide +kernel) ?_
        refine v_iand (v := (bz (Nat.testBit (SAY (n, m, sh, 0, ki, op, fa, K, G, T) jp jh) jf))) 47 zC dX5_can_46 (tb_of _ (by omega)) ?_
        refine v_iret zC zT dX5_can_47  ?_
        first | (have g9 := hn_p; exact ⟨kw, kn, M, mw, 1, _, by unfold q_can; rw [hn_p], hkw, hkn, hM, rfl, rfl⟩) | (have g9 := hn_f; exact ⟨kw, kn, M, mw, 1, _, by unfold q_can; rw [hi_p]; dsimp only; rw [hn_f], hkw, hkn, hM, rfl, rfl⟩) | (have g9 := hn_h; exact ⟨kw, kn, M, mw, 1, _, by unfold q_can; rw [hi_p]; dsimp only; rw [hi_f]; dsimp only; rw [hn_h], hkw, hkn, hM, rfl, rfl⟩) | exact ⟨_, _, _, _, 0, _, by unfold q_can; rw [hi_p]; dsimp only; rw [hi_f]; dsimp only; rw [hi_h]; dsimp only; exact congrArg (fun b => ((0 : Nat), bz b)) say_bit.symm, hR9.2.2.2.1, hR9.2.2.2.2.1, hR9.2.2.2.2.2, rfl, rfl⟩
set_option maxRecDepth 100000 in
set_option maxHeartbeats 4000000 in
theorem c_X5_who (l : Launch) (D : va_G) (cI : ClassId) (r0 k1 k2 k3 k4 k6 k7 k8 k10 k12 k13 k14 k15 k16 k21 k22 k23 k24 k25 k30 k31 k33 : Nat) (n m ls ap sq pl tz rs : Nat) (bd pd tk : Bool) (kv : Value) (sd : Int32) (ki op fa K G T : Nat → Nat) (sh : Nat) (kw kn : Nat → Nat) (M : Nat → Option Nat) (mw : Nat → Nat) (R : Nat → Nat) (p q : Int32) (hw : FW n m sh ki op fa K G T) (hkw : ∀ z, kw z < 1024) (hkn : ∀ z, kn z < 1024) (hM : ∀ z v, M z = some v → v < 7) : CT l yX5_who cX5_who 8 (some .int) { frames := 6, cells := 0, slots := 0, locals := 138 } D cI [.ref r0, .int p, .int q] [(r0, .inr (5, [.int (nI n), .ref k1, .ref k2, .ref k3, .ref k4, .int (nI m), .ref k6, .ref k7, .ref k8, .int (nI 0), .ref k10, .int (nI 0), .ref k12, .ref k13, .ref k14, .ref k15, .ref k16, .int (nI ls), .int (nI ap), .int (bz bd), .int (nI sq), .ref k21, .ref k22, .ref k23, .ref k24, .ref k25, .int (bz pd), .int (nI pl), .int (bz tk), kv, .ref k30, .ref k31, .int (nI tz), .ref k33, .int (nI rs), .int sd])), (k1, .inl (cI, 7, .inl (nIf ki))), (k2, .inl (cI, 7, .inl (nIf op))), (k3, .inl (cI, 7, .inl (nIf (shF sh)))), (k4, .inl (cI, 7, .inl (nIf fa))), (k6, .inl (cI, 6, .inl (nIf K))), (k7, .inl (cI, 6, .inl (nIf G))), (k8, .inl (cI, 6, .inl (nIf T))), (k12, .inl (cI, 7, .inl (nIf kw))), (k13, .inl (cI, 175, .inl (nIf kn))), (k14, .inl (cI, 144, .inl (mIf M))), (k15, .inl (cI, 7, .inl (nIf mw))), (k10, .inl (cI, 7, .inl (nIf R)))] (fun zr zw => (∃ kw1 : Nat → Nat, ∃ kn1 : Nat → Nat, ∃ M1 : Nat → Option Nat, ∃ mw1 : Nat → Nat, ∃ rc : Nat, ∃ rv : Int32, (q_who (n, m, sh, 0, ki, op, fa, K, G, T) p q = (rc, rv)) ∧ (∀ z, kw1 z < 1024) ∧ (∀ z, kn1 z < 1024) ∧ (∀ z v, M1 z = some v → v < 7) ∧ zr = some (.int rv) ∧ zw = [(r0, .inr (5, [.int (nI n), .ref k1, .ref k2, .ref k3, .ref k4, .int (nI m), .ref k6, .ref k7, .ref k8, .int (nI 0), .ref k10, .int (nI 0), .ref k12, .ref k13, .ref k14, .ref k15, .ref k16, .int (nI ls), .int (nI ap), .int (bz bd), .int (nI sq), .ref k21, .ref k22, .ref k23, .ref k24, .ref k25, .int (bz pd), .int (nI pl), .int (bz tk), kv, .ref k30, .ref k31, .int (nI tz), .ref k33, .int (nI rs), .int sd])), (k1, .inl (cI, 7, .inl (nIf ki))), (k2, .inl (cI, 7, .inl (nIf op))), (k3, .inl (cI, 7, .inl (nIf (shF sh)))), (k4, .inl (cI, 7, .inl (nIf fa))), (k6, .inl (cI, 6, .inl (nIf K))), (k7, .inl (cI, 6, .inl (nIf G))), (k8, .inl (cI, 6, .inl (nIf T))), (k12, .inl (cI, 7, .inl (nIf kw1))), (k13, .inl (cI, 175, .inl (nIf kn1))), (k14, .inl (cI, 144, .inl (mIf M1))), (k15, .inl (cI, 7, .inl (nIf mw1))), (k10, .inl (cI, 7, .inl (nIf (rf R rc))))])) := by
  refine CT_of RX5 rfl (by decide +kernel) (Nat.le_of_ble_eq_true rfl) (fun E hnE zC zT => ?_)
  have hA : ∀ q, (ev_s E).heap.size ≤ q → ev_A E q := fun q h => by rw [zT.2]; exact Or.inr h
  obtain ⟨hn, hm, hsh, hki, hop, hfa, hK, hG, hT, vki, vop, vfa, vK, vG, vT⟩ := id hw
  show VV E 0 0 0 [(0, .ref r0), (1, .int p), (2, .int q)] [] [(r0, .inr (5, [.int (nI n), .ref k1, .ref k2, .ref k3, .ref k4, .int (nI m), .ref k6, .ref k7, .ref k8, .int (nI 0), .ref k10, .int (nI 0), .ref k12, .ref k13, .ref k14, .ref k15, .ref k16, .int (nI ls), .int (nI ap), .int (bz bd), .int (nI sq), .ref k21, .ref k22, .ref k23, .ref k24, .ref k25, .int (bz pd), .int (nI pl), .int (bz tk), kv, .ref k30, .ref k31, .int (nI tz), .ref k33, .int (nI rs), .int sd])), (k1, .inl (cI, 7, .inl (nIf ki))), (k2, .inl (cI, 7, .inl (nIf op))), (k3, .inl (cI, 7, .inl (nIf (shF sh)))), (k4, .inl (cI, 7, .inl (nIf fa))), (k6, .inl (cI, 6, .inl (nIf K))), (k7, .inl (cI, 6, .inl (nIf G))), (k8, .inl (cI, 6, .inl (nIf T))), (k12, .inl (cI, 7, .inl (nIf kw))), (k13, .inl (cI, 175, .inl (nIf kn))), (k14, .inl (cI, 144, .inl (mIf M))), (k15, .inl (cI, 7, .inl (nIf mw))), (k10, .inl (cI, 7, .inl (nIf R)))]
  refine v_al_n 1 zC dX5_who_0 0 rfl ?_
  refine v_ic (v := (nI 0)) 2 zC dX5_who_1 (by decide +kernel) ?_
  refine v_pf (ws2 := [(r0, .inr (5, [.int (nI n), .ref k1, .ref k2, .ref k3, .ref k4, .int (nI m), .ref k6, .ref k7, .ref k8, .int (nI 0), .ref k10, .int (nI 0), .ref k12, .ref k13, .ref k14, .ref k15, .ref k16, .int (nI ls), .int (nI ap), .int (bz bd), .int (nI sq), .ref k21, .ref k22, .ref k23, .ref k24, .ref k25, .int (bz pd), .int (nI pl), .int (bz tk), kv, .ref k30, .ref k31, .int (nI tz), .ref k33, .int (nI rs), .int sd])), (k1, .inl (cI, 7, .inl (nIf ki))), (k2, .inl (cI, 7, .inl (nIf op))), (k3, .inl (cI, 7, .inl (nIf (shF sh)))), (k4, .inl (cI, 7, .inl (nIf fa))), (k6, .inl (cI, 6, .inl (nIf K))), (k7, .inl (cI, 6, .inl (nIf G))), (k8, .inl (cI, 6, .inl (nIf T))), (k12, .inl (cI, 7, .inl (nIf kw))), (k13, .inl (cI, 175, .inl (nIf kn))), (k14, .inl (cI, 144, .inl (mIf M))), (k15, .inl (cI, 7, .inl (nIf mw))), (k10, .inl (cI, 7, .inl (nIf R)))]) 5 0 zC dX5_who_2 pf_X5_73 rfl (Nat.le_of_ble_eq_true rfl) rfl rfl rfl ?_
  refine v_al_n 6 zC dX5_who_5 0 rfl ?_
  refine v_il_n 7 zC dX5_who_6 1 rfl ?_
  refine v_cV (As := [.int p]) (st := []) 10 0 [0] zC dX5_who_7 hA (c_X5_isOne (ev_l E) (ev_D E) cI (r0 := r0) (k1 := k1) (k2 := k2) (k3 := k3) (k4 := k4) (k6 := k6) (k7 := k7) (k8 := k8) (k10 := k10) (k12 := k12) (k13 := k13) (k14 := k14) (k15 := k15) (k16 := k16) (k21 := k21) (k22 := k22) (k23 := k23) (k24 := k24) (k25 := k25) (k30 := k30) (k31 := k31) (k33 := k33) (n := n) (m := m) (aw := 0) (ls := ls) (ap := ap) (sq := sq) (pl := pl) (tz := tz) (rs := rs) (bd := bd) (pd := pd) (tk := tk) (kv := kv) (sd := sd) (p := p) (hn := (by first | omega | assumption | rfl | (simp only []; omega) | decide))) cf_X5_isOne lk_X5_164 rfl rfl rfl rfl rfl (by decide +kernel) (Nat.le_of_ble_eq_true rfl) (fun rv_1 wv_2 hp_3 hm_4 => ?_)
  clear hm_4
  rcases hp_3 with ⟨hi_5, rfl, rfl⟩ | ⟨j_6, he_7, hi_8, hj_9, rfl, rfl⟩
  ·
    show VV E 0 0 10 [(0, .ref r0), (1, .int p), (2, .int q)] [.int (nI 0)] [(r0, .inr (5, [.int (nI n), .ref k1, .ref k2, .ref k3, .ref k4, .int (nI m), .ref k6, .ref k7, .ref k8, .int (nI 0), .ref k10, .int (nI 0), .ref k12, .ref k13, .ref k14, .ref k15, .ref k16, .int (nI ls), .int (nI ap), .int (bz bd), .int (nI sq), .ref k21, .ref k22, .ref k23, .ref k24, .ref k25, .int (bz pd), .int (nI pl), .int (bz tk), kv, .ref k30, .ref k31, .int (nI tz), .ref k33, .int (nI rs), .int sd])), (k1, .inl (cI, 7, .inl (nIf ki))), (k2, .inl (cI, 7, .inl (nIf op))), (k3, .inl (cI, 7, .inl (nIf (shF sh)))), (k4, .inl (cI, 7, .inl (nIf fa))), (k6, .inl (cI, 6, .inl (nIf K))), (k7, .inl (cI, 6, .inl (nIf G))), (k8, .inl (cI, 6, .inl (nIf T))), (k12, .inl (cI, 7, .inl (nIf kw))), (k13, .inl (cI, 175, .inl (nIf kn))), (k14, .inl (cI, 144, .inl (mIf M))), (k15, .inl (cI, 7, .inl (nIf mw))), (k10, .inl (cI, 7, .inl (nIf R)))]
    have hn_p := hi_5
    refine v_if_eq 23 13 zC dX5_who_10 (fun _ => ?_) (fun z => absurd (by decide +kernel) z)
    refine v_ic (v := (-1)) 24 zC dX5_who_23 (by decide +kernel) ?_
    refine v_is_n (lv2 := [(3, .int (-1)), (0, .ref r0), (1, .int p), (2, .int q)]) 25 zC dX5_who_24 (by rw [hnE]; decide) rfl ?_
    refine v_il_n 26 zC dX5_who_25 0 rfl ?_
    refine v_if_ge 35 29 zC dX5_who_26 (fun z => absurd z (by decide +kernel)) (fun _ => ?_)
    refine v_al_n 30 zC dX5_who_29 1 rfl ?_
    refine v_il_n 31 zC dX5_who_30 0 rfl ?_
    refine v_cV (As := [.int (-1)]) (st := []) 34 0 [0, 12] zC dX5_who_31 hA (c_X5_refuse (ev_l E) (ev_D E) cI (r0 := r0) (k1 := k1) (k2 := k2) (k3 := k3) (k4 := k4) (k6 := k6) (k7 := k7) (k8 := k8) (k10 := k10) (k12 := k12) (k13 := k13) (k14 := k14) (k15 := k15) (k16 := k16) (k21 := k21) (k22 := k22) (k23 := k23) (k24 := k24) (k25 := k25) (k30 := k30) (k31 := k31) (k33 := k33) (n := n) (m := m) (aw := 0) (ls := ls) (ap := ap) (sq := sq) (pl := pl) (tz := tz) (rs := rs) (bd := bd) (pd := pd) (tk := tk) (kv := kv) (sd := sd) (R := R) (v := (-1)) (j := 1) (hv := (by first | omega | assumption | rfl | (simp only []; omega) | decide)) (h1 := (by first | omega | assumption | rfl | (simp only []; omega) | decide)) (h6 := (by first | omega | assumption | rfl | (simp only []; omega) | decide))) cf_X5_refuse lk_X5_129 rfl rfl rfl rfl rfl (by decide +kernel) (Nat.le_of_ble_eq_true rfl) (fun rv_12 wv_13 hp_14 hm_15 => ?_)
    clear hm_15
    obtain ⟨rfl, rfl⟩ := hp_14
    show VV E 0 0 34 [(3, .int (-1)), (0, .ref r0), (1, .int p), (2, .int q)] [.int (-1)] [(r0, .inr (5, [.int (nI n), .ref k1, .ref k2, .ref k3, .ref k4, .int (nI m), .ref k6, .ref k7, .ref k8, .int (nI 0), .ref k10, .int (nI 0), .ref k12, .ref k13, .ref k14, .ref k15, .ref k16, .int (nI ls), .int (nI ap), .int (bz bd), .int (nI sq), .ref k21, .ref k22, .ref k23, .ref k24, .ref k25, .int (bz pd), .int (nI pl), .int (bz tk), kv, .ref k30, .ref k31, .int (nI tz), .ref k33, .int (nI rs), .int sd])), (k1, .inl (cI, 7, .inl (nIf ki))), (k2, .inl (cI, 7, .inl (nIf op))), (k3, .inl (cI, 7, .inl (nIf (shF sh)))), (k4, .inl (cI, 7, .inl (nIf fa))), (k6, .inl (cI, 6, .inl (nIf K))), (k7, .inl (cI, 6, .inl (nIf G))), (k8, .inl (cI, 6, .inl (nIf T))), (k12, .inl (cI, 7, .inl (nIf kw))), (k13, .inl (cI, 175, .inl (nIf kn))), (k14, .inl (cI, 144, .inl (mIf M))), (k15, .inl (cI, 7, .inl (nIf mw))), (k10, .inl (cI, 7, .inl (nIf (un R 1 (R 1 + 1)))))]
    refine v_iret zC zT dX5_who_34  ?_
    first | (have g9 := hn_p; exact ⟨kw, kn, M, mw, 1, _, by unfold q_who; rw [hn_p], hkw, hkn, hM, rfl, rfl⟩) | (have g9 := hlt_q; exact ⟨kw, kn, M, mw, 4, _, by unfold q_who; rw [hi_p]; dsimp only; rw [if_pos (show q < 0 from hlt_q)], hkw, hkn, hM, rfl, rfl⟩) | (have g9 := hgt_q; exact ⟨kw, kn, M, mw, 6, _, by unfold q_who; rw [hi_p]; dsimp only; rw [if_neg (show ¬ q < 0 from hge_q), if_pos hgt_q], hkw, hkn, hM, rfl, rfl⟩) | exact ⟨_, _, _, _, 0, _, by unfold q_who; rw [hi_p]; dsimp only; rw [if_neg (nI_pos (show jq < 2 ^ 31 by omega)), if_neg (nI_nlt (show jq ≤ 24 by omega) (by decide)), nI_clamp (show jq < 2 ^ 31 by omega)]; rw [hx, show d = m by omega]; rfl, hR9.2.2.2.1, hR9.2.2.2.2.1, hR9.2.2.2.2.2, rfl, rfl⟩
  ·
    show VV E 0 0 10 [(0, .ref r0), (1, .int p), (2, .int q)] [.int (nI 1)] [(r0, .inr (5, [.int (nI n), .ref k1, .ref k2, .ref k3, .ref k4, .int (nI m), .ref k6, .ref k7, .ref k8, .int (nI 0), .ref k10, .int (nI 0), .ref k12, .ref k13, .ref k14, .ref k15, .ref k16, .int (nI ls), .int (nI ap), .int (bz bd), .int (nI sq), .ref k21, .ref k22, .ref k23, .ref k24, .ref k25, .int (bz pd), .int (nI pl), .int (bz tk), kv, .ref k30, .ref k31, .int (nI tz), .ref k33, .int (nI rs), .int sd])), (k1, .inl (cI, 7, .inl (nIf ki))), (k2, .inl (cI, 7, .inl (nIf op))), (k3, .inl (cI, 7, .inl (nIf (shF sh)))), (k4, .inl (cI, 7, .inl (nIf fa))), (k6, .inl (cI, 6, .inl (nIf K))), (k7, .inl (cI, 6, .inl (nIf G))), (k8, .inl (cI, 6, .inl (nIf T))), (k12, .inl (cI, 7, .inl (nIf kw))), (k13, .inl (cI, 175, .inl (nIf kn))), (k14, .inl (cI, 144, .inl (mIf M))), (k15, .inl (cI, 7, .inl (nIf mw))), (k10, .inl (cI, 7, .inl (nIf R)))]
    subst he_7
    have hi_p := hi_8
    obtain ⟨jp, hx_jp⟩ : ∃ z, z = j_6 := ⟨_, rfl⟩
    subst hx_jp
    refine v_if_eq 23 13 zC dX5_who_10 (fun z => absurd z (by decide +kernel)) (fun _ => ?_)
    refine v_il_n 14 zC dX5_who_13 2 rfl ?_
    refine v_ic (v := (nI 0)) 15 zC dX5_who_14 (by decide +kernel) ?_
    refine v_bp (v := (nI 24)) 17 zC dX5_who_15 (by decide +kernel) ?_
    refine v_cS (As := [.int q, .int (nI 0), .int (nI 24)]) (st := []) 20 [] zC dX5_who_17 hA (c_X5_wrongNumber (ev_l E) (ev_D E) cI (v := q) (a := 0) (b := 24) (ha := (by first | omega | assumption | rfl | (simp only []; omega) | decide)) (hb := (by first | omega | assumption | rfl | (simp only []; omega) | decide))) cf_X5_wrongNumber lk_X5_213 rfl rfl rfl (by decide +kernel) (Nat.le_of_ble_eq_true rfl) (fun rv_17 wv_18 hp_19 hm_20 => ?_)
    clear hm_20
    rcases hp_19 with ⟨hq_21, rfl, rfl⟩ | ⟨hq_22, hq2_23, rfl, rfl⟩ | ⟨j_24, he_25, h1_26, h2_27, rfl, rfl⟩
    ·
      show VV E 0 0 20 [(0, .ref r0), (1, .int (nI jp)), (2, .int q)] [.int (-4)] [(r0, .inr (5, [.int (nI n), .ref k1, .ref k2, .ref k3, .ref k4, .int (nI m), .ref k6, .ref k7, .ref k8, .int (nI 0), .ref k10, .int (nI 0), .ref k12, .ref k13, .ref k14, .ref k15, .ref k16, .int (nI ls), .int (nI ap), .int (bz bd), .int (nI sq), .ref k21, .ref k22, .ref k23, .ref k24, .ref k25, .int (bz pd), .int (nI pl), .int (bz tk), kv, .ref k30, .ref k31, .int (nI tz), .ref k33, .int (nI rs), .int sd])), (k1, .inl (cI, 7, .inl (nIf ki))), (k2, .inl (cI, 7, .inl (nIf op))), (k3, .inl (cI, 7, .inl (nIf (shF sh)))), (k4, .inl (cI, 7, .inl (nIf fa))), (k6, .inl (cI, 6, .inl (nIf K))), (k7, .inl (cI, 6, .inl (nIf G))), (k8, .inl (cI, 6, .inl (nIf T))), (k12, .inl (cI, 7, .inl (nIf kw))), (k13, .inl (cI, 175, .inl (nIf kn))), (k14, .inl (cI, 144, .inl (mIf M))), (k15, .inl (cI, 7, .inl (nIf mw))), (k10, .inl (cI, 7, .inl (nIf R)))]
      have hlt_q := hq_21
      refine v_goto 24 zC dX5_who_20 ?_
      refine v_is_n (lv2 := [(3, .int (-4)), (0, .ref r0), (1, .int (nI jp)), (2, .int q)]) 25 zC dX5_who_24 (by rw [hnE]; decide) rfl ?_
      refine v_il_n 26 zC dX5_who_25 0 rfl ?_
      refine v_if_ge 35 29 zC dX5_who_26 (fun z => absurd z (by decide +kernel)) (fun _ => ?_)
      refine v_al_n 30 zC dX5_who_29 1 rfl ?_
      refine v_il_n 31 zC dX5_who_30 0 rfl ?_
      refine v_cV (As := [.int (-4)]) (st := []) 34 0 [0, 12] zC dX5_who_31 hA (c_X5_refuse (ev_l E) (ev_D E) cI (r0 := r0) (k1 := k1) (k2 := k2) (k3 := k3) (k4 := k4) (k6 := k6) (k7 := k7) (k8 := k8) (k10 := k10) (k12 := k12) (k13 := k13) (k14 := k14) (k15 := k15) (k16 := k16) (k21 := k21) (k22 := k22) (k23 := k23) (k24 := k24) (k25 := k25) (k30 := k30) (k31 := k31) (k33 := k33) (n := n) (m := m) (aw := 0) (ls := ls) (ap := ap) (sq := sq) (pl := pl) (tz := tz) (rs := rs) (bd := bd) (pd := pd) (tk := tk) (kv := kv) (sd := sd) (R := R) (v := (-4)) (j := 4) (hv := (by first | omega | assumption | rfl | (simp only []; omega) | decide)) (h1 := (by first | omega | assumption | rfl | (simp only []; omega) | decide)) (h6 := (by first | omega | assumption | rfl | (simp only []; omega) | decide))) cf_X5_refuse lk_X5_129 rfl rfl rfl rfl rfl (by decide +kernel) (Nat.le_of_ble_eq_true rfl) (fun rv_29 wv_30 hp_31 hm_32 => ?_)
      clear hm_32
      obtain ⟨rfl, rfl⟩ := hp_31
      show VV E 0 0 34 [(3, .int (-4)), (0, .ref r0), (1, .int (nI jp)), (2, .int q)] [.int (-4)] [(r0, .inr (5, [.int (nI n), .ref k1, .ref k2, .ref k3, .ref k4, .int (nI m), .ref k6, .ref k7, .ref k8, .int (nI 0), .ref k10, .int (nI 0), .ref k12, .ref k13, .ref k14, .ref k15, .ref k16, .int (nI ls), .int (nI ap), .int (bz bd), .int (nI sq), .ref k21, .ref k22, .ref k23, .ref k24, .ref k25, .int (bz pd), .int (nI pl), .int (bz tk), kv, .ref k30, .ref k31, .int (nI tz), .ref k33, .int (nI rs), .int sd])), (k1, .inl (cI, 7, .inl (nIf ki))), (k2, .inl (cI, 7, .inl (nIf op))), (k3, .inl (cI, 7, .inl (nIf (shF sh)))), (k4, .inl (cI, 7, .inl (nIf fa))), (k6, .inl (cI, 6, .inl (nIf K))), (k7, .inl (cI, 6, .inl (nIf G))), (k8, .inl (cI, 6, .inl (nIf T))), (k12, .inl (cI, 7, .inl (nIf kw))), (k13, .inl (cI, 175, .inl (nIf kn))), (k14, .inl (cI, 144, .inl (mIf M))), (k15, .inl (cI, 7, .inl (nIf mw))), (k10, .inl (cI, 7, .inl (nIf (un R 4 (R 4 + 1)))))]
      refine v_iret zC zT dX5_who_34  ?_
      first | (have g9 := hn_p; exact ⟨kw, kn, M, mw, 1, _, by unfold q_who; rw [hn_p], hkw, hkn, hM, rfl, rfl⟩) | (have g9 := hlt_q; exact ⟨kw, kn, M, mw, 4, _, by unfold q_who; rw [hi_p]; dsimp only; rw [if_pos (show q < 0 from hlt_q)], hkw, hkn, hM, rfl, rfl⟩) | (have g9 := hgt_q; exact ⟨kw, kn, M, mw, 6, _, by unfold q_who; rw [hi_p]; dsimp only; rw [if_neg (show ¬ q < 0 from hge_q), if_pos hgt_q], hkw, hkn, hM, rfl, rfl⟩) | exact ⟨_, _, _, _, 0, _, by unfold q_who; rw [hi_p]; dsimp only; rw [if_neg (nI_pos (show jq < 2 ^ 31 by omega)), if_neg (nI_nlt (show jq ≤ 24 by omega) (by decide)), nI_clamp (show jq < 2 ^ 31 by omega)]; rw [hx, show d = m by omega]; rfl, hR9.2.2.2.1, hR9.2.2.2.2.1, hR9.2.2.2.2.2, rfl, rfl⟩
    ·
      show VV E 0 0 20 [(0, .ref r0), (1, .int (nI jp)), (2, .int q)] [.int (-6)] [(r0, .inr (5, [.int (nI n), .ref k1, .ref k2, .ref k3, .ref k4, .int (nI m), .ref k6, .ref k7, .ref k8, .int (nI 0), .ref k10, .int (nI 0), .ref k12, .ref k13, .ref k14, .ref k15, .ref k16, .int (nI ls), .int (nI ap), .int (bz bd), .int (nI sq), .ref k21, .ref k22, .ref k23, .ref k24, .ref k25, .int (bz pd), .int (nI pl), .int (bz tk), kv, .ref k30, .ref k31, .int (nI tz), .ref k33, .int (nI rs), .int sd])), (k1, .inl (cI, 7, .inl (nIf ki))), (k2, .inl (cI, 7, .inl (nIf op))), (k3, .inl (cI, 7, .inl (nIf (shF sh)))), (k4, .inl (cI, 7, .inl (nIf fa))), (k6, .inl (cI, 6, .inl (nIf K))), (k7, .inl (cI, 6, .inl (nIf G))), (k8, .inl (cI, 6, .inl (nIf T))), (k12, .inl (cI, 7, .inl (nIf kw))), (k13, .inl (cI, 175, .inl (nIf kn))), (k14, .inl (cI, 144, .inl (mIf M))), (k15, .inl (cI, 7, .inl (nIf mw))), (k10, .inl (cI, 7, .inl (nIf R)))]
      have hge_q := hq_22
      have hgt_q := hq2_23
      refine v_goto 24 zC dX5_who_20 ?_
      refine v_is_n (lv2 := [(3, .int (-6)), (0, .ref r0), (1, .int (nI jp)), (2, .int q)]) 25 zC dX5_who_24 (by rw [hnE]; decide) rfl ?_
      refine v_il_n 26 zC dX5_who_25 0 rfl ?_
      refine v_if_ge 35 29 zC dX5_who_26 (fun z => absurd z (by decide +kernel)) (fun _ => ?_)
      refine v_al_n 30 zC dX5_who_29 1 rfl ?_
      refine v_il_n 31 zC dX5_who_30 0 rfl ?_
      refine v_cV (As := [.int (-6)]) (st := []) 34 0 [0, 12] zC dX5_who_31 hA (c_X5_refuse (ev_l E) (ev_D E) cI (r0 := r0) (k1 := k1) (k2 := k2) (k3 := k3) (k4 := k4) (k6 := k6) (k7 := k7) (k8 := k8) (k10 := k10) (k12 := k12) (k13 := k13) (k14 := k14) (k15 := k15) (k16 := k16) (k21 := k21) (k22 := k22) (k23 := k23) (k24 := k24) (k25 := k25) (k30 := k30) (k31 := k31) (k33 := k33) (n := n) (m := m) (aw := 0) (ls := ls) (ap := ap) (sq := sq) (pl := pl) (tz := tz) (rs := rs) (bd := bd) (pd := pd) (tk := tk) (kv := kv) (sd := sd) (R := R) (v := (-6)) (j := 6) (hv := (by first | omega | assumption | rfl | (simp only []; omega) | decide)) (h1 := (by first | omega | assumption | rfl | (simp only []; omega) | decide)) (h6 := (by first | omega | assumption | rfl | (simp only []; omega) | decide))) cf_X5_refuse lk_X5_129 rfl rfl rfl rfl rfl (by decide +kernel) (Nat.le_of_ble_eq_true rfl) (fun rv_34 wv_35 hp_36 hm_37 => ?_)
      clear hm_37
      obtain ⟨rfl, rfl⟩ := hp_36
      show VV E 0 0 34 [(3, .int (-6)), (0, .ref r0), (1, .int (nI jp)), (2, .int q)] [.int (-6)] [(r0, .inr (5, [.int (nI n), .ref k1, .ref k2, .ref k3, .ref k4, .int (nI m), .ref k6, .ref k7, .ref k8, .int (nI 0), .ref k10, .int (nI 0), .ref k12, .ref k13, .ref k14, .ref k15, .ref k16, .int (nI ls), .int (nI ap), .int (bz bd), .int (nI sq), .ref k21, .ref k22, .ref k23, .ref k24, .ref k25, .int (bz pd), .int (nI pl), .int (bz tk), kv, .ref k30, .ref k31, .int (nI tz), .ref k33, .int (nI rs), .int sd])), (k1, .inl (cI, 7, .inl (nIf ki))), (k2, .inl (cI, 7, .inl (nIf op))), (k3, .inl (cI, 7, .inl (nIf (shF sh)))), (k4, .inl (cI, 7, .inl (nIf fa))), (k6, .inl (cI, 6, .inl (nIf K))), (k7, .inl (cI, 6, .inl (nIf G))), (k8, .inl (cI, 6, .inl (nIf T))), (k12, .inl (cI, 7, .inl (nIf kw))), (k13, .inl (cI, 175, .inl (nIf kn))), (k14, .inl (cI, 144, .inl (mIf M))), (k15, .inl (cI, 7, .inl (nIf mw))), (k10, .inl (cI, 7, .inl (nIf (un R 6 (R 6 + 1)))))]
      refine v_iret zC zT dX5_who_34  ?_
      first | (have g9 := hn_p; exact ⟨kw, kn, M, mw, 1, _, by unfold q_who; rw [hn_p], hkw, hkn, hM, rfl, rfl⟩) | (have g9 := hlt_q; exact ⟨kw, kn, M, mw, 4, _, by unfold q_who; rw [hi_p]; dsimp only; rw [if_pos (show q < 0 from hlt_q)], hkw, hkn, hM, rfl, rfl⟩) | (have g9 := hgt_q; exact ⟨kw, kn, M, mw, 6, _, by unfold q_who; rw [hi_p]; dsimp only; rw [if_neg (show ¬ q < 0 from hge_q), if_pos hgt_q], hkw, hkn, hM, rfl, rfl⟩) | exact ⟨_, _, _, _, 0, _, by unfold q_who; rw [hi_p]; dsimp only; rw [if_neg (nI_pos (show jq < 2 ^ 31 by omega)), if_neg (nI_nlt (show jq ≤ 24 by omega) (by decide)), nI_clamp (show jq < 2 ^ 31 by omega)]; rw [hx, show d = m by omega]; rfl, hR9.2.2.2.1, hR9.2.2.2.2.1, hR9.2.2.2.2.2, rfl, rfl⟩
    ·
      show VV E 0 0 20 [(0, .ref r0), (1, .int (nI jp)), (2, .int q)] [.int (nI 0)] [(r0, .inr (5, [.int (nI n), .ref k1, .ref k2, .ref k3, .ref k4, .int (nI m), .ref k6, .ref k7, .ref k8, .int (nI 0), .ref k10, .int (nI 0), .ref k12, .ref k13, .ref k14, .ref k15, .ref k16, .int (nI ls), .int (nI ap), .int (bz bd), .int (nI sq), .ref k21, .ref k22, .ref k23, .ref k24, .ref k25, .int (bz pd), .int (nI pl), .int (bz tk), kv, .ref k30, .ref k31, .int (nI tz), .ref k33, .int (nI rs), .int sd])), (k1, .inl (cI, 7, .inl (nIf ki))), (k2, .inl (cI, 7, .inl (nIf op))), (k3, .inl (cI, 7, .inl (nIf (shF sh)))), (k4, .inl (cI, 7, .inl (nIf fa))), (k6, .inl (cI, 6, .inl (nIf K))), (k7, .inl (cI, 6, .inl (nIf G))), (k8, .inl (cI, 6, .inl (nIf T))), (k12, .inl (cI, 7, .inl (nIf kw))), (k13, .inl (cI, 175, .inl (nIf kn))), (k14, .inl (cI, 144, .inl (mIf M))), (k15, .inl (cI, 7, .inl (nIf mw))), (k10, .inl (cI, 7, .inl (nIf R)))]
      subst he_25
      obtain ⟨jq, he_jq⟩ : ∃ z, z = j_24 := ⟨_, rfl⟩
      subst he_jq
      have h1_jq := h1_26
      have h2_jq := h2_27
      refine v_goto 24 zC dX5_who_20 ?_
      refine v_is_n (lv2 := [(3, .int (nI 0)), (0, .ref r0), (1, .int (nI jp)), (2, .int (nI jq))]) 25 zC dX5_who_24 (by rw [hnE]; decide) rfl ?_
      refine v_il_n 26 zC dX5_who_25 0 rfl ?_
      refine v_if_ge 35 29 zC dX5_who_26 (fun _ => ?_) (fun z => absurd (by decide +kernel) z)
      refine v_al_n 36 zC dX5_who_35 1 rfl ?_
      refine v_cV (As := []) (st := []) 39 0 [0, 1, 2, 3, 4, 5, 6, 7, 8, 9, 10, 11] zC dX5_who_36 hA (c_X5_day (ev_l E) (ev_D E) cI (r0 := r0) (k1 := k1) (k2 := k2) (k3 := k3) (k4 := k4) (k6 := k6) (k7 := k7) (k8 := k8) (k10 := k10) (k12 := k12) (k13 := k13) (k14 := k14) (k15 := k15) (k16 := k16) (k21 := k21) (k22 := k22) (k23 := k23) (k24 := k24) (k25 := k25) (k30 := k30) (k31 := k31) (k33 := k33) (n := n) (m := m) (aw := 0) (ls := ls) (ap := ap) (sq := sq) (pl := pl) (tz := tz) (rs := rs) (bd := bd) (pd := pd) (tk := tk) (kv := kv) (sd := sd) (ki := ki) (op := op) (fa := fa) (K := K) (G := G) (T := T) (sh := sh) (kw := kw) (kn := kn) (M := M) (mw := mw) (hw := (by first | omega | assumption | rfl | (simp only []; omega) | decide)) (hkw := (by first | omega | assumption | rfl | (simp only []; omega) | decide)) (hkn := (by first | omega | assumption | rfl | (simp only []; omega) | decide)) (hM := (by first | omega | assumption | rfl | (simp only []; omega) | decide))) cf_X5_day lk_X5_123 rfl rfl rfl rfl rfl (by decide +kernel) (Nat.le_of_ble_eq_true rfl) (fun rv_39 wv_40 hp_41 hm_42 => ?_)
      clear hm_42
      obtain ⟨kw1_43, kn1_44, M1_45, mw1_46, hR_47, rfl, rfl⟩ := hp_41
      show VV E 0 0 39 [(3, .int (nI 0)), (0, .ref r0), (1, .int (nI jp)), (2, .int (nI jq))] [] [(r0, .inr (5, [.int (nI n), .ref k1, .ref k2, .ref k3, .ref k4, .int (nI m), .ref k6, .ref k7, .ref k8, .int (nI 0), .ref k10, .int (nI 0), .ref k12, .ref k13, .ref k14, .ref k15, .ref k16, .int (nI ls), .int (nI ap), .int (bz bd), .int (nI sq), .ref k21, .ref k22, .ref k23, .ref k24, .ref k25, .int (bz pd), .int (nI pl), .int (bz tk), kv, .ref k30, .ref k31, .int (nI tz), .ref k33, .int (nI rs), .int sd])), (k1, .inl (cI, 7, .inl (nIf ki))), (k2, .inl (cI, 7, .inl (nIf op))), (k3, .inl (cI, 7, .inl (nIf (shF sh)))), (k4, .inl (cI, 7, .inl (nIf fa))), (k6, .inl (cI, 6, .inl (nIf K))), (k7, .inl (cI, 6, .inl (nIf G))), (k8, .inl (cI, 6, .inl (nIf T))), (k12, .inl (cI, 7, .inl (nIf kw1_43))), (k13, .inl (cI, 175, .inl (nIf kn1_44))), (k14, .inl (cI, 144, .inl (mIf M1_45))), (k15, .inl (cI, 7, .inl (nIf mw1_46))), (k10, .inl (cI, 7, .inl (nIf R)))]
      have hR9 := hR_47
      refine v_ic (v := (nI 0)) 40 zC dX5_who_39 (by decide +kernel) ?_
      refine v_is (lv2 := [(4, .int (nI 0)), (3, .int (nI 0)), (0, .ref r0), (1, .int (nI jp)), (2, .int (nI jq))]) 42 zC dX5_who_40 (by rw [hnE]; decide) rfl ?_
      refine v_ic (v := (nI 0)) 43 zC dX5_who_42 (by decide +kernel) ?_
      refine v_is (lv2 := [(5, .int (nI 0)), (4, .int (nI 0)), (3, .int (nI 0)), (0, .ref r0), (1, .int (nI jp)), (2, .int (nI jq))]) 45 zC dX5_who_43 (by rw [hnE]; decide) rfl ?_
      have lp45 : ∀ (mz : Nat) (x : Nat) (d : Nat), (x = mkn (fun d => decide (THRU (n, m, sh, 0, ki, op, fa, K, G, T) d jp = jq)) d) → (d ≤ m) → m - d = mz → VV E 0 0 45 [(5, .int (nI d)), (4, .int (nI x)), (3, .int (nI 0)), (0, .ref r0), (1, .int (nI jp)), (2, .int (nI jq))] [] [(r0, .inr (5, [.int (nI n), .ref k1, .ref k2, .ref k3, .ref k4, .int (nI m), .ref k6, .ref k7, .ref k8, .int (nI 0), .ref k10, .int (nI 0), .ref k12, .ref k13, .ref k14, .ref k15, .ref k16, .int (nI ls), .int (nI ap), .int (bz bd), .int (nI sq), .ref k21, .ref k22, .ref k23, .ref k24, .ref k25, .int (bz pd), .int (nI pl), .int (bz tk), kv, .ref k30, .ref k31, .int (nI tz), .ref k33, .int (nI rs), .int sd])), (k1, .inl (cI, 7, .inl (nIf ki))), (k2, .inl (cI, 7, .inl (nIf op))), (k3, .inl (cI, 7, .inl (nIf (shF sh)))), (k4, .inl (cI, 7, .inl (nIf fa))), (k6, .inl (cI, 6, .inl (nIf K))), (k7, .inl (cI, 6, .inl (nIf G))), (k8, .inl (cI, 6, .inl (nIf T))), (k12, .inl (cI, 7, .inl (nIf kw1_43))), (k13, .inl (cI, 175, .inl (nIf kn1_44))), (k14, .inl (cI, 144, .inl (mIf M1_45))), (k15, .inl (cI, 7, .inl (nIf mw1_46))), (k10, .inl (cI, 7, .inl (nIf R)))] := by
        intro mz
        induction mz using Nat.strongRecOn with
        | _ mz ih45 =>
        intro x d hx hd hm45
        refine v_il 47 zC dX5_who_45 0 rfl ?_
        refine v_al_n 48 zC dX5_who_47 3 rfl ?_
        refine v_gf 51 0 zC dX5_who_48 gf_X5_84 rfl rfl ?_
        refine v_icmpn_ge 125 54 zC dX5_who_51 (fun h_48 => ?_) (fun h_48 => ?_)
        ·
          refine v_il 127 zC dX5_who_125 1 rfl ?_
          refine v_iret zC zT dX5_who_127  ?_
          first | (have g9 := hn_p; exact ⟨kw, kn, M, mw, 1, _, by unfold q_who; rw [hn_p], hkw, hkn, hM, rfl, rfl⟩) | (have g9 := hlt_q; exact ⟨kw, kn, M, mw, 4, _, by unfold q_who; rw [hi_p]; dsimp only; rw [if_pos (show q < 0 from hlt_q)], hkw, hkn, hM, rfl, rfl⟩) | (have g9 := hgt_q; exact ⟨kw, kn, M, mw, 6, _, by unfold q_who; rw [hi_p]; dsimp only; rw [if_neg (show ¬ q < 0 from hge_q), if_pos hgt_q], hkw, hkn, hM, rfl, rfl⟩) | exact ⟨_, _, _, _, 0, _, by unfold q_who; rw [hi_p]; dsimp only; rw [if_neg (nI_pos (show jq < 2 ^ 31 by omega)), if_neg (nI_nlt (show jq ≤ 24 by omega) (by decide)), nI_clamp (show jq < 2 ^ 31 by omega)]; rw [hx, show d = m by omega]; rfl, hR9.2.2.2.1, hR9.2.2.2.2.1, hR9.2.2.2.2.2, rfl, rfl⟩
        ·
          refine v_ic (v := (nI 0)) 55 zC dX5_who_54 (by decide +kernel) ?_
          refine v_is (lv2 := [(6, .int (nI 0)), (5, .int (nI d)), (4, .int (nI x)), (3, .int (nI 0)), (0, .ref r0), (1, .int (nI jp)), (2, .int (nI jq))]) 57 zC dX5_who_55 (by rw [hnE]; decide) rfl ?_
          refine v_ic (v := (nI 0)) 58 zC dX5_who_57 (by decide +kernel) ?_
          refine v_is (lv2 := [(7, .int (nI 0)), (6, .int (nI 0)), (5, .int (nI d)), (4, .int (nI x)), (3, .int (nI 0)), (0, .ref r0), (1, .int (nI jp)), (2, .int (nI jq))]) 60 zC dX5_who_58 (by rw [hnE]; decide) rfl ?_
          have lp60 : ∀ (mz : Nat) (y : Nat) (h : Nat), (y = ctn (fun h => DM (n, m, sh, 0, ki, op, fa, K, G, T) h d == some jp) h) → (h ≤ 24) → (y ≤ h) → 24 - h = mz → VV E 0 0 60 [(7, .int (nI h)), (6, .int (nI y)), (5, .int (nI d)), (4, .int (nI x)), (3, .int (nI 0)), (0, .ref r0), (1, .int (nI jp)), (2, .int (nI jq))] [] [(r0, .inr (5, [.int (nI n), .ref k1, .ref k2, .ref k3, .ref k4, .int (nI m), .ref k6, .ref k7, .ref k8, .int (nI 0), .ref k10, .int (nI 0), .ref k12, .ref k13, .ref k14, .ref k15, .ref k16, .int (nI ls), .int (nI ap), .int (bz bd), .int (nI sq), .ref k21, .ref k22, .ref k23, .ref k24, .ref k25, .int (bz pd), .int (nI pl), .int (bz tk), kv, .ref k30, .ref k31, .int (nI tz), .ref k33, .int (nI rs), .int sd])), (k1, .inl (cI, 7, .inl (nIf ki))), (k2, .inl (cI, 7, .inl (nIf op))), (k3, .inl (cI, 7, .inl (nIf (shF sh)))), (k4, .inl (cI, 7, .inl (nIf fa))), (k6, .inl (cI, 6, .inl (nIf K))), (k7, .inl (cI, 6, .inl (nIf G))), (k8, .inl (cI, 6, .inl (nIf T))), (k12, .inl (cI, 7, .inl (nIf kw1_43))), (k13, .inl (cI, 175, .inl (nIf kn1_44))), (k14, .inl (cI, 144, .inl (mIf M1_45))), (k15, .inl (cI, 7, .inl (nIf mw1_46))), (k10, .inl (cI, 7, .inl (nIf R)))] := by
            intro mz
            induction mz using Nat.strongRecOn with
            | _ mz ih60 =>
            intro y h hy hh hyl hm60
            refine v_il 62 zC dX5_who_60 0 rfl ?_
            refine v_bp (v := (nI 24)) 64 zC dX5_who_62 (by decide +kernel) ?_
            refine v_icmpn_ge 100 67 zC dX5_who_64 (fun h_49 => ?_) (fun h_49 => ?_)
            ·
              refine v_il 102 zC dX5_who_100 3 rfl ?_
              refine v_il 104 zC dX5_who_102 1 rfl ?_
              refine v_il_n 105 zC dX5_who_104 7 rfl ?_
              have hy8 : y = THRU (n, m, sh, 0, ki, op, fa, K, G, T) d jp := by rw [hy, show h = 24 by omega]; rfl
              refine v_icmpn_ne 115 108 zC dX5_who_105 (fun h_50 => ?_) (fun h_50 => ?_)
              ·
                have hs9 : (fun d => decide (THRU (n, m, sh, 0, ki, op, fa, K, G, T) d jp = jq)) d = false := decide_eq_false (by rw [← hy8]; assumption)
                refine v_ic (v := (nI 0)) 116 zC dX5_who_115 (by decide +kernel) ?_
                refine v_ior (v := (nI x)) 117 zC dX5_who_116 (by rw [fa_or, Nat.or_zero]) ?_
                refine v_is (lv2 := [(4, .int (nI x)), (7, .int (nI h)), (6, .int (nI y)), (5, .int (nI d)), (3, .int (nI 0)), (0, .ref r0), (1, .int (nI jp)), (2, .int (nI jq))]) 119 zC dX5_who_117 (by rw [hnE]; decide) rfl ?_
                refine v_inc (v := (nI (d + 1))) (lv2 := [(5, .int (nI (d + 1))), (4, .int (nI x)), (7, .int (nI h)), (6, .int (nI y)), (3, .int (nI 0)), (0, .ref r0), (1, .int (nI jp)), (2, .int (nI jq))]) 122 zC dX5_who_119 (j := 3) rfl (nI_add _ 1) (by rw [hnE]; decide) rfl ?_
                refine v_goto 45 zC dX5_who_122 ?_
                refine v_lvs (lv2 := [(5, .int (nI (d + 1))), (4, .int (nI x)), (3, .int (nI 0)), (0, .ref r0), (1, .int (nI jp)), (2, .int (nI jq))]) [0, 1, 4, 5, 6, 7] rfl ?_
                exact ih45 _ (by omega) x (d + 1) (by first | (rw [hx]; exact (mkn_1 hs9).symm) | (rw [hx]; exact (mkn_0 hs9).symm)) (by first | omega | assumption | rfl | (simp only []; omega) | decide) rfl
              ·
                have hs9 : (fun d => decide (THRU (n, m, sh, 0, ki, op, fa, K, G, T) d jp = jq)) d = true := decide_eq_true (by rw [← hy8]; assumption)
                refine v_ic (v := (nI 1)) 109 zC dX5_who_108 (by decide +kernel) ?_
                refine v_il 111 zC dX5_who_109 2 rfl ?_
                refine v_ishl (v := (nI (2 ^ d))) 112 zC dX5_who_111 (b1n (by omega)) ?_
                refine v_goto 116 zC dX5_who_112 ?_
                refine v_ior (v := (nI (x ||| (2 ^ d)))) 117 zC dX5_who_116 (fa_or _ _) ?_
                refine v_is (lv2 := [(4, .int (nI (x ||| (2 ^ d)))), (7, .int (nI h)), (6, .int (nI y)), (5, .int (nI d)), (3, .int (nI 0)), (0, .ref r0), (1, .int (nI jp)), (2, .int (nI jq))]) 119 zC dX5_who_117 (by rw [hnE]; decide) rfl ?_
                refine v_inc (v := (nI (d + 1))) (lv2 := [(5, .int (nI (d + 1))), (4, .int (nI (x ||| (2 ^ d)))), (7, .int (nI h)), (6, .int (nI y)), (3, .int (nI 0)), (0, .ref r0), (1, .int (nI jp)), (2, .int (nI jq))]) 122 zC dX5_who_119 (j := 3) rfl (nI_add _ 1) (by rw [hnE]; decide) rfl ?_
                refine v_goto 45 zC dX5_who_122 ?_
                refine v_lvs (lv2 := [(5, .int (nI (d + 1))), (4, .int (nI (x ||| (2 ^ d)))), (3, .int (nI 0)), (0, .ref r0), (1, .int (nI jp)), (2, .int (nI jq))]) [0, 1, 4, 5, 6, 7] rfl ?_
                exact ih45 _ (by omega) (x ||| (2 ^ d)) (d + 1) (by first | (rw [hx]; exact (mkn_1 hs9).symm) | (rw [hx]; exact (mkn_0 hs9).symm)) (by first | omega | assumption | rfl | (simp only []; omega) | decide) rfl
            ·
              refine v_il 69 zC dX5_who_67 1 rfl ?_
              refine v_al_n 70 zC dX5_who_69 5 rfl ?_
              refine v_gf 73 0 zC dX5_who_70 gf_X5_40 rfl rfl ?_
              refine v_bp (v := (nI 6)) 75 zC dX5_who_73 (by decide +kernel) ?_
              refine v_il 77 zC dX5_who_75 0 rfl ?_
              refine v_imul (v := (nI (6 * h))) 78 zC dX5_who_77 (pk_mul _ _) ?_
              refine v_il 80 zC dX5_who_78 2 rfl ?_
              refine v_iadd (v := (nI ((6 * h) + d))) 81 zC dX5_who_80 (nI_add _ _) ?_
              refine v_ialn (v := (mI (DM (n, m, sh, 0, ki, op, fa, K, G, T) h d))) 82 10 zC dX5_who_81 rfl (by omega) (congrArg mI (rk_m hR9 (by omega) (by omega))) ?_
              refine v_il_n 83 zC dX5_who_82 6 rfl ?_
              refine v_icmpo_ne 90 86 zC dX5_who_83 (fun v e => rk_lt hR9 (by omega) (by omega) e) (fun h_51 => ?_) (fun h_51 => ?_)
              ·
                refine v_ic (v := (nI 0)) 91 zC dX5_who_90 (by decide +kernel) ?_
                refine v_iadd (v := (nI y)) 92 zC dX5_who_91 (nI_add _ 0) ?_
                refine v_is (lv2 := [(6, .int (nI y)), (7, .int (nI h)), (5, .int (nI d)), (4, .int (nI x)), (3, .int (nI 0)), (0, .ref r0), (1, .int (nI jp)), (2, .int (nI jq))]) 94 zC dX5_who_92 (by rw [hnE]; decide) rfl ?_
                refine v_inc (v := (nI (h + 1))) (lv2 := [(7, .int (nI (h + 1))), (6, .int (nI y)), (5, .int (nI d)), (4, .int (nI x)), (3, .int (nI 0)), (0, .ref r0), (1, .int (nI jp)), (2, .int (nI jq))]) 97 zC dX5_who_94 (j := 1) rfl (nI_add _ 1) (by rw [hnE]; decide) rfl ?_
                refine v_goto 60 zC dX5_who_97 ?_
                refine v_lvs (lv2 := [(7, .int (nI (h + 1))), (6, .int (nI y)), (5, .int (nI d)), (4, .int (nI x)), (3, .int (nI 0)), (0, .ref r0), (1, .int (nI jp)), (2, .int (nI jq))]) [0, 1, 2, 3, 4, 5, 6, 7] rfl ?_
                exact ih60 _ (by omega) y (h + 1) (by first | exact (by rw [hy]; exact (ctn_1 (by first | assumption | simp [*])).symm) | exact (by rw [hy]; exact (ctn_0 (by first | assumption | simp [*])).symm)) (by first | omega | assumption | rfl | (simp only []; omega) | decide) (by first | omega | assumption | rfl | (simp only []; omega) | decide) rfl
              ·
                refine v_ic (v := (nI 1)) 87 zC dX5_who_86 (by decide +kernel) ?_
                refine v_goto 91 zC dX5_who_87 ?_
                refine v_iadd (v := (nI (y + 1))) 92 zC dX5_who_91 (nI_add _ _) ?_
                refine v_is (lv2 := [(6, .int (nI (y + 1))), (7, .int (nI h)), (5, .int (nI d)), (4, .int (nI x)), (3, .int (nI 0)), (0, .ref r0), (1, .int (nI jp)), (2, .int (nI jq))]) 94 zC dX5_who_92 (by rw [hnE]; decide) rfl ?_
                refine v_inc (v := (nI (h + 1))) (lv2 := [(7, .int (nI (h + 1))), (6, .int (nI (y + 1))), (5, .int (nI d)), (4, .int (nI x)), (3, .int (nI 0)), (0, .ref r0), (1, .int (nI jp)), (2, .int (nI jq))]) 97 zC dX5_who_94 (j := 1) rfl (nI_add _ 1) (by rw [hnE]; decide) rfl ?_
                refine v_goto 60 zC dX5_who_97 ?_
                refine v_lvs (lv2 := [(7, .int (nI (h + 1))), (6, .int (nI (y + 1))), (5, .int (nI d)), (4, .int (nI x)), (3, .int (nI 0)), (0, .ref r0), (1, .int (nI jp)), (2, .int (nI jq))]) [0, 1, 2, 3, 4, 5, 6, 7] rfl ?_
                exact ih60 _ (by omega) (y + 1) (h + 1) (by first | exact (by rw [hy]; exact (ctn_1 (by first | assumption | simp [*])).symm) | exact (by rw [hy]; exact (ctn_0 (by first | assumption | simp [*])).symm)) (by first | omega | assumption | rfl | (simp only []; omega) | decide) (by first | omega | assumption | rfl | (simp only []; omega) | decide) rfl
          refine v_lvs (lv2 := [(7, .int (nI 0)), (6, .int (nI 0)), (5, .int (nI d)), (4, .int (nI x)), (3, .int (nI 0)), (0, .ref r0), (1, .int (nI jp)), (2, .int (nI jq))]) [0, 1, 2, 3, 4, 5, 6, 7] rfl ?_
          exact lp60 _ 0 0 rfl (by first | omega | assumption | rfl | (simp only []; omega) | decide) (by first | omega | assumption | rfl | (simp only []; omega) | decide) rfl
      refine v_lvs (lv2 := [(5, .int (nI 0)), (4, .int (nI 0)), (3, .int (nI 0)), (0, .ref r0), (1, .int (nI jp)), (2, .int (nI jq))]) [0, 1, 2, 3, 4, 5] rfl ?_
      exact lp45 _ 0 0 rfl (by first | omega | assumption | rfl | (simp only []; omega) | decide) rfl
set_option maxRecDepth 100000 in
set_option maxHeartbeats 4000000 in
theorem c_X5_questions (l : Launch) (D : va_G) (cI : ClassId) (r0 k1 k2 k3 k4 k6 k7 k8 k10 k12 k13 k14 k15 k16 k21 k22 k23 k24 k25 k30 k31 k33 : Nat) (n m ls ap sq pl tz rs : Nat) (bd pd tk : Bool) (kv : Value) (sd : Int32) (ki op fa K G T : Nat → Nat) (sh : Nat) (kw kn : Nat → Nat) (M : Nat → Option Nat) (mw : Nat → Nat) (hw : FW n m sh ki op fa K G T) (hkw : ∀ z, kw z < 1024) (hkn : ∀ z, kn z < 1024) (hM : ∀ z v, M z = some v → v < 7) : CT l yX5_questions cX5_questions 4 (some .int) { frames := 1, cells := 0, slots := 0, locals := 21 } D cI [.ref r0] [(r0, .inr (5, [.int (nI n), .ref k1, .ref k2, .ref k3, .ref k4, .int (nI m), .ref k6, .ref k7, .ref k8, .int (nI 0), .ref k10, .int (nI 0), .ref k12, .ref k13, .ref k14, .ref k15, .ref k16, .int (nI ls), .int (nI ap), .int (bz bd), .int (nI sq), .ref k21, .ref k22, .ref k23, .ref k24, .ref k25, .int (bz pd), .int (nI pl), .int (bz tk), kv, .ref k30, .ref k31, .int (nI tz), .ref k33, .int (nI rs), .int sd])), (k1, .inl (cI, 7, .inl (nIf ki))), (k2, .inl (cI, 7, .inl (nIf op))), (k3, .inl (cI, 7, .inl (nIf (shF sh)))), (k4, .inl (cI, 7, .inl (nIf fa))), (k6, .inl (cI, 6, .inl (nIf K))), (k7, .inl (cI, 6, .inl (nIf G))), (k8, .inl (cI, 6, .inl (nIf T))), (k12, .inl (cI, 7, .inl (nIf kw))), (k13, .inl (cI, 175, .inl (nIf kn))), (k14, .inl (cI, 144, .inl (mIf M))), (k15, .inl (cI, 7, .inl (nIf mw)))] (fun zr zw => (∃ kw1 : Nat → Nat, ∃ kn1 : Nat → Nat, ∃ M1 : Nat → Option Nat, ∃ mw1 : Nat → Nat, (∀ z, kw1 z < 1024) ∧ (∀ z, kn1 z < 1024) ∧ (∀ z v, M1 z = some v → v < 7) ∧ zr = some (.int (nI (QUES (n, m, sh, 0, ki, op, fa, K, G, T)))) ∧ zw = [(r0, .inr (5, [.int (nI n), .ref k1, .ref k2, .ref k3, .ref k4, .int (nI m), .ref k6, .ref k7, .ref k8, .int (nI 0), .ref k10, .int (nI 0), .ref k12, .ref k13, .ref k14, .ref k15, .ref k16, .int (nI ls), .int (nI ap), .int (bz bd), .int (nI sq), .ref k21, .ref k22, .ref k23, .ref k24, .ref k25, .int (bz pd), .int (nI pl), .int (bz tk), kv, .ref k30, .ref k31, .int (nI tz), .ref k33, .int (nI rs), .int sd])), (k1, .inl (cI, 7, .inl (nIf ki))), (k2, .inl (cI, 7, .inl (nIf op))), (k3, .inl (cI, 7, .inl (nIf (shF sh)))), (k4, .inl (cI, 7, .inl (nIf fa))), (k6, .inl (cI, 6, .inl (nIf K))), (k7, .inl (cI, 6, .inl (nIf G))), (k8, .inl (cI, 6, .inl (nIf T))), (k12, .inl (cI, 7, .inl (nIf kw1))), (k13, .inl (cI, 175, .inl (nIf kn1))), (k14, .inl (cI, 144, .inl (mIf M1))), (k15, .inl (cI, 7, .inl (nIf mw1)))])) := by
  refine CT_of RX5 rfl (by decide +kernel) (Nat.le_of_ble_eq_true rfl) (fun E hnE zC zT => ?_)
  have hA : ∀ q, (ev_s E).heap.size ≤ q → ev_A E q := fun q h => by rw [zT.2]; exact Or.inr h
  obtain ⟨hn, hm, hsh, hki, hop, hfa, hK, hG, hT, vki, vop, vfa, vK, vG, vT⟩ := id hw
  show VV E 0 0 0 [(0, .ref r0)] [] [(r0, .inr (5, [.int (nI n), .ref k1, .ref k2, .ref k3, .ref k4, .int (nI m), .ref k6, .ref k7, .ref k8, .int (nI 0), .ref k10, .int (nI 0), .ref k12, .ref k13, .ref k14, .ref k15, .ref k16, .int (nI ls), .int (nI ap), .int (bz bd), .int (nI sq), .ref k21, .ref k22, .ref k23, .ref k24, .ref k25, .int (bz pd), .int (nI pl), .int (bz tk), kv, .ref k30, .ref k31, .int (nI tz), .ref k33, .int (nI rs), .int sd])), (k1, .inl (cI, 7, .inl (nIf ki))), (k2, .inl (cI, 7, .inl (nIf op))), (k3, .inl (cI, 7, .inl (nIf (shF sh)))), (k4, .inl (cI, 7, .inl (nIf fa))), (k6, .inl (cI, 6, .inl (nIf K))), (k7, .inl (cI, 6, .inl (nIf G))), (k8, .inl (cI, 6, .inl (nIf T))), (k12, .inl (cI, 7, .inl (nIf kw))), (k13, .inl (cI, 175, .inl (nIf kn))), (k14, .inl (cI, 144, .inl (mIf M))), (k15, .inl (cI, 7, .inl (nIf mw)))]
  refine v_al_n 1 zC dX5_questions_0 0 rfl ?_
  refine v_ic (v := (nI 0)) 2 zC dX5_questions_1 (by decide +kernel) ?_
  refine v_pf (ws2 := [(r0, .inr (5, [.int (nI n), .ref k1, .ref k2, .ref k3, .ref k4, .int (nI m), .ref k6, .ref k7, .ref k8, .int (nI 0), .ref k10, .int (nI 0), .ref k12, .ref k13, .ref k14, .ref k15, .ref k16, .int (nI ls), .int (nI ap), .int (bz bd), .int (nI sq), .ref k21, .ref k22, .ref k23, .ref k24, .ref k25, .int (bz pd), .int (nI pl), .int (bz tk), kv, .ref k30, .ref k31, .int (nI tz), .ref k33, .int (nI rs), .int sd])), (k1, .inl (cI, 7, .inl (nIf ki))), (k2, .inl (cI, 7, .inl (nIf op))), (k3, .inl (cI, 7, .inl (nIf (shF sh)))), (k4, .inl (cI, 7, .inl (nIf fa))), (k6, .inl (cI, 6, .inl (nIf K))), (k7, .inl (cI, 6, .inl (nIf G))), (k8, .inl (cI, 6, .inl (nIf T))), (k12, .inl (cI, 7, .inl (nIf kw))), (k13, .inl (cI, 175, .inl (nIf kn))), (k14, .inl (cI, 144, .inl (mIf M))), (k15, .inl (cI, 7, .inl (nIf mw)))]) 5 0 zC dX5_questions_2 pf_X5_73 rfl (Nat.le_of_ble_eq_true rfl) rfl rfl rfl ?_
  refine v_ic (v := (nI 0)) 6 zC dX5_questions_5 (by decide +kernel) ?_
  refine v_is_n (lv2 := [(1, .int (nI 0)), (0, .ref r0)]) 7 zC dX5_questions_6 (by rw [hnE]; decide) rfl ?_
  refine v_ic (v := (nI 0)) 8 zC dX5_questions_7 (by decide +kernel) ?_
  refine v_is_n (lv2 := [(2, .int (nI 0)), (1, .int (nI 0)), (0, .ref r0)]) 9 zC dX5_questions_8 (by rw [hnE]; decide) rfl ?_
  refine v_ic (v := (nI 0)) 10 zC dX5_questions_9 (by decide +kernel) ?_
  refine v_is_n (lv2 := [(3, .int (nI 0)), (2, .int (nI 0)), (1, .int (nI 0)), (0, .ref r0)]) 11 zC dX5_questions_10 (by rw [hnE]; decide) rfl ?_
  have lp11 : ∀ (mz : Nat) (u : Nat) (v : Nat) (d : Nat), ((u, v) = it (queS T) (0, 0) d) → (d ≤ m) → m - d = mz → VV E 0 0 11 [(3, .int (nI d)), (2, .int (nI v)), (1, .int (nI u)), (0, .ref r0)] [] [(r0, .inr (5, [.int (nI n), .ref k1, .ref k2, .ref k3, .ref k4, .int (nI m), .ref k6, .ref k7, .ref k8, .int (nI 0), .ref k10, .int (nI 0), .ref k12, .ref k13, .ref k14, .ref k15, .ref k16, .int (nI ls), .int (nI ap), .int (bz bd), .int (nI sq), .ref k21, .ref k22, .ref k23, .ref k24, .ref k25, .int (bz pd), .int (nI pl), .int (bz tk), kv, .ref k30, .ref k31, .int (nI tz), .ref k33, .int (nI rs), .int sd])), (k1, .inl (cI, 7, .inl (nIf ki))), (k2, .inl (cI, 7, .inl (nIf op))), (k3, .inl (cI, 7, .inl (nIf (shF sh)))), (k4, .inl (cI, 7, .inl (nIf fa))), (k6, .inl (cI, 6, .inl (nIf K))), (k7, .inl (cI, 6, .inl (nIf G))), (k8, .inl (cI, 6, .inl (nIf T))), (k12, .inl (cI, 7, .inl (nIf kw))), (k13, .inl (cI, 175, .inl (nIf kn))), (k14, .inl (cI, 144, .inl (mIf M))), (k15, .inl (cI, 7, .inl (nIf mw)))] := by
    intro mz
    induction mz using Nat.strongRecOn with
    | _ mz ih11 =>
    intro u v d hs hd hm11
    refine v_il_n 12 zC dX5_questions_11 0 rfl ?_
    refine v_al_n 13 zC dX5_questions_12 3 rfl ?_
    refine v_gf 16 0 zC dX5_questions_13 gf_X5_84 rfl rfl ?_
    refine v_icmpn_ge 59 19 zC dX5_questions_16 (fun h_1 => ?_) (fun h_1 => ?_)
    ·
      refine v_il_n 60 zC dX5_questions_59 2 rfl ?_
      refine v_iret zC zT dX5_questions_60  ?_
      exact ⟨kw, kn, M, mw, hkw, hkn, hM, sn (by unfold QUES; rw [show g_m (n, m, sh, 0, ki, op, fa, K, G, T) = d from (by show m = d; omega), ← hs]), rfl⟩
    ·
      refine v_il_n 20 zC dX5_questions_19 2 rfl ?_
      refine v_il_n 21 zC dX5_questions_20 1 rfl ?_
      refine v_al_n 22 zC dX5_questions_21 3 rfl ?_
      refine v_gf 25 0 zC dX5_questions_22 gf_X5_28 rfl rfl ?_
      refine v_il_n 26 zC dX5_questions_25 0 rfl ?_
      refine v_ialn (v := (nI (T d))) 27 7 zC dX5_questions_26 rfl (by omega) rfl ?_
      have hb_2 := hT d
      refine v_cS (As := [.int (nI v), .int (nI (T d))]) (st := [.int (nI u)]) 30 [] zC dX5_questions_27 hA (c_X5_hasBit (ev_l E) (ev_D E) cI (x := v) (k := (T d)) (hk := (by first | omega | assumption | rfl | (simp only []; omega) | decide))) cf_X5_hasBit lk_X5_95 rfl rfl rfl (by decide +kernel) (Nat.le_of_ble_eq_true rfl) (fun rv_3 wv_4 hp_5 hm_6 => ?_)
      clear hm_6
      obtain ⟨rfl, rfl⟩ := hp_5
      show VV E 0 0 30 [(3, .int (nI d)), (2, .int (nI v)), (1, .int (nI u)), (0, .ref r0)] [.int (bz (Nat.testBit v (T d))), .int (nI u)] [(r0, .inr (5, [.int (nI n), .ref k1, .ref k2, .ref k3, .ref k4, .int (nI m), .ref k6, .ref k7, .ref k8, .int (nI 0), .ref k10, .int (nI 0), .ref k12, .ref k13, .ref k14, .ref k15, .ref k16, .int (nI ls), .int (nI ap), .int (bz bd), .int (nI sq), .ref k21, .ref k22, .ref k23, .ref k24, .ref k25, .int (bz pd), .int (nI pl), .int (bz tk), kv, .ref k30, .ref k31, .int (nI tz), .ref k33, .int (nI rs), .int sd])), (k1, .inl (cI, 7, .inl (nIf ki))), (k2, .inl (cI, 7, .inl (nIf op))), (k3, .inl (cI, 7, .inl (nIf (shF sh)))), (k4, .inl (cI, 7, .inl (nIf fa))), (k6, .inl (cI, 6, .inl (nIf K))), (k7, .inl (cI, 6, .inl (nIf G))), (k8, .inl (cI, 6, .inl (nIf T))), (k12, .inl (cI, 7, .inl (nIf kw))), (k13, .inl (cI, 175, .inl (nIf kn))), (k14, .inl (cI, 144, .inl (mIf M))), (k15, .inl (cI, 7, .inl (nIf mw)))]
      refine v_ifb_eq 37 33 zC dX5_questions_30 (fun h_7 => ?_) (fun h_7 => ?_)
      ·
        have hs9 := que_0 (u := u) (d := d) h_7
        refine v_ic (v := (nI 1)) 38 zC dX5_questions_37 (by decide +kernel) ?_
        refine v_il_n 39 zC dX5_questions_38 0 rfl ?_
        refine v_ishl (v := (nI (2 ^ d))) 40 zC dX5_questions_39 (b1n (by omega)) ?_
        refine v_ior (v := (nI (u ||| (2 ^ d)))) 41 zC dX5_questions_40 (fa_or _ _) ?_
        refine v_is_n (lv2 := [(1, .int (nI (u ||| (2 ^ d)))), (3, .int (nI d)), (2, .int (nI v)), (0, .ref r0)]) 42 zC dX5_questions_41 (by rw [hnE]; decide) rfl ?_
        refine v_il_n 43 zC dX5_questions_42 2 rfl ?_
        refine v_ic (v := (nI 1)) 44 zC dX5_questions_43 (by decide +kernel) ?_
        refine v_al_n 45 zC dX5_questions_44 3 rfl ?_
        refine v_gf 48 0 zC dX5_questions_45 gf_X5_28 rfl rfl ?_
        refine v_il_n 49 zC dX5_questions_48 1 rfl ?_
        refine v_ialn (v := (nI (T d))) 50 7 zC dX5_questions_49 rfl (by omega) rfl ?_
        have hb_8 := hT d
        refine v_ishl (v := (nI (2 ^ (T d)))) 51 zC dX5_questions_50 (b1n (by omega)) ?_
        refine v_ior (v := (nI (v ||| (2 ^ (T d))))) 52 zC dX5_questions_51 (fa_or _ _) ?_
        refine v_is_n (lv2 := [(2, .int (nI (v ||| (2 ^ (T d))))), (1, .int (nI (u ||| (2 ^ d)))), (3, .int (nI d)), (0, .ref r0)]) 53 zC dX5_questions_52 (by rw [hnE]; decide) rfl ?_
        refine v_inc (v := (nI (d + 1))) (lv2 := [(3, .int (nI (d + 1))), (2, .int (nI (v ||| (2 ^ (T d))))), (1, .int (nI (u ||| (2 ^ d)))), (0, .ref r0)]) 56 zC dX5_questions_53 (j := 2) rfl (nI_add _ 1) (by rw [hnE]; decide) rfl ?_
        refine v_goto 11 zC dX5_questions_56 ?_
        refine v_lvs (lv2 := [(3, .int (nI (d + 1))), (2, .int (nI (v ||| (2 ^ (T d))))), (1, .int (nI (u ||| (2 ^ d)))), (0, .ref r0)]) [0, 1, 2, 3] rfl ?_
        exact ih11 _ (by omega) (u ||| (2 ^ d)) (v ||| (2 ^ (T d))) (d + 1) (it_s hs hs9) (by first | omega | assumption | rfl | (simp only []; omega) | decide) rfl
      ·
        have hs9 := que_1 (u := u) (d := d) h_7
        refine v_ic (v := (nI 0)) 34 zC dX5_questions_33 (by decide +kernel) ?_
        refine v_goto 40 zC dX5_questions_34 ?_
        refine v_ior (v := (nI u)) 41 zC dX5_questions_40 (by rw [fa_or, Nat.or_zero]) ?_
        refine v_is_n (lv2 := [(1, .int (nI u)), (3, .int (nI d)), (2, .int (nI v)), (0, .ref r0)]) 42 zC dX5_questions_41 (by rw [hnE]; decide) rfl ?_
        refine v_il_n 43 zC dX5_questions_42 2 rfl ?_
        refine v_ic (v := (nI 1)) 44 zC dX5_questions_43 (by decide +kernel) ?_
        refine v_al_n 45 zC dX5_questions_44 3 rfl ?_
        refine v_gf 48 0 zC dX5_questions_45 gf_X5_28 rfl rfl ?_
        refine v_il_n 49 zC dX5_questions_48 1 rfl ?_
        refine v_ialn (v := (nI (T d))) 50 7 zC dX5_questions_49 rfl (by omega) rfl ?_
        have hb_9 := hT d
        refine v_ishl (v := (nI (2 ^ (T d)))) 51 zC dX5_questions_50 (b1n (by omega)) ?_
        refine v_ior (v := (nI (v ||| (2 ^ (T d))))) 52 zC dX5_questions_51 (fa_or _ _) ?_
        refine v_is_n (lv2 := [(2, .int (nI (v ||| (2 ^ (T d))))), (1, .int (nI u)), (3, .int (nI d)), (0, .ref r0)]) 53 zC dX5_questions_52 (by rw [hnE]; decide) rfl ?_
        refine v_inc (v := (nI (d + 1))) (lv2 := [(3, .int (nI (d + 1))), (2, .int (nI (v ||| (2 ^ (T d))))), (1, .int (nI u)), (0, .ref r0)]) 56 zC dX5_questions_53 (j := 2) rfl (nI_add _ 1) (by rw [hnE]; decide) rfl ?_
        refine v_goto 11 zC dX5_questions_56 ?_
        refine v_lvs (lv2 := [(3, .int (nI (d + 1))), (2, .int (nI (v ||| (2 ^ (T d))))), (1, .int (nI u)), (0, .ref r0)]) [0, 1, 2, 3] rfl ?_
        exact ih11 _ (by omega) u (v ||| (2 ^ (T d))) (d + 1) (it_s hs hs9) (by first | omega | assumption | rfl | (simp only []; omega) | decide) rfl
  refine v_lvs (lv2 := [(3, .int (nI 0)), (2, .int (nI 0)), (1, .int (nI 0)), (0, .ref r0)]) [0, 1, 2, 3] rfl ?_
  exact lp11 _ 0 0 0 rfl (by first | omega | assumption | rfl | (simp only []; omega) | decide) rfl
set_option maxRecDepth 100000 in
set_option maxHeartbeats 4000000 in
theorem c_X5_silent (l : Launch) (D : va_G) (cI : ClassId) (r0 k1 k2 k3 k4 k6 k7 k8 k10 k12 k13 k14 k15 k16 k21 k22 k23 k24 k25 k30 k31 k33 : Nat) (n m ls ap sq pl tz rs : Nat) (bd pd tk : Bool) (kv : Value) (sd : Int32) (ki op fa K G T : Nat → Nat) (sh : Nat) (kw kn : Nat → Nat) (M : Nat → Option Nat) (mw : Nat → Nat) (R : Nat → Nat) (w : Int32) (hw : FW n m sh ki op fa K G T) (hkw : ∀ z, kw z < 1024) (hkn : ∀ z, kn z < 1024) (hM : ∀ z v, M z = some v → v < 7) : CT l yX5_silent cX5_silent 8 (some .int) { frames := 6, cells := 0, slots := 0, locals := 138 } D cI [.ref r0, .int w] [(r0, .inr (5, [.int (nI n), .ref k1, .ref k2, .ref k3, .ref k4, .int (nI m), .ref k6, .ref k7, .ref k8, .int (nI 0), .ref k10, .int (nI 0), .ref k12, .ref k13, .ref k14, .ref k15, .ref k16, .int (nI ls), .int (nI ap), .int (bz bd), .int (nI sq), .ref k21, .ref k22, .ref k23, .ref k24, .ref k25, .int (bz pd), .int (nI pl), .int (bz tk), kv, .ref k30, .ref k31, .int (nI tz), .ref k33, .int (nI rs), .int sd])), (k1, .inl (cI, 7, .inl (nIf ki))), (k2, .inl (cI, 7, .inl (nIf op))), (k3, .inl (cI, 7, .inl (nIf (shF sh)))), (k4, .inl (cI, 7, .inl (nIf fa))), (k6, .inl (cI, 6, .inl (nIf K))), (k7, .inl (cI, 6, .inl (nIf G))), (k8, .inl (cI, 6, .inl (nIf T))), (k12, .inl (cI, 7, .inl (nIf kw))), (k13, .inl (cI, 175, .inl (nIf kn))), (k14, .inl (cI, 144, .inl (mIf M))), (k15, .inl (cI, 7, .inl (nIf mw))), (k10, .inl (cI, 7, .inl (nIf R)))] (fun zr zw => (∃ kw1 : Nat → Nat, ∃ kn1 : Nat → Nat, ∃ M1 : Nat → Option Nat, ∃ mw1 : Nat → Nat, ∃ rc : Nat, ∃ rv : Int32, (q_silent (n, m, sh, 0, ki, op, fa, K, G, T) w = (rc, rv)) ∧ (∀ z, kw1 z < 1024) ∧ (∀ z, kn1 z < 1024) ∧ (∀ z v, M1 z = some v → v < 7) ∧ zr = some (.int rv) ∧ zw = [(r0, .inr (5, [.int (nI n), .ref k1, .ref k2, .ref k3, .ref k4, .int (nI m), .ref k6, .ref k7, .ref k8, .int (nI 0), .ref k10, .int (nI 0), .ref k12, .ref k13, .ref k14, .ref k15, .ref k16, .int (nI ls), .int (nI ap), .int (bz bd), .int (nI sq), .ref k21, .ref k22, .ref k23, .ref k24, .ref k25, .int (bz pd), .int (nI pl), .int (bz tk), kv, .ref k30, .ref k31, .int (nI tz), .ref k33, .int (nI rs), .int sd])), (k1, .inl (cI, 7, .inl (nIf ki))), (k2, .inl (cI, 7, .inl (nIf op))), (k3, .inl (cI, 7, .inl (nIf (shF sh)))), (k4, .inl (cI, 7, .inl (nIf fa))), (k6, .inl (cI, 6, .inl (nIf K))), (k7, .inl (cI, 6, .inl (nIf G))), (k8, .inl (cI, 6, .inl (nIf T))), (k12, .inl (cI, 7, .inl (nIf kw1))), (k13, .inl (cI, 175, .inl (nIf kn1))), (k14, .inl (cI, 144, .inl (mIf M1))), (k15, .inl (cI, 7, .inl (nIf mw1))), (k10, .inl (cI, 7, .inl (nIf (rf R rc))))])) := by
  refine CT_of RX5 rfl (by decide +kernel) (Nat.le_of_ble_eq_true rfl) (fun E hnE zC zT => ?_)
  have hA : ∀ q, (ev_s E).heap.size ≤ q → ev_A E q := fun q h => by rw [zT.2]; exact Or.inr h
  obtain ⟨hn, hm, hsh, hki, hop, hfa, hK, hG, hT, vki, vop, vfa, vK, vG, vT⟩ := id hw
  show VV E 0 0 0 [(0, .ref r0), (1, .int w)] [] [(r0, .inr (5, [.int (nI n), .ref k1, .ref k2, .ref k3, .ref k4, .int (nI m), .ref k6, .ref k7, .ref k8, .int (nI 0), .ref k10, .int (nI 0), .ref k12, .ref k13, .ref k14, .ref k15, .ref k16, .int (nI ls), .int (nI ap), .int (bz bd), .int (nI sq), .ref k21, .ref k22, .ref k23, .ref k24, .ref k25, .int (bz pd), .int (nI pl), .int (bz tk), kv, .ref k30, .ref k31, .int (nI tz), .ref k33, .int (nI rs), .int sd])), (k1, .inl (cI, 7, .inl (nIf ki))), (k2, .inl (cI, 7, .inl (nIf op))), (k3, .inl (cI, 7, .inl (nIf (shF sh)))), (k4, .inl (cI, 7, .inl (nIf fa))), (k6, .inl (cI, 6, .inl (nIf K))), (k7, .inl (cI, 6, .inl (nIf G))), (k8, .inl (cI, 6, .inl (nIf T))), (k12, .inl (cI, 7, .inl (nIf kw))), (k13, .inl (cI, 175, .inl (nIf kn))), (k14, .inl (cI, 144, .inl (mIf M))), (k15, .inl (cI, 7, .inl (nIf mw))), (k10, .inl (cI, 7, .inl (nIf R)))]
  refine v_al_n 1 zC dX5_silent_0 0 rfl ?_
  refine v_ic (v := (nI 0)) 2 zC dX5_silent_1 (by decide +kernel) ?_
  refine v_pf (ws2 := [(r0, .inr (5, [.int (nI n), .ref k1, .ref k2, .ref k3, .ref k4, .int (nI m), .ref k6, .ref k7, .ref k8, .int (nI 0), .ref k10, .int (nI 0), .ref k12, .ref k13, .ref k14, .ref k15, .ref k16, .int (nI ls), .int (nI ap), .int (bz bd), .int (nI sq), .ref k21, .ref k22, .ref k23, .ref k24, .ref k25, .int (bz pd), .int (nI pl), .int (bz tk), kv, .ref k30, .ref k31, .int (nI tz), .ref k33, .int (nI rs), .int sd])), (k1, .inl (cI, 7, .inl (nIf ki))), (k2, .inl (cI, 7, .inl (nIf op))), (k3, .inl (cI, 7, .inl (nIf (shF sh)))), (k4, .inl (cI, 7, .inl (nIf fa))), (k6, .inl (cI, 6, .inl (nIf K))), (k7, .inl (cI, 6, .inl (nIf G))), (k8, .inl (cI, 6, .inl (nIf T))), (k12, .inl (cI, 7, .inl (nIf kw))), (k13, .inl (cI, 175, .inl (nIf kn))), (k14, .inl (cI, 144, .inl (mIf M))), (k15, .inl (cI, 7, .inl (nIf mw))), (k10, .inl (cI, 7, .inl (nIf R)))]) 5 0 zC dX5_silent_2 pf_X5_73 rfl (Nat.le_of_ble_eq_true rfl) rfl rfl rfl ?_
  refine v_il_n 6 zC dX5_silent_5 1 rfl ?_
  refine v_i2l (v := (Int32.toInt64 w)) 7 zC dX5_silent_6 rfl ?_
  refine v_lc (v := lN 0) 8 zC dX5_silent_7 (by decide +kernel) ?_
  refine v_ldc2 (v := (lN 2)) 11 zC dX5_silent_8 kc_X5_211 ?_
  refine v_cS (As := [.long (Int32.toInt64 w), .long (lN 0), .long (lN 2)]) (st := []) 14 [] zC dX5_silent_11 hA (c_X5_in (ev_l E) (ev_D E) cI (x := (Int32.toInt64 w)) (y := (lN 0)) (z := (lN 2)) ) cf_X5_in lk_X5_80 rfl rfl rfl (by decide +kernel) (Nat.le_of_ble_eq_true rfl) (fun rv_1 wv_2 hp_3 hm_4 => ?_)
  clear hm_4
  obtain ⟨rfl, rfl⟩ := hp_3
  show VV E 0 0 14 [(0, .ref r0), (1, .int w)] [.int (bz (inB (Int32.toInt64 w) (lN 0) (lN 2)))] [(r0, .inr (5, [.int (nI n), .ref k1, .ref k2, .ref k3, .ref k4, .int (nI m), .ref k6, .ref k7, .ref k8, .int (nI 0), .ref k10, .int (nI 0), .ref k12, .ref k13, .ref k14, .ref k15, .ref k16, .int (nI ls), .int (nI ap), .int (bz bd), .int (nI sq), .ref k21, .ref k22, .ref k23, .ref k24, .ref k25, .int (bz pd), .int (nI pl), .int (bz tk), kv, .ref k30, .ref k31, .int (nI tz), .ref k33, .int (nI rs), .int sd])), (k1, .inl (cI, 7, .inl (nIf ki))), (k2, .inl (cI, 7, .inl (nIf op))), (k3, .inl (cI, 7, .inl (nIf (shF sh)))), (k4, .inl (cI, 7, .inl (nIf fa))), (k6, .inl (cI, 6, .inl (nIf K))), (k7, .inl (cI, 6, .inl (nIf G))), (k8, .inl (cI, 6, .inl (nIf T))), (k12, .inl (cI, 7, .inl (nIf kw))), (k13, .inl (cI, 175, .inl (nIf kn))), (k14, .inl (cI, 144, .inl (mIf M))), (k15, .inl (cI, 7, .inl (nIf mw))), (k10, .inl (cI, 7, .inl (nIf R)))]
  rcases in_ix1 (N := 3) (p := w) (show 2 < 2 ^ 29 by decide) rfl with ⟨e9, b9⟩ | ⟨jw, e9, i9, l9, b9⟩
  ·
    rw [b9]
    have hn_w := e9
    refine v_ifb_ne 24 17 zC dX5_silent_14 (fun z => absurd z (by decide)) (fun _ => ?_)
    refine v_al_n 18 zC dX5_silent_17 0 rfl ?_
    refine v_bp (v := (-2)) 20 zC dX5_silent_18 (by decide +kernel) ?_
    refine v_cV (As := [.int (-2)]) (st := []) 23 0 [0, 12] zC dX5_silent_20 hA (c_X5_refuse (ev_l E) (ev_D E) cI (r0 := r0) (k1 := k1) (k2 := k2) (k3 := k3) (k4 := k4) (k6 := k6) (k7 := k7) (k8 := k8) (k10 := k10) (k12 := k12) (k13 := k13) (k14 := k14) (k15 := k15) (k16 := k16) (k21 := k21) (k22 := k22) (k23 := k23) (k24 := k24) (k25 := k25) (k30 := k30) (k31 := k31) (k33 := k33) (n := n) (m := m) (aw := 0) (ls := ls) (ap := ap) (sq := sq) (pl := pl) (tz := tz) (rs := rs) (bd := bd) (pd := pd) (tk := tk) (kv := kv) (sd := sd) (R := R) (v := (-2)) (j := 2) (hv := (by first | omega | assumption | rfl | (simp only []; omega) | decide)) (h1 := (by first | omega | assumption | rfl | (simp only []; omega) | decide)) (h6 := (by first | omega | assumption | rfl | (simp only []; omega) | decide))) cf_X5_refuse lk_X5_129 rfl rfl rfl rfl rfl (by decide +kernel) (Nat.le_of_ble_eq_true rfl) (fun rv_6 wv_7 hp_8 hm_9 => ?_)
    clear hm_9
    obtain ⟨rfl, rfl⟩ := hp_8
    show VV E 0 0 23 [(0, .ref r0), (1, .int w)] [.int (-2)] [(r0, .inr (5, [.int (nI n), .ref k1, .ref k2, .ref k3, .ref k4, .int (nI m), .ref k6, .ref k7, .ref k8, .int (nI 0), .ref k10, .int (nI 0), .ref k12, .ref k13, .ref k14, .ref k15, .ref k16, .int (nI ls), .int (nI ap), .int (bz bd), .int (nI sq), .ref k21, .ref k22, .ref k23, .ref k24, .ref k25, .int (bz pd), .int (nI pl), .int (bz tk), kv, .ref k30, .ref k31, .int (nI tz), .ref k33, .int (nI rs), .int sd])), (k1, .inl (cI, 7, .inl (nIf ki))), (k2, .inl (cI, 7, .inl (nIf op))), (k3, .inl (cI, 7, .inl (nIf (shF sh)))), (k4, .inl (cI, 7, .inl (nIf fa))), (k6, .inl (cI, 6, .inl (nIf K))), (k7, .inl (cI, 6, .inl (nIf G))), (k8, .inl (cI, 6, .inl (nIf T))), (k12, .inl (cI, 7, .inl (nIf kw))), (k13, .inl (cI, 175, .inl (nIf kn))), (k14, .inl (cI, 144, .inl (mIf M))), (k15, .inl (cI, 7, .inl (nIf mw))), (k10, .inl (cI, 7, .inl (nIf (un R 2 (R 2 + 1)))))]
    refine v_iret zC zT dX5_silent_23  ?_
    first | (have g9 := hn_w; exact ⟨kw, kn, M, mw, 2, _, by unfold q_silent; rw [hn_w], hkw, hkn, hM, rfl, rfl⟩) | exact ⟨_, _, _, _, 0, _, by unfold q_silent; rw [hi_w]; dsimp only; rw [show (24 : Nat) = h by omega, ← hs]; first | rw [if_pos (by assumption)] | (rw [if_neg (by assumption)]; first | rw [if_pos (by assumption)] | rw [if_neg (by assumption)]), hR9.2.2.2.1, hR9.2.2.2.2.1, hR9.2.2.2.2.2, rfl, rfl⟩
  ·
    rw [b9]
    subst e9
    have hi_w := i9
    have hl_w := l9
    refine v_ifb_ne 24 17 zC dX5_silent_14 (fun _ => ?_) (fun z => absurd z (by decide))
    refine v_al_n 25 zC dX5_silent_24 0 rfl ?_
    refine v_cV (As := []) (st := []) 28 0 [0, 1, 2, 3, 4, 5, 6, 7, 8, 9, 10, 11] zC dX5_silent_25 hA (c_X5_day (ev_l E) (ev_D E) cI (r0 := r0) (k1 := k1) (k2 := k2) (k3 := k3) (k4 := k4) (k6 := k6) (k7 := k7) (k8 := k8) (k10 := k10) (k12 := k12) (k13 := k13) (k14 := k14) (k15 := k15) (k16 := k16) (k21 := k21) (k22 := k22) (k23 := k23) (k24 := k24) (k25 := k25) (k30 := k30) (k31 := k31) (k33 := k33) (n := n) (m := m) (aw := 0) (ls := ls) (ap := ap) (sq := sq) (pl := pl) (tz := tz) (rs := rs) (bd := bd) (pd := pd) (tk := tk) (kv := kv) (sd := sd) (ki := ki) (op := op) (fa := fa) (K := K) (G := G) (T := T) (sh := sh) (kw := kw) (kn := kn) (M := M) (mw := mw) (hw := (by first | omega | assumption | rfl | (simp only []; omega) | decide)) (hkw := (by first | omega | assumption | rfl | (simp only []; omega) | decide)) (hkn := (by first | omega | assumption | rfl | (simp only []; omega) | decide)) (hM := (by first | omega | assumption | rfl | (simp only []; omega) | decide))) cf_X5_day lk_X5_123 rfl rfl rfl rfl rfl (by decide +kernel) (Nat.le_of_ble_eq_true rfl) (fun rv_11 wv_12 hp_13 hm_14 => ?_)
    clear hm_14
    obtain ⟨kw1_15, kn1_16, M1_17, mw1_18, hR_19, rfl, rfl⟩ := hp_13
    show VV E 0 0 28 [(0, .ref r0), (1, .int (nI jw))] [] [(r0, .inr (5, [.int (nI n), .ref k1, .ref k2, .ref k3, .ref k4, .int (nI m), .ref k6, .ref k7, .ref k8, .int (nI 0), .ref k10, .int (nI 0), .ref k12, .ref k13, .ref k14, .ref k15, .ref k16, .int (nI ls), .int (nI ap), .int (bz bd), .int (nI sq), .ref k21, .ref k22, .ref k23, .ref k24, .ref k25, .int (bz pd), .int (nI pl), .int (bz tk), kv, .ref k30, .ref k31, .int (nI tz), .ref k33, .int (nI rs), .int sd])), (k1, .inl (cI, 7, .inl (nIf ki))), (k2, .inl (cI, 7, .inl (nIf op))), (k3, .inl (cI, 7, .inl (nIf (shF sh)))), (k4, .inl (cI, 7, .inl (nIf fa))), (k6, .inl (cI, 6, .inl (nIf K))), (k7, .inl (cI, 6, .inl (nIf G))), (k8, .inl (cI, 6, .inl (nIf T))), (k12, .inl (cI, 7, .inl (nIf kw1_15))), (k13, .inl (cI, 175, .inl (nIf kn1_16))), (k14, .inl (cI, 144, .inl (mIf M1_17))), (k15, .inl (cI, 7, .inl (nIf mw1_18))), (k10, .inl (cI, 7, .inl (nIf R)))]
    have hR9 := hR_19
    refine v_ic (v := (nI 0)) 29 zC dX5_silent_28 (by decide +kernel) ?_
    refine v_is_n (lv2 := [(2, .int (nI 0)), (0, .ref r0), (1, .int (nI jw))]) 30 zC dX5_silent_29 (by rw [hnE]; decide) rfl ?_
    refine v_ic (v := (nI 0)) 31 zC dX5_silent_30 (by decide +kernel) ?_
    refine v_is_n (lv2 := [(3, .int (nI 0)), (2, .int (nI 0)), (0, .ref r0), (1, .int (nI jw))]) 32 zC dX5_silent_31 (by rw [hnE]; decide) rfl ?_
    refine v_ic (v := (nI 0)) 33 zC dX5_silent_32 (by decide +kernel) ?_
    refine v_is (lv2 := [(4, .int (nI 0)), (3, .int (nI 0)), (2, .int (nI 0)), (0, .ref r0), (1, .int (nI jw))]) 35 zC dX5_silent_33 (by rw [hnE]; decide) rfl ?_
    refine v_bp (v := (-9)) 37 zC dX5_silent_35 (by decide +kernel) ?_
    refine v_is (lv2 := [(5, .int (-9)), (4, .int (nI 0)), (3, .int (nI 0)), (2, .int (nI 0)), (0, .ref r0), (1, .int (nI jw))]) 39 zC dX5_silent_37 (by rw [hnE]; decide) rfl ?_
    refine v_ic (v := (nI 0)) 40 zC dX5_silent_39 (by decide +kernel) ?_
    refine v_is (lv2 := [(6, .int (nI 0)), (5, .int (-9)), (4, .int (nI 0)), (3, .int (nI 0)), (2, .int (nI 0)), (0, .ref r0), (1, .int (nI jw))]) 42 zC dX5_silent_40 (by rw [hnE]; decide) rfl ?_
    have lp42 : ∀ (mz : Nat) (hr : Nat) (rn : Nat) (lg : Nat) (fr : Option Nat) (h : Nat), ((hr, rn, lg, fr) = it (silS (n, m, sh, 0, ki, op, fa, K, G, T)) (0, 0, 0, none) h) → (h ≤ 24) → (hr ≤ h) → (rn ≤ h) → (lg ≤ h) → 24 - h = mz → VV E 0 0 42 [(6, .int (nI h)), (5, .int (mI fr)), (4, .int (nI lg)), (3, .int (nI rn)), (2, .int (nI hr)), (0, .ref r0), (1, .int (nI jw))] [] [(r0, .inr (5, [.int (nI n), .ref k1, .ref k2, .ref k3, .ref k4, .int (nI m), .ref k6, .ref k7, .ref k8, .int (nI 0), .ref k10, .int (nI 0), .ref k12, .ref k13, .ref k14, .ref k15, .ref k16, .int (nI ls), .int (nI ap), .int (bz bd), .int (nI sq), .ref k21, .ref k22, .ref k23, .ref k24, .ref k25, .int (bz pd), .int (nI pl), .int (bz tk), kv, .ref k30, .ref k31, .int (nI tz), .ref k33, .int (nI rs), .int sd])), (k1, .inl (cI, 7, .inl (nIf ki))), (k2, .inl (cI, 7, .inl (nIf op))), (k3, .inl (cI, 7, .inl (nIf (shF sh)))), (k4, .inl (cI, 7, .inl (nIf fa))), (k6, .inl (cI, 6, .inl (nIf K))), (k7, .inl (cI, 6, .inl (nIf G))), (k8, .inl (cI, 6, .inl (nIf T))), (k12, .inl (cI, 7, .inl (nIf kw1_15))), (k13, .inl (cI, 175, .inl (nIf kn1_16))), (k14, .inl (cI, 144, .inl (mIf M1_17))), (k15, .inl (cI, 7, .inl (nIf mw1_18))), (k10, .inl (cI, 7, .inl (nIf R)))] := by
      intro mz
      induction mz using Nat.strongRecOn with
      | _ mz ih42 =>
      intro hr rn lg fr h hs hh h1 h2 h3 hm42
      refine v_il 44 zC dX5_silent_42 0 rfl ?_
      refine v_bp (v := (nI 24)) 46 zC dX5_silent_44 (by decide +kernel) ?_
      refine v_icmpn_ge 131 49 zC dX5_silent_46 (fun h_20 => ?_) (fun h_20 => ?_)
      ·
        refine v_il_n 132 zC dX5_silent_131 6 rfl ?_
        refine v_ifn_ne 139 135 zC dX5_silent_132 (fun h_21 => ?_) (fun h_21 => ?_)
        ·
          refine v_il_n 140 zC dX5_silent_139 6 rfl ?_
          refine v_ic (v := (nI 1)) 141 zC dX5_silent_140 (by decide +kernel) ?_
          refine v_icmpn_ne 149 144 zC dX5_silent_141 (fun h_22 => ?_) (fun h_22 => ?_)
          ·
            refine v_il 151 zC dX5_silent_149 1 rfl ?_
            refine v_iret zC zT dX5_silent_151  ?_
            first | (have g9 := hn_w; exact ⟨kw, kn, M, mw, 2, _, by unfold q_silent; rw [hn_w], hkw, hkn, hM, rfl, rfl⟩) | exact ⟨_, _, _, _, 0, _, by unfold q_silent; rw [hi_w]; dsimp only; rw [show (24 : Nat) = h by omega, ← hs]; first | rw [if_pos (by assumption)] | (rw [if_neg (by assumption)]; first | rw [if_pos (by assumption)] | rw [if_neg (by assumption)]), hR9.2.2.2.1, hR9.2.2.2.2.1, hR9.2.2.2.2.2, rfl, rfl⟩
          ·
            refine v_il 146 zC dX5_silent_144 2 rfl ?_
            refine v_goto 151 zC dX5_silent_146 ?_
            refine v_iret zC zT dX5_silent_151  ?_
            first | (have g9 := hn_w; exact ⟨kw, kn, M, mw, 2, _, by unfold q_silent; rw [hn_w], hkw, hkn, hM, rfl, rfl⟩) | exact ⟨_, _, _, _, 0, _, by unfold q_silent; rw [hi_w]; dsimp only; rw [show (24 : Nat) = h by omega, ← hs]; first | rw [if_pos (by assumption)] | (rw [if_neg (by assumption)]; first | rw [if_pos (by assumption)] | rw [if_neg (by assumption)]), hR9.2.2.2.1, hR9.2.2.2.2.1, hR9.2.2.2.2.2, rfl, rfl⟩
        ·
          refine v_il_n 136 zC dX5_silent_135 4 rfl ?_
          refine v_goto 151 zC dX5_silent_136 ?_
          refine v_iret zC zT dX5_silent_151  ?_
          first | (have g9 := hn_w; exact ⟨kw, kn, M, mw, 2, _, by unfold q_silent; rw [hn_w], hkw, hkn, hM, rfl, rfl⟩) | exact ⟨_, _, _, _, 0, _, by unfold q_silent; rw [hi_w]; dsimp only; rw [show (24 : Nat) = h by omega, ← hs]; first | rw [if_pos (by assumption)] | (rw [if_neg (by assumption)]; first | rw [if_pos (by assumption)] | rw [if_neg (by assumption)]), hR9.2.2.2.1, hR9.2.2.2.2.1, hR9.2.2.2.2.2, rfl, rfl⟩
      ·
        refine v_al_n 50 zC dX5_silent_49 5 rfl ?_
        refine v_ic (v := (-1)) 51 zC dX5_silent_50 (by decide +kernel) ?_
        refine v_il 53 zC dX5_silent_51 0 rfl ?_
        refine v_cV (As := [.int (-1), .int (nI h)]) (st := []) 56 0 [0, 10] zC dX5_silent_53 hA (c_X5_speakers__A (ev_l E) (ev_D E) cI (r0 := r0) (k1 := k1) (k2 := k2) (k3 := k3) (k4 := k4) (k6 := k6) (k7 := k7) (k8 := k8) (k10 := k10) (k12 := k12) (k13 := k13) (k14 := k14) (k15 := k15) (k16 := k16) (k21 := k21) (k22 := k22) (k23 := k23) (k24 := k24) (k25 := k25) (k30 := k30) (k31 := k31) (k33 := k33) (n := n) (m := m) (aw := 0) (ls := ls) (ap := ap) (sq := sq) (pl := pl) (tz := tz) (rs := rs) (bd := bd) (pd := pd) (tk := tk) (kv := kv) (sd := sd) (ki := ki) (op := op) (fa := fa) (K := K) (G := G) (T := T) (sh := sh) (kw := kw1_15) (kn := kn1_16) (M := M1_17) (h := h) (hn := (by first | omega | assumption | rfl | (simp only []; omega) | decide)) (hm := (by first | omega | assumption | rfl | (simp only []; omega) | decide)) (hR := hR9) (hh := (by first | omega | assumption | rfl | (simp only []; omega) | decide))) cf_X5_speakers lk_X5_233 rfl rfl rfl rfl rfl (by decide +kernel) (Nat.le_of_ble_eq_true rfl) (fun rv_23 wv_24 hp_25 hm_26 => ?_)
        clear hm_26
        obtain ⟨rfl, rfl⟩ := hp_25
        show VV E 0 0 56 [(6, .int (nI h)), (5, .int (mI fr)), (4, .int (nI lg)), (3, .int (nI rn)), (2, .int (nI hr)), (0, .ref r0), (1, .int (nI jw))] [.int (nI (SPK (n, m, sh, 0, ki, op, fa, K, G, T) h))] [(r0, .inr (5, [.int (nI n), .ref k1, .ref k2, .ref k3, .ref k4, .int (nI m), .ref k6, .ref k7, .ref k8, .int (nI 0), .ref k10, .int (nI 0), .ref k12, .ref k13, .ref k14, .ref k15, .ref k16, .int (nI ls), .int (nI ap), .int (bz bd), .int (nI sq), .ref k21, .ref k22, .ref k23, .ref k24, .ref k25, .int (bz pd), .int (nI pl), .int (bz tk), kv, .ref k30, .ref k31, .int (nI tz), .ref k33, .int (nI rs), .int sd])), (k1, .inl (cI, 7, .inl (nIf ki))), (k2, .inl (cI, 7, .inl (nIf op))), (k3, .inl (cI, 7, .inl (nIf (shF sh)))), (k4, .inl (cI, 7, .inl (nIf fa))), (k6, .inl (cI, 6, .inl (nIf K))), (k7, .inl (cI, 6, .inl (nIf G))), (k8, .inl (cI, 6, .inl (nIf T))), (k12, .inl (cI, 7, .inl (nIf kw1_15))), (k13, .inl (cI, 175, .inl (nIf kn1_16))), (k14, .inl (cI, 144, .inl (mIf M1_17))), (k15, .inl (cI, 7, .inl (nIf mw1_18))), (k10, .inl (cI, 7, .inl (nIf R)))]
        have hl9 : SPK (n, m, sh, 0, ki, op, fa, K, G, T) h < 2 ^ 6 := (Nat.lt_of_lt_of_le (m := 2 ^ m) (mkn_lt _ _) (Nat.pow_le_pow_right (by decide) (Nat.le_trans hm (by decide))))
        refine v_ifn_ne 63 59 zC dX5_silent_56 (fun h_27 => ?_) (fun h_27 => ?_)
        ·
          have hz9 := h_27
          refine v_ic (v := (nI 0)) 64 zC dX5_silent_63 (by decide +kernel) ?_
          refine v_is (lv2 := [(7, .int (nI 0)), (6, .int (nI h)), (5, .int (mI fr)), (4, .int (nI lg)), (3, .int (nI rn)), (2, .int (nI hr)), (0, .ref r0), (1, .int (nI jw))]) 66 zC dX5_silent_64 (by rw [hnE]; decide) rfl ?_
          refine v_il_n 67 zC dX5_silent_66 5 rfl ?_
          refine v_il 69 zC dX5_silent_67 0 rfl ?_
          refine v_if_eq 76 72 zC dX5_silent_69 (fun _ => ?_) (fun z => absurd (by decide +kernel) z)
          refine v_ic (v := (nI 0)) 77 zC dX5_silent_76 (by decide +kernel) ?_
          refine v_iadd (v := (nI hr)) 78 zC dX5_silent_77 (nI_add _ 0) ?_
          refine v_is_n (lv2 := [(2, .int (nI hr)), (7, .int (nI 0)), (6, .int (nI h)), (5, .int (mI fr)), (4, .int (nI lg)), (3, .int (nI rn)), (0, .ref r0), (1, .int (nI jw))]) 79 zC dX5_silent_78 (by rw [hnE]; decide) rfl ?_
          refine v_il 81 zC dX5_silent_79 1 rfl ?_
          refine v_if_eq 90 84 zC dX5_silent_81 (fun _ => ?_) (fun z => absurd (by decide +kernel) z)
          refine v_ic (v := (nI 0)) 91 zC dX5_silent_90 (by decide +kernel) ?_
          refine v_is_n (lv2 := [(3, .int (nI 0)), (2, .int (nI hr)), (7, .int (nI 0)), (6, .int (nI h)), (5, .int (mI fr)), (4, .int (nI lg)), (0, .ref r0), (1, .int (nI jw))]) 92 zC dX5_silent_91 (by rw [hnE]; decide) rfl ?_
          refine v_il_n 93 zC dX5_silent_92 0 rfl ?_
          refine v_il 95 zC dX5_silent_93 5 rfl ?_
          refine v_icmpn_le 107 98 zC dX5_silent_95 (fun h_30 => ?_) (fun h_30 => False.elim (by omega))
          refine v_il 109 zC dX5_silent_107 4 rfl ?_
          refine v_is (lv2 := [(5, .int (mI fr)), (3, .int (nI 0)), (2, .int (nI hr)), (7, .int (nI 0)), (6, .int (nI h)), (4, .int (nI lg)), (0, .ref r0), (1, .int (nI jw))]) 111 zC dX5_silent_109 (by rw [hnE]; decide) rfl ?_
          refine v_il_n 112 zC dX5_silent_111 1 rfl ?_
          refine v_il 114 zC dX5_silent_112 5 rfl ?_
          refine v_icmpn_le 121 117 zC dX5_silent_114 (fun h_31 => ?_) (fun h_31 => False.elim (by omega))
          refine v_il 123 zC dX5_silent_121 5 rfl ?_
          refine v_is (lv2 := [(4, .int (nI lg)), (5, .int (mI fr)), (3, .int (nI 0)), (2, .int (nI hr)), (7, .int (nI 0)), (6, .int (nI h)), (0, .ref r0), (1, .int (nI jw))]) 125 zC dX5_silent_123 (by rw [hnE]; decide) rfl ?_
          refine v_inc (v := (nI (h + 1))) (lv2 := [(6, .int (nI (h + 1))), (4, .int (nI lg)), (5, .int (mI fr)), (3, .int (nI 0)), (2, .int (nI hr)), (7, .int (nI 0)), (0, .ref r0), (1, .int (nI jw))]) 128 zC dX5_silent_125 (j := 5) rfl (nI_add _ 1) (by rw [hnE]; decide) rfl ?_
          refine v_goto 42 zC dX5_silent_128 ?_
          refine v_lvs (lv2 := [(6, .int (nI (h + 1))), (5, .int (mI fr)), (4, .int (nI lg)), (3, .int (nI 0)), (2, .int (nI hr)), (0, .ref r0), (1, .int (nI jw))]) [0, 2, 1, 3, 4, 6, 7] rfl ?_
          exact ih42 _ (by omega) hr 0 lg fr (h + 1) (it_s hs (by first | exact sil_s1 hz9 | exact sil_s2 hz9 hu9 | exact sil_s3 hz9 hv9)) (by first | omega | assumption | rfl | (simp only []; omega) | decide) (by first | omega | assumption | rfl | (simp only []; omega) | decide) (by first | omega | assumption | rfl | (simp only []; omega) | decide) (by first | omega | assumption | rfl | (simp only []; omega) | decide) rfl
        ·
          have hz9 : ¬ _ ≠ 0 := fun q => q h_27
          refine v_ic (v := (nI 1)) 60 zC dX5_silent_59 (by decide +kernel) ?_
          refine v_goto 64 zC dX5_silent_60 ?_
          refine v_is (lv2 := [(7, .int (nI 1)), (6, .int (nI h)), (5, .int (mI fr)), (4, .int (nI lg)), (3, .int (nI rn)), (2, .int (nI hr)), (0, .ref r0), (1, .int (nI jw))]) 66 zC dX5_silent_64 (by rw [hnE]; decide) rfl ?_
          refine v_il_n 67 zC dX5_silent_66 5 rfl ?_
          refine v_il 69 zC dX5_silent_67 0 rfl ?_
          refine v_if_eq 76 72 zC dX5_silent_69 (fun z => absurd z (by decide +kernel)) (fun _ => ?_)
          refine v_ic (v := (nI 1)) 73 zC dX5_silent_72 (by decide +kernel) ?_
          refine v_goto 77 zC dX5_silent_73 ?_
          refine v_iadd (v := (nI (hr + 1))) 78 zC dX5_silent_77 (nI_add _ _) ?_
          refine v_is_n (lv2 := [(2, .int (nI (hr + 1))), (7, .int (nI 1)), (6, .int (nI h)), (5, .int (mI fr)), (4, .int (nI lg)), (3, .int (nI rn)), (0, .ref r0), (1, .int (nI jw))]) 79 zC dX5_silent_78 (by rw [hnE]; decide) rfl ?_
          refine v_il 81 zC dX5_silent_79 1 rfl ?_
          refine v_if_eq 90 84 zC dX5_silent_81 (fun z => absurd z (by decide +kernel)) (fun _ => ?_)
          refine v_il_n 85 zC dX5_silent_84 5 rfl ?_
          refine v_ic (v := (nI 1)) 86 zC dX5_silent_85 (by decide +kernel) ?_
          refine v_iadd (v := (nI (rn + 1))) 87 zC dX5_silent_86 (nI_add _ _) ?_
          refine v_goto 91 zC dX5_silent_87 ?_
          refine v_is_n (lv2 := [(3, .int (nI (rn + 1))), (2, .int (nI (hr + 1))), (7, .int (nI 1)), (6, .int (nI h)), (5, .int (mI fr)), (4, .int (nI lg)), (0, .ref r0), (1, .int (nI jw))]) 92 zC dX5_silent_91 (by rw [hnE]; decide) rfl ?_
          refine v_il_n 93 zC dX5_silent_92 0 rfl ?_
          refine v_il 95 zC dX5_silent_93 5 rfl ?_
          refine v_icmpn_le 107 98 zC dX5_silent_95 (fun h_34 => ?_) (fun h_34 => ?_)
          ·
            have hv9 := h_34
            refine v_il 109 zC dX5_silent_107 4 rfl ?_
            refine v_is (lv2 := [(5, .int (mI fr)), (3, .int (nI (rn + 1))), (2, .int (nI (hr + 1))), (7, .int (nI 1)), (6, .int (nI h)), (4, .int (nI lg)), (0, .ref r0), (1, .int (nI jw))]) 111 zC dX5_silent_109 (by rw [hnE]; decide) rfl ?_
            refine v_il_n 112 zC dX5_silent_111 1 rfl ?_
            refine v_il 114 zC dX5_silent_112 5 rfl ?_
            refine v_icmpn_le 121 117 zC dX5_silent_114 (fun h_35 => ?_) (fun h_35 => False.elim (by first | omega | exact bcon h_35 (by assumption) | exact bcon (by assumption) h_35))
            refine v_il 123 zC dX5_silent_121 5 rfl ?_
            refine v_is (lv2 := [(4, .int (nI lg)), (5, .int (mI fr)), (3, .int (nI (rn + 1))), (2, .int (nI (hr + 1))), (7, .int (nI 1)), (6, .int (nI h)), (0, .ref r0), (1, .int (nI jw))]) 125 zC dX5_silent_123 (by rw [hnE]; decide) rfl ?_
            refine v_inc (v := (nI (h + 1))) (lv2 := [(6, .int (nI (h + 1))), (4, .int (nI lg)), (5, .int (mI fr)), (3, .int (nI (rn + 1))), (2, .int (nI (hr + 1))), (7, .int (nI 1)), (0, .ref r0), (1, .int (nI jw))]) 128 zC dX5_silent_125 (j := 5) rfl (nI_add _ 1) (by rw [hnE]; decide) rfl ?_
            refine v_goto 42 zC dX5_silent_128 ?_
            refine v_lvs (lv2 := [(6, .int (nI (h + 1))), (5, .int (mI fr)), (4, .int (nI lg)), (3, .int (nI (rn + 1))), (2, .int (nI (hr + 1))), (0, .ref r0), (1, .int (nI jw))]) [0, 2, 1, 3, 4, 6, 7] rfl ?_
            exact ih42 _ (by omega) (hr + 1) (rn + 1) lg fr (h + 1) (it_s hs (by first | exact sil_s1 hz9 | exact sil_s2 hz9 hu9 | exact sil_s3 hz9 hv9)) (by first | omega | assumption | rfl | (simp only []; omega) | decide) (by first | omega | assumption | rfl | (simp only []; omega) | decide) (by first | omega | assumption | rfl | (simp only []; omega) | decide) (by first | omega | assumption | rfl | (simp only []; omega) | decide) rfl
          ·
            have hu9 := h_34
            refine v_il 100 zC dX5_silent_98 3 rfl ?_
            refine v_il_n 101 zC dX5_silent_100 0 rfl ?_
            refine v_isub (v := (nI h - nI (rn + 1))) 102 zC dX5_silent_101 rfl ?_
            refine v_ic (v := (nI 1)) 103 zC dX5_silent_102 (by decide +kernel) ?_
            refine v_iadd (v := (nI (h + 1 - (rn + 1)))) 104 zC dX5_silent_103 (sub_add1 (by omega)) ?_
            refine v_goto 109 zC dX5_silent_104 ?_
            refine v_is (lv2 := [(5, .int (nI (h + 1 - (rn + 1)))), (3, .int (nI (rn + 1))), (2, .int (nI (hr + 1))), (7, .int (nI 1)), (6, .int (nI h)), (4, .int (nI lg)), (0, .ref r0), (1, .int (nI jw))]) 111 zC dX5_silent_109 (by rw [hnE]; decide) rfl ?_
            refine v_il_n 112 zC dX5_silent_111 1 rfl ?_
            refine v_il 114 zC dX5_silent_112 5 rfl ?_
            refine v_icmpn_le 121 117 zC dX5_silent_114 (fun h_36 => False.elim (by first | omega | exact bcon h_36 (by assumption) | exact bcon (by assumption) h_36)) (fun h_36 => ?_)
            refine v_il_n 118 zC dX5_silent_117 1 rfl ?_
            refine v_goto 123 zC dX5_silent_118 ?_
            refine v_is (lv2 := [(4, .int (nI (rn + 1))), (5, .int (nI (h + 1 - (rn + 1)))), (3, .int (nI (rn + 1))), (2, .int (nI (hr + 1))), (7, .int (nI 1)), (6, .int (nI h)), (0, .ref r0), (1, .int (nI jw))]) 125 zC dX5_silent_123 (by rw [hnE]; decide) rfl ?_
            refine v_inc (v := (nI (h + 1))) (lv2 := [(6, .int (nI (h + 1))), (4, .int (nI (rn + 1))), (5, .int (nI (h + 1 - (rn + 1)))), (3, .int (nI (rn + 1))), (2, .int (nI (hr + 1))), (7, .int (nI 1)), (0, .ref r0), (1, .int (nI jw))]) 128 zC dX5_silent_125 (j := 5) rfl (nI_add _ 1) (by rw [hnE]; decide) rfl ?_
            refine v_goto 42 zC dX5_silent_128 ?_
            refine v_lvs (lv2 := [(6, .int (nI (h + 1))), (5, .int (mI (some (h + 1 - (rn + 1))))), (4, .int (nI (rn + 1))), (3, .int (nI (rn + 1))), (2, .int (nI (hr + 1))), (0, .ref r0), (1, .int (nI jw))]) [0, 2, 1, 3, 4, 6, 7] rfl ?_
            exact ih42 _ (by omega) (hr + 1) (rn + 1) (rn + 1) (some (h + 1 - (rn + 1))) (h + 1) (it_s hs (by first | exact sil_s1 hz9 | exact sil_s2 hz9 hu9 | exact sil_s3 hz9 hv9)) (by first | omega | assumption | rfl | (simp only []; omega) | decide) (by first | omega | assumption | rfl | (simp only []; omega) | decide) (by first | omega | assumption | rfl | (simp only []; omega) | decide) (by first | omega | assumption | rfl | (simp only []; omega) | decide) rfl
    refine v_lvs (lv2 := [(6, .int (nI 0)), (5, .int (mI none)), (4, .int (nI 0)), (3, .int (nI 0)), (2, .int (nI 0)), (0, .ref r0), (1, .int (nI jw))]) [0, 1, 2, 3, 4, 5, 6] rfl ?_
    exact lp42 _ 0 0 0 none 0 rfl (by first | omega | assumption | rfl | (simp only []; omega) | decide) (by first | omega | assumption | rfl | (simp only []; omega) | decide) (by first | omega | assumption | rfl | (simp only []; omega) | decide) (by first | omega | assumption | rfl | (simp only []; omega) | decide) rfl
set_option maxRecDepth 100000 in
set_option maxHeartbeats 4000000 in
theorem c_X5_list (l : Launch) (D : va_G) (cI : ClassId) (r0 k1 k2 k3 k4 k6 k7 k8 k10 k12 k13 k14 k15 k16 k21 k22 k23 k24 k25 k30 k31 k33 : Nat) (n m ls ap sq pl tz rs : Nat) (bd pd tk : Bool) (kv : Value) (sd : Int32) (ki op fa K G T : Nat → Nat) (sh : Nat) (kw kn : Nat → Nat) (M : Nat → Option Nat) (mw : Nat → Nat) (R : Nat → Nat) (u w : Int32) (hw : FW n m sh ki op fa K G T) (hkw : ∀ z, kw z < 1024) (hkn : ∀ z, kn z < 1024) (hM : ∀ z v, M z = some v → v < 7) : CT l yX5_list cX5_list 7 (some .int) { frames := 6, cells := 0, slots := 0, locals := 138 } D cI [.ref r0, .int u, .int w] [(r0, .inr (5, [.int (nI n), .ref k1, .ref k2, .ref k3, .ref k4, .int (nI m), .ref k6, .ref k7, .ref k8, .int (nI 0), .ref k10, .int (nI 0), .ref k12, .ref k13, .ref k14, .ref k15, .ref k16, .int (nI ls), .int (nI ap), .int (bz bd), .int (nI sq), .ref k21, .ref k22, .ref k23, .ref k24, .ref k25, .int (bz pd), .int (nI pl), .int (bz tk), kv, .ref k30, .ref k31, .int (nI tz), .ref k33, .int (nI rs), .int sd])), (k1, .inl (cI, 7, .inl (nIf ki))), (k2, .inl (cI, 7, .inl (nIf op))), (k3, .inl (cI, 7, .inl (nIf (shF sh)))), (k4, .inl (cI, 7, .inl (nIf fa))), (k6, .inl (cI, 6, .inl (nIf K))), (k7, .inl (cI, 6, .inl (nIf G))), (k8, .inl (cI, 6, .inl (nIf T))), (k12, .inl (cI, 7, .inl (nIf kw))), (k13, .inl (cI, 175, .inl (nIf kn))), (k14, .inl (cI, 144, .inl (mIf M))), (k15, .inl (cI, 7, .inl (nIf mw))), (k10, .inl (cI, 7, .inl (nIf R)))] (fun zr zw => (∃ kw1 : Nat → Nat, ∃ kn1 : Nat → Nat, ∃ M1 : Nat → Option Nat, ∃ mw1 : Nat → Nat, ∃ rc : Nat, ∃ rv : Int32, (q_list (n, m, sh, 0, ki, op, fa, K, G, T) u w = (rc, rv)) ∧ (∀ z, kw1 z < 1024) ∧ (∀ z, kn1 z < 1024) ∧ (∀ z v, M1 z = some v → v < 7) ∧ zr = some (.int rv) ∧ zw = [(r0, .inr (5, [.int (nI n), .ref k1, .ref k2, .ref k3, .ref k4, .int (nI m), .ref k6, .ref k7, .ref k8, .int (nI 0), .ref k10, .int (nI 0), .ref k12, .ref k13, .ref k14, .ref k15, .ref k16, .int (nI ls), .int (nI ap), .int (bz bd), .int (nI sq), .ref k21, .ref k22, .ref k23, .ref k24, .ref k25, .int (bz pd), .int (nI pl), .int (bz tk), kv, .ref k30, .ref k31, .int (nI tz), .ref k33, .int (nI rs), .int sd])), (k1, .inl (cI, 7, .inl (nIf ki))), (k2, .inl (cI, 7, .inl (nIf op))), (k3, .inl (cI, 7, .inl (nIf (shF sh)))), (k4, .inl (cI, 7, .inl (nIf fa))), (k6, .inl (cI, 6, .inl (nIf K))), (k7, .inl (cI, 6, .inl (nIf G))), (k8, .inl (cI, 6, .inl (nIf T))), (k12, .inl (cI, 7, .inl (nIf kw1))), (k13, .inl (cI, 175, .inl (nIf kn1))), (k14, .inl (cI, 144, .inl (mIf M1))), (k15, .inl (cI, 7, .inl (nIf mw1))), (k10, .inl (cI, 7, .inl (nIf (rf R rc))))])) := by
  refine CT_of RX5 rfl (by decide +kernel) (Nat.le_of_ble_eq_true rfl) (fun E hnE zC zT => ?_)
  have hA : ∀ q, (ev_s E).heap.size ≤ q → ev_A E q := fun q h => by rw [zT.2]; exact Or.inr h
  obtain ⟨hn, hm, hsh, hki, hop, hfa, hK, hG, hT, vki, vop, vfa, vK, vG, vT⟩ := id hw
  show VV E 0 0 0 [(0, .ref r0), (1, .int u), (2, .int w)] [] [(r0, .inr (5, [.int (nI n), .ref k1, .ref k2, .ref k3, .ref k4, .int (nI m), .ref k6, .ref k7, .ref k8, .int (nI 0), .ref k10, .int (nI 0), .ref k12, .ref k13, .ref k14, .ref k15, .ref k16, .int (nI ls), .int (nI ap), .int (bz bd), .int (nI sq), .ref k21, .ref k22, .ref k23, .ref k24, .ref k25, .int (bz pd), .int (nI pl), .int (bz tk), kv, .ref k30, .ref k31, .int (nI tz), .ref k33, .int (nI rs), .int sd])), (k1, .inl (cI, 7, .inl (nIf ki))), (k2, .inl (cI, 7, .inl (nIf op))), (k3, .inl (cI, 7, .inl (nIf (shF sh)))), (k4, .inl (cI, 7, .inl (nIf fa))), (k6, .inl (cI, 6, .inl (nIf K))), (k7, .inl (cI, 6, .inl (nIf G))), (k8, .inl (cI, 6, .inl (nIf T))), (k12, .inl (cI, 7, .inl (nIf kw))), (k13, .inl (cI, 175, .inl (nIf kn))), (k14, .inl (cI, 144, .inl (mIf M))), (k15, .inl (cI, 7, .inl (nIf mw))), (k10, .inl (cI, 7, .inl (nIf R)))]
  refine v_al_n 1 zC dX5_list_0 0 rfl ?_
  refine v_ic (v := (nI 0)) 2 zC dX5_list_1 (by decide +kernel) ?_
  refine v_pf (ws2 := [(r0, .inr (5, [.int (nI n), .ref k1, .ref k2, .ref k3, .ref k4, .int (nI m), .ref k6, .ref k7, .ref k8, .int (nI 0), .ref k10, .int (nI 0), .ref k12, .ref k13, .ref k14, .ref k15, .ref k16, .int (nI ls), .int (nI ap), .int (bz bd), .int (nI sq), .ref k21, .ref k22, .ref k23, .ref k24, .ref k25, .int (bz pd), .int (nI pl), .int (bz tk), kv, .ref k30, .ref k31, .int (nI tz), .ref k33, .int (nI rs), .int sd])), (k1, .inl (cI, 7, .inl (nIf ki))), (k2, .inl (cI, 7, .inl (nIf op))), (k3, .inl (cI, 7, .inl (nIf (shF sh)))), (k4, .inl (cI, 7, .inl (nIf fa))), (k6, .inl (cI, 6, .inl (nIf K))), (k7, .inl (cI, 6, .inl (nIf G))), (k8, .inl (cI, 6, .inl (nIf T))), (k12, .inl (cI, 7, .inl (nIf kw))), (k13, .inl (cI, 175, .inl (nIf kn))), (k14, .inl (cI, 144, .inl (mIf M))), (k15, .inl (cI, 7, .inl (nIf mw))), (k10, .inl (cI, 7, .inl (nIf R)))]) 5 0 zC dX5_list_2 pf_X5_73 rfl (Nat.le_of_ble_eq_true rfl) rfl rfl rfl ?_
  refine v_al_n 6 zC dX5_list_5 0 rfl ?_
  refine v_il_n 7 zC dX5_list_6 1 rfl ?_
  refine v_cV (As := [.int u]) (st := []) 10 0 [0] zC dX5_list_7 hA (c_X5_isOne (ev_l E) (ev_D E) cI (r0 := r0) (k1 := k1) (k2 := k2) (k3 := k3) (k4 := k4) (k6 := k6) (k7 := k7) (k8 := k8) (k10 := k10) (k12 := k12) (k13 := k13) (k14 := k14) (k15 := k15) (k16 := k16) (k21 := k21) (k22 := k22) (k23 := k23) (k24 := k24) (k25 := k25) (k30 := k30) (k31 := k31) (k33 := k33) (n := n) (m := m) (aw := 0) (ls := ls) (ap := ap) (sq := sq) (pl := pl) (tz := tz) (rs := rs) (bd := bd) (pd := pd) (tk := tk) (kv := kv) (sd := sd) (p := u) (hn := (by first | omega | assumption | rfl | (simp only []; omega) | decide))) cf_X5_isOne lk_X5_164 rfl rfl rfl rfl rfl (by decide +kernel) (Nat.le_of_ble_eq_true rfl) (fun rv_1 wv_2 hp_3 hm_4 => ?_)
  clear hm_4
  rcases hp_3 with ⟨hi_5, rfl, rfl⟩ | ⟨j_6, he_7, hi_8, hj_9, rfl, rfl⟩
  ·
    show VV E 0 0 10 [(0, .ref r0), (1, .int u), (2, .int w)] [.int (nI 0)] [(r0, .inr (5, [.int (nI n), .ref k1, .ref k2, .ref k3, .ref k4, .int (nI m), .ref k6, .ref k7, .ref k8, .int (nI 0), .ref k10, .int (nI 0), .ref k12, .ref k13, .ref k14, .ref k15, .ref k16, .int (nI ls), .int (nI ap), .int (bz bd), .int (nI sq), .ref k21, .ref k22, .ref k23, .ref k24, .ref k25, .int (bz pd), .int (nI pl), .int (bz tk), kv, .ref k30, .ref k31, .int (nI tz), .ref k33, .int (nI rs), .int sd])), (k1, .inl (cI, 7, .inl (nIf ki))), (k2, .inl (cI, 7, .inl (nIf op))), (k3, .inl (cI, 7, .inl (nIf (shF sh)))), (k4, .inl (cI, 7, .inl (nIf fa))), (k6, .inl (cI, 6, .inl (nIf K))), (k7, .inl (cI, 6, .inl (nIf G))), (k8, .inl (cI, 6, .inl (nIf T))), (k12, .inl (cI, 7, .inl (nIf kw))), (k13, .inl (cI, 175, .inl (nIf kn))), (k14, .inl (cI, 144, .inl (mIf M))), (k15, .inl (cI, 7, .inl (nIf mw))), (k10, .inl (cI, 7, .inl (nIf R)))]
    have hn_u := hi_5
    refine v_if_eq 22 13 zC dX5_list_10 (fun _ => ?_) (fun z => absurd (by decide +kernel) z)
    refine v_ic (v := (-1)) 23 zC dX5_list_22 (by decide +kernel) ?_
    refine v_is_n (lv2 := [(3, .int (-1)), (0, .ref r0), (1, .int u), (2, .int w)]) 24 zC dX5_list_23 (by rw [hnE]; decide) rfl ?_
    refine v_il_n 25 zC dX5_list_24 0 rfl ?_
    refine v_if_ge 34 28 zC dX5_list_25 (fun z => absurd z (by decide +kernel)) (fun _ => ?_)
    refine v_al_n 29 zC dX5_list_28 1 rfl ?_
    refine v_il_n 30 zC dX5_list_29 0 rfl ?_
    refine v_cV (As := [.int (-1)]) (st := []) 33 0 [0, 12] zC dX5_list_30 hA (c_X5_refuse (ev_l E) (ev_D E) cI (r0 := r0) (k1 := k1) (k2 := k2) (k3 := k3) (k4 := k4) (k6 := k6) (k7 := k7) (k8 := k8) (k10 := k10) (k12 := k12) (k13 := k13) (k14 := k14) (k15 := k15) (k16 := k16) (k21 := k21) (k22 := k22) (k23 := k23) (k24 := k24) (k25 := k25) (k30 := k30) (k31 := k31) (k33 := k33) (n := n) (m := m) (aw := 0) (ls := ls) (ap := ap) (sq := sq) (pl := pl) (tz := tz) (rs := rs) (bd := bd) (pd := pd) (tk := tk) (kv := kv) (sd := sd) (R := R) (v := (-1)) (j := 1) (hv := (by first | omega | assumption | rfl | (simp only []; omega) | decide)) (h1 := (by first | omega | assumption | rfl | (simp only []; omega) | decide)) (h6 := (by first | omega | assumption | rfl | (simp only []; omega) | decide))) cf_X5_refuse lk_X5_129 rfl rfl rfl rfl rfl (by decide +kernel) (Nat.le_of_ble_eq_true rfl) (fun rv_12 wv_13 hp_14 hm_15 => ?_)
    clear hm_15
    obtain ⟨rfl, rfl⟩ := hp_14
    show VV E 0 0 33 [(3, .int (-1)), (0, .ref r0), (1, .int u), (2, .int w)] [.int (-1)] [(r0, .inr (5, [.int (nI n), .ref k1, .ref k2, .ref k3, .ref k4, .int (nI m), .ref k6, .ref k7, .ref k8, .int (nI 0), .ref k10, .int (nI 0), .ref k12, .ref k13, .ref k14, .ref k15, .ref k16, .int (nI ls), .int (nI ap), .int (bz bd), .int (nI sq), .ref k21, .ref k22, .ref k23, .ref k24, .ref k25, .int (bz pd), .int (nI pl), .int (bz tk), kv, .ref k30, .ref k31, .int (nI tz), .ref k33, .int (nI rs), .int sd])), (k1, .inl (cI, 7, .inl (nIf ki))), (k2, .inl (cI, 7, .inl (nIf op))), (k3, .inl (cI, 7, .inl (nIf (shF sh)))), (k4, .inl (cI, 7, .inl (nIf fa))), (k6, .inl (cI, 6, .inl (nIf K))), (k7, .inl (cI, 6, .inl (nIf G))), (k8, .inl (cI, 6, .inl (nIf T))), (k12, .inl (cI, 7, .inl (nIf kw))), (k13, .inl (cI, 175, .inl (nIf kn))), (k14, .inl (cI, 144, .inl (mIf M))), (k15, .inl (cI, 7, .inl (nIf mw))), (k10, .inl (cI, 7, .inl (nIf (un R 1 (R 1 + 1)))))]
    refine v_iret zC zT dX5_list_33  ?_
    first | (have g9 := hn_u; exact ⟨kw, kn, M, mw, 1, _, by unfold q_list; rw [hn_u], hkw, hkn, hM, rfl, rfl⟩) | (have g9 := hn_w; exact ⟨kw, kn, M, mw, 2, _, by unfold q_list; rw [hi_u]; dsimp only; rw [hn_w], hkw, hkn, hM, rfl, rfl⟩) | exact ⟨_, _, _, _, 0, _, by unfold q_list; rw [hi_u]; dsimp only; rw [hi_w]; dsimp only; first | (rw [if_pos (by assumption)]; done) | (rw [if_pos (by assumption)]; rfl) | (rw [if_neg (by assumption), show (10 : Nat) = f by omega, ← hs]), hR9.2.2.2.1, hR9.2.2.2.2.1, hR9.2.2.2.2.2, rfl, rfl⟩
  ·
    show VV E 0 0 10 [(0, .ref r0), (1, .int u), (2, .int w)] [.int (nI 1)] [(r0, .inr (5, [.int (nI n), .ref k1, .ref k2, .ref k3, .ref k4, .int (nI m), .ref k6, .ref k7, .ref k8, .int (nI 0), .ref k10, .int (nI 0), .ref k12, .ref k13, .ref k14, .ref k15, .ref k16, .int (nI ls), .int (nI ap), .int (bz bd), .int (nI sq), .ref k21, .ref k22, .ref k23, .ref k24, .ref k25, .int (bz pd), .int (nI pl), .int (bz tk), kv, .ref k30, .ref k31, .int (nI tz), .ref k33, .int (nI rs), .int sd])), (k1, .inl (cI, 7, .inl (nIf ki))), (k2, .inl (cI, 7, .inl (nIf op))), (k3, .inl (cI, 7, .inl (nIf (shF sh)))), (k4, .inl (cI, 7, .inl (nIf fa))), (k6, .inl (cI, 6, .inl (nIf K))), (k7, .inl (cI, 6, .inl (nIf G))), (k8, .inl (cI, 6, .inl (nIf T))), (k12, .inl (cI, 7, .inl (nIf kw))), (k13, .inl (cI, 175, .inl (nIf kn))), (k14, .inl (cI, 144, .inl (mIf M))), (k15, .inl (cI, 7, .inl (nIf mw))), (k10, .inl (cI, 7, .inl (nIf R)))]
    subst he_7
    have hi_u := hi_8
    obtain ⟨ju, hx_ju⟩ : ∃ z, z = j_6 := ⟨_, rfl⟩
    subst hx_ju
    refine v_if_eq 22 13 zC dX5_list_10 (fun z => absurd z (by decide +kernel)) (fun _ => ?_)
    refine v_ic (v := (nI 0)) 14 zC dX5_list_13 (by decide +kernel) ?_
    refine v_il_n 15 zC dX5_list_14 2 rfl ?_
    refine v_ic (v := (nI 1)) 16 zC dX5_list_15 (by decide +kernel) ?_
    refine v_cS (As := [.int (nI 0), .int w, .int (nI 1)]) (st := []) 19 [] zC dX5_list_16 hA (c_X5_wrongBit__Z (ev_l E) (ev_D E) cI (v := w) (k := 1) (hk := (by first | omega | assumption | rfl | (simp only []; omega) | decide))) cf_X5_wrongBit lk_X5_248 rfl rfl rfl (by decide +kernel) (Nat.le_of_ble_eq_true rfl) (fun rv_17 wv_18 hp_19 hm_20 => ?_)
    clear hm_20
    rcases hp_19 with ⟨hi_21, rfl, rfl⟩ | ⟨j_22, he_23, hi_24, hj_25, rfl, rfl⟩
    ·
      show VV E 0 0 19 [(0, .ref r0), (1, .int (nI ju)), (2, .int w)] [.int (-2)] [(r0, .inr (5, [.int (nI n), .ref k1, .ref k2, .ref k3, .ref k4, .int (nI m), .ref k6, .ref k7, .ref k8, .int (nI 0), .ref k10, .int (nI 0), .ref k12, .ref k13, .ref k14, .ref k15, .ref k16, .int (nI ls), .int (nI ap), .int (bz bd), .int (nI sq), .ref k21, .ref k22, .ref k23, .ref k24, .ref k25, .int (bz pd), .int (nI pl), .int (bz tk), kv, .ref k30, .ref k31, .int (nI tz), .ref k33, .int (nI rs), .int sd])), (k1, .inl (cI, 7, .inl (nIf ki))), (k2, .inl (cI, 7, .inl (nIf op))), (k3, .inl (cI, 7, .inl (nIf (shF sh)))), (k4, .inl (cI, 7, .inl (nIf fa))), (k6, .inl (cI, 6, .inl (nIf K))), (k7, .inl (cI, 6, .inl (nIf G))), (k8, .inl (cI, 6, .inl (nIf T))), (k12, .inl (cI, 7, .inl (nIf kw))), (k13, .inl (cI, 175, .inl (nIf kn))), (k14, .inl (cI, 144, .inl (mIf M))), (k15, .inl (cI, 7, .inl (nIf mw))), (k10, .inl (cI, 7, .inl (nIf R)))]
      have hn_w := hi_21
      refine v_goto 23 zC dX5_list_19 ?_
      refine v_is_n (lv2 := [(3, .int (-2)), (0, .ref r0), (1, .int (nI ju)), (2, .int w)]) 24 zC dX5_list_23 (by rw [hnE]; decide) rfl ?_
      refine v_il_n 25 zC dX5_list_24 0 rfl ?_
      refine v_if_ge 34 28 zC dX5_list_25 (fun z => absurd z (by decide +kernel)) (fun _ => ?_)
      refine v_al_n 29 zC dX5_list_28 1 rfl ?_
      refine v_il_n 30 zC dX5_list_29 0 rfl ?_
      refine v_cV (As := [.int (-2)]) (st := []) 33 0 [0, 12] zC dX5_list_30 hA (c_X5_refuse (ev_l E) (ev_D E) cI (r0 := r0) (k1 := k1) (k2 := k2) (k3 := k3) (k4 := k4) (k6 := k6) (k7 := k7) (k8 := k8) (k10 := k10) (k12 := k12) (k13 := k13) (k14 := k14) (k15 := k15) (k16 := k16) (k21 := k21) (k22 := k22) (k23 := k23) (k24 := k24) (k25 := k25) (k30 := k30) (k31 := k31) (k33 := k33) (n := n) (m := m) (aw := 0) (ls := ls) (ap := ap) (sq := sq) (pl := pl) (tz := tz) (rs := rs) (bd := bd) (pd := pd) (tk := tk) (kv := kv) (sd := sd) (R := R) (v := (-2)) (j := 2) (hv := (by first | omega | assumption | rfl | (simp only []; omega) | decide)) (h1 := (by first | omega | assumption | rfl | (simp only []; omega) | decide)) (h6 := (by first | omega | assumption | rfl | (simp only []; omega) | decide))) cf_X5_refuse lk_X5_129 rfl rfl rfl rfl rfl (by decide +kernel) (Nat.le_of_ble_eq_true rfl) (fun rv_27 wv_28 hp_29 hm_30 => ?_)
      clear hm_30
      obtain ⟨rfl, rfl⟩ := hp_29
      show VV E 0 0 33 [(3, .int (-2)), (0, .ref r0), (1, .int (nI ju)), (2, .int w)] [.int (-2)] [(r0, .inr (5, [.int (nI n), .ref k1, .ref k2, .ref k3, .ref k4, .int (nI m), .ref k6, .ref k7, .ref k8, .int (nI 0), .ref k10, .int (nI 0), .ref k12, .ref k13, .ref k14, .ref k15, .ref k16, .int (nI ls), .int (nI ap), .int (bz bd), .int (nI sq), .ref k21, .ref k22, .ref k23, .ref k24, .ref k25, .int (bz pd), .int (nI pl), .int (bz tk), kv, .ref k30, .ref k31, .int (nI tz), .ref k33, .int (nI rs), .int sd])), (k1, .inl (cI, 7, .inl (nIf ki))), (k2, .inl (cI, 7, .inl (nIf op))), (k3, .inl (cI, 7, .inl (nIf (shF sh)))), (k4, .inl (cI, 7, .inl (nIf fa))), (k6, .inl (cI, 6, .inl (nIf K))), (k7, .inl (cI, 6, .inl (nIf G))), (k8, .inl (cI, 6, .inl (nIf T))), (k12, .inl (cI, 7, .inl (nIf kw))), (k13, .inl (cI, 175, .inl (nIf kn))), (k14, .inl (cI, 144, .inl (mIf M))), (k15, .inl (cI, 7, .inl (nIf mw))), (k10, .inl (cI, 7, .inl (nIf (un R 2 (R 2 + 1)))))]
      refine v_iret zC zT dX5_list_33  ?_
      first | (have g9 := hn_u; exact ⟨kw, kn, M, mw, 1, _, by unfold q_list; rw [hn_u], hkw, hkn, hM, rfl, rfl⟩) | (have g9 := hn_w; exact ⟨kw, kn, M, mw, 2, _, by unfold q_list; rw [hi_u]; dsimp only; rw [hn_w], hkw, hkn, hM, rfl, rfl⟩) | exact ⟨_, _, _, _, 0, _, by unfold q_list; rw [hi_u]; dsimp only; rw [hi_w]; dsimp only; first | (rw [if_pos (by assumption)]; done) | (rw [if_pos (by assumption)]; rfl) | (rw [if_neg (by assumption), show (10 : Nat) = f by omega, ← hs]), hR9.2.2.2.1, hR9.2.2.2.2.1, hR9.2.2.2.2.2, rfl, rfl⟩
    ·
      show VV E 0 0 19 [(0, .ref r0), (1, .int (nI ju)), (2, .int w)] [.int (nI 0)] [(r0, .inr (5, [.int (nI n), .ref k1, .ref k2, .ref k3, .ref k4, .int (nI m), .ref k6, .ref k7, .ref k8, .int (nI 0), .ref k10, .int (nI 0), .ref k12, .ref k13, .ref k14, .ref k15, .ref k16, .int (nI ls), .int (nI ap), .int (bz bd), .int (nI sq), .ref k21, .ref k22, .ref k23, .ref k24, .ref k25, .int (bz pd), .int (nI pl), .int (bz tk), kv, .ref k30, .ref k31, .int (nI tz), .ref k33, .int (nI rs), .int sd])), (k1, .inl (cI, 7, .inl (nIf ki))), (k2, .inl (cI, 7, .inl (nIf op))), (k3, .inl (cI, 7, .inl (nIf (shF sh)))), (k4, .inl (cI, 7, .inl (nIf fa))), (k6, .inl (cI, 6, .inl (nIf K))), (k7, .inl (cI, 6, .inl (nIf G))), (k8, .inl (cI, 6, .inl (nIf T))), (k12, .inl (cI, 7, .inl (nIf kw))), (k13, .inl (cI, 175, .inl (nIf kn))), (k14, .inl (cI, 144, .inl (mIf M))), (k15, .inl (cI, 7, .inl (nIf mw))), (k10, .inl (cI, 7, .inl (nIf R)))]
      subst he_23
      have hi_w := hi_24
      obtain ⟨jw, hx_jw⟩ : ∃ z, z = j_22 := ⟨_, rfl⟩
      subst hx_jw
      refine v_goto 23 zC dX5_list_19 ?_
      refine v_is_n (lv2 := [(3, .int (nI 0)), (0, .ref r0), (1, .int (nI ju)), (2, .int (nI jw))]) 24 zC dX5_list_23 (by rw [hnE]; decide) rfl ?_
      refine v_il_n 25 zC dX5_list_24 0 rfl ?_
      refine v_if_ge 34 28 zC dX5_list_25 (fun _ => ?_) (fun z => absurd (by decide +kernel) z)
      refine v_al_n 35 zC dX5_list_34 1 rfl ?_
      refine v_cV (As := []) (st := []) 38 0 [0, 1, 2, 3, 4, 5, 6, 7, 8, 9, 10, 11] zC dX5_list_35 hA (c_X5_day (ev_l E) (ev_D E) cI (r0 := r0) (k1 := k1) (k2 := k2) (k3 := k3) (k4 := k4) (k6 := k6) (k7 := k7) (k8 := k8) (k10 := k10) (k12 := k12) (k13 := k13) (k14 := k14) (k15 := k15) (k16 := k16) (k21 := k21) (k22 := k22) (k23 := k23) (k24 := k24) (k25 := k25) (k30 := k30) (k31 := k31) (k33 := k33) (n := n) (m := m) (aw := 0) (ls := ls) (ap := ap) (sq := sq) (pl := pl) (tz := tz) (rs := rs) (bd := bd) (pd := pd) (tk := tk) (kv := kv) (sd := sd) (ki := ki) (op := op) (fa := fa) (K := K) (G := G) (T := T) (sh := sh) (kw := kw) (kn := kn) (M := M) (mw := mw) (hw := (by first | omega | assumption | rfl | (simp only []; omega) | decide)) (hkw := (by first | omega | assumption | rfl | (simp only []; omega) | decide)) (hkn := (by first | omega | assumption | rfl | (simp only []; omega) | decide)) (hM := (by first | omega | assumption | rfl | (simp only []; omega) | decide))) cf_X5_day lk_X5_123 rfl rfl rfl rfl rfl (by decide +kernel) (Nat.le_of_ble_eq_true rfl) (fun rv_32 wv_33 hp_34 hm_35 => ?_)
      clear hm_35
      obtain ⟨kw1_36, kn1_37, M1_38, mw1_39, hR_40, rfl, rfl⟩ := hp_34
      show VV E 0 0 38 [(3, .int (nI 0)), (0, .ref r0), (1, .int (nI ju)), (2, .int (nI jw))] [] [(r0, .inr (5, [.int (nI n), .ref k1, .ref k2, .ref k3, .ref k4, .int (nI m), .ref k6, .ref k7, .ref k8, .int (nI 0), .ref k10, .int (nI 0), .ref k12, .ref k13, .ref k14, .ref k15, .ref k16, .int (nI ls), .int (nI ap), .int (bz bd), .int (nI sq), .ref k21, .ref k22, .ref k23, .ref k24, .ref k25, .int (bz pd), .int (nI pl), .int (bz tk), kv, .ref k30, .ref k31, .int (nI tz), .ref k33, .int (nI rs), .int sd])), (k1, .inl (cI, 7, .inl (nIf ki))), (k2, .inl (cI, 7, .inl (nIf op))), (k3, .inl (cI, 7, .inl (nIf (shF sh)))), (k4, .inl (cI, 7, .inl (nIf fa))), (k6, .inl (cI, 6, .inl (nIf K))), (k7, .inl (cI, 6, .inl (nIf G))), (k8, .inl (cI, 6, .inl (nIf T))), (k12, .inl (cI, 7, .inl (nIf kw1_36))), (k13, .inl (cI, 175, .inl (nIf kn1_37))), (k14, .inl (cI, 144, .inl (mIf M1_38))), (k15, .inl (cI, 7, .inl (nIf mw1_39))), (k10, .inl (cI, 7, .inl (nIf R)))]
      have hR9 := hR_40
      refine v_al_n 39 zC dX5_list_38 1 rfl ?_
      refine v_gf 42 0 zC dX5_list_39 gf_X5_34 rfl rfl ?_
      refine v_il_n 43 zC dX5_list_42 2 rfl ?_
      refine v_ialn (v := (nI (DR (n, m, sh, 0, ki, op, fa, K, G, T) 24 ju))) 44 8 zC dX5_list_43 rfl (by omega) (congrArg nI (rk_w hR9 (by omega))) ?_
      refine v_al_n 45 zC dX5_list_44 1 rfl ?_
      refine v_gf 48 0 zC dX5_list_45 gf_X5_19 rfl rfl ?_
      refine v_il_n 49 zC dX5_list_48 2 rfl ?_
      refine v_ialn (v := (nI (fa ju))) 50 4 zC dX5_list_49 rfl (by omega) rfl ?_
      refine v_ic (v := (-1)) 51 zC dX5_list_50 (by decide +kernel) ?_
      refine v_ixor (v := ((nI (fa ju)) ^^^ (-1))) 52 zC dX5_list_51 rfl ?_
      refine v_iand (v := (nI (andn (DR (n, m, sh, 0, ki, op, fa, K, G, T) 24 ju) (fa ju)))) 53 zC dX5_list_52 (andn_of _ _) ?_
      refine v_is (lv2 := [(4, .int (nI (andn (DR (n, m, sh, 0, ki, op, fa, K, G, T) 24 ju) (fa ju)))), (3, .int (nI 0)), (0, .ref r0), (1, .int (nI ju)), (2, .int (nI jw))]) 55 zC dX5_list_53 (by rw [hnE]; decide) rfl ?_
      refine v_bp (v := (-9)) 57 zC dX5_list_55 (by decide +kernel) ?_
      refine v_is (lv2 := [(5, .int (-9)), (4, .int (nI (andn (DR (n, m, sh, 0, ki, op, fa, K, G, T) 24 ju) (fa ju)))), (3, .int (nI 0)), (0, .ref r0), (1, .int (nI ju)), (2, .int (nI jw))]) 59 zC dX5_list_57 (by rw [hnE]; decide) rfl ?_
      refine v_ic (v := (nI 0)) 60 zC dX5_list_59 (by decide +kernel) ?_
      refine v_is (lv2 := [(6, .int (nI 0)), (5, .int (-9)), (4, .int (nI (andn (DR (n, m, sh, 0, ki, op, fa, K, G, T) 24 ju) (fa ju)))), (3, .int (nI 0)), (0, .ref r0), (1, .int (nI ju)), (2, .int (nI jw))]) 62 zC dX5_list_60 (by rw [hnE]; decide) rfl ?_
      have lp62 : ∀ (mz : Nat) (B : Option Nat) (f : Nat), (B = it (lisS (n, m, sh, 0, ki, op, fa, K, G, T) ju) none f) → (f ≤ 10) → (∀ v, B = some v → v < 25) → 10 - f = mz → VV E 0 0 62 [(6, .int (nI f)), (5, .int (mI B)), (4, .int (nI (andn (DR (n, m, sh, 0, ki, op, fa, K, G, T) 24 ju) (fa ju)))), (3, .int (nI 0)), (0, .ref r0), (1, .int (nI ju)), (2, .int (nI jw))] [] [(r0, .inr (5, [.int (nI n), .ref k1, .ref k2, .ref k3, .ref k4, .int (nI m), .ref k6, .ref k7, .ref k8, .int (nI 0), .ref k10, .int (nI 0), .ref k12, .ref k13, .ref k14, .ref k15, .ref k16, .int (nI ls), .int (nI ap), .int (bz bd), .int (nI sq), .ref k21, .ref k22, .ref k23, .ref k24, .ref k25, .int (bz pd), .int (nI pl), .int (bz tk), kv, .ref k30, .ref k31, .int (nI tz), .ref k33, .int (nI rs), .int sd])), (k1, .inl (cI, 7, .inl (nIf ki))), (k2, .inl (cI, 7, .inl (nIf op))), (k3, .inl (cI, 7, .inl (nIf (shF sh)))), (k4, .inl (cI, 7, .inl (nIf fa))), (k6, .inl (cI, 6, .inl (nIf K))), (k7, .inl (cI, 6, .inl (nIf G))), (k8, .inl (cI, 6, .inl (nIf T))), (k12, .inl (cI, 7, .inl (nIf kw1_36))), (k13, .inl (cI, 175, .inl (nIf kn1_37))), (k14, .inl (cI, 144, .inl (mIf M1_38))), (k15, .inl (cI, 7, .inl (nIf mw1_39))), (k10, .inl (cI, 7, .inl (nIf R)))] := by
        intro mz
        induction mz using Nat.strongRecOn with
        | _ mz ih62 =>
        intro B f hs hf hBl hm62
        refine v_il 64 zC dX5_list_62 0 rfl ?_
        refine v_bp (v := (nI 10)) 66 zC dX5_list_64 (by decide +kernel) ?_
        refine v_icmpn_ge 111 69 zC dX5_list_66 (fun h_41 => ?_) (fun h_41 => ?_)
        ·
          refine v_il_n 112 zC dX5_list_111 6 rfl ?_
          refine v_ifn_ne 120 115 zC dX5_list_112 (fun h_42 => ?_) (fun h_42 => ?_)
          ·
            refine v_il 122 zC dX5_list_120 1 rfl ?_
            refine v_iret zC zT dX5_list_122  ?_
            first | (have g9 := hn_u; exact ⟨kw, kn, M, mw, 1, _, by unfold q_list; rw [hn_u], hkw, hkn, hM, rfl, rfl⟩) | (have g9 := hn_w; exact ⟨kw, kn, M, mw, 2, _, by unfold q_list; rw [hi_u]; dsimp only; rw [hn_w], hkw, hkn, hM, rfl, rfl⟩) | exact ⟨_, _, _, _, 0, _, by unfold q_list; rw [hi_u]; dsimp only; rw [hi_w]; dsimp only; first | (rw [if_pos (by assumption)]; done) | (rw [if_pos (by assumption)]; rfl) | (rw [if_neg (by assumption), show (10 : Nat) = f by omega, ← hs]), hR9.2.2.2.1, hR9.2.2.2.2.1, hR9.2.2.2.2.2, rfl, rfl⟩
          ·
            refine v_il 117 zC dX5_list_115 2 rfl ?_
            refine v_goto 122 zC dX5_list_117 ?_
            refine v_iret zC zT dX5_list_122  ?_
            first | (have g9 := hn_u; exact ⟨kw, kn, M, mw, 1, _, by unfold q_list; rw [hn_u], hkw, hkn, hM, rfl, rfl⟩) | (have g9 := hn_w; exact ⟨kw, kn, M, mw, 2, _, by unfold q_list; rw [hi_u]; dsimp only; rw [hn_w], hkw, hkn, hM, rfl, rfl⟩) | exact ⟨_, _, _, _, 0, _, by unfold q_list; rw [hi_u]; dsimp only; rw [hi_w]; dsimp only; first | (rw [if_pos (by assumption)]; done) | (rw [if_pos (by assumption)]; rfl) | (rw [if_neg (by assumption), show (10 : Nat) = f by omega, ← hs]), hR9.2.2.2.1, hR9.2.2.2.2.1, hR9.2.2.2.2.2, rfl, rfl⟩
        ·
          refine v_il 71 zC dX5_list_69 2 rfl ?_
          refine v_il 73 zC dX5_list_71 0 rfl ?_
          refine v_cS (As := [.int (nI (andn (DR (n, m, sh, 0, ki, op, fa, K, G, T) 24 ju) (fa ju))), .int (nI f)]) (st := []) 76 [] zC dX5_list_73 hA (c_X5_hasBit (ev_l E) (ev_D E) cI (x := (andn (DR (n, m, sh, 0, ki, op, fa, K, G, T) 24 ju) (fa ju))) (k := f) (hk := (by first | omega | assumption | rfl | (simp only []; omega) | decide))) cf_X5_hasBit lk_X5_95 rfl rfl rfl (by decide +kernel) (Nat.le_of_ble_eq_true rfl) (fun rv_43 wv_44 hp_45 hm_46 => ?_)
          clear hm_46
          obtain ⟨rfl, rfl⟩ := hp_45
          show VV E 0 0 76 [(6, .int (nI f)), (5, .int (mI B)), (4, .int (nI (andn (DR (n, m, sh, 0, ki, op, fa, K, G, T) 24 ju) (fa ju)))), (3, .int (nI 0)), (0, .ref r0), (1, .int (nI ju)), (2, .int (nI jw))] [.int (bz (Nat.testBit (andn (DR (n, m, sh, 0, ki, op, fa, K, G, T) 24 ju) (fa ju)) f))] [(r0, .inr (5, [.int (nI n), .ref k1, .ref k2, .ref k3, .ref k4, .int (nI m), .ref k6, .ref k7, .ref k8, .int (nI 0), .ref k10, .int (nI 0), .ref k12, .ref k13, .ref k14, .ref k15, .ref k16, .int (nI ls), .int (nI ap), .int (bz bd), .int (nI sq), .ref k21, .ref k22, .ref k23, .ref k24, .ref k25, .int (bz pd), .int (nI pl), .int (bz tk), kv, .ref k30, .ref k31, .int (nI tz), .ref k33, .int (nI rs), .int sd])), (k1, .inl (cI, 7, .inl (nIf ki))), (k2, .inl (cI, 7, .inl (nIf op))), (k3, .inl (cI, 7, .inl (nIf (shF sh)))), (k4, .inl (cI, 7, .inl (nIf fa))), (k6, .inl (cI, 6, .inl (nIf K))), (k7, .inl (cI, 6, .inl (nIf G))), (k8, .inl (cI, 6, .inl (nIf T))), (k12, .inl (cI, 7, .inl (nIf kw1_36))), (k13, .inl (cI, 175, .inl (nIf kn1_37))), (k14, .inl (cI, 144, .inl (mIf M1_38))), (k15, .inl (cI, 7, .inl (nIf mw1_39))), (k10, .inl (cI, 7, .inl (nIf R)))]
          refine v_ifb_eq 101 79 zC dX5_list_76 (fun h_47 => ?_) (fun h_47 => ?_)
          ·
            have hv9 : Nat.testBit (LISB (n, m, sh, 0, ki, op, fa, K, G, T) ju) f = false := h_47
            refine v_il 103 zC dX5_list_101 1 rfl ?_
            refine v_is (lv2 := [(5, .int (mI B)), (6, .int (nI f)), (4, .int (nI (andn (DR (n, m, sh, 0, ki, op, fa, K, G, T) 24 ju) (fa ju)))), (3, .int (nI 0)), (0, .ref r0), (1, .int (nI ju)), (2, .int (nI jw))]) 105 zC dX5_list_103 (by rw [hnE]; decide) rfl ?_
            refine v_inc (v := (nI (f + 1))) (lv2 := [(6, .int (nI (f + 1))), (5, .int (mI B)), (4, .int (nI (andn (DR (n, m, sh, 0, ki, op, fa, K, G, T) 24 ju) (fa ju)))), (3, .int (nI 0)), (0, .ref r0), (1, .int (nI ju)), (2, .int (nI jw))]) 108 zC dX5_list_105 (j := 1) rfl (nI_add _ 1) (by rw [hnE]; decide) rfl ?_
            refine v_goto 62 zC dX5_list_108 ?_
            refine v_lvs (lv2 := [(6, .int (nI (f + 1))), (5, .int (mI B)), (4, .int (nI (andn (DR (n, m, sh, 0, ki, op, fa, K, G, T) 24 ju) (fa ju)))), (3, .int (nI 0)), (0, .ref r0), (1, .int (nI ju)), (2, .int (nI jw))]) [0, 1, 2, 3, 4, 5, 6] rfl ?_
            exact ih62 _ (by omega) B (f + 1) (it_s hs (by first | exact lis_0 hv9 | exact (lis_1 hu9).trans hs9)) (by first | omega | assumption | rfl | (simp only []; omega) | decide) (by first | exact hBl | exact heard_25) rfl
          ·
            have hu9 : Nat.testBit (LISB (n, m, sh, 0, ki, op, fa, K, G, T) ju) f = true := h_47
            refine v_al_n 80 zC dX5_list_79 4 rfl ?_
            refine v_il_n 81 zC dX5_list_80 5 rfl ?_
            refine v_il 83 zC dX5_list_81 0 rfl ?_
            refine v_cV (As := [.int (nI ju), .int (nI f)]) (st := []) 86 0 [0, 9] zC dX5_list_83 hA (c_X5_heardAt (ev_l E) (ev_D E) cI (r0 := r0) (k1 := k1) (k2 := k2) (k3 := k3) (k4 := k4) (k6 := k6) (k7 := k7) (k8 := k8) (k10 := k10) (k12 := k12) (k13 := k13) (k14 := k14) (k15 := k15) (k16 := k16) (k21 := k21) (k22 := k22) (k23 := k23) (k24 := k24) (k25 := k25) (k30 := k30) (k31 := k31) (k33 := k33) (n := n) (m := m) (aw := 0) (ls := ls) (ap := ap) (sq := sq) (pl := pl) (tz := tz) (rs := rs) (bd := bd) (pd := pd) (tk := tk) (kv := kv) (sd := sd) (ki := ki) (op := op) (fa := fa) (K := K) (G := G) (T := T) (sh := sh) (kw := kw1_36) (kn := kn1_37) (M := M1_38) (p := ju) (f := f) (hn := (by first | omega | assumption | rfl | (simp only []; omega) | decide)) (hm := (by first | omega | assumption | rfl | (simp only []; omega) | decide)) (hR := hR9) (hp := (by first | omega | assumption | rfl | (simp only []; omega) | decide)) (hf := (by first | omega | assumption | rfl | (simp only []; omega) | decide))) cf_X5_heardAt lk_X5_236 rfl rfl rfl rfl rfl (by decide +kernel) (Nat.le_of_ble_eq_true rfl) (fun rv_48 wv_49 hp_50 hm_51 => ?_)
            clear hm_51
            obtain ⟨rfl, rfl⟩ := hp_50
            show VV E 0 0 86 [(6, .int (nI f)), (5, .int (mI B)), (4, .int (nI (andn (DR (n, m, sh, 0, ki, op, fa, K, G, T) 24 ju) (fa ju)))), (3, .int (nI 0)), (0, .ref r0), (1, .int (nI ju)), (2, .int (nI jw))] [.int (mI (HEARD (n, m, sh, 0, ki, op, fa, K, G, T) ju f))] [(r0, .inr (5, [.int (nI n), .ref k1, .ref k2, .ref k3, .ref k4, .int (nI m), .ref k6, .ref k7, .ref k8, .int (nI 0), .ref k10, .int (nI 0), .ref k12, .ref k13, .ref k14, .ref k15, .ref k16, .int (nI ls), .int (nI ap), .int (bz bd), .int (nI sq), .ref k21, .ref k22, .ref k23, .ref k24, .ref k25, .int (bz pd), .int (nI pl), .int (bz tk), kv, .ref k30, .ref k31, .int (nI tz), .ref k33, .int (nI rs), .int sd])), (k1, .inl (cI, 7, .inl (nIf ki))), (k2, .inl (cI, 7, .inl (nIf op))), (k3, .inl (cI, 7, .inl (nIf (shF sh)))), (k4, .inl (cI, 7, .inl (nIf fa))), (k6, .inl (cI, 6, .inl (nIf K))), (k7, .inl (cI, 6, .inl (nIf G))), (k8, .inl (cI, 6, .inl (nIf T))), (k12, .inl (cI, 7, .inl (nIf kw1_36))), (k13, .inl (cI, 175, .inl (nIf kn1_37))), (k14, .inl (cI, 144, .inl (mIf M1_38))), (k15, .inl (cI, 7, .inl (nIf mw1_39))), (k10, .inl (cI, 7, .inl (nIf R)))]
            refine v_il 88 zC dX5_list_86 1 rfl ?_
            refine v_icmp_le 101 91 zC dX5_list_88 (fun h_52 => ?_) (fun h_52 => ?_)
            ·
              have hs9 := (mI_le2 (fun v e => Nat.lt_trans (heard_25 v e) (by decide)) (fun v e => Nat.lt_trans (hBl v e) (by decide))).1 h_52
              refine v_il 103 zC dX5_list_101 1 rfl ?_
              refine v_is (lv2 := [(5, .int (mI B)), (6, .int (nI f)), (4, .int (nI (andn (DR (n, m, sh, 0, ki, op, fa, K, G, T) 24 ju) (fa ju)))), (3, .int (nI 0)), (0, .ref r0), (1, .int (nI ju)), (2, .int (nI jw))]) 105 zC dX5_list_103 (by rw [hnE]; decide) rfl ?_
              refine v_inc (v := (nI (f + 1))) (lv2 := [(6, .int (nI (f + 1))), (5, .int (mI B)), (4, .int (nI (andn (DR (n, m, sh, 0, ki, op, fa, K, G, T) 24 ju) (fa ju)))), (3, .int (nI 0)), (0, .ref r0), (1, .int (nI ju)), (2, .int (nI jw))]) 108 zC dX5_list_105 (j := 1) rfl (nI_add _ 1) (by rw [hnE]; decide) rfl ?_
              refine v_goto 62 zC dX5_list_108 ?_
              refine v_lvs (lv2 := [(6, .int (nI (f + 1))), (5, .int (mI B)), (4, .int (nI (andn (DR (n, m, sh, 0, ki, op, fa, K, G, T) 24 ju) (fa ju)))), (3, .int (nI 0)), (0, .ref r0), (1, .int (nI ju)), (2, .int (nI jw))]) [0, 1, 2, 3, 4, 5, 6] rfl ?_
              exact ih62 _ (by omega) B (f + 1) (it_s hs (by first | exact lis_0 hv9 | exact (lis_1 hu9).trans hs9)) (by first | omega | assumption | rfl | (simp only []; omega) | decide) (by first | exact hBl | exact heard_25) rfl
            ·
              have hs9 := (mI_le2 (fun v e => Nat.lt_trans (heard_25 v e) (by decide)) (fun v e => Nat.lt_trans (hBl v e) (by decide))).2 h_52
              refine v_al_n 92 zC dX5_list_91 4 rfl ?_
              refine v_il_n 93 zC dX5_list_92 5 rfl ?_
              refine v_il 95 zC dX5_list_93 0 rfl ?_
              refine v_cV (As := [.int (nI ju), .int (nI f)]) (st := []) 98 0 [0, 9] zC dX5_list_95 hA (c_X5_heardAt (ev_l E) (ev_D E) cI (r0 := r0) (k1 := k1) (k2 := k2) (k3 := k3) (k4 := k4) (k6 := k6) (k7 := k7) (k8 := k8) (k10 := k10) (k12 := k12) (k13 := k13) (k14 := k14) (k15 := k15) (k16 := k16) (k21 := k21) (k22 := k22) (k23 := k23) (k24 := k24) (k25 := k25) (k30 := k30) (k31 := k31) (k33 := k33) (n := n) (m := m) (aw := 0) (ls := ls) (ap := ap) (sq := sq) (pl := pl) (tz := tz) (rs := rs) (bd := bd) (pd := pd) (tk := tk) (kv := kv) (sd := sd) (ki := ki) (op := op) (fa := fa) (K := K) (G := G) (T := T) (sh := sh) (kw := kw1_36) (kn := kn1_37) (M := M1_38) (p := ju) (f := f) (hn := (by first | omega | assumption | rfl | (simp only []; omega) | decide)) (hm := (by first | omega | assumption | rfl | (simp only []; omega) | decide)) (hR := hR9) (hp := (by first | omega | assumption | rfl | (simp only []; omega) | decide)) (hf := (by first | omega | assumption | rfl | (simp only []; omega) | decide))) cf_X5_heardAt lk_X5_236 rfl rfl rfl rfl rfl (by decide +kernel) (Nat.le_of_ble_eq_true rfl) (fun rv_53 wv_54 hp_55 hm_56 => ?_)
              clear hm_56
              obtain ⟨rfl, rfl⟩ := hp_55
              show VV E 0 0 98 [(6, .int (nI f)), (5, .int (mI B)), (4, .int (nI (andn (DR (n, m, sh, 0, ki, op, fa, K, G, T) 24 ju) (fa ju)))), (3, .int (nI 0)), (0, .ref r0), (1, .int (nI ju)), (2, .int (nI jw))] [.int (mI (HEARD (n, m, sh, 0, ki, op, fa, K, G, T) ju f))] [(r0, .inr (5, [.int (nI n), .ref k1, .ref k2, .ref k3, .ref k4, .int (nI m), .ref k6, .ref k7, .ref k8, .int (nI 0), .ref k10, .int (nI 0), .ref k12, .ref k13, .ref k14, .ref k15, .ref k16, .int (nI ls), .int (nI ap), .int (bz bd), .int (nI sq), .ref k21, .ref k22, .ref k23, .ref k24, .ref k25, .int (bz pd), .int (nI pl), .int (bz tk), kv, .ref k30, .ref k31, .int (nI tz), .ref k33, .int (nI rs), .int sd])), (k1, .inl (cI, 7, .inl (nIf ki))), (k2, .inl (cI, 7, .inl (nIf op))), (k3, .inl (cI, 7, .inl (nIf (shF sh)))), (k4, .inl (cI, 7, .inl (nIf fa))), (k6, .inl (cI, 6, .inl (nIf K))), (k7, .inl (cI, 6, .inl (nIf G))), (k8, .inl (cI, 6, .inl (nIf T))), (k12, .inl (cI, 7, .inl (nIf kw1_36))), (k13, .inl (cI, 175, .inl (nIf kn1_37))), (k14, .inl (cI, 144, .inl (mIf M1_38))), (k15, .inl (cI, 7, .inl (nIf mw1_39))), (k10, .inl (cI, 7, .inl (nIf R)))]
              refine v_goto 103 zC dX5_list_98 ?_
              refine v_is (lv2 := [(5, .int (mI (HEARD (n, m, sh, 0, ki, op, fa, K, G, T) ju f))), (6, .int (nI f)), (4, .int (nI (andn (DR (n, m, sh, 0, ki, op, fa, K, G, T) 24 ju) (fa ju)))), (3, .int (nI 0)), (0, .ref r0), (1, .int (nI ju)), (2, .int (nI jw))]) 105 zC dX5_list_103 (by rw [hnE]; decide) rfl ?_
              refine v_inc (v := (nI (f + 1))) (lv2 := [(6, .int (nI (f + 1))), (5, .int (mI (HEARD (n, m, sh, 0, ki, op, fa, K, G, T) ju f))), (4, .int (nI (andn (DR (n, m, sh, 0, ki, op, fa, K, G, T) 24 ju) (fa ju)))), (3, .int (nI 0)), (0, .ref r0), (1, .int (nI ju)), (2, .int (nI jw))]) 108 zC dX5_list_105 (j := 1) rfl (nI_add _ 1) (by rw [hnE]; decide) rfl ?_
              refine v_goto 62 zC dX5_list_108 ?_
              refine v_lvs (lv2 := [(6, .int (nI (f + 1))), (5, .int (mI (HEARD (n, m, sh, 0, ki, op, fa, K, G, T) ju f))), (4, .int (nI (andn (DR (n, m, sh, 0, ki, op, fa, K, G, T) 24 ju) (fa ju)))), (3, .int (nI 0)), (0, .ref r0), (1, .int (nI ju)), (2, .int (nI jw))]) [0, 1, 2, 3, 4, 5, 6] rfl ?_
              exact ih62 _ (by omega) (HEARD (n, m, sh, 0, ki, op, fa, K, G, T) ju f) (f + 1) (it_s hs (by first | exact lis_0 hv9 | exact (lis_1 hu9).trans hs9)) (by first | omega | assumption | rfl | (simp only []; omega) | decide) (by first | exact hBl | exact heard_25) rfl
      refine v_lvs (lv2 := [(6, .int (nI 0)), (5, .int (mI none)), (4, .int (nI (andn (DR (n, m, sh, 0, ki, op, fa, K, G, T) 24 ju) (fa ju)))), (3, .int (nI 0)), (0, .ref r0), (1, .int (nI ju)), (2, .int (nI jw))]) [0, 1, 2, 3, 4, 5, 6] rfl ?_
      exact lp62 _ none 0 rfl (by first | omega | assumption | rfl | (simp only []; omega) | decide) (fun v e => by cases e) rfl
set_option maxRecDepth 100000 in
set_option maxHeartbeats 4000000 in
theorem c_X5_loudest (l : Launch) (D : va_G) (cI : ClassId) (r0 k1 k2 k3 k4 k6 k7 k8 k10 k12 k13 k14 k15 k16 k21 k22 k23 k24 k25 k30 k31 k33 : Nat) (n m ls ap sq pl tz rs : Nat) (bd pd tk : Bool) (kv : Value) (sd : Int32) (ki op fa K G T : Nat → Nat) (sh : Nat) (kw kn : Nat → Nat) (M : Nat → Option Nat) (mw : Nat → Nat) (R : Nat → Nat) (w : Int32) (hw : FW n m sh ki op fa K G T) (hkw : ∀ z, kw z < 1024) (hkn : ∀ z, kn z < 1024) (hM : ∀ z v, M z = some v → v < 7) : CT l yX5_loudest cX5_loudest 7 (some .int) { frames := 6, cells := 0, slots := 0, locals := 138 } D cI [.ref r0, .int w] [(r0, .inr (5, [.int (nI n), .ref k1, .ref k2, .ref k3, .ref k4, .int (nI m), .ref k6, .ref k7, .ref k8, .int (nI 0), .ref k10, .int (nI 0), .ref k12, .ref k13, .ref k14, .ref k15, .ref k16, .int (nI ls), .int (nI ap), .int (bz bd), .int (nI sq), .ref k21, .ref k22, .ref k23, .ref k24, .ref k25, .int (bz pd), .int (nI pl), .int (bz tk), kv, .ref k30, .ref k31, .int (nI tz), .ref k33, .int (nI rs), .int sd])), (k1, .inl (cI, 7, .inl (nIf ki))), (k2, .inl (cI, 7, .inl (nIf op))), (k3, .inl (cI, 7, .inl (nIf (shF sh)))), (k4, .inl (cI, 7, .inl (nIf fa))), (k6, .inl (cI, 6, .inl (nIf K))), (k7, .inl (cI, 6, .inl (nIf G))), (k8, .inl (cI, 6, .inl (nIf T))), (k12, .inl (cI, 7, .inl (nIf kw))), (k13, .inl (cI, 175, .inl (nIf kn))), (k14, .inl (cI, 144, .inl (mIf M))), (k15, .inl (cI, 7, .inl (nIf mw))), (k10, .inl (cI, 7, .inl (nIf R)))] (fun zr zw => (∃ kw1 : Nat → Nat, ∃ kn1 : Nat → Nat, ∃ M1 : Nat → Option Nat, ∃ mw1 : Nat → Nat, ∃ rc : Nat, ∃ rv : Int32, (q_loudest (n, m, sh, 0, ki, op, fa, K, G, T) w = (rc, rv)) ∧ (∀ z, kw1 z < 1024) ∧ (∀ z, kn1 z < 1024) ∧ (∀ z v, M1 z = some v → v < 7) ∧ zr = some (.int rv) ∧ zw = [(r0, .inr (5, [.int (nI n), .ref k1, .ref k2, .ref k3, .ref k4, .int (nI m), .ref k6, .ref k7, .ref k8, .int (nI 0), .ref k10, .int (nI 0), .ref k12, .ref k13, .ref k14, .ref k15, .ref k16, .int (nI ls), .int (nI ap), .int (bz bd), .int (nI sq), .ref k21, .ref k22, .ref k23, .ref k24, .ref k25, .int (bz pd), .int (nI pl), .int (bz tk), kv, .ref k30, .ref k31, .int (nI tz), .ref k33, .int (nI rs), .int sd])), (k1, .inl (cI, 7, .inl (nIf ki))), (k2, .inl (cI, 7, .inl (nIf op))), (k3, .inl (cI, 7, .inl (nIf (shF sh)))), (k4, .inl (cI, 7, .inl (nIf fa))), (k6, .inl (cI, 6, .inl (nIf K))), (k7, .inl (cI, 6, .inl (nIf G))), (k8, .inl (cI, 6, .inl (nIf T))), (k12, .inl (cI, 7, .inl (nIf kw1))), (k13, .inl (cI, 175, .inl (nIf kn1))), (k14, .inl (cI, 144, .inl (mIf M1))), (k15, .inl (cI, 7, .inl (nIf mw1))), (k10, .inl (cI, 7, .inl (nIf (rf R rc))))])) := by
  refine CT_of RX5 rfl (by decide +kernel) (Nat.le_of_ble_eq_true rfl) (fun E hnE zC zT => ?_)
  have hA : ∀ q, (ev_s E).heap.size ≤ q → ev_A E q := fun q h => by rw [zT.2]; exact Or.inr h
  obtain ⟨hn, hm, hsh, hki, hop, hfa, hK, hG, hT, vki, vop, vfa, vK, vG, vT⟩ := id hw
  show VV E 0 0 0 [(0, .ref r0), (1, .int w)] [] [(r0, .inr (5, [.int (nI n), .ref k1, .ref k2, .ref k3, .ref k4, .int (nI m), .ref k6, .ref k7, .ref k8, .int (nI 0), .ref k10, .int (nI 0), .ref k12, .ref k13, .ref k14, .ref k15, .ref k16, .int (nI ls), .int (nI ap), .int (bz bd), .int (nI sq), .ref k21, .ref k22, .ref k23, .ref k24, .ref k25, .int (bz pd), .int (nI pl), .int (bz tk), kv, .ref k30, .ref k31, .int (nI tz), .ref k33, .int (nI rs), .int sd])), (k1, .inl (cI, 7, .inl (nIf ki))), (k2, .inl (cI, 7, .inl (nIf op))), (k3, .inl (cI, 7, .inl (nIf (shF sh)))), (k4, .inl (cI, 7, .inl (nIf fa))), (k6, .inl (cI, 6, .inl (nIf K))), (k7, .inl (cI, 6, .inl (nIf G))), (k8, .inl (cI, 6, .inl (nIf T))), (k12, .inl (cI, 7, .inl (nIf kw))), (k13, .inl (cI, 175, .inl (nIf kn))), (k14, .inl (cI, 144, .inl (mIf M))), (k15, .inl (cI, 7, .inl (nIf mw))), (k10, .inl (cI, 7, .inl (nIf R)))]
  refine v_al_n 1 zC dX5_loudest_0 0 rfl ?_
  refine v_ic (v := (nI 0)) 2 zC dX5_loudest_1 (by decide +kernel) ?_
  refine v_pf (ws2 := [(r0, .inr (5, [.int (nI n), .ref k1, .ref k2, .ref k3, .ref k4, .int (nI m), .ref k6, .ref k7, .ref k8, .int (nI 0), .ref k10, .int (nI 0), .ref k12, .ref k13, .ref k14, .ref k15, .ref k16, .int (nI ls), .int (nI ap), .int (bz bd), .int (nI sq), .ref k21, .ref k22, .ref k23, .ref k24, .ref k25, .int (bz pd), .int (nI pl), .int (bz tk), kv, .ref k30, .ref k31, .int (nI tz), .ref k33, .int (nI rs), .int sd])), (k1, .inl (cI, 7, .inl (nIf ki))), (k2, .inl (cI, 7, .inl (nIf op))), (k3, .inl (cI, 7, .inl (nIf (shF sh)))), (k4, .inl (cI, 7, .inl (nIf fa))), (k6, .inl (cI, 6, .inl (nIf K))), (k7, .inl (cI, 6, .inl (nIf G))), (k8, .inl (cI, 6, .inl (nIf T))), (k12, .inl (cI, 7, .inl (nIf kw))), (k13, .inl (cI, 175, .inl (nIf kn))), (k14, .inl (cI, 144, .inl (mIf M))), (k15, .inl (cI, 7, .inl (nIf mw))), (k10, .inl (cI, 7, .inl (nIf R)))]) 5 0 zC dX5_loudest_2 pf_X5_73 rfl (Nat.le_of_ble_eq_true rfl) rfl rfl rfl ?_
  refine v_il_n 6 zC dX5_loudest_5 1 rfl ?_
  refine v_i2l (v := (Int32.toInt64 w)) 7 zC dX5_loudest_6 rfl ?_
  refine v_lc (v := lN 0) 8 zC dX5_loudest_7 (by decide +kernel) ?_
  refine v_lc (v := lN 1) 9 zC dX5_loudest_8 (by decide +kernel) ?_
  refine v_cS (As := [.long (Int32.toInt64 w), .long (lN 0), .long (lN 1)]) (st := []) 12 [] zC dX5_loudest_9 hA (c_X5_in (ev_l E) (ev_D E) cI (x := (Int32.toInt64 w)) (y := (lN 0)) (z := (lN 1)) ) cf_X5_in lk_X5_80 rfl rfl rfl (by decide +kernel) (Nat.le_of_ble_eq_true rfl) (fun rv_1 wv_2 hp_3 hm_4 => ?_)
  clear hm_4
  obtain ⟨rfl, rfl⟩ := hp_3
  show VV E 0 0 12 [(0, .ref r0), (1, .int w)] [.int (bz (inB (Int32.toInt64 w) (lN 0) (lN 1)))] [(r0, .inr (5, [.int (nI n), .ref k1, .ref k2, .ref k3, .ref k4, .int (nI m), .ref k6, .ref k7, .ref k8, .int (nI 0), .ref k10, .int (nI 0), .ref k12, .ref k13, .ref k14, .ref k15, .ref k16, .int (nI ls), .int (nI ap), .int (bz bd), .int (nI sq), .ref k21, .ref k22, .ref k23, .ref k24, .ref k25, .int (bz pd), .int (nI pl), .int (bz tk), kv, .ref k30, .ref k31, .int (nI tz), .ref k33, .int (nI rs), .int sd])), (k1, .inl (cI, 7, .inl (nIf ki))), (k2, .inl (cI, 7, .inl (nIf op))), (k3, .inl (cI, 7, .inl (nIf (shF sh)))), (k4, .inl (cI, 7, .inl (nIf fa))), (k6, .inl (cI, 6, .inl (nIf K))), (k7, .inl (cI, 6, .inl (nIf G))), (k8, .inl (cI, 6, .inl (nIf T))), (k12, .inl (cI, 7, .inl (nIf kw))), (k13, .inl (cI, 175, .inl (nIf kn))), (k14, .inl (cI, 144, .inl (mIf M))), (k15, .inl (cI, 7, .inl (nIf mw))), (k10, .inl (cI, 7, .inl (nIf R)))]
  rcases in_ix1 (N := 2) (p := w) (show 1 < 2 ^ 29 by decide) rfl with ⟨e9, b9⟩ | ⟨jw, e9, i9, l9, b9⟩
  ·
    rw [b9]
    have hn_w := e9
    refine v_ifb_ne 22 15 zC dX5_loudest_12 (fun z => absurd z (by decide)) (fun _ => ?_)
    refine v_al_n 16 zC dX5_loudest_15 0 rfl ?_
    refine v_bp (v := (-2)) 18 zC dX5_loudest_16 (by decide +kernel) ?_
    refine v_cV (As := [.int (-2)]) (st := []) 21 0 [0, 12] zC dX5_loudest_18 hA (c_X5_refuse (ev_l E) (ev_D E) cI (r0 := r0) (k1 := k1) (k2 := k2) (k3 := k3) (k4 := k4) (k6 := k6) (k7 := k7) (k8 := k8) (k10 := k10) (k12 := k12) (k13 := k13) (k14 := k14) (k15 := k15) (k16 := k16) (k21 := k21) (k22 := k22) (k23 := k23) (k24 := k24) (k25 := k25) (k30 := k30) (k31 := k31) (k33 := k33) (n := n) (m := m) (aw := 0) (ls := ls) (ap := ap) (sq := sq) (pl := pl) (tz := tz) (rs := rs) (bd := bd) (pd := pd) (tk := tk) (kv := kv) (sd := sd) (R := R) (v := (-2)) (j := 2) (hv := (by first | omega | assumption | rfl | (simp only []; omega) | decide)) (h1 := (by first | omega | assumption | rfl | (simp only []; omega) | decide)) (h6 := (by first | omega | assumption | rfl | (simp only []; omega) | decide))) cf_X5_refuse lk_X5_129 rfl rfl rfl rfl rfl (by decide +kernel) (Nat.le_of_ble_eq_true rfl) (fun rv_6 wv_7 hp_8 hm_9 => ?_)
    clear hm_9
    obtain ⟨rfl, rfl⟩ := hp_8
    show VV E 0 0 21 [(0, .ref r0), (1, .int w)] [.int (-2)] [(r0, .inr (5, [.int (nI n), .ref k1, .ref k2, .ref k3, .ref k4, .int (nI m), .ref k6, .ref k7, .ref k8, .int (nI 0), .ref k10, .int (nI 0), .ref k12, .ref k13, .ref k14, .ref k15, .ref k16, .int (nI ls), .int (nI ap), .int (bz bd), .int (nI sq), .ref k21, .ref k22, .ref k23, .ref k24, .ref k25, .int (bz pd), .int (nI pl), .int (bz tk), kv, .ref k30, .ref k31, .int (nI tz), .ref k33, .int (nI rs), .int sd])), (k1, .inl (cI, 7, .inl (nIf ki))), (k2, .inl (cI, 7, .inl (nIf op))), (k3, .inl (cI, 7, .inl (nIf (shF sh)))), (k4, .inl (cI, 7, .inl (nIf fa))), (k6, .inl (cI, 6, .inl (nIf K))), (k7, .inl (cI, 6, .inl (nIf G))), (k8, .inl (cI, 6, .inl (nIf T))), (k12, .inl (cI, 7, .inl (nIf kw))), (k13, .inl (cI, 175, .inl (nIf kn))), (k14, .inl (cI, 144, .inl (mIf M))), (k15, .inl (cI, 7, .inl (nIf mw))), (k10, .inl (cI, 7, .inl (nIf (un R 2 (R 2 + 1)))))]
    refine v_iret zC zT dX5_loudest_21  ?_
    first | (have g9 := hn_w; exact ⟨kw, kn, M, mw, 2, _, by unfold q_loudest; rw [hn_w], hkw, hkn, hM, rfl, rfl⟩) | exact ⟨_, _, _, _, 0, _, by unfold q_loudest; rw [hi_w]; dsimp only; rw [show g_n (n, m, sh, 0, ki, op, fa, K, G, T) = p from (by show n = p; omega), ← hs]; first | rw [if_pos (by assumption)] | rw [if_neg (by assumption)], hR9.2.2.2.1, hR9.2.2.2.2.1, hR9.2.2.2.2.2, rfl, rfl⟩
  ·
    rw [b9]
    subst e9
    have hi_w := i9
    have hl_w := l9
    refine v_ifb_ne 22 15 zC dX5_loudest_12 (fun _ => ?_) (fun z => absurd z (by decide))
    refine v_al_n 23 zC dX5_loudest_22 0 rfl ?_
    refine v_cV (As := []) (st := []) 26 0 [0, 1, 2, 3, 4, 5, 6, 7, 8, 9, 10, 11] zC dX5_loudest_23 hA (c_X5_day (ev_l E) (ev_D E) cI (r0 := r0) (k1 := k1) (k2 := k2) (k3 := k3) (k4 := k4) (k6 := k6) (k7 := k7) (k8 := k8) (k10 := k10) (k12 := k12) (k13 := k13) (k14 := k14) (k15 := k15) (k16 := k16) (k21 := k21) (k22 := k22) (k23 := k23) (k24 := k24) (k25 := k25) (k30 := k30) (k31 := k31) (k33 := k33) (n := n) (m := m) (aw := 0) (ls := ls) (ap := ap) (sq := sq) (pl := pl) (tz := tz) (rs := rs) (bd := bd) (pd := pd) (tk := tk) (kv := kv) (sd := sd) (ki := ki) (op := op) (fa := fa) (K := K) (G := G) (T := T) (sh := sh) (kw := kw) (kn := kn) (M := M) (mw := mw) (hw := (by first | omega | assumption | rfl | (simp only []; omega) | decide)) (hkw := (by first | omega | assumption | rfl | (simp only []; omega) | decide)) (hkn := (by first | omega | assumption | rfl | (simp only []; omega) | decide)) (hM := (by first | omega | assumption | rfl | (simp only []; omega) | decide))) cf_X5_day lk_X5_123 rfl rfl rfl rfl rfl (by decide +kernel) (Nat.le_of_ble_eq_true rfl) (fun rv_11 wv_12 hp_13 hm_14 => ?_)
    clear hm_14
    obtain ⟨kw1_15, kn1_16, M1_17, mw1_18, hR_19, rfl, rfl⟩ := hp_13
    show VV E 0 0 26 [(0, .ref r0), (1, .int (nI jw))] [] [(r0, .inr (5, [.int (nI n), .ref k1, .ref k2, .ref k3, .ref k4, .int (nI m), .ref k6, .ref k7, .ref k8, .int (nI 0), .ref k10, .int (nI 0), .ref k12, .ref k13, .ref k14, .ref k15, .ref k16, .int (nI ls), .int (nI ap), .int (bz bd), .int (nI sq), .ref k21, .ref k22, .ref k23, .ref k24, .ref k25, .int (bz pd), .int (nI pl), .int (bz tk), kv, .ref k30, .ref k31, .int (nI tz), .ref k33, .int (nI rs), .int sd])), (k1, .inl (cI, 7, .inl (nIf ki))), (k2, .inl (cI, 7, .inl (nIf op))), (k3, .inl (cI, 7, .inl (nIf (shF sh)))), (k4, .inl (cI, 7, .inl (nIf fa))), (k6, .inl (cI, 6, .inl (nIf K))), (k7, .inl (cI, 6, .inl (nIf G))), (k8, .inl (cI, 6, .inl (nIf T))), (k12, .inl (cI, 7, .inl (nIf kw1_15))), (k13, .inl (cI, 175, .inl (nIf kn1_16))), (k14, .inl (cI, 144, .inl (mIf M1_17))), (k15, .inl (cI, 7, .inl (nIf mw1_18))), (k10, .inl (cI, 7, .inl (nIf R)))]
    have hR9 := hR_19
    refine v_bp (v := (-9)) 28 zC dX5_loudest_26 (by decide +kernel) ?_
    refine v_is_n (lv2 := [(2, .int (-9)), (0, .ref r0), (1, .int (nI jw))]) 29 zC dX5_loudest_28 (by rw [hnE]; decide) rfl ?_
    refine v_ic (v := (nI 0)) 30 zC dX5_loudest_29 (by decide +kernel) ?_
    refine v_is_n (lv2 := [(3, .int (nI 0)), (2, .int (-9)), (0, .ref r0), (1, .int (nI jw))]) 31 zC dX5_loudest_30 (by rw [hnE]; decide) rfl ?_
    refine v_ic (v := (nI 0)) 32 zC dX5_loudest_31 (by decide +kernel) ?_
    refine v_is (lv2 := [(4, .int (nI 0)), (3, .int (nI 0)), (2, .int (-9)), (0, .ref r0), (1, .int (nI jw))]) 34 zC dX5_loudest_32 (by rw [hnE]; decide) rfl ?_
    have lp34 : ∀ (mz : Nat) (B : Option Nat) (x : Nat) (p : Nat), ((B, x) = it (bstS (LOUD (n, m, sh, 0, ki, op, fa, K, G, T)) id) (none, 0) p) → (p ≤ n) → (x ≤ 144) → n - p = mz → VV E 0 0 34 [(4, .int (nI p)), (3, .int (nI x)), (2, .int (mI B)), (0, .ref r0), (1, .int (nI jw))] [] [(r0, .inr (5, [.int (nI n), .ref k1, .ref k2, .ref k3, .ref k4, .int (nI m), .ref k6, .ref k7, .ref k8, .int (nI 0), .ref k10, .int (nI 0), .ref k12, .ref k13, .ref k14, .ref k15, .ref k16, .int (nI ls), .int (nI ap), .int (bz bd), .int (nI sq), .ref k21, .ref k22, .ref k23, .ref k24, .ref k25, .int (bz pd), .int (nI pl), .int (bz tk), kv, .ref k30, .ref k31, .int (nI tz), .ref k33, .int (nI rs), .int sd])), (k1, .inl (cI, 7, .inl (nIf ki))), (k2, .inl (cI, 7, .inl (nIf op))), (k3, .inl (cI, 7, .inl (nIf (shF sh)))), (k4, .inl (cI, 7, .inl (nIf fa))), (k6, .inl (cI, 6, .inl (nIf K))), (k7, .inl (cI, 6, .inl (nIf G))), (k8, .inl (cI, 6, .inl (nIf T))), (k12, .inl (cI, 7, .inl (nIf kw1_15))), (k13, .inl (cI, 175, .inl (nIf kn1_16))), (k14, .inl (cI, 144, .inl (mIf M1_17))), (k15, .inl (cI, 7, .inl (nIf mw1_18))), (k10, .inl (cI, 7, .inl (nIf R)))] := by
      intro mz
      induction mz using Nat.strongRecOn with
      | _ mz ih34 =>
      intro B x p hs hp hx hm34
      refine v_il 36 zC dX5_loudest_34 0 rfl ?_
      refine v_al_n 37 zC dX5_loudest_36 3 rfl ?_
      refine v_gf 40 0 zC dX5_loudest_37 gf_X5_77 rfl rfl ?_
      refine v_icmpn_ge 110 43 zC dX5_loudest_40 (fun h_20 => ?_) (fun h_20 => ?_)
      ·
        refine v_il_n 111 zC dX5_loudest_110 4 rfl ?_
        refine v_ifn_ne 118 114 zC dX5_loudest_111 (fun h_21 => ?_) (fun h_21 => ?_)
        ·
          refine v_il_n 119 zC dX5_loudest_118 1 rfl ?_
          refine v_iret zC zT dX5_loudest_119  ?_
          first | (have g9 := hn_w; exact ⟨kw, kn, M, mw, 2, _, by unfold q_loudest; rw [hn_w], hkw, hkn, hM, rfl, rfl⟩) | exact ⟨_, _, _, _, 0, _, by unfold q_loudest; rw [hi_w]; dsimp only; rw [show g_n (n, m, sh, 0, ki, op, fa, K, G, T) = p from (by show n = p; omega), ← hs]; first | rw [if_pos (by assumption)] | rw [if_neg (by assumption)], hR9.2.2.2.1, hR9.2.2.2.2.1, hR9.2.2.2.2.2, rfl, rfl⟩
        ·
          refine v_il_n 115 zC dX5_loudest_114 2 rfl ?_
          refine v_goto 119 zC dX5_loudest_115 ?_
          refine v_iret zC zT dX5_loudest_119  ?_
          first | (have g9 := hn_w; exact ⟨kw, kn, M, mw, 2, _, by unfold q_loudest; rw [hn_w], hkw, hkn, hM, rfl, rfl⟩) | exact ⟨_, _, _, _, 0, _, by unfold q_loudest; rw [hi_w]; dsimp only; rw [show g_n (n, m, sh, 0, ki, op, fa, K, G, T) = p from (by show n = p; omega), ← hs]; first | rw [if_pos (by assumption)] | rw [if_neg (by assumption)], hR9.2.2.2.1, hR9.2.2.2.2.1, hR9.2.2.2.2.2, rfl, rfl⟩
      ·
        refine v_ic (v := (nI 0)) 44 zC dX5_loudest_43 (by decide +kernel) ?_
        refine v_is (lv2 := [(5, .int (nI 0)), (4, .int (nI p)), (3, .int (nI x)), (2, .int (mI B)), (0, .ref r0), (1, .int (nI jw))]) 46 zC dX5_loudest_44 (by rw [hnE]; decide) rfl ?_
        refine v_ic (v := (nI 0)) 47 zC dX5_loudest_46 (by decide +kernel) ?_
        refine v_is (lv2 := [(6, .int (nI 0)), (5, .int (nI 0)), (4, .int (nI p)), (3, .int (nI x)), (2, .int (mI B)), (0, .ref r0), (1, .int (nI jw))]) 49 zC dX5_loudest_47 (by rw [hnE]; decide) rfl ?_
        have lp49 : ∀ (mz : Nat) (y : Nat) (h : Nat), (y = sm (fun h => pcn (SPT (n, m, sh, 0, ki, op, fa, K, G, T) p h)) h) → (h ≤ 24) → (y ≤ 6 * h) → 24 - h = mz → VV E 0 0 49 [(6, .int (nI h)), (5, .int (nI y)), (4, .int (nI p)), (3, .int (nI x)), (2, .int (mI B)), (0, .ref r0), (1, .int (nI jw))] [] [(r0, .inr (5, [.int (nI n), .ref k1, .ref k2, .ref k3, .ref k4, .int (nI m), .ref k6, .ref k7, .ref k8, .int (nI 0), .ref k10, .int (nI 0), .ref k12, .ref k13, .ref k14, .ref k15, .ref k16, .int (nI ls), .int (nI ap), .int (bz bd), .int (nI sq), .ref k21, .ref k22, .ref k23, .ref k24, .ref k25, .int (bz pd), .int (nI pl), .int (bz tk), kv, .ref k30, .ref k31, .int (nI tz), .ref k33, .int (nI rs), .int sd])), (k1, .inl (cI, 7, .inl (nIf ki))), (k2, .inl (cI, 7, .inl (nIf op))), (k3, .inl (cI, 7, .inl (nIf (shF sh)))), (k4, .inl (cI, 7, .inl (nIf fa))), (k6, .inl (cI, 6, .inl (nIf K))), (k7, .inl (cI, 6, .inl (nIf G))), (k8, .inl (cI, 6, .inl (nIf T))), (k12, .inl (cI, 7, .inl (nIf kw1_15))), (k13, .inl (cI, 175, .inl (nIf kn1_16))), (k14, .inl (cI, 144, .inl (mIf M1_17))), (k15, .inl (cI, 7, .inl (nIf mw1_18))), (k10, .inl (cI, 7, .inl (nIf R)))] := by
          intro mz
          induction mz using Nat.strongRecOn with
          | _ mz ih49 =>
          intro y h hy hh hyl hm49
          refine v_il 51 zC dX5_loudest_49 0 rfl ?_
          refine v_bp (v := (nI 24)) 53 zC dX5_loudest_51 (by decide +kernel) ?_
          refine v_icmpn_ge 78 56 zC dX5_loudest_53 (fun h_22 => ?_) (fun h_22 => ?_)
          ·
            refine v_il 80 zC dX5_loudest_78 1 rfl ?_
            refine v_il_n 81 zC dX5_loudest_80 3 rfl ?_
            have hy8 : LOUD (n, m, sh, 0, ki, op, fa, K, G, T) p = y := (loud_e (s := (n, m, sh, 0, ki, op, fa, K, G, T))).symm.trans (by rw [hy, show h = 24 by omega])
            refine v_icmpn_le 89 84 zC dX5_loudest_81 (fun h_23 => ?_) (fun h_23 => ?_)
            ·
              have hv9 := Nat.le_trans (Nat.le_of_eq hy8) h_23
              refine v_il_n 90 zC dX5_loudest_89 4 rfl ?_
              refine v_is_n (lv2 := [(2, .int (mI B)), (6, .int (nI h)), (5, .int (nI y)), (4, .int (nI p)), (3, .int (nI x)), (0, .ref r0), (1, .int (nI jw))]) 91 zC dX5_loudest_90 (by rw [hnE]; decide) rfl ?_
              refine v_il 93 zC dX5_loudest_91 2 rfl ?_
              refine v_il_n 94 zC dX5_loudest_93 4 rfl ?_
              refine v_icmpn_le 102 97 zC dX5_loudest_94 (fun h_24 => ?_) (fun h_24 => False.elim (by first | omega | exact bcon h_24 (by assumption) | exact bcon (by assumption) h_24))
              refine v_il_n 103 zC dX5_loudest_102 4 rfl ?_
              refine v_is_n (lv2 := [(3, .int (nI x)), (2, .int (mI B)), (6, .int (nI h)), (5, .int (nI y)), (4, .int (nI p)), (0, .ref r0), (1, .int (nI jw))]) 104 zC dX5_loudest_103 (by rw [hnE]; decide) rfl ?_
              refine v_inc (v := (nI (p + 1))) (lv2 := [(4, .int (nI (p + 1))), (3, .int (nI x)), (2, .int (mI B)), (6, .int (nI h)), (5, .int (nI y)), (0, .ref r0), (1, .int (nI jw))]) 107 zC dX5_loudest_104 (j := 4) rfl (nI_add _ 1) (by rw [hnE]; decide) rfl ?_
              refine v_goto 34 zC dX5_loudest_107 ?_
              refine v_lvs (lv2 := [(4, .int (nI (p + 1))), (3, .int (nI x)), (2, .int (mI B)), (0, .ref r0), (1, .int (nI jw))]) [0, 1, 2, 5, 6] rfl ?_
              exact ih34 _ (by omega) B x (p + 1) (it_s hs (by first | exact (bst_1 hu9).trans (by rw [hy8]; rfl) | exact bst_0 hv9)) (by first | omega | assumption | rfl | (simp only []; omega) | decide) (by first | omega | assumption | rfl | (simp only []; omega) | decide) rfl
            ·
              have hu9 := Nat.lt_of_lt_of_eq h_23 hy8.symm
              refine v_il 86 zC dX5_loudest_84 2 rfl ?_
              refine v_goto 90 zC dX5_loudest_86 ?_
              refine v_is_n (lv2 := [(2, .int (nI p)), (6, .int (nI h)), (5, .int (nI y)), (4, .int (nI p)), (3, .int (nI x)), (0, .ref r0), (1, .int (nI jw))]) 91 zC dX5_loudest_90 (by rw [hnE]; decide) rfl ?_
              refine v_il 93 zC dX5_loudest_91 2 rfl ?_
              refine v_il_n 94 zC dX5_loudest_93 4 rfl ?_
              refine v_icmpn_le 102 97 zC dX5_loudest_94 (fun h_25 => False.elim (by first | omega | exact bcon h_25 (by assumption) | exact bcon (by assumption) h_25)) (fun h_25 => ?_)
              refine v_il 99 zC dX5_loudest_97 2 rfl ?_
              refine v_goto 103 zC dX5_loudest_99 ?_
              refine v_is_n (lv2 := [(3, .int (nI y)), (2, .int (nI p)), (6, .int (nI h)), (5, .int (nI y)), (4, .int (nI p)), (0, .ref r0), (1, .int (nI jw))]) 104 zC dX5_loudest_103 (by rw [hnE]; decide) rfl ?_
              refine v_inc (v := (nI (p + 1))) (lv2 := [(4, .int (nI (p + 1))), (3, .int (nI y)), (2, .int (nI p)), (6, .int (nI h)), (5, .int (nI y)), (0, .ref r0), (1, .int (nI jw))]) 107 zC dX5_loudest_104 (j := 4) rfl (nI_add _ 1) (by rw [hnE]; decide) rfl ?_
              refine v_goto 34 zC dX5_loudest_107 ?_
              refine v_lvs (lv2 := [(4, .int (nI (p + 1))), (3, .int (nI y)), (2, .int (mI (some p))), (0, .ref r0), (1, .int (nI jw))]) [0, 1, 2, 5, 6] rfl ?_
              exact ih34 _ (by omega) (some p) y (p + 1) (it_s hs (by first | exact (bst_1 hu9).trans (by rw [hy8]; rfl) | exact bst_0 hv9)) (by first | omega | assumption | rfl | (simp only []; omega) | decide) (by first | omega | assumption | rfl | (simp only []; omega) | decide) rfl
          ·
            refine v_il 58 zC dX5_loudest_56 1 rfl ?_
            refine v_al_n 59 zC dX5_loudest_58 5 rfl ?_
            refine v_il 61 zC dX5_loudest_59 2 rfl ?_
            refine v_il 63 zC dX5_loudest_61 0 rfl ?_
            refine v_cV (As := [.int (nI p), .int (nI h)]) (st := [.int (nI y)]) 66 0 [0, 10] zC dX5_loudest_63 hA (c_X5_speakers__B (ev_l E) (ev_D E) cI (r0 := r0) (k1 := k1) (k2 := k2) (k3 := k3) (k4 := k4) (k6 := k6) (k7 := k7) (k8 := k8) (k10 := k10) (k12 := k12) (k13 := k13) (k14 := k14) (k15 := k15) (k16 := k16) (k21 := k21) (k22 := k22) (k23 := k23) (k24 := k24) (k25 := k25) (k30 := k30) (k31 := k31) (k33 := k33) (n := n) (m := m) (aw := 0) (ls := ls) (ap := ap) (sq := sq) (pl := pl) (tz := tz) (rs := rs) (bd := bd) (pd := pd) (tk := tk) (kv := kv) (sd := sd) (ki := ki) (op := op) (fa := fa) (K := K) (G := G) (T := T) (sh := sh) (kw := kw1_15) (kn := kn1_16) (M := M1_17) (p := p) (h := h) (hn := (by first | omega | assumption | rfl | (simp only []; omega) | decide)) (hm := (by first | omega | assumption | rfl | (simp only []; omega) | decide)) (hR := hR9) (hp := (by first | omega | assumption | rfl | (simp only []; omega) | decide)) (hh := (by first | omega | assumption | rfl | (simp only []; omega) | decide))) cf_X5_speakers lk_X5_233 rfl rfl rfl rfl rfl (by decide +kernel) (Nat.le_of_ble_eq_true rfl) (fun rv_26 wv_27 hp_28 hm_29 => ?_)
            clear hm_29
            obtain ⟨rfl, rfl⟩ := hp_28
            show VV E 0 0 66 [(6, .int (nI h)), (5, .int (nI y)), (4, .int (nI p)), (3, .int (nI x)), (2, .int (mI B)), (0, .ref r0), (1, .int (nI jw))] [.int (nI (SPT (n, m, sh, 0, ki, op, fa, K, G, T) p h)), .int (nI y)] [(r0, .inr (5, [.int (nI n), .ref k1, .ref k2, .ref k3, .ref k4, .int (nI m), .ref k6, .ref k7, .ref k8, .int (nI 0), .ref k10, .int (nI 0), .ref k12, .ref k13, .ref k14, .ref k15, .ref k16, .int (nI ls), .int (nI ap), .int (bz bd), .int (nI sq), .ref k21, .ref k22, .ref k23, .ref k24, .ref k25, .int (bz pd), .int (nI pl), .int (bz tk), kv, .ref k30, .ref k31, .int (nI tz), .ref k33, .int (nI rs), .int sd])), (k1, .inl (cI, 7, .inl (nIf ki))), (k2, .inl (cI, 7, .inl (nIf op))), (k3, .inl (cI, 7, .inl (nIf (shF sh)))), (k4, .inl (cI, 7, .inl (nIf fa))), (k6, .inl (cI, 6, .inl (nIf K))), (k7, .inl (cI, 6, .inl (nIf G))), (k8, .inl (cI, 6, .inl (nIf T))), (k12, .inl (cI, 7, .inl (nIf kw1_15))), (k13, .inl (cI, 175, .inl (nIf kn1_16))), (k14, .inl (cI, 144, .inl (mIf M1_17))), (k15, .inl (cI, 7, .inl (nIf mw1_18))), (k10, .inl (cI, 7, .inl (nIf R)))]
            refine v_cS (As := [.int (nI (SPT (n, m, sh, 0, ki, op, fa, K, G, T) p h))]) (st := [.int (nI y)]) 69 [] zC dX5_loudest_66 hA (c_X5_onesOf (ev_l E) (ev_D E) cI (x := (SPT (n, m, sh, 0, ki, op, fa, K, G, T) p h)) (hx := (Nat.lt_of_lt_of_le (m := 2 ^ m) (mkn_lt _ _) (Nat.pow_le_pow_right (by decide) (Nat.le_trans hm (by decide)))))) cf_X5_onesOf lk_X5_120 rfl rfl rfl (by decide +kernel) (Nat.le_of_ble_eq_true rfl) (fun rv_30 wv_31 hp_32 hm_33 => ?_)
            clear hm_33
            obtain ⟨rfl, rfl⟩ := hp_32
            show VV E 0 0 69 [(6, .int (nI h)), (5, .int (nI y)), (4, .int (nI p)), (3, .int (nI x)), (2, .int (mI B)), (0, .ref r0), (1, .int (nI jw))] [.int (nI (pcn (SPT (n, m, sh, 0, ki, op, fa, K, G, T) p h))), .int (nI y)] [(r0, .inr (5, [.int (nI n), .ref k1, .ref k2, .ref k3, .ref k4, .int (nI m), .ref k6, .ref k7, .ref k8, .int (nI 0), .ref k10, .int (nI 0), .ref k12, .ref k13, .ref k14, .ref k15, .ref k16, .int (nI ls), .int (nI ap), .int (bz bd), .int (nI sq), .ref k21, .ref k22, .ref k23, .ref k24, .ref k25, .int (bz pd), .int (nI pl), .int (bz tk), kv, .ref k30, .ref k31, .int (nI tz), .ref k33, .int (nI rs), .int sd])), (k1, .inl (cI, 7, .inl (nIf ki))), (k2, .inl (cI, 7, .inl (nIf op))), (k3, .inl (cI, 7, .inl (nIf (shF sh)))), (k4, .inl (cI, 7, .inl (nIf fa))), (k6, .inl (cI, 6, .inl (nIf K))), (k7, .inl (cI, 6, .inl (nIf G))), (k8, .inl (cI, 6, .inl (nIf T))), (k12, .inl (cI, 7, .inl (nIf kw1_15))), (k13, .inl (cI, 175, .inl (nIf kn1_16))), (k14, .inl (cI, 144, .inl (mIf M1_17))), (k15, .inl (cI, 7, .inl (nIf mw1_18))), (k10, .inl (cI, 7, .inl (nIf R)))]
            have hc9 : pcn (SPT (n, m, sh, 0, ki, op, fa, K, G, T) p h) ≤ m := pcn_k m _ (mkn_lt _ _)
            refine v_iadd (v := (nI (y + (pcn (SPT (n, m, sh, 0, ki, op, fa, K, G, T) p h))))) 70 zC dX5_loudest_69 (nI_add _ _) ?_
            refine v_is (lv2 := [(5, .int (nI (y + (pcn (SPT (n, m, sh, 0, ki, op, fa, K, G, T) p h))))), (6, .int (nI h)), (4, .int (nI p)), (3, .int (nI x)), (2, .int (mI B)), (0, .ref r0), (1, .int (nI jw))]) 72 zC dX5_loudest_70 (by rw [hnE]; decide) rfl ?_
            refine v_inc (v := (nI (h + 1))) (lv2 := [(6, .int (nI (h + 1))), (5, .int (nI (y + (pcn (SPT (n, m, sh, 0, ki, op, fa, K, G, T) p h))))), (4, .int (nI p)), (3, .int (nI x)), (2, .int (mI B)), (0, .ref r0), (1, .int (nI jw))]) 75 zC dX5_loudest_72 (j := 1) rfl (nI_add _ 1) (by rw [hnE]; decide) rfl ?_
            refine v_goto 49 zC dX5_loudest_75 ?_
            refine v_lvs (lv2 := [(6, .int (nI (h + 1))), (5, .int (nI (y + (pcn (SPT (n, m, sh, 0, ki, op, fa, K, G, T) p h))))), (4, .int (nI p)), (3, .int (nI x)), (2, .int (mI B)), (0, .ref r0), (1, .int (nI jw))]) [0, 1, 2, 3, 4, 5, 6] rfl ?_
            exact ih49 _ (by omega) (y + (pcn (SPT (n, m, sh, 0, ki, op, fa, K, G, T) p h))) (h + 1) (by rw [hy]; rfl) (by first | omega | assumption | rfl | (simp only []; omega) | decide) (by first | omega | assumption | rfl | (simp only []; omega) | decide) rfl
        refine v_lvs (lv2 := [(6, .int (nI 0)), (5, .int (nI 0)), (4, .int (nI p)), (3, .int (nI x)), (2, .int (mI B)), (0, .ref r0), (1, .int (nI jw))]) [0, 1, 2, 3, 4, 5, 6] rfl ?_
        exact lp49 _ 0 0 rfl (by first | omega | assumption | rfl | (simp only []; omega) | decide) (by first | omega | assumption | rfl | (simp only []; omega) | decide) rfl
    refine v_lvs (lv2 := [(4, .int (nI 0)), (3, .int (nI 0)), (2, .int (mI none)), (0, .ref r0), (1, .int (nI jw))]) [0, 1, 2, 3, 4] rfl ?_
    exact lp34 _ none 0 0 rfl (by first | omega | assumption | rfl | (simp only []; omega) | decide) (by first | omega | assumption | rfl | (simp only []; omega) | decide) rfl
set_option maxRecDepth 100000 in
set_option maxHeartbeats 4000000 in
theorem c_X5_half (l : Launch) (D : va_G) (cI : ClassId) (r0 k1 k2 k3 k4 k6 k7 k8 k10 k12 k13 k14 k15 k16 k21 k22 k23 k24 k25 k30 k31 k33 : Nat) (n m ls ap sq pl tz rs : Nat) (bd pd tk : Bool) (kv : Value) (sd : Int32) (ki op fa K G T : Nat → Nat) (sh : Nat) (kw kn : Nat → Nat) (M : Nat → Option Nat) (mw : Nat → Nat) (hw : FW n m sh ki op fa K G T) (hkw : ∀ z, kw z < 1024) (hkn : ∀ z, kn z < 1024) (hM : ∀ z v, M z = some v → v < 7) : CT l yX5_half cX5_half 3 (some .int) { frames := 7, cells := 0, slots := 0, locals := 158 } D cI [.ref r0] [(r0, .inr (5, [.int (nI n), .ref k1, .ref k2, .ref k3, .ref k4, .int (nI m), .ref k6, .ref k7, .ref k8, .int (nI 0), .ref k10, .int (nI 0), .ref k12, .ref k13, .ref k14, .ref k15, .ref k16, .int (nI ls), .int (nI ap), .int (bz bd), .int (nI sq), .ref k21, .ref k22, .ref k23, .ref k24, .ref k25, .int (bz pd), .int (nI pl), .int (bz tk), kv, .ref k30, .ref k31, .int (nI tz), .ref k33, .int (nI rs), .int sd])), (k1, .inl (cI, 7, .inl (nIf ki))), (k2, .inl (cI, 7, .inl (nIf op))), (k3, .inl (cI, 7, .inl (nIf (shF sh)))), (k4, .inl (cI, 7, .inl (nIf fa))), (k6, .inl (cI, 6, .inl (nIf K))), (k7, .inl (cI, 6, .inl (nIf G))), (k8, .inl (cI, 6, .inl (nIf T))), (k12, .inl (cI, 7, .inl (nIf kw))), (k13, .inl (cI, 175, .inl (nIf kn))), (k14, .inl (cI, 144, .inl (mIf M))), (k15, .inl (cI, 7, .inl (nIf mw)))] (fun zr zw => (∃ kw1 : Nat → Nat, ∃ kn1 : Nat → Nat, ∃ M1 : Nat → Option Nat, ∃ mw1 : Nat → Nat, (∀ z, kw1 z < 1024) ∧ (∀ z, kn1 z < 1024) ∧ (∀ z v, M1 z = some v → v < 7) ∧ zr = some (.int (nI (HALF (n, m, sh, 0, ki, op, fa, K, G, T)))) ∧ zw = [(r0, .inr (5, [.int (nI n), .ref k1, .ref k2, .ref k3, .ref k4, .int (nI m), .ref k6, .ref k7, .ref k8, .int (nI 0), .ref k10, .int (nI 0), .ref k12, .ref k13, .ref k14, .ref k15, .ref k16, .int (nI ls), .int (nI ap), .int (bz bd), .int (nI sq), .ref k21, .ref k22, .ref k23, .ref k24, .ref k25, .int (bz pd), .int (nI pl), .int (bz tk), kv, .ref k30, .ref k31, .int (nI tz), .ref k33, .int (nI rs), .int sd])), (k1, .inl (cI, 7, .inl (nIf ki))), (k2, .inl (cI, 7, .inl (nIf op))), (k3, .inl (cI, 7, .inl (nIf (shF sh)))), (k4, .inl (cI, 7, .inl (nIf fa))), (k6, .inl (cI, 6, .inl (nIf K))), (k7, .inl (cI, 6, .inl (nIf G))), (k8, .inl (cI, 6, .inl (nIf T))), (k12, .inl (cI, 7, .inl (nIf kw1))), (k13, .inl (cI, 175, .inl (nIf kn1))), (k14, .inl (cI, 144, .inl (mIf M1))), (k15, .inl (cI, 7, .inl (nIf mw1)))])) := by
  refine CT_of RX5 rfl (by decide +kernel) (Nat.le_of_ble_eq_true rfl) (fun E hnE zC zT => ?_)
  have hA : ∀ q, (ev_s E).heap.size ≤ q → ev_A E q := fun q h => by rw [zT.2]; exact Or.inr h
  obtain ⟨hn, hm, hsh, hki, hop, hfa, hK, hG, hT, vki, vop, vfa, vK, vG, vT⟩ := id hw
  show VV E 0 0 0 [(0, .ref r0)] [] [(r0, .inr (5, [.int (nI n), .ref k1, .ref k2, .ref k3, .ref k4, .int (nI m), .ref k6, .ref k7, .ref k8, .int (nI 0), .ref k10, .int (nI 0), .ref k12, .ref k13, .ref k14, .ref k15, .ref k16, .int (nI ls), .int (nI ap), .int (bz bd), .int (nI sq), .ref k21, .ref k22, .ref k23, .ref k24, .ref k25, .int (bz pd), .int (nI pl), .int (bz tk), kv, .ref k30, .ref k31, .int (nI tz), .ref k33, .int (nI rs), .int sd])), (k1, .inl (cI, 7, .inl (nIf ki))), (k2, .inl (cI, 7, .inl (nIf op))), (k3, .inl (cI, 7, .inl (nIf (shF sh)))), (k4, .inl (cI, 7, .inl (nIf fa))), (k6, .inl (cI, 6, .inl (nIf K))), (k7, .inl (cI, 6, .inl (nIf G))), (k8, .inl (cI, 6, .inl (nIf T))), (k12, .inl (cI, 7, .inl (nIf kw))), (k13, .inl (cI, 175, .inl (nIf kn))), (k14, .inl (cI, 144, .inl (mIf M))), (k15, .inl (cI, 7, .inl (nIf mw)))]
  refine v_al_n 1 zC dX5_half_0 0 rfl ?_
  refine v_ic (v := (nI 0)) 2 zC dX5_half_1 (by decide +kernel) ?_
  refine v_pf (ws2 := [(r0, .inr (5, [.int (nI n), .ref k1, .ref k2, .ref k3, .ref k4, .int (nI m), .ref k6, .ref k7, .ref k8, .int (nI 0), .ref k10, .int (nI 0), .ref k12, .ref k13, .ref k14, .ref k15, .ref k16, .int (nI ls), .int (nI ap), .int (bz bd), .int (nI sq), .ref k21, .ref k22, .ref k23, .ref k24, .ref k25, .int (bz pd), .int (nI pl), .int (bz tk), kv, .ref k30, .ref k31, .int (nI tz), .ref k33, .int (nI rs), .int sd])), (k1, .inl (cI, 7, .inl (nIf ki))), (k2, .inl (cI, 7, .inl (nIf op))), (k3, .inl (cI, 7, .inl (nIf (shF sh)))), (k4, .inl (cI, 7, .inl (nIf fa))), (k6, .inl (cI, 6, .inl (nIf K))), (k7, .inl (cI, 6, .inl (nIf G))), (k8, .inl (cI, 6, .inl (nIf T))), (k12, .inl (cI, 7, .inl (nIf kw))), (k13, .inl (cI, 175, .inl (nIf kn))), (k14, .inl (cI, 144, .inl (mIf M))), (k15, .inl (cI, 7, .inl (nIf mw)))]) 5 0 zC dX5_half_2 pf_X5_73 rfl (Nat.le_of_ble_eq_true rfl) rfl rfl rfl ?_
  refine v_al_n 6 zC dX5_half_5 0 rfl ?_
  refine v_cV (As := []) (st := []) 9 0 [0, 1, 2, 3, 4, 5, 6, 7, 8, 9, 10, 11] zC dX5_half_6 hA (c_X5_allNow (ev_l E) (ev_D E) cI (r0 := r0) (k1 := k1) (k2 := k2) (k3 := k3) (k4 := k4) (k6 := k6) (k7 := k7) (k8 := k8) (k10 := k10) (k12 := k12) (k13 := k13) (k14 := k14) (k15 := k15) (k16 := k16) (k21 := k21) (k22 := k22) (k23 := k23) (k24 := k24) (k25 := k25) (k30 := k30) (k31 := k31) (k33 := k33) (n := n) (m := m) (aw := 0) (ls := ls) (ap := ap) (sq := sq) (pl := pl) (tz := tz) (rs := rs) (bd := bd) (pd := pd) (tk := tk) (kv := kv) (sd := sd) (ki := ki) (op := op) (fa := fa) (K := K) (G := G) (T := T) (sh := sh) (kw := kw) (kn := kn) (M := M) (mw := mw) (hw := (by first | omega | assumption | rfl | (simp only []; omega) | decide)) (hkw := (by first | omega | assumption | rfl | (simp only []; omega) | decide)) (hkn := (by first | omega | assumption | rfl | (simp only []; omega) | decide)) (hM := (by first | omega | assumption | rfl | (simp only []; omega) | decide))) cf_X5_allNow lk_X5_245 rfl rfl rfl rfl rfl (by decide +kernel) (Nat.le_of_ble_eq_true rfl) (fun rv_1 wv_2 hp_3 hm_4 => ?_)
  clear hm_4
  obtain ⟨kw1_5, kn1_6, M1_7, mw1_8, hR_9, hl_10, rfl, rfl⟩ := hp_3
  show VV E 0 0 9 [(0, .ref r0)] [.int (nI (ALL (n, m, sh, 0, ki, op, fa, K, G, T)))] [(r0, .inr (5, [.int (nI n), .ref k1, .ref k2, .ref k3, .ref k4, .int (nI m), .ref k6, .ref k7, .ref k8, .int (nI 0), .ref k10, .int (nI 0), .ref k12, .ref k13, .ref k14, .ref k15, .ref k16, .int (nI ls), .int (nI ap), .int (bz bd), .int (nI sq), .ref k21, .ref k22, .ref k23, .ref k24, .ref k25, .int (bz pd), .int (nI pl), .int (bz tk), kv, .ref k30, .ref k31, .int (nI tz), .ref k33, .int (nI rs), .int sd])), (k1, .inl (cI, 7, .inl (nIf ki))), (k2, .inl (cI, 7, .inl (nIf op))), (k3, .inl (cI, 7, .inl (nIf (shF sh)))), (k4, .inl (cI, 7, .inl (nIf fa))), (k6, .inl (cI, 6, .inl (nIf K))), (k7, .inl (cI, 6, .inl (nIf G))), (k8, .inl (cI, 6, .inl (nIf T))), (k12, .inl (cI, 7, .inl (nIf kw1_5))), (k13, .inl (cI, 175, .inl (nIf kn1_6))), (k14, .inl (cI, 144, .inl (mIf M1_7))), (k15, .inl (cI, 7, .inl (nIf mw1_8)))]
  have hR9 := hR_9
  have hl9 := hl_10
  refine v_is_n (lv2 := [(1, .int (nI (ALL (n, m, sh, 0, ki, op, fa, K, G, T)))), (0, .ref r0)]) 10 zC dX5_half_9 (by rw [hnE]; decide) rfl ?_
  refine v_ic (v := (nI 0)) 11 zC dX5_half_10 (by decide +kernel) ?_
  refine v_is_n (lv2 := [(2, .int (nI 0)), (1, .int (nI (ALL (n, m, sh, 0, ki, op, fa, K, G, T)))), (0, .ref r0)]) 12 zC dX5_half_11 (by rw [hnE]; decide) rfl ?_
  have lp12 : ∀ (mz : Nat) (h : Nat), (h ≤ 24) → (fs (fun h => decide (ALL (n, m, sh, 0, ki, op, fa, K, G, T) ≤ 2 * KBH (n, m, sh, 0, ki, op, fa, K, G, T) h)) h = none) → 25 - h = mz → VV E 0 0 12 [(2, .int (nI h)), (1, .int (nI (ALL (n, m, sh, 0, ki, op, fa, K, G, T)))), (0, .ref r0)] [] [(r0, .inr (5, [.int (nI n), .ref k1, .ref k2, .ref k3, .ref k4, .int (nI m), .ref k6, .ref k7, .ref k8, .int (nI 0), .ref k10, .int (nI 0), .ref k12, .ref k13, .ref k14, .ref k15, .ref k16, .int (nI ls), .int (nI ap), .int (bz bd), .int (nI sq), .ref k21, .ref k22, .ref k23, .ref k24, .ref k25, .int (bz pd), .int (nI pl), .int (bz tk), kv, .ref k30, .ref k31, .int (nI tz), .ref k33, .int (nI rs), .int sd])), (k1, .inl (cI, 7, .inl (nIf ki))), (k2, .inl (cI, 7, .inl (nIf op))), (k3, .inl (cI, 7, .inl (nIf (shF sh)))), (k4, .inl (cI, 7, .inl (nIf fa))), (k6, .inl (cI, 6, .inl (nIf K))), (k7, .inl (cI, 6, .inl (nIf G))), (k8, .inl (cI, 6, .inl (nIf T))), (k12, .inl (cI, 7, .inl (nIf kw1_5))), (k13, .inl (cI, 175, .inl (nIf kn1_6))), (k14, .inl (cI, 144, .inl (mIf M1_7))), (k15, .inl (cI, 7, .inl (nIf mw1_8)))] := by
    intro mz
    induction mz using Nat.strongRecOn with
    | _ mz ih12 =>
    intro h hh hq hm12
    refine v_ic (v := (nI 2)) 13 zC dX5_half_12 (by decide +kernel) ?_
    refine v_al_n 14 zC dX5_half_13 2 rfl ?_
    refine v_il_n 15 zC dX5_half_14 0 rfl ?_
    refine v_cV (As := [.int (nI h)]) (st := [.int (nI 2)]) 18 0 [0, 9] zC dX5_half_15 hA (c_X5_knownBehind (ev_l E) (ev_D E) cI (r0 := r0) (k1 := k1) (k2 := k2) (k3 := k3) (k4 := k4) (k6 := k6) (k7 := k7) (k8 := k8) (k10 := k10) (k12 := k12) (k13 := k13) (k14 := k14) (k15 := k15) (k16 := k16) (k21 := k21) (k22 := k22) (k23 := k23) (k24 := k24) (k25 := k25) (k30 := k30) (k31 := k31) (k33 := k33) (n := n) (m := m) (aw := 0) (ls := ls) (ap := ap) (sq := sq) (pl := pl) (tz := tz) (rs := rs) (bd := bd) (pd := pd) (tk := tk) (kv := kv) (sd := sd) (ki := ki) (op := op) (fa := fa) (K := K) (G := G) (T := T) (sh := sh) (kw := kw1_5) (kn := kn1_6) (M := M1_7) (j := h) (hn := (by first | omega | assumption | rfl | (simp only []; omega) | decide)) (hm := (by first | omega | assumption | rfl | (simp only []; omega) | decide)) (hR := hR9) (hj := (by first | omega | assumption | rfl | (simp only []; omega) | decide))) cf_X5_knownBehind lk_X5_126 rfl rfl rfl rfl rfl (by decide +kernel) (Nat.le_of_ble_eq_true rfl) (fun rv_11 wv_12 hp_13 hm_14 => ?_)
    clear hm_14
    obtain ⟨rfl, rfl⟩ := hp_13
    show VV E 0 0 18 [(2, .int (nI h)), (1, .int (nI (ALL (n, m, sh, 0, ki, op, fa, K, G, T)))), (0, .ref r0)] [.int (nI (KBH (n, m, sh, 0, ki, op, fa, K, G, T) h)), .int (nI 2)] [(r0, .inr (5, [.int (nI n), .ref k1, .ref k2, .ref k3, .ref k4, .int (nI m), .ref k6, .ref k7, .ref k8, .int (nI 0), .ref k10, .int (nI 0), .ref k12, .ref k13, .ref k14, .ref k15, .ref k16, .int (nI ls), .int (nI ap), .int (bz bd), .int (nI sq), .ref k21, .ref k22, .ref k23, .ref k24, .ref k25, .int (bz pd), .int (nI pl), .int (bz tk), kv, .ref k30, .ref k31, .int (nI tz), .ref k33, .int (nI rs), .int sd])), (k1, .inl (cI, 7, .inl (nIf ki))), (k2, .inl (cI, 7, .inl (nIf op))), (k3, .inl (cI, 7, .inl (nIf (shF sh)))), (k4, .inl (cI, 7, .inl (nIf fa))), (k6, .inl (cI, 6, .inl (nIf K))), (k7, .inl (cI, 6, .inl (nIf G))), (k8, .inl (cI, 6, .inl (nIf T))), (k12, .inl (cI, 7, .inl (nIf kw1_5))), (k13, .inl (cI, 175, .inl (nIf kn1_6))), (k14, .inl (cI, 144, .inl (mIf M1_7))), (k15, .inl (cI, 7, .inl (nIf mw1_8)))]
    have hk9 : KBH (n, m, sh, 0, ki, op, fa, K, G, T) h ≤ 70 := kbh_le hR9 hn hh
    refine v_imul (v := (nI (2 * (KBH (n, m, sh, 0, ki, op, fa, K, G, T) h)))) 19 zC dX5_half_18 (pk_mul _ _) ?_
    refine v_il_n 20 zC dX5_half_19 1 rfl ?_
    refine v_icmpn_ge 29 23 zC dX5_half_20 (fun h_15 => ?_) (fun h_15 => ?_)
    ·
      have hv9 := h_15
      refine v_il_n 30 zC dX5_half_29 0 rfl ?_
      refine v_iret zC zT dX5_half_30  ?_
      rcases Nat.lt_or_ge h 24 with c9 | c9
      · exact ⟨_, _, _, _, hR9.2.2.2.1, hR9.2.2.2.2.1, hR9.2.2.2.2.2, sn (hf_f hq c9 (by omega)).symm, rfl⟩
      · exact ⟨_, _, _, _, hR9.2.2.2.1, hR9.2.2.2.2.1, hR9.2.2.2.2.2, sn ((hf_e hq hh c9).trans (by omega)).symm, rfl⟩
    ·
      have hu9 := h_15
      refine v_inc (v := (nI (h + 1))) (lv2 := [(2, .int (nI (h + 1))), (1, .int (nI (ALL (n, m, sh, 0, ki, op, fa, K, G, T)))), (0, .ref r0)]) 26 zC dX5_half_23 (j := 0) rfl (nI_add _ 1) (by rw [hnE]; decide) rfl ?_
      refine v_goto 12 zC dX5_half_26 ?_
      refine v_lvs (lv2 := [(2, .int (nI (h + 1))), (1, .int (nI (ALL (n, m, sh, 0, ki, op, fa, K, G, T)))), (0, .ref r0)]) [0, 1, 2] rfl ?_
      exact ih12 _ (by omega) (h + 1) (by rcases Nat.lt_or_ge h 24 with c9 | c9; (· omega); (· have e9 : h = 24 := (by omega); subst e9; have e8 : KBH (n, m, sh, 0, ki, op, fa, K, G, T) 24 = ALL (n, m, sh, 0, ki, op, fa, K, G, T) := rfl; omega)) (fs_0 hq (decide_eq_false (by omega))) rfl
  refine v_lvs (lv2 := [(2, .int (nI 0)), (1, .int (nI (ALL (n, m, sh, 0, ki, op, fa, K, G, T)))), (0, .ref r0)]) [0, 1, 2] rfl ?_
  exact lp12 _ 0 (by first | omega | assumption | rfl | (simp only []; omega) | decide) rfl rfl
set_option maxRecDepth 100000 in
set_option maxHeartbeats 4000000 in
theorem c_X5_twin (l : Launch) (D : va_G) (cI : ClassId) (r0 k1 k2 k3 k4 k6 k7 k8 k10 k12 k13 k14 k15 k16 k21 k22 k23 k24 k25 k30 k31 k33 : Nat) (n m ls ap sq pl tz rs : Nat) (bd pd tk : Bool) (kv : Value) (sd : Int32) (ki op fa K G T : Nat → Nat) (sh : Nat) (kw kn : Nat → Nat) (M : Nat → Option Nat) (mw : Nat → Nat) (hw : FW n m sh ki op fa K G T) (hkw : ∀ z, kw z < 1024) (hkn : ∀ z, kn z < 1024) (hM : ∀ z v, M z = some v → v < 7) : CT l yX5_twin cX5_twin 7 (some .int) { frames := 6, cells := 0, slots := 0, locals := 138 } D cI [.ref r0] [(r0, .inr (5, [.int (nI n), .ref k1, .ref k2, .ref k3, .ref k4, .int (nI m), .ref k6, .ref k7, .ref k8, .int (nI 0), .ref k10, .int (nI 0), .ref k12, .ref k13, .ref k14, .ref k15, .ref k16, .int (nI ls), .int (nI ap), .int (bz bd), .int (nI sq), .ref k21, .ref k22, .ref k23, .ref k24, .ref k25, .int (bz pd), .int (nI pl), .int (bz tk), kv, .ref k30, .ref k31, .int (nI tz), .ref k33, .int (nI rs), .int sd])), (k1, .inl (cI, 7, .inl (nIf ki))), (k2, .inl (cI, 7, .inl (nIf op))), (k3, .inl (cI, 7, .inl (nIf (shF sh)))), (k4, .inl (cI, 7, .inl (nIf fa))), (k6, .inl (cI, 6, .inl (nIf K))), (k7, .inl (cI, 6, .inl (nIf G))), (k8, .inl (cI, 6, .inl (nIf T))), (k12, .inl (cI, 7, .inl (nIf kw))), (k13, .inl (cI, 175, .inl (nIf kn))), (k14, .inl (cI, 144, .inl (mIf M))), (k15, .inl (cI, 7, .inl (nIf mw)))] (fun zr zw => (∃ kw1 : Nat → Nat, ∃ kn1 : Nat → Nat, ∃ M1 : Nat → Option Nat, ∃ mw1 : Nat → Nat, (∀ z, kw1 z < 1024) ∧ (∀ z, kn1 z < 1024) ∧ (∀ z v, M1 z = some v → v < 7) ∧ zr = some (.int (mI ((TWIN (n, m, sh, 0, ki, op, fa, K, G, T)).1))) ∧ zw = [(r0, .inr (5, [.int (nI n), .ref k1, .ref k2, .ref k3, .ref k4, .int (nI m), .ref k6, .ref k7, .ref k8, .int (nI 0), .ref k10, .int (nI 0), .ref k12, .ref k13, .ref k14, .ref k15, .ref k16, .int (nI ls), .int (nI ap), .int (bz bd), .int (nI sq), .ref k21, .ref k22, .ref k23, .ref k24, .ref k25, .int (bz pd), .int (nI pl), .int (bz tk), kv, .ref k30, .ref k31, .int (nI tz), .ref k33, .int (nI rs), .int sd])), (k1, .inl (cI, 7, .inl (nIf ki))), (k2, .inl (cI, 7, .inl (nIf op))), (k3, .inl (cI, 7, .inl (nIf (shF sh)))), (k4, .inl (cI, 7, .inl (nIf fa))), (k6, .inl (cI, 6, .inl (nIf K))), (k7, .inl (cI, 6, .inl (nIf G))), (k8, .inl (cI, 6, .inl (nIf T))), (k12, .inl (cI, 7, .inl (nIf kw1))), (k13, .inl (cI, 175, .inl (nIf kn1))), (k14, .inl (cI, 144, .inl (mIf M1))), (k15, .inl (cI, 7, .inl (nIf mw1)))])) := by
  refine CT_of RX5 rfl (by decide +kernel) (Nat.le_of_ble_eq_true rfl) (fun E hnE zC zT => ?_)
  have hA : ∀ q, (ev_s E).heap.size ≤ q → ev_A E q := fun q h => by rw [zT.2]; exact Or.inr h
  obtain ⟨hn, hm, hsh, hki, hop, hfa, hK, hG, hT, vki, vop, vfa, vK, vG, vT⟩ := id hw
  show VV E 0 0 0 [(0, .ref r0)] [] [(r0, .inr (5, [.int (nI n), .ref k1, .ref k2, .ref k3, .ref k4, .int (nI m), .ref k6, .ref k7, .ref k8, .int (nI 0), .ref k10, .int (nI 0), .ref k12, .ref k13, .ref k14, .ref k15, .ref k16, .int (nI ls), .int (nI ap), .int (bz bd), .int (nI sq), .ref k21, .ref k22, .ref k23, .ref k24, .ref k25, .int (bz pd), .int (nI pl), .int (bz tk), kv, .ref k30, .ref k31, .int (nI tz), .ref k33, .int (nI rs), .int sd])), (k1, .inl (cI, 7, .inl (nIf ki))), (k2, .inl (cI, 7, .inl (nIf op))), (k3, .inl (cI, 7, .inl (nIf (shF sh)))), (k4, .inl (cI, 7, .inl (nIf fa))), (k6, .inl (cI, 6, .inl (nIf K))), (k7, .inl (cI, 6, .inl (nIf G))), (k8, .inl (cI, 6, .inl (nIf T))), (k12, .inl (cI, 7, .inl (nIf kw))), (k13, .inl (cI, 175, .inl (nIf kn))), (k14, .inl (cI, 144, .inl (mIf M))), (k15, .inl (cI, 7, .inl (nIf mw)))]
  refine v_al_n 1 zC dX5_twin_0 0 rfl ?_
  refine v_ic (v := (nI 0)) 2 zC dX5_twin_1 (by decide +kernel) ?_
  refine v_pf (ws2 := [(r0, .inr (5, [.int (nI n), .ref k1, .ref k2, .ref k3, .ref k4, .int (nI m), .ref k6, .ref k7, .ref k8, .int (nI 0), .ref k10, .int (nI 0), .ref k12, .ref k13, .ref k14, .ref k15, .ref k16, .int (nI ls), .int (nI ap), .int (bz bd), .int (nI sq), .ref k21, .ref k22, .ref k23, .ref k24, .ref k25, .int (bz pd), .int (nI pl), .int (bz tk), kv, .ref k30, .ref k31, .int (nI tz), .ref k33, .int (nI rs), .int sd])), (k1, .inl (cI, 7, .inl (nIf ki))), (k2, .inl (cI, 7, .inl (nIf op))), (k3, .inl (cI, 7, .inl (nIf (shF sh)))), (k4, .inl (cI, 7, .inl (nIf fa))), (k6, .inl (cI, 6, .inl (nIf K))), (k7, .inl (cI, 6, .inl (nIf G))), (k8, .inl (cI, 6, .inl (nIf T))), (k12, .inl (cI, 7, .inl (nIf kw))), (k13, .inl (cI, 175, .inl (nIf kn))), (k14, .inl (cI, 144, .inl (mIf M))), (k15, .inl (cI, 7, .inl (nIf mw)))]) 5 0 zC dX5_twin_2 pf_X5_73 rfl (Nat.le_of_ble_eq_true rfl) rfl rfl rfl ?_
  refine v_al_n 6 zC dX5_twin_5 0 rfl ?_
  refine v_cV (As := []) (st := []) 9 0 [0, 1, 2, 3, 4, 5, 6, 7, 8, 9, 10, 11] zC dX5_twin_6 hA (c_X5_day (ev_l E) (ev_D E) cI (r0 := r0) (k1 := k1) (k2 := k2) (k3 := k3) (k4 := k4) (k6 := k6) (k7 := k7) (k8 := k8) (k10 := k10) (k12 := k12) (k13 := k13) (k14 := k14) (k15 := k15) (k16 := k16) (k21 := k21) (k22 := k22) (k23 := k23) (k24 := k24) (k25 := k25) (k30 := k30) (k31 := k31) (k33 := k33) (n := n) (m := m) (aw := 0) (ls := ls) (ap := ap) (sq := sq) (pl := pl) (tz := tz) (rs := rs) (bd := bd) (pd := pd) (tk := tk) (kv := kv) (sd := sd) (ki := ki) (op := op) (fa := fa) (K := K) (G := G) (T := T) (sh := sh) (kw := kw) (kn := kn) (M := M) (mw := mw) (hw := (by first | omega | assumption | rfl | (simp only []; omega) | decide)) (hkw := (by first | omega | assumption | rfl | (simp only []; omega) | decide)) (hkn := (by first | omega | assumption | rfl | (simp only []; omega) | decide)) (hM := (by first | omega | assumption | rfl | (simp only []; omega) | decide))) cf_X5_day lk_X5_123 rfl rfl rfl rfl rfl (by decide +kernel) (Nat.le_of_ble_eq_true rfl) (fun rv_1 wv_2 hp_3 hm_4 => ?_)
  clear hm_4
  obtain ⟨kw1_5, kn1_6, M1_7, mw1_8, hR_9, rfl, rfl⟩ := hp_3
  show VV E 0 0 9 [(0, .ref r0)] [] [(r0, .inr (5, [.int (nI n), .ref k1, .ref k2, .ref k3, .ref k4, .int (nI m), .ref k6, .ref k7, .ref k8, .int (nI 0), .ref k10, .int (nI 0), .ref k12, .ref k13, .ref k14, .ref k15, .ref k16, .int (nI ls), .int (nI ap), .int (bz bd), .int (nI sq), .ref k21, .ref k22, .ref k23, .ref k24, .ref k25, .int (bz pd), .int (nI pl), .int (bz tk), kv, .ref k30, .ref k31, .int (nI tz), .ref k33, .int (nI rs), .int sd])), (k1, .inl (cI, 7, .inl (nIf ki))), (k2, .inl (cI, 7, .inl (nIf op))), (k3, .inl (cI, 7, .inl (nIf (shF sh)))), (k4, .inl (cI, 7, .inl (nIf fa))), (k6, .inl (cI, 6, .inl (nIf K))), (k7, .inl (cI, 6, .inl (nIf G))), (k8, .inl (cI, 6, .inl (nIf T))), (k12, .inl (cI, 7, .inl (nIf kw1_5))), (k13, .inl (cI, 175, .inl (nIf kn1_6))), (k14, .inl (cI, 144, .inl (mIf M1_7))), (k15, .inl (cI, 7, .inl (nIf mw1_8)))]
  have hR9 := hR_9
  refine v_bp (v := (-9)) 11 zC dX5_twin_9 (by decide +kernel) ?_
  refine v_is_n (lv2 := [(1, .int (-9)), (0, .ref r0)]) 12 zC dX5_twin_11 (by rw [hnE]; decide) rfl ?_
  refine v_ic (v := (nI 0)) 13 zC dX5_twin_12 (by decide +kernel) ?_
  refine v_is_n (lv2 := [(2, .int (nI 0)), (1, .int (-9)), (0, .ref r0)]) 14 zC dX5_twin_13 (by rw [hnE]; decide) rfl ?_
  refine v_ic (v := (nI 0)) 15 zC dX5_twin_14 (by decide +kernel) ?_
  refine v_is_n (lv2 := [(3, .int (nI 0)), (2, .int (nI 0)), (1, .int (-9)), (0, .ref r0)]) 16 zC dX5_twin_15 (by rw [hnE]; decide) rfl ?_
  have lp16 : ∀ (mz : Nat) (B : Option Nat) (x : Nat) (a : Nat), ((B, x) = it (fun a x => it (twiS (n, m, sh, 0, ki, op, fa, K, G, T) a) x (g_m (n, m, sh, 0, ki, op, fa, K, G, T) - (a + 1))) (none, 0) a) → (a ≤ m) → (x ≤ 24) → m - a = mz → VV E 0 0 16 [(3, .int (nI a)), (2, .int (nI x)), (1, .int (mI B)), (0, .ref r0)] [] [(r0, .inr (5, [.int (nI n), .ref k1, .ref k2, .ref k3, .ref k4, .int (nI m), .ref k6, .ref k7, .ref k8, .int (nI 0), .ref k10, .int (nI 0), .ref k12, .ref k13, .ref k14, .ref k15, .ref k16, .int (nI ls), .int (nI ap), .int (bz bd), .int (nI sq), .ref k21, .ref k22, .ref k23, .ref k24, .ref k25, .int (bz pd), .int (nI pl), .int (bz tk), kv, .ref k30, .ref k31, .int (nI tz), .ref k33, .int (nI rs), .int sd])), (k1, .inl (cI, 7, .inl (nIf ki))), (k2, .inl (cI, 7, .inl (nIf op))), (k3, .inl (cI, 7, .inl (nIf (shF sh)))), (k4, .inl (cI, 7, .inl (nIf fa))), (k6, .inl (cI, 6, .inl (nIf K))), (k7, .inl (cI, 6, .inl (nIf G))), (k8, .inl (cI, 6, .inl (nIf T))), (k12, .inl (cI, 7, .inl (nIf kw1_5))), (k13, .inl (cI, 175, .inl (nIf kn1_6))), (k14, .inl (cI, 144, .inl (mIf M1_7))), (k15, .inl (cI, 7, .inl (nIf mw1_8)))] := by
    intro mz
    induction mz using Nat.strongRecOn with
    | _ mz ih16 =>
    intro B x a hs ha hx hm16
    refine v_il_n 17 zC dX5_twin_16 0 rfl ?_
    refine v_al_n 18 zC dX5_twin_17 3 rfl ?_
    refine v_gf 21 0 zC dX5_twin_18 gf_X5_84 rfl rfl ?_
    refine v_icmpn_ge 141 24 zC dX5_twin_21 (fun h_10 => ?_) (fun h_10 => ?_)
    ·
      refine v_il_n 142 zC dX5_twin_141 2 rfl ?_
      refine v_iret zC zT dX5_twin_142  ?_
      exact ⟨_, _, _, _, hR9.2.2.2.1, hR9.2.2.2.2.1, hR9.2.2.2.2.2, by have e9 : m = a := (by omega); subst e9; exact congrArg (fun z => some (Value.int (mI z.1))) hs, rfl⟩
    ·
      refine v_il_n 25 zC dX5_twin_24 0 rfl ?_
      refine v_ic (v := (nI 1)) 26 zC dX5_twin_25 (by decide +kernel) ?_
      refine v_iadd (v := (nI (a + 1))) 27 zC dX5_twin_26 (nI_add _ _) ?_
      refine v_is (lv2 := [(4, .int (nI (a + 1))), (3, .int (nI a)), (2, .int (nI x)), (1, .int (mI B)), (0, .ref r0)]) 29 zC dX5_twin_27 (by rw [hnE]; decide) rfl ?_
      have lp29 : ∀ (mz : Nat) (B2 : Option Nat) (x2 : Nat) (b : Nat), ((B2, x2) = it (twiS (n, m, sh, 0, ki, op, fa, K, G, T) a) (B, x) (b - (a + 1))) → (a + 1 ≤ b) → (b ≤ m) → (x2 ≤ 24) → m - b = mz → VV E 0 0 29 [(4, .int (nI b)), (3, .int (nI a)), (2, .int (nI x2)), (1, .int (mI B2)), (0, .ref r0)] [] [(r0, .inr (5, [.int (nI n), .ref k1, .ref k2, .ref k3, .ref k4, .int (nI m), .ref k6, .ref k7, .ref k8, .int (nI 0), .ref k10, .int (nI 0), .ref k12, .ref k13, .ref k14, .ref k15, .ref k16, .int (nI ls), .int (nI ap), .int (bz bd), .int (nI sq), .ref k21, .ref k22, .ref k23, .ref k24, .ref k25, .int (bz pd), .int (nI pl), .int (bz tk), kv, .ref k30, .ref k31, .int (nI tz), .ref k33, .int (nI rs), .int sd])), (k1, .inl (cI, 7, .inl (nIf ki))), (k2, .inl (cI, 7, .inl (nIf op))), (k3, .inl (cI, 7, .inl (nIf (shF sh)))), (k4, .inl (cI, 7, .inl (nIf fa))), (k6, .inl (cI, 6, .inl (nIf K))), (k7, .inl (cI, 6, .inl (nIf G))), (k8, .inl (cI, 6, .inl (nIf T))), (k12, .inl (cI, 7, .inl (nIf kw1_5))), (k13, .inl (cI, 175, .inl (nIf kn1_6))), (k14, .inl (cI, 144, .inl (mIf M1_7))), (k15, .inl (cI, 7, .inl (nIf mw1_8)))] := by
        intro mz
        induction mz using Nat.strongRecOn with
        | _ mz ih29 =>
        intro B2 x2 b hs2 hb1 hbm hx2 hm29
        refine v_il 31 zC dX5_twin_29 0 rfl ?_
        refine v_al_n 32 zC dX5_twin_31 4 rfl ?_
        refine v_gf 35 0 zC dX5_twin_32 gf_X5_84 rfl rfl ?_
        refine v_icmpn_ge 135 38 zC dX5_twin_35 (fun h_11 => ?_) (fun h_11 => ?_)
        ·
          refine v_inc (v := (nI (a + 1))) (lv2 := [(3, .int (nI (a + 1))), (4, .int (nI b)), (2, .int (nI x2)), (1, .int (mI B2)), (0, .ref r0)]) 138 zC dX5_twin_135 (j := 1) rfl (nI_add _ 1) (by rw [hnE]; decide) rfl ?_
          refine v_goto 16 zC dX5_twin_138 ?_
          refine v_lvs (lv2 := [(3, .int (nI (a + 1))), (2, .int (nI x2)), (1, .int (mI B2)), (0, .ref r0)]) [0, 2, 3, 4] rfl ?_
          exact ih16 _ (by omega) B2 x2 (a + 1) (it_s hs (by show it (twiS (n, m, sh, 0, ki, op, fa, K, G, T) a) (B, x) (g_m (n, m, sh, 0, ki, op, fa, K, G, T) - (a + 1)) = _; rw [show g_m (n, m, sh, 0, ki, op, fa, K, G, T) = b from (by show m = b; omega)]; exact hs2.symm)) (by first | omega | assumption | rfl | (simp only []; omega) | decide) (by first | omega | assumption | rfl | (simp only []; omega) | decide) rfl
        ·
          refine v_ic (v := (nI 0)) 39 zC dX5_twin_38 (by decide +kernel) ?_
          refine v_is (lv2 := [(5, .int (nI 0)), (4, .int (nI b)), (3, .int (nI a)), (2, .int (nI x2)), (1, .int (mI B2)), (0, .ref r0)]) 41 zC dX5_twin_39 (by rw [hnE]; decide) rfl ?_
          refine v_ic (v := (nI 0)) 42 zC dX5_twin_41 (by decide +kernel) ?_
          refine v_is (lv2 := [(6, .int (nI 0)), (5, .int (nI 0)), (4, .int (nI b)), (3, .int (nI a)), (2, .int (nI x2)), (1, .int (mI B2)), (0, .ref r0)]) 44 zC dX5_twin_42 (by rw [hnE]; decide) rfl ?_
          have lp44 : ∀ (mz : Nat) (y : Nat) (h : Nat), (y = ctn (fun h => (DM (n, m, sh, 0, ki, op, fa, K, G, T) h a).isSome && (DM (n, m, sh, 0, ki, op, fa, K, G, T) h b).isSome) h) → (h ≤ 24) → (y ≤ h) → 24 - h = mz → VV E 0 0 44 [(6, .int (nI h)), (5, .int (nI y)), (4, .int (nI b)), (3, .int (nI a)), (2, .int (nI x2)), (1, .int (mI B2)), (0, .ref r0)] [] [(r0, .inr (5, [.int (nI n), .ref k1, .ref k2, .ref k3, .ref k4, .int (nI m), .ref k6, .ref k7, .ref k8, .int (nI 0), .ref k10, .int (nI 0), .ref k12, .ref k13, .ref k14, .ref k15, .ref k16, .int (nI ls), .int (nI ap), .int (bz bd), .int (nI sq), .ref k21, .ref k22, .ref k23, .ref k24, .ref k25, .int (bz pd), .int (nI pl), .int (bz tk), kv, .ref k30, .ref k31, .int (nI tz), .ref k33, .int (nI rs), .int sd])), (k1, .inl (cI, 7, .inl (nIf ki))), (k2, .inl (cI, 7, .inl (nIf op))), (k3, .inl (cI, 7, .inl (nIf (shF sh)))), (k4, .inl (cI, 7, .inl (nIf fa))), (k6, .inl (cI, 6, .inl (nIf K))), (k7, .inl (cI, 6, .inl (nIf G))), (k8, .inl (cI, 6, .inl (nIf T))), (k12, .inl (cI, 7, .inl (nIf kw1_5))), (k13, .inl (cI, 175, .inl (nIf kn1_6))), (k14, .inl (cI, 144, .inl (mIf M1_7))), (k15, .inl (cI, 7, .inl (nIf mw1_8)))] := by
            intro mz
            induction mz using Nat.strongRecOn with
            | _ mz ih44 =>
            intro y h hy hh hyl hm44
            refine v_il 46 zC dX5_twin_44 0 rfl ?_
            refine v_bp (v := (nI 24)) 48 zC dX5_twin_46 (by decide +kernel) ?_
            refine v_icmpn_ge 98 51 zC dX5_twin_48 (fun h_12 => ?_) (fun h_12 => ?_)
            ·
              refine v_il 100 zC dX5_twin_98 1 rfl ?_
              refine v_il_n 101 zC dX5_twin_100 4 rfl ?_
              have hy8 : y = TOGE (n, m, sh, 0, ki, op, fa, K, G, T) a b := by rw [hy, show h = 24 by omega]; rfl
              refine v_icmpn_le 114 104 zC dX5_twin_101 (fun h_13 => ?_) (fun h_13 => ?_)
              ·
                have hv9 : TOGE (n, m, sh, 0, ki, op, fa, K, G, T) a b ≤ x2 := by rw [← hy8]; assumption
                refine v_il_n 115 zC dX5_twin_114 5 rfl ?_
                refine v_is_n (lv2 := [(1, .int (mI B2)), (6, .int (nI h)), (5, .int (nI y)), (4, .int (nI b)), (3, .int (nI a)), (2, .int (nI x2)), (0, .ref r0)]) 116 zC dX5_twin_115 (by rw [hnE]; decide) rfl ?_
                refine v_il 118 zC dX5_twin_116 2 rfl ?_
                refine v_il_n 119 zC dX5_twin_118 5 rfl ?_
                refine v_icmpn_le 127 122 zC dX5_twin_119 (fun h_14 => ?_) (fun h_14 => False.elim (by first | omega | exact bcon h_14 (by assumption) | exact bcon (by assumption) h_14))
                refine v_il_n 128 zC dX5_twin_127 5 rfl ?_
                refine v_is_n (lv2 := [(2, .int (nI x2)), (1, .int (mI B2)), (6, .int (nI h)), (5, .int (nI y)), (4, .int (nI b)), (3, .int (nI a)), (0, .ref r0)]) 129 zC dX5_twin_128 (by rw [hnE]; decide) rfl ?_
                refine v_inc (v := (nI (b + 1))) (lv2 := [(4, .int (nI (b + 1))), (2, .int (nI x2)), (1, .int (mI B2)), (6, .int (nI h)), (5, .int (nI y)), (3, .int (nI a)), (0, .ref r0)]) 132 zC dX5_twin_129 (j := 4) rfl (nI_add _ 1) (by rw [hnE]; decide) rfl ?_
                refine v_goto 29 zC dX5_twin_132 ?_
                refine v_lvs (lv2 := [(4, .int (nI (b + 1))), (3, .int (nI a)), (2, .int (nI x2)), (1, .int (mI B2)), (0, .ref r0)]) [0, 5, 1, 2, 6] rfl ?_
                exact ih29 _ (by omega) B2 x2 (b + 1) (it_r hs2 hb1 (by first | exact (twi_1 hb1 hu9).trans (by rw [← hy8]) | exact twi_0 hb1 hv9)) (by first | omega | assumption | rfl | (simp only []; omega) | decide) (by first | omega | assumption | rfl | (simp only []; omega) | decide) (by first | omega | assumption | rfl | (simp only []; omega) | decide) rfl
              ·
                have hu9 : x2 < TOGE (n, m, sh, 0, ki, op, fa, K, G, T) a b := by rw [← hy8]; assumption
                refine v_bp (v := (nI 10)) 106 zC dX5_twin_104 (by decide +kernel) ?_
                refine v_il_n 107 zC dX5_twin_106 3 rfl ?_
                refine v_imul (v := (nI (10 * a))) 108 zC dX5_twin_107 (pk_mul _ _) ?_
                refine v_il 110 zC dX5_twin_108 2 rfl ?_
                refine v_iadd (v := (nI ((10 * a) + b))) 111 zC dX5_twin_110 (nI_add _ _) ?_
                refine v_goto 115 zC dX5_twin_111 ?_
                refine v_is_n (lv2 := [(1, .int (nI ((10 * a) + b))), (6, .int (nI h)), (5, .int (nI y)), (4, .int (nI b)), (3, .int (nI a)), (2, .int (nI x2)), (0, .ref r0)]) 116 zC dX5_twin_115 (by rw [hnE]; decide) rfl ?_
                refine v_il 118 zC dX5_twin_116 2 rfl ?_
                refine v_il_n 119 zC dX5_twin_118 5 rfl ?_
                refine v_icmpn_le 127 122 zC dX5_twin_119 (fun h_15 => False.elim (by first | omega | exact bcon h_15 (by assumption) | exact bcon (by assumption) h_15)) (fun h_15 => ?_)
                refine v_il 124 zC dX5_twin_122 2 rfl ?_
                refine v_goto 128 zC dX5_twin_124 ?_
                refine v_is_n (lv2 := [(2, .int (nI y)), (1, .int (nI ((10 * a) + b))), (6, .int (nI h)), (5, .int (nI y)), (4, .int (nI b)), (3, .int (nI a)), (0, .ref r0)]) 129 zC dX5_twin_128 (by rw [hnE]; decide) rfl ?_
                refine v_inc (v := (nI (b + 1))) (lv2 := [(4, .int (nI (b + 1))), (2, .int (nI y)), (1, .int (nI ((10 * a) + b))), (6, .int (nI h)), (5, .int (nI y)), (3, .int (nI a)), (0, .ref r0)]) 132 zC dX5_twin_129 (j := 4) rfl (nI_add _ 1) (by rw [hnE]; decide) rfl ?_
                refine v_goto 29 zC dX5_twin_132 ?_
                refine v_lvs (lv2 := [(4, .int (nI (b + 1))), (3, .int (nI a)), (2, .int (nI y)), (1, .int (mI (some ((10 * a) + b)))), (0, .ref r0)]) [0, 5, 1, 2, 6] rfl ?_
                exact ih29 _ (by omega) (some ((10 * a) + b)) y (b + 1) (it_r hs2 hb1 (by first | exact (twi_1 hb1 hu9).trans (by rw [← hy8]) | exact twi_0 hb1 hv9)) (by first | omega | assumption | rfl | (simp only []; omega) | decide) (by first | omega | assumption | rfl | (simp only []; omega) | decide) (by first | omega | assumption | rfl | (simp only []; omega) | decide) rfl
            ·
              refine v_il 53 zC dX5_twin_51 1 rfl ?_
              refine v_al_n 54 zC dX5_twin_53 6 rfl ?_
              refine v_gf 57 0 zC dX5_twin_54 gf_X5_40 rfl rfl ?_
              refine v_bp (v := (nI 6)) 59 zC dX5_twin_57 (by decide +kernel) ?_
              refine v_il 61 zC dX5_twin_59 0 rfl ?_
              refine v_imul (v := (nI (6 * h))) 62 zC dX5_twin_61 (pk_mul _ _) ?_
              refine v_il_n 63 zC dX5_twin_62 3 rfl ?_
              refine v_iadd (v := (nI ((6 * h) + a))) 64 zC dX5_twin_63 (nI_add _ _) ?_
              refine v_ialn (v := (mI (DM (n, m, sh, 0, ki, op, fa, K, G, T) h a))) 65 10 zC dX5_twin_64 rfl (by omega) (congrArg mI (rk_m hR9 (by omega) (by omega))) ?_
              refine v_ifo_lt 88 68 zC dX5_twin_65 (fun v e => rk_lt hR9 (by omega) (by omega) e) (fun h_16 => ?_) (fun h_16 => ?_)
              ·
                refine v_ic (v := (nI 0)) 89 zC dX5_twin_88 (by decide +kernel) ?_
                refine v_iadd (v := (nI y)) 90 zC dX5_twin_89 (nI_add _ 0) ?_
                refine v_is (lv2 := [(5, .int (nI y)), (6, .int (nI h)), (4, .int (nI b)), (3, .int (nI a)), (2, .int (nI x2)), (1, .int (mI B2)), (0, .ref r0)]) 92 zC dX5_twin_90 (by rw [hnE]; decide) rfl ?_
                refine v_inc (v := (nI (h + 1))) (lv2 := [(6, .int (nI (h + 1))), (5, .int (nI y)), (4, .int (nI b)), (3, .int (nI a)), (2, .int (nI x2)), (1, .int (mI B2)), (0, .ref r0)]) 95 zC dX5_twin_92 (j := 1) rfl (nI_add _ 1) (by rw [hnE]; decide) rfl ?_
                refine v_goto 44 zC dX5_twin_95 ?_
                refine v_lvs (lv2 := [(6, .int (nI (h + 1))), (5, .int (nI y)), (4, .int (nI b)), (3, .int (nI a)), (2, .int (nI x2)), (1, .int (mI B2)), (0, .ref r0)]) [0, 1, 2, 3, 4, 5, 6] rfl ?_
                exact ih44 _ (by omega) y (h + 1) (by first | exact (by rw [hy]; exact (ctn_1 (by first | assumption | simp [*])).symm) | exact (by rw [hy]; exact (ctn_0 (by first | assumption | simp [*])).symm)) (by first | omega | assumption | rfl | (simp only []; omega) | decide) (by first | omega | assumption | rfl | (simp only []; omega) | decide) rfl
              ·
                refine v_al_n 69 zC dX5_twin_68 6 rfl ?_
                refine v_gf 72 0 zC dX5_twin_69 gf_X5_40 rfl rfl ?_
                refine v_bp (v := (nI 6)) 74 zC dX5_twin_72 (by decide +kernel) ?_
                refine v_il 76 zC dX5_twin_74 0 rfl ?_
                refine v_imul (v := (nI (6 * h))) 77 zC dX5_twin_76 (pk_mul _ _) ?_
                refine v_il 79 zC dX5_twin_77 2 rfl ?_
                refine v_iadd (v := (nI ((6 * h) + b))) 80 zC dX5_twin_79 (nI_add _ _) ?_
                refine v_ialn (v := (mI (DM (n, m, sh, 0, ki, op, fa, K, G, T) h b))) 81 10 zC dX5_twin_80 rfl (by omega) (congrArg mI (rk_m hR9 (by omega) (by omega))) ?_
                refine v_ifo_lt 88 84 zC dX5_twin_81 (fun v e => rk_lt hR9 (by omega) (by omega) e) (fun h_17 => ?_) (fun h_17 => ?_)
                ·
                  refine v_ic (v := (nI 0)) 89 zC dX5_twin_88 (by decide +kernel) ?_
                  refine v_iadd (v := (nI y)) 90 zC dX5_twin_89 (nI_add _ 0) ?_
                  refine v_is (lv2 := [(5, .int (nI y)), (6, .int (nI h)), (4, .int (nI b)), (3, .int (nI a)), (2, .int (nI x2)), (1, .int (mI B2)), (0, .ref r0)]) 92 zC dX5_twin_90 (by rw [hnE]; decide) rfl ?_
                  refine v_inc (v := (nI (h + 1))) (lv2 := [(6, .int (nI (h + 1))), (5, .int (nI y)), (4, .int (nI b)), (3, .int (nI a)), (2, .int (nI x2)), (1, .int (mI B2)), (0, .ref r0)]) 95 zC dX5_twin_92 (j := 1) rfl (nI_add _ 1) (by rw [hnE]; decide) rfl ?_
                  refine v_goto 44 zC dX5_twin_95 ?_
                  refine v_lvs (lv2 := [(6, .int (nI (h + 1))), (5, .int (nI y)), (4, .int (nI b)), (3, .int (nI a)), (2, .int (nI x2)), (1, .int (mI B2)), (0, .ref r0)]) [0, 1, 2, 3, 4, 5, 6] rfl ?_
                  exact ih44 _ (by omega) y (h + 1) (by first | exact (by rw [hy]; exact (ctn_1 (by first | assumption | simp [*])).symm) | exact (by rw [hy]; exact (ctn_0 (by first | assumption | simp [*])).symm)) (by first | omega | assumption | rfl | (simp only []; omega) | decide) (by first | omega | assumption | rfl | (simp only []; omega) | decide) rfl
                ·
                  refine v_ic (v := (nI 1)) 85 zC dX5_twin_84 (by decide +kernel) ?_
                  refine v_goto 89 zC dX5_twin_85 ?_
                  refine v_iadd (v := (nI (y + 1))) 90 zC dX5_twin_89 (nI_add _ _) ?_
                  refine v_is (lv2 := [(5, .int (nI (y + 1))), (6, .int (nI h)), (4, .int (nI b)), (3, .int (nI a)), (2, .int (nI x2)), (1, .int (mI B2)), (0, .ref r0)]) 92 zC dX5_twin_90 (by rw [hnE]; decide) rfl ?_
                  refine v_inc (v := (nI (h + 1))) (lv2 := [(6, .int (nI (h + 1))), (5, .int (nI (y + 1))), (4, .int (nI b)), (3, .int (nI a)), (2, .int (nI x2)), (1, .int (mI B2)), (0, .ref r0)]) 95 zC dX5_twin_92 (j := 1) rfl (nI_add _ 1) (by rw [hnE]; decide) rfl ?_
                  refine v_goto 44 zC dX5_twin_95 ?_
                  refine v_lvs (lv2 := [(6, .int (nI (h + 1))), (5, .int (nI (y + 1))), (4, .int (nI b)), (3, .int (nI a)), (2, .int (nI x2)), (1, .int (mI B2)), (0, .ref r0)]) [0, 1, 2, 3, 4, 5, 6] rfl ?_
                  exact ih44 _ (by omega) (y + 1) (h + 1) (by first | exact (by rw [hy]; exact (ctn_1 (by first | assumption | simp [*])).symm) | exact (by rw [hy]; exact (ctn_0 (by first | assumption | simp [*])).symm)) (by first | omega | assumption | rfl | (simp only []; omega) | decide) (by first | omega | assumption | rfl | (simp only []; omega) | decide) rfl
          refine v_lvs (lv2 := [(6, .int (nI 0)), (5, .int (nI 0)), (4, .int (nI b)), (3, .int (nI a)), (2, .int (nI x2)), (1, .int (mI B2)), (0, .ref r0)]) [0, 1, 2, 3, 4, 5, 6] rfl ?_
          exact lp44 _ 0 0 rfl (by first | omega | assumption | rfl | (simp only []; omega) | decide) (by first | omega | assumption | rfl | (simp only []; omega) | decide) rfl
      refine v_lvs (lv2 := [(4, .int (nI (a + 1))), (3, .int (nI a)), (2, .int (nI x)), (1, .int (mI B)), (0, .ref r0)]) [0, 1, 2, 3, 4] rfl ?_
      exact lp29 _ B x (a + 1) it_z (by first | omega | assumption | rfl | (simp only []; omega) | decide) (by first | omega | assumption | rfl | (simp only []; omega) | decide) (by first | omega | assumption | rfl | (simp only []; omega) | decide) rfl
  refine v_lvs (lv2 := [(3, .int (nI 0)), (2, .int (nI 0)), (1, .int (mI none)), (0, .ref r0)]) [0, 1, 2, 3] rfl ?_
  exact lp16 _ none 0 0 rfl (by first | omega | assumption | rfl | (simp only []; omega) | decide) (by first | omega | assumption | rfl | (simp only []; omega) | decide) rfl
