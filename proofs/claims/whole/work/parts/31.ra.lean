/-! the reference: its leaves, an hour, a day -/
def inB (x y z : Int64) : Bool := decide (y ≤ x ∧ x ≤ z)
theorem inb_1 {x y z : Int64} (h1 : ¬ x < y) (h2 : ¬ z < x) : inB x y z = true := decide_eq_true ⟨Int64.not_lt.mp h1, Int64.not_lt.mp h2⟩
theorem inb_0 {x y z : Int64} (h : x < y ∨ z < x) : inB x y z = false := decide_eq_false (fun q => h.elim (fun a => Int64.not_lt.mpr q.1 a) (fun a => Int64.not_lt.mpr q.2 a))
theorem i2l_le {x y : Int32} : x.toInt64 ≤ y.toInt64 ↔ x ≤ y := by
  rw [Int64.le_iff_toInt_le, Int32.toInt_toInt64, Int32.toInt_toInt64, Int32.le_iff_toInt_le]
theorem l2i_0 {k : Nat} (h : k < 2 ^ 31) : lN k = (nI k).toInt64 := (nI_l h).symm
theorem in_ixp {n : Nat} {p : Int32} (hn : n < 2 ^ 30) : inB p.toInt64 (lN 0) ((nI n - nI 1).toInt64) = (IX n p).isSome := by
  have e1 : (nI n - nI 1).toInt = (n : Int) - 1 := pk_sub_toInt hn (by decide)
  rw [l2i_0 (show 0 < 2 ^ 31 by decide)]
  unfold inB
  rw [decide_eq_decide.mpr (and_congr i2l_le i2l_le)]
  have e0 : (nI 0).toInt = 0 := rfl
  cases h : IX n p with
  | none =>
    refine decide_eq_false (fun q => ?_)
    unfold IX at h
    split at h
    · rename_i c
      have q1 := Int32.le_iff_toInt_le.mp q.1
      have q2 := Int32.le_iff_toInt_le.mp q.2
      rw [e0] at q1
      rw [e1] at q2
      rcases c with c | c
      · have c2 := Int32.lt_iff_toInt_lt.mp c
        have e00 : (0 : Int32).toInt = 0 := rfl
        rw [e00] at c2
        omega
      · have c2 := Int32.le_iff_toInt_le.mp c
        rw [nI_toInt (by omega)] at c2
        omega
    · cases h
  | some j =>
    refine decide_eq_true ?_
    unfold IX at h
    split at h
    · cases h
    · rename_i c
      have c1 : ¬ p < 0 := fun z => c (Or.inl z)
      have c2 : ¬ nI n ≤ p := fun z => c (Or.inr z)
      refine ⟨?_, ?_⟩
      · exact Int32.not_lt.mp c1
      · rw [Int32.le_iff_toInt_le, e1]
        have d := Int32.lt_iff_toInt_lt.mp (Int32.not_le.mp c2)
        rw [nI_toInt (by omega)] at d
        omega
theorem in_ixk {k : Nat} {p : Int32} (hk : k < 2 ^ 29) : inB p.toInt64 (lN 0) (lN k) = (IX (k + 1) p).isSome := by
  rw [← in_ixp (n := k + 1) (by omega), l2i_0 (show k < 2 ^ 31 by omega)]
  have e : nI (k + 1) - nI 1 = nI k := pk_sub (by omega)
  rw [e]
/-- a bit as a number, place by place -/
def shF (sh : Nat) : Nat → Nat := fun p => if Nat.testBit sh p = true then 1 else 0
theorem shf_1 {sh p : Nat} (h : shF sh p ≠ 0) : Nat.testBit sh p = true := by
  cases c : Nat.testBit sh p with
  | true => rfl
  | false => exact absurd (if_neg (by rw [c]; decide)) h
theorem shf_0 {sh p : Nat} (h : shF sh p = 0) : Nat.testBit sh p = false := by
  cases c : Nat.testBit sh p with
  | false => rfl
  | true => rw [show shF sh p = 1 from if_pos c] at h; cases h
theorem shf_l (sh p : Nat) : shF sh p ≤ 1 := by
  unfold shF
  split <;> decide
theorem ones_s {l : Nat} (h : 0 < l) : pcn (l &&& (l - 1)) + 1 = pcn l ∧ l &&& (l - 1) < l := by
  induction l using Nat.strongRecOn with
  | _ l ih =>
    rcases Nat.mod_two_eq_zero_or_one l with e | e
    · have hl : 0 < l / 2 := by omega
      have g := ih (l / 2) (by omega) hl
      have e2 : l &&& (l - 1) = 2 * (l / 2 &&& (l / 2 - 1)) := by
        have a1 : l = 2 ^ 1 * (l / 2) + 0 := by omega
        have a2 : l - 1 = 2 ^ 1 * (l / 2 - 1) + 1 := by omega
        have a3 := and_sp (k := 1) (a := 0) (b := l / 2) (c := 1) (d := l / 2 - 1) (by decide) (by decide)
        rw [← a1, ← a2] at a3
        rw [a3]
        simp
      have e3 : pcn (2 * (l / 2 &&& (l / 2 - 1))) = pcn (l / 2 &&& (l / 2 - 1)) := by
        rw [pcn_s]
        rw [show 2 * (l / 2 &&& (l / 2 - 1)) % 2 = 0 by omega, show 2 * (l / 2 &&& (l / 2 - 1)) / 2 = (l / 2 &&& (l / 2 - 1)) by omega]
        omega
      rw [e2, e3, pcn_s l, e]
      omega
    · have e2 : l &&& (l - 1) = 2 * (l / 2) := by
        have a1 : l = 2 ^ 1 * (l / 2) + 1 := by omega
        have a2 : l - 1 = 2 ^ 1 * (l / 2) + 0 := by omega
        have a3 := and_sp (k := 1) (a := 1) (b := l / 2) (c := 0) (d := l / 2) (by decide) (by decide)
        rw [← a1, ← a2] at a3
        rw [a3]
        simp
      have e3 : pcn (2 * (l / 2)) = pcn (l / 2) := by
        rw [pcn_s]
        rw [show 2 * (l / 2) % 2 = 0 by omega, show 2 * (l / 2) / 2 = l / 2 by omega]
        omega
      rw [e2, e3, pcn_s l, e]
      omega
def LKB (n : Nat) (r : Nat → Nat) (p t : Nat) : Bool := decide (1 < n) && (!(Nat.testBit (r ((p + n - 1) % n)) t) || !(Nat.testBit (r ((p + 1) % n)) t))
def PLB (k d p h sh : Nat) (ki op : Nat → Nat) : Bool := Nat.testBit (op p) h && (!(Nat.testBit sh p) && (decide (k = 5) || Nat.testBit (ki p) d))
def MAYB (n k g t d p h sh : Nat) (ki op W r : Nat → Nat) : Bool := PLB k d p h sh ki op && ((if k = 3 then decide (W p ≤ 1) else decide (W p = 0)) && (hhB k g h && (if k = 2 ∨ k = 4 then LKB n r p t else true)))
def ffP (n g : Nat) (P : Nat → Bool) : Option Nat := (fs (fun i => P ((g + i) % n)) n).map (fun i => (g + i) % n)
theorem ffp_s {n g i : Nat} {P : Nat → Bool} (h : fs (fun i => P ((g + i) % n)) i = none) (hi : i < n) (hp : P ((g + i) % n) = true) : ffP n g P = some ((g + i) % n) := by
  have h1 := fs_m (P := fun i => P ((g + i) % n)) (show i + 1 ≤ n by omega) (fs_1 h hp)
  unfold ffP
  rw [h1]
  rfl
theorem ffp_n {n g i : Nat} {P : Nat → Bool} (h : fs (fun i => P ((g + i) % n)) i = none) (h1 : i ≤ n) (h2 : n ≤ i) : ffP n g P = none := by
  have e : i = n := by omega
  subst e
  unfold ffP
  rw [h]
  rfl
theorem ffp_c {n g : Nat} {P Q : Nat → Bool} (h : ∀ p, p < n → P p = Q p) : ffP n g P = ffP n g Q := by
  unfold ffP
  rw [fs_c (f := fun i => P ((g + i) % n)) (g := fun i => Q ((g + i) % n)) (fun k hk => h _ (Nat.mod_lt _ (by omega)))]
theorem ffp_lt {n g v : Nat} {P : Nat → Bool} (h : ffP n g P = some v) : v < n := by
  unfold ffP at h
  cases e : fs (fun i => P ((g + i) % n)) n with
  | none => rw [e] at h; cases h
  | some i =>
    rw [e] at h
    have h2 := (fs_lt e).1
    have h3 : (g + i) % n = v := Option.some.inj h
    rw [← h3]
    exact Nat.mod_lt _ (by omega)
theorem ffo_p {n g s : Nat} : ffO n g s = ffP n g (fun p => Nat.testBit s p) := rfl
theorem andn_bit {a b i : Nat} : Nat.testBit (andn a b) i = (Nat.testBit a i && !(Nat.testBit b i)) := by
  unfold andn
  rw [Nat.testBit_xor, Nat.testBit_and]
  cases Nat.testBit a i <;> cases Nat.testBit b i <;> rfl
theorem bes_bit {n r0 p t : Nat} {r : Nat → Nat} (hn : n ≤ 7) (hp : p < n) : Nat.testBit (besN n (lkN r n t)) p = LKB n r p t := by
  unfold besN LKB
  by_cases c : n < 2
  · rw [if_pos c, Nat.zero_testBit, decide_eq_false (show ¬ 1 < n by omega), Bool.false_and]
  · rw [if_neg c, mkn_bit, decide_eq_true hp, Bool.true_and, decide_eq_true (show 1 < n by omega), Bool.true_and]
    unfold lkN
    rw [mkn_bit, mkn_bit, decide_eq_true (Nat.mod_lt _ (show 0 < n by omega)), decide_eq_true (Nat.mod_lt _ (show 0 < n by omega)), Bool.true_and, Bool.true_and, Bool.or_comm]
/-- the hours's say, class and reference -/
theorem may_bit {n m sh aw h d on tw : Nat} {ki op K G T r W : Nat → Nat} (hn : n ≤ 7) (ha : Nat.testBit aw d = false) (hW : ∀ p, p < n → Nat.testBit on p = decide (1 ≤ W p) ∧ Nat.testBit tw p = decide (2 ≤ W p)) : ∀ p, p < n →
    Nat.testBit (cN (bN (aN (odN op n h) (mfS n sh aw ki K d) (K d) on tw) (K d) (G d) h) (K d) n (lkN r n (T d))) p = MAYB n (K d) (G d) (T d) d p h sh ki op W r := by
  intro p hp
  have e1 : Nat.testBit (aN (odN op n h) (mfS n sh aw ki K d) (K d) on tw) p = (PLB (K d) d p h sh ki op && (if K d = 3 then decide (W p ≤ 1) else decide (W p = 0))) := by
    unfold aN mfS mfN odN PLB
    rw [if_neg (show ¬ Nat.testBit aw d = true by rw [ha]; decide), andn_bit, Nat.testBit_and, mkn_bit, mkn_bit, decide_eq_true hp, Bool.true_and, Bool.true_and]
    have e5 : (K d == 5) = decide (K d = 5) := by
      by_cases c : K d = 5 <;> simp [c]
    rw [e5]
    by_cases c : K d = 3
    · rw [if_pos c, if_pos c, (hW p hp).2]
      by_cases c2 : 2 ≤ W p
      · rw [decide_eq_true c2, decide_eq_false (show ¬ W p ≤ 1 by omega)]; rfl
      · rw [decide_eq_false c2, decide_eq_true (show W p ≤ 1 by omega)]; rfl
    · rw [if_neg c, if_neg c, (hW p hp).1]
      by_cases c2 : 1 ≤ W p
      · rw [decide_eq_true c2, decide_eq_false (show ¬ W p = 0 by omega)]; rfl
      · rw [decide_eq_false c2, decide_eq_true (show W p = 0 by omega)]; rfl
  have e2 : ∀ a, Nat.testBit (bN a (K d) (G d) h) p = (Nat.testBit a p && hhB (K d) (G d) h) := by
    intro a
    unfold bN
    by_cases c : a ≠ 0 ∧ hhB (K d) (G d) h = false
    · rw [if_pos c, Nat.zero_testBit, c.2, Bool.and_false]
    · rw [if_neg c]
      by_cases c2 : a = 0
      · rw [c2, Nat.zero_testBit, Bool.false_and]
      · cases e : hhB (K d) (G d) h with
        | true => rw [Bool.and_true]
        | false => exact absurd ⟨c2, e⟩ c
  have e3 : ∀ b, Nat.testBit (cN b (K d) n (lkN r n (T d))) p = (Nat.testBit b p && (if K d = 2 ∨ K d = 4 then LKB n r p (T d) else true)) := by
    intro b
    unfold cN
    by_cases c : K d = 2 ∨ K d = 4
    · by_cases c2 : b = 0
      · rw [if_neg (fun z => z.1 c2), c2, Nat.zero_testBit, Bool.false_and]
      · rw [if_pos ⟨c2, c⟩, if_pos c, Nat.testBit_and, bes_bit (r0 := 0) hn hp]
    · rw [if_neg (fun z => c z.2), if_neg c, Bool.and_true]
  rw [e3, e2, e1]
  unfold MAYB
  rw [Bool.and_assoc, Bool.and_assoc]
theorem hour_eq {n m sh aw h d on tw : Nat} {ki op K G T r W : Nat → Nat} (hn : n ≤ 7) (ha : Nat.testBit aw d = false) (hW : ∀ p, p < n → Nat.testBit on p = decide (1 ≤ W p) ∧ Nat.testBit tw p = decide (2 ≤ W p)) :
    hwD n (odN op n h) h (mfS n sh aw ki K) K G T r on tw d = ffP n (G d) (fun p => MAYB n (K d) (G d) (T d) d p h sh ki op W r) := by
  unfold hwD
  rw [ffo_p]
  exact ffp_c (may_bit (m := m) hn ha hW)
theorem hour_aw {n sh aw h d on tw : Nat} {ki op K G T r : Nat → Nat} (ha : Nat.testBit aw d = true) : hwD n (odN op n h) h (mfS n sh aw ki K) K G T r on tw d = none := by
  have e : mfS n sh aw ki K d = 0 := if_pos ha
  have e1 : aN (odN op n h) (mfS n sh aw ki K d) (K d) on tw = 0 := by
    rw [e]
    unfold aN andn
    rw [Nat.and_zero, Nat.zero_and]
    rfl
  unfold hwD
  rw [e1, ← bN_z rfl, ← cN_z rfl]
  exact ffO_z _ _
theorem hwd_lt {n od h d on tw v : Nat} {F K G T r : Nat → Nat} (e : hwD n od h F K G T r on tw d = some v) : v < n := ffp_lt (P := fun p => Nat.testBit _ p) e
/-- how many speak through each, and once and twice -/
def HWP (n on tw : Nat) (W : Nat → Nat) : Prop := ∀ p, p < n → Nat.testBit on p = decide (1 ≤ W p) ∧ Nat.testBit tw p = decide (2 ≤ W p)
theorem hwp_0 {n : Nat} {W : Nat → Nat} (hn : n ≤ 7) (h : ∀ z, z < 7 → W z = 0) : HWP n 0 0 W := fun p hp => by
  rw [h p (by omega), Nat.zero_testBit]
  exact ⟨rfl, rfl⟩
theorem hwp_s {n on tw v : Nat} {W : Nat → Nat} (h : HWP n on tw W) : HWP n (on ||| 2 ^ v) (tw ||| (on &&& 2 ^ v)) (un W v (W v + 1)) := fun p hp => by
  obtain ⟨h1, h2⟩ := h p hp
  rw [Nat.testBit_or, Nat.testBit_or, Nat.testBit_and, Nat.testBit_two_pow]
  by_cases c : v = p
  · subst c
    rw [un_s, decide_eq_true (Eq.refl v), Bool.or_true, Bool.and_true, h1, h2]
    refine ⟨(decide_eq_true (by omega)).symm, ?_⟩
    by_cases c : 1 ≤ W v
    · rw [decide_eq_true c, Bool.or_true, decide_eq_true (show 2 ≤ W v + 1 by omega)]
    · rw [decide_eq_false c, decide_eq_false (show ¬ 2 ≤ W v by omega), decide_eq_false (show ¬ 2 ≤ W v + 1 by omega), Bool.or_false]
  · rw [un_n (fun e => c e.symm), decide_eq_false c, Bool.or_false, Bool.and_false, Bool.or_false]
    exact ⟨h1, h2⟩
theorem bes_two {n v p : Nat} (hn : n ≤ 7) (hv : v < n) (hp : p < n) : Nat.testBit (besN n (2 ^ v)) p = (decide (1 < n) && (decide (p = (v + n - 1) % n) || decide (p = (v + 1) % n))) := by
  have g : ∀ k, k < 8 → ∀ x, x < k → ∀ y, y < k → Nat.testBit (besN k (2 ^ x)) y = (decide (1 < k) && (decide (y = (x + k - 1) % k) || decide (y = (x + 1) % k))) := by decide +kernel
  exact g n (by omega) v hv p hp
theorem tell_2 {n v t : Nat} {A r : Nat → Nat} (hn : n ≤ 7) (hv : v < n) (h1 : 1 < n) (hA : ∀ p, p < n → A p = r p) : ∀ p, p < n → un (un A ((v + n - 1) % n) (A ((v + n - 1) % n) ||| 2 ^ t)) ((v + 1) % n) (un A ((v + n - 1) % n) (A ((v + n - 1) % n) ||| 2 ^ t) ((v + 1) % n) ||| 2 ^ t) p = tlr r n (besN n (2 ^ v)) t p := by
  intro p hp
  unfold tlr
  rw [bes_two hn hv hp, decide_eq_true h1, Bool.true_and]
  by_cases c1 : p = (v + 1) % n
  · rw [if_pos ⟨hp, by rw [decide_eq_true c1, Bool.or_true]⟩, ← c1, un_s]
    by_cases c2 : p = (v + n - 1) % n
    · rw [← c2, un_s, hA p hp, Nat.or_assoc, Nat.or_self]
    · rw [un_n c2, hA p hp]
  · rw [un_n c1]
    by_cases c2 : p = (v + n - 1) % n
    · rw [if_pos ⟨hp, by rw [decide_eq_true c2, Bool.true_or]⟩, ← c2, un_s, hA p hp]
    · rw [un_n c2, if_neg (fun z => by rw [decide_eq_false c1, decide_eq_false c2] at z; exact absurd z.2 (by decide)), hA p hp]
theorem tell_1 {n v t : Nat} {r : Nat → Nat} (h1 : n ≤ 1) : ∀ p, tlr r n (besN n (2 ^ v)) t p = r p := by
  intro p
  unfold tlr besN
  rw [if_pos (show n < 2 by omega)]
  exact if_neg (fun z => by rw [Nat.zero_testBit] at z; exact absurd z.2 (by decide))
/-- what the reference holds behind a day -/
def ROK (s : SG) (kw kn : Nat → Nat) (M : Nat → Option Nat) : Prop := (∀ p, p < g_n s → kw p = DR s 24 p) ∧ (∀ j, j ≤ 24 → ∀ p, p < g_n s → kn (7 * j + p) = DR s j p) ∧ (∀ j, j < 24 → ∀ d, d < g_m s → M (6 * j + d) = DM s j d) ∧ (∀ z, kw z < 1024) ∧ (∀ z, kn z < 1024) ∧ (∀ z v, M z = some v → v < 7)
theorem hsd_lt {n m od h : Nat} {F K G T r : Nat → Nat} {d v : Nat} (e : hmD n od h F K G T r d = some v) : v < n := hwd_lt e
theorem ix_in {N : Nat} {p : Int32} (hN : N < 2 ^ 30) : (IX N p = none ∧ (IX N p).isSome = false) ∨ (∃ j : Nat, p = nI j ∧ IX N (nI j) = some j ∧ j < N ∧ (IX N p).isSome = true) := by
  cases h : IX N p with
  | none => exact Or.inl ⟨rfl, rfl⟩
  | some k =>
    refine Or.inr ?_
    have h2 := h
    unfold IX at h2
    split at h2
    · cases h2
    · rename_i c
      obtain ⟨j, e1, e2, e3⟩ := IX_s (show N < 2 ^ 31 by omega) (fun z => c (Or.inl z)) (fun z => c (Or.inr z))
      exact ⟨j, e2, by rw [← e2]; exact e1, e3, rfl⟩

set_option maxRecDepth 100000 in
set_option maxHeartbeats 4000000 in
theorem c_X5_in (l : Launch) (D : va_G) (cI : ClassId) (x y z : Int64)  : CT l yX5_in cX5_in 6 (some .boolean) { frames := 0, cells := 0, slots := 0, locals := 0 } D cI [.long x, .long y, .long z] [] (fun zr zw => (zr = some (.int (bz (inB x y z))) ∧ zw = [])) := by
  refine CT_of RX5 rfl (by decide +kernel) (Nat.le_of_ble_eq_true rfl) (fun E hnE zC zT => ?_)
  have hA : ∀ q, (ev_s E).heap.size ≤ q → ev_A E q := fun q h => by rw [zT.2]; exact Or.inr h
  show VV E 0 0 0 [(0, .long x), (2, .long y), (4, .long z)] [] []
  refine v_ll_n 1 zC dX5_in_0 0 rfl ?_
  refine v_ll_n 2 zC dX5_in_1 1 rfl ?_
  refine v_lcmp 3 zC dX5_in_2 ?_
  refine v_ifl_lt 17 6 zC dX5_in_3 (fun h_1 => ?_) (fun h_1 => ?_)
  ·
    refine v_ic (v := (nI 0)) 18 zC dX5_in_17 (by decide +kernel) ?_
    refine v_zret zC zT dX5_in_18 (by decide +kernel) ?_
    first | exact ⟨sb1 (inb_1 (by assumption) (by assumption)), rfl⟩ | exact ⟨sb0 (inb_0 (Or.inl (by assumption))), rfl⟩ | exact ⟨sb0 (inb_0 (Or.inr (by assumption))), rfl⟩
  ·
    refine v_ll_n 7 zC dX5_in_6 0 rfl ?_
    refine v_ll 9 zC dX5_in_7 2 rfl ?_
    refine v_lcmp 10 zC dX5_in_9 ?_
    refine v_ifl_gt 17 13 zC dX5_in_10 (fun h_2 => ?_) (fun h_2 => ?_)
    ·
      refine v_ic (v := (nI 0)) 18 zC dX5_in_17 (by decide +kernel) ?_
      refine v_zret zC zT dX5_in_18 (by decide +kernel) ?_
      first | exact ⟨sb1 (inb_1 (by assumption) (by assumption)), rfl⟩ | exact ⟨sb0 (inb_0 (Or.inl (by assumption))), rfl⟩ | exact ⟨sb0 (inb_0 (Or.inr (by assumption))), rfl⟩
    ·
      refine v_ic (v := (nI 1)) 14 zC dX5_in_13 (by decide +kernel) ?_
      refine v_goto 18 zC dX5_in_14 ?_
      refine v_zret zC zT dX5_in_18 (by decide +kernel) ?_
      first | exact ⟨sb1 (inb_1 (by assumption) (by assumption)), rfl⟩ | exact ⟨sb0 (inb_0 (Or.inl (by assumption))), rfl⟩ | exact ⟨sb0 (inb_0 (Or.inr (by assumption))), rfl⟩
set_option maxRecDepth 100000 in
set_option maxHeartbeats 4000000 in
theorem c_X5_refuse (l : Launch) (D : va_G) (cI : ClassId) (r0 k1 k2 k3 k4 k6 k7 k8 k10 k12 k13 k14 k15 k16 k21 k22 k23 k24 k25 k30 k31 k33 : Nat) (n m aw ls ap sq pl tz rs : Nat) (bd pd tk : Bool) (kv : Value) (sd : Int32) (R : Nat → Nat) (v : Int32) (j : Nat) (hv : v = -(nI j)) (h1 : 0 < j) (h6 : j < 7) : CT l yX5_refuse cX5_refuse 2 (some .int) { frames := 0, cells := 0, slots := 0, locals := 0 } D cI [.ref r0, .int v] [(r0, .inr (5, [.int (nI n), .ref k1, .ref k2, .ref k3, .ref k4, .int (nI m), .ref k6, .ref k7, .ref k8, .int (nI 0), .ref k10, .int (nI aw), .ref k12, .ref k13, .ref k14, .ref k15, .ref k16, .int (nI ls), .int (nI ap), .int (bz bd), .int (nI sq), .ref k21, .ref k22, .ref k23, .ref k24, .ref k25, .int (bz pd), .int (nI pl), .int (bz tk), kv, .ref k30, .ref k31, .int (nI tz), .ref k33, .int (nI rs), .int sd])), (k10, .inl (cI, 7, .inl (nIf R)))] (fun zr zw => (zr = some (.int v) ∧ zw = [(r0, .inr (5, [.int (nI n), .ref k1, .ref k2, .ref k3, .ref k4, .int (nI m), .ref k6, .ref k7, .ref k8, .int (nI 0), .ref k10, .int (nI aw), .ref k12, .ref k13, .ref k14, .ref k15, .ref k16, .int (nI ls), .int (nI ap), .int (bz bd), .int (nI sq), .ref k21, .ref k22, .ref k23, .ref k24, .ref k25, .int (bz pd), .int (nI pl), .int (bz tk), kv, .ref k30, .ref k31, .int (nI tz), .ref k33, .int (nI rs), .int sd])), (k10, .inl (cI, 7, .inl (nIf (un R j (R j + 1)))))])) := by
  refine CT_of RX5 rfl (by decide +kernel) (Nat.le_of_ble_eq_true rfl) (fun E hnE zC zT => ?_)
  have hA : ∀ q, (ev_s E).heap.size ≤ q → ev_A E q := fun q h => by rw [zT.2]; exact Or.inr h
  have hvn : -v = nI j := by rw [hv]; exact neg_neg_I _
  show VV E 0 0 0 [(0, .ref r0), (1, .int v)] [] [(r0, .inr (5, [.int (nI n), .ref k1, .ref k2, .ref k3, .ref k4, .int (nI m), .ref k6, .ref k7, .ref k8, .int (nI 0), .ref k10, .int (nI aw), .ref k12, .ref k13, .ref k14, .ref k15, .ref k16, .int (nI ls), .int (nI ap), .int (bz bd), .int (nI sq), .ref k21, .ref k22, .ref k23, .ref k24, .ref k25, .int (bz pd), .int (nI pl), .int (bz tk), kv, .ref k30, .ref k31, .int (nI tz), .ref k33, .int (nI rs), .int sd])), (k10, .inl (cI, 7, .inl (nIf R)))]
  refine v_al_n 1 zC dX5_refuse_0 0 rfl ?_
  refine v_gf 4 0 zC dX5_refuse_1 gf_X5_31 rfl rfl ?_
  refine v_il_n 5 zC dX5_refuse_4 1 rfl ?_
  refine v_inegx (v := (nI j)) 6 zC dX5_refuse_5 hvn ?_
  refine v_dup2 7 zC dX5_refuse_6 rfl rfl ?_
  refine v_ialn (v := (nI (R j))) 8 1 zC dX5_refuse_7 rfl (by omega) rfl ?_
  refine v_ic (v := (nI 1)) 9 zC dX5_refuse_8 (by decide +kernel) ?_
  refine v_iadd (v := (nI ((R j) + 1))) 10 zC dX5_refuse_9 (nI_add _ _) ?_
  refine v_iasn (ws2 := [(r0, .inr (5, [.int (nI n), .ref k1, .ref k2, .ref k3, .ref k4, .int (nI m), .ref k6, .ref k7, .ref k8, .int (nI 0), .ref k10, .int (nI aw), .ref k12, .ref k13, .ref k14, .ref k15, .ref k16, .int (nI ls), .int (nI ap), .int (bz bd), .int (nI sq), .ref k21, .ref k22, .ref k23, .ref k24, .ref k25, .int (bz pd), .int (nI pl), .int (bz tk), kv, .ref k30, .ref k31, .int (nI tz), .ref k33, .int (nI rs), .int sd])), (k10, .inl (cI, 7, .inl (nIf (un R j ((R j) + 1)))))]) 11 1 zC dX5_refuse_10 rfl (by omega) (by rw [upd_nIf]; first | done | rfl) ?_
  refine v_il_n 12 zC dX5_refuse_11 1 rfl ?_
  refine v_iret zC zT dX5_refuse_12  ?_
  exact ⟨rfl, rfl⟩
set_option maxRecDepth 100000 in
set_option maxHeartbeats 4000000 in
theorem c_X5_isOne (l : Launch) (D : va_G) (cI : ClassId) (r0 k1 k2 k3 k4 k6 k7 k8 k10 k12 k13 k14 k15 k16 k21 k22 k23 k24 k25 k30 k31 k33 : Nat) (n m aw ls ap sq pl tz rs : Nat) (bd pd tk : Bool) (kv : Value) (sd : Int32) (p : Int32) (hn : n ≤ 7) : CT l yX5_isOne cX5_isOne 2 (some .boolean) { frames := 1, cells := 0, slots := 0, locals := 25 } D cI [.ref r0, .int p] [(r0, .inr (5, [.int (nI n), .ref k1, .ref k2, .ref k3, .ref k4, .int (nI m), .ref k6, .ref k7, .ref k8, .int (nI 0), .ref k10, .int (nI aw), .ref k12, .ref k13, .ref k14, .ref k15, .ref k16, .int (nI ls), .int (nI ap), .int (bz bd), .int (nI sq), .ref k21, .ref k22, .ref k23, .ref k24, .ref k25, .int (bz pd), .int (nI pl), .int (bz tk), kv, .ref k30, .ref k31, .int (nI tz), .ref k33, .int (nI rs), .int sd]))] (fun zr zw => ((IX n p = none) ∧ zr = some (.int (nI 0)) ∧ zw = [(r0, .inr (5, [.int (nI n), .ref k1, .ref k2, .ref k3, .ref k4, .int (nI m), .ref k6, .ref k7, .ref k8, .int (nI 0), .ref k10, .int (nI aw), .ref k12, .ref k13, .ref k14, .ref k15, .ref k16, .int (nI ls), .int (nI ap), .int (bz bd), .int (nI sq), .ref k21, .ref k22, .ref k23, .ref k24, .ref k25, .int (bz pd), .int (nI pl), .int (bz tk), kv, .ref k30, .ref k31, .int (nI tz), .ref k33, .int (nI rs), .int sd]))]) ∨ (∃ j : Nat, (p = nI j) ∧ (IX n (nI j) = some j) ∧ (j < n) ∧ zr = some (.int (nI 1)) ∧ zw = [(r0, .inr (5, [.int (nI n), .ref k1, .ref k2, .ref k3, .ref k4, .int (nI m), .ref k6, .ref k7, .ref k8, .int (nI 0), .ref k10, .int (nI aw), .ref k12, .ref k13, .ref k14, .ref k15, .ref k16, .int (nI ls), .int (nI ap), .int (bz bd), .int (nI sq), .ref k21, .ref k22, .ref k23, .ref k24, .ref k25, .int (bz pd), .int (nI pl), .int (bz tk), kv, .ref k30, .ref k31, .int (nI tz), .ref k33, .int (nI rs), .int sd]))])) := by
  refine CT_of RX5 rfl (by decide +kernel) (Nat.le_of_ble_eq_true rfl) (fun E hnE zC zT => ?_)
  have hA : ∀ q, (ev_s E).heap.size ≤ q → ev_A E q := fun q h => by rw [zT.2]; exact Or.inr h
  show VV E 0 0 0 [(0, .ref r0), (1, .int p)] [] [(r0, .inr (5, [.int (nI n), .ref k1, .ref k2, .ref k3, .ref k4, .int (nI m), .ref k6, .ref k7, .ref k8, .int (nI 0), .ref k10, .int (nI aw), .ref k12, .ref k13, .ref k14, .ref k15, .ref k16, .int (nI ls), .int (nI ap), .int (bz bd), .int (nI sq), .ref k21, .ref k22, .ref k23, .ref k24, .ref k25, .int (bz pd), .int (nI pl), .int (bz tk), kv, .ref k30, .ref k31, .int (nI tz), .ref k33, .int (nI rs), .int sd]))]
  refine v_il_n 1 zC dX5_isOne_0 1 rfl ?_
  refine v_i2l (v := (Int32.toInt64 p)) 2 zC dX5_isOne_1 rfl ?_
  refine v_lc (v := lN 0) 3 zC dX5_isOne_2 (by decide +kernel) ?_
  refine v_al_n 4 zC dX5_isOne_3 0 rfl ?_
  refine v_gf 7 0 zC dX5_isOne_4 gf_X5_77 rfl rfl ?_
  refine v_ic (v := (nI 1)) 8 zC dX5_isOne_7 (by decide +kernel) ?_
  refine v_isub (v := (nI n - nI 1)) 9 zC dX5_isOne_8 rfl ?_
  refine v_i2l (v := (Int32.toInt64 (nI n - nI 1))) 10 zC dX5_isOne_9 rfl ?_
  refine v_cS (As := [.long (Int32.toInt64 p), .long (lN 0), .long (Int32.toInt64 (nI n - nI 1))]) (st := []) 13 [] zC dX5_isOne_10 hA (c_X5_in (ev_l E) (ev_D E) cI (x := (Int32.toInt64 p)) (y := (lN 0)) (z := (Int32.toInt64 (nI n - nI 1))) ) cf_X5_in lk_X5_80 rfl rfl rfl (by decide +kernel) (Nat.le_of_ble_eq_true rfl) (fun rv_1 wv_2 hp_3 hm_4 => ?_)
  clear hm_4
  obtain ⟨rfl, rfl⟩ := hp_3
  show VV E 0 0 13 [(0, .ref r0), (1, .int p)] [.int (bz (inB (Int32.toInt64 p) (lN 0) (Int32.toInt64 (nI n - nI 1))))] [(r0, .inr (5, [.int (nI n), .ref k1, .ref k2, .ref k3, .ref k4, .int (nI m), .ref k6, .ref k7, .ref k8, .int (nI 0), .ref k10, .int (nI aw), .ref k12, .ref k13, .ref k14, .ref k15, .ref k16, .int (nI ls), .int (nI ap), .int (bz bd), .int (nI sq), .ref k21, .ref k22, .ref k23, .ref k24, .ref k25, .int (bz pd), .int (nI pl), .int (bz tk), kv, .ref k30, .ref k31, .int (nI tz), .ref k33, .int (nI rs), .int sd]))]
  refine v_zret zC zT dX5_isOne_13 (bz_01 _) ?_
  rcases ix_in (N := n) (p := p) (by omega) with ⟨e9, i9⟩ | ⟨j, e9, i9, l9, b9⟩
  · exact Or.inl ⟨e9, by rw [in_ixp (by omega), i9]; rfl, rfl⟩
  · exact Or.inr ⟨j, e9, i9, l9, by rw [in_ixp (by omega), b9]; rfl, rfl⟩
set_option maxRecDepth 100000 in
set_option maxHeartbeats 4000000 in
theorem c_X5_isDead (l : Launch) (D : va_G) (cI : ClassId) (r0 k1 k2 k3 k4 k6 k7 k8 k10 k12 k13 k14 k15 k16 k21 k22 k23 k24 k25 k30 k31 k33 : Nat) (n m aw ls ap sq pl tz rs : Nat) (bd pd tk : Bool) (kv : Value) (sd : Int32) (p : Int32) (hn : m ≤ 7) : CT l yX5_isDead cX5_isDead 2 (some .boolean) { frames := 1, cells := 0, slots := 0, locals := 25 } D cI [.ref r0, .int p] [(r0, .inr (5, [.int (nI n), .ref k1, .ref k2, .ref k3, .ref k4, .int (nI m), .ref k6, .ref k7, .ref k8, .int (nI 0), .ref k10, .int (nI aw), .ref k12, .ref k13, .ref k14, .ref k15, .ref k16, .int (nI ls), .int (nI ap), .int (bz bd), .int (nI sq), .ref k21, .ref k22, .ref k23, .ref k24, .ref k25, .int (bz pd), .int (nI pl), .int (bz tk), kv, .ref k30, .ref k31, .int (nI tz), .ref k33, .int (nI rs), .int sd]))] (fun zr zw => ((IX m p = none) ∧ zr = some (.int (nI 0)) ∧ zw = [(r0, .inr (5, [.int (nI n), .ref k1, .ref k2, .ref k3, .ref k4, .int (nI m), .ref k6, .ref k7, .ref k8, .int (nI 0), .ref k10, .int (nI aw), .ref k12, .ref k13, .ref k14, .ref k15, .ref k16, .int (nI ls), .int (nI ap), .int (bz bd), .int (nI sq), .ref k21, .ref k22, .ref k23, .ref k24, .ref k25, .int (bz pd), .int (nI pl), .int (bz tk), kv, .ref k30, .ref k31, .int (nI tz), .ref k33, .int (nI rs), .int sd]))]) ∨ (∃ j : Nat, (p = nI j) ∧ (IX m (nI j) = some j) ∧ (j < m) ∧ zr = some (.int (nI 1)) ∧ zw = [(r0, .inr (5, [.int (nI n), .ref k1, .ref k2, .ref k3, .ref k4, .int (nI m), .ref k6, .ref k7, .ref k8, .int (nI 0), .ref k10, .int (nI aw), .ref k12, .ref k13, .ref k14, .ref k15, .ref k16, .int (nI ls), .int (nI ap), .int (bz bd), .int (nI sq), .ref k21, .ref k22, .ref k23, .ref k24, .ref k25, .int (bz pd), .int (nI pl), .int (bz tk), kv, .ref k30, .ref k31, .int (nI tz), .ref k33, .int (nI rs), .int sd]))])) := by
  refine CT_of RX5 rfl (by decide +kernel) (Nat.le_of_ble_eq_true rfl) (fun E hnE zC zT => ?_)
  have hA : ∀ q, (ev_s E).heap.size ≤ q → ev_A E q := fun q h => by rw [zT.2]; exact Or.inr h
  show VV E 0 0 0 [(0, .ref r0), (1, .int p)] [] [(r0, .inr (5, [.int (nI n), .ref k1, .ref k2, .ref k3, .ref k4, .int (nI m), .ref k6, .ref k7, .ref k8, .int (nI 0), .ref k10, .int (nI aw), .ref k12, .ref k13, .ref k14, .ref k15, .ref k16, .int (nI ls), .int (nI ap), .int (bz bd), .int (nI sq), .ref k21, .ref k22, .ref k23, .ref k24, .ref k25, .int (bz pd), .int (nI pl), .int (bz tk), kv, .ref k30, .ref k31, .int (nI tz), .ref k33, .int (nI rs), .int sd]))]
  refine v_il_n 1 zC dX5_isDead_0 1 rfl ?_
  refine v_i2l (v := (Int32.toInt64 p)) 2 zC dX5_isDead_1 rfl ?_
  refine v_lc (v := lN 0) 3 zC dX5_isDead_2 (by decide +kernel) ?_
  refine v_al_n 4 zC dX5_isDead_3 0 rfl ?_
  refine v_gf 7 0 zC dX5_isDead_4 gf_X5_84 rfl rfl ?_
  refine v_ic (v := (nI 1)) 8 zC dX5_isDead_7 (by decide +kernel) ?_
  refine v_isub (v := (nI m - nI 1)) 9 zC dX5_isDead_8 rfl ?_
  refine v_i2l (v := (Int32.toInt64 (nI m - nI 1))) 10 zC dX5_isDead_9 rfl ?_
  refine v_cS (As := [.long (Int32.toInt64 p), .long (lN 0), .long (Int32.toInt64 (nI m - nI 1))]) (st := []) 13 [] zC dX5_isDead_10 hA (c_X5_in (ev_l E) (ev_D E) cI (x := (Int32.toInt64 p)) (y := (lN 0)) (z := (Int32.toInt64 (nI m - nI 1))) ) cf_X5_in lk_X5_80 rfl rfl rfl (by decide +kernel) (Nat.le_of_ble_eq_true rfl) (fun rv_1 wv_2 hp_3 hm_4 => ?_)
  clear hm_4
  obtain ⟨rfl, rfl⟩ := hp_3
  show VV E 0 0 13 [(0, .ref r0), (1, .int p)] [.int (bz (inB (Int32.toInt64 p) (lN 0) (Int32.toInt64 (nI m - nI 1))))] [(r0, .inr (5, [.int (nI n), .ref k1, .ref k2, .ref k3, .ref k4, .int (nI m), .ref k6, .ref k7, .ref k8, .int (nI 0), .ref k10, .int (nI aw), .ref k12, .ref k13, .ref k14, .ref k15, .ref k16, .int (nI ls), .int (nI ap), .int (bz bd), .int (nI sq), .ref k21, .ref k22, .ref k23, .ref k24, .ref k25, .int (bz pd), .int (nI pl), .int (bz tk), kv, .ref k30, .ref k31, .int (nI tz), .ref k33, .int (nI rs), .int sd]))]
  refine v_zret zC zT dX5_isDead_13 (bz_01 _) ?_
  rcases ix_in (N := m) (p := p) (by omega) with ⟨e9, i9⟩ | ⟨j, e9, i9, l9, b9⟩
  · exact Or.inl ⟨e9, by rw [in_ixp (by omega), i9]; rfl, rfl⟩
  · exact Or.inr ⟨j, e9, i9, l9, by rw [in_ixp (by omega), b9]; rfl, rfl⟩
set_option maxRecDepth 100000 in
set_option maxHeartbeats 4000000 in
theorem c_X5_isFact (l : Launch) (D : va_G) (cI : ClassId) (p : Int32)  : CT l yX5_isFact cX5_isFact 1 (some .boolean) { frames := 1, cells := 0, slots := 0, locals := 25 } D cI [.int p] [] (fun zr zw => ((IX 10 p = none) ∧ zr = some (.int (nI 0)) ∧ zw = []) ∨ (∃ j : Nat, (p = nI j) ∧ (IX 10 (nI j) = some j) ∧ (j < 10) ∧ zr = some (.int (nI 1)) ∧ zw = [])) := by
  refine CT_of RX5 rfl (by decide +kernel) (Nat.le_of_ble_eq_true rfl) (fun E hnE zC zT => ?_)
  have hA : ∀ q, (ev_s E).heap.size ≤ q → ev_A E q := fun q h => by rw [zT.2]; exact Or.inr h
  show VV E 0 0 0 [(0, .int p)] [] []
  refine v_il_n 1 zC dX5_isFact_0 0 rfl ?_
  refine v_i2l (v := (Int32.toInt64 p)) 2 zC dX5_isFact_1 rfl ?_
  refine v_lc (v := lN 0) 3 zC dX5_isFact_2 (by decide +kernel) ?_
  refine v_ldc2 (v := (lN 9)) 6 zC dX5_isFact_3 kc_X5_87 ?_
  refine v_cS (As := [.long (Int32.toInt64 p), .long (lN 0), .long (lN 9)]) (st := []) 9 [] zC dX5_isFact_6 hA (c_X5_in (ev_l E) (ev_D E) cI (x := (Int32.toInt64 p)) (y := (lN 0)) (z := (lN 9)) ) cf_X5_in lk_X5_80 rfl rfl rfl (by decide +kernel) (Nat.le_of_ble_eq_true rfl) (fun rv_1 wv_2 hp_3 hm_4 => ?_)
  clear hm_4
  obtain ⟨rfl, rfl⟩ := hp_3
  show VV E 0 0 9 [(0, .int p)] [.int (bz (inB (Int32.toInt64 p) (lN 0) (lN 9)))] []
  refine v_zret zC zT dX5_isFact_9 (bz_01 _) ?_
  rcases ix_in (N := 10) (p := p) (by omega) with ⟨e9, i9⟩ | ⟨j, e9, i9, l9, b9⟩
  · exact Or.inl ⟨e9, by rw [in_ixk (by omega), i9]; rfl, rfl⟩
  · exact Or.inr ⟨j, e9, i9, l9, by rw [in_ixk (by omega), b9]; rfl, rfl⟩
set_option maxRecDepth 100000 in
set_option maxHeartbeats 4000000 in
theorem c_X5_isHour (l : Launch) (D : va_G) (cI : ClassId) (p : Int32)  : CT l yX5_isHour cX5_isHour 1 (some .boolean) { frames := 1, cells := 0, slots := 0, locals := 25 } D cI [.int p] [] (fun zr zw => ((IX 24 p = none) ∧ zr = some (.int (nI 0)) ∧ zw = []) ∨ (∃ j : Nat, (p = nI j) ∧ (IX 24 (nI j) = some j) ∧ (j < 24) ∧ zr = some (.int (nI 1)) ∧ zw = [])) := by
  refine CT_of RX5 rfl (by decide +kernel) (Nat.le_of_ble_eq_true rfl) (fun E hnE zC zT => ?_)
  have hA : ∀ q, (ev_s E).heap.size ≤ q → ev_A E q := fun q h => by rw [zT.2]; exact Or.inr h
  show VV E 0 0 0 [(0, .int p)] [] []
  refine v_il_n 1 zC dX5_isHour_0 0 rfl ?_
  refine v_i2l (v := (Int32.toInt64 p)) 2 zC dX5_isHour_1 rfl ?_
  refine v_lc (v := lN 0) 3 zC dX5_isHour_2 (by decide +kernel) ?_
  refine v_ldc2 (v := (lN 23)) 6 zC dX5_isHour_3 kc_X5_89 ?_
  refine v_cS (As := [.long (Int32.toInt64 p), .long (lN 0), .long (lN 23)]) (st := []) 9 [] zC dX5_isHour_6 hA (c_X5_in (ev_l E) (ev_D E) cI (x := (Int32.toInt64 p)) (y := (lN 0)) (z := (lN 23)) ) cf_X5_in lk_X5_80 rfl rfl rfl (by decide +kernel) (Nat.le_of_ble_eq_true rfl) (fun rv_1 wv_2 hp_3 hm_4 => ?_)
  clear hm_4
  obtain ⟨rfl, rfl⟩ := hp_3
  show VV E 0 0 9 [(0, .int p)] [.int (bz (inB (Int32.toInt64 p) (lN 0) (lN 23)))] []
  refine v_zret zC zT dX5_isHour_9 (bz_01 _) ?_
  rcases ix_in (N := 24) (p := p) (by omega) with ⟨e9, i9⟩ | ⟨j, e9, i9, l9, b9⟩
  · exact Or.inl ⟨e9, by rw [in_ixk (by omega), i9]; rfl, rfl⟩
  · exact Or.inr ⟨j, e9, i9, l9, by rw [in_ixk (by omega), b9]; rfl, rfl⟩
set_option maxRecDepth 100000 in
set_option maxHeartbeats 4000000 in
theorem c_X5_wrongNumber (l : Launch) (D : va_G) (cI : ClassId) (v : Int32) (a b : Nat) (ha : a < 2 ^ 30) (hb : b < 2 ^ 30) : CT l yX5_wrongNumber cX5_wrongNumber 3 (some .int) { frames := 0, cells := 0, slots := 0, locals := 0 } D cI [.int v, .int (nI a), .int (nI b)] [] (fun zr zw => ((v < nI a) ∧ zr = some (.int (-4)) ∧ zw = []) ∨ ((¬ v < nI a) ∧ (nI b < v) ∧ zr = some (.int (-6)) ∧ zw = []) ∨ (∃ j : Nat, (v = nI j) ∧ (a ≤ j) ∧ (j ≤ b) ∧ zr = some (.int (nI 0)) ∧ zw = [])) := by
  refine CT_of RX5 rfl (by decide +kernel) (Nat.le_of_ble_eq_true rfl) (fun E hnE zC zT => ?_)
  have hA : ∀ q, (ev_s E).heap.size ≤ q → ev_A E q := fun q h => by rw [zT.2]; exact Or.inr h
  show VV E 0 0 0 [(0, .int v), (1, .int (nI a)), (2, .int (nI b))] [] []
  refine v_il_n 1 zC dX5_wrongNumber_0 0 rfl ?_
  refine v_il_n 2 zC dX5_wrongNumber_1 1 rfl ?_
  refine v_icmp_ge 10 5 zC dX5_wrongNumber_2 (fun h_1 => ?_) (fun h_1 => ?_)
  ·
    have hge := Int32.not_lt.mpr h_1
    refine v_il_n 11 zC dX5_wrongNumber_10 0 rfl ?_
    refine v_il_n 12 zC dX5_wrongNumber_11 2 rfl ?_
    refine v_icmp_le 20 15 zC dX5_wrongNumber_12 (fun h_2 => ?_) (fun h_2 => ?_)
    ·
      have hle := Int32.not_lt.mpr h_2
      refine v_ic (v := (nI 0)) 21 zC dX5_wrongNumber_20 (by decide +kernel) ?_
      refine v_iret zC zT dX5_wrongNumber_21  ?_
      first | exact Or.inl ⟨hlt, rfl, rfl⟩ | exact Or.inr (Or.inl ⟨hge, hgt, rfl, rfl⟩) | (obtain ⟨j, hj1, hj2, hj3⟩ := ofR2 hge hle ha hb; exact Or.inr (Or.inr ⟨j, hj3, hj1, hj2, rfl, rfl⟩))
    ·
      have hgt := Int32.not_le.mp h_2
      refine v_bp (v := (-6)) 17 zC dX5_wrongNumber_15 (by decide +kernel) ?_
      refine v_goto 21 zC dX5_wrongNumber_17 ?_
      refine v_iret zC zT dX5_wrongNumber_21  ?_
      first | exact Or.inl ⟨hlt, rfl, rfl⟩ | exact Or.inr (Or.inl ⟨hge, hgt, rfl, rfl⟩) | (obtain ⟨j, hj1, hj2, hj3⟩ := ofR2 hge hle ha hb; exact Or.inr (Or.inr ⟨j, hj3, hj1, hj2, rfl, rfl⟩))
  ·
    have hlt := Int32.not_le.mp h_1
    refine v_bp (v := (-4)) 7 zC dX5_wrongNumber_5 (by decide +kernel) ?_
    refine v_goto 21 zC dX5_wrongNumber_7 ?_
    refine v_iret zC zT dX5_wrongNumber_21  ?_
    first | exact Or.inl ⟨hlt, rfl, rfl⟩ | exact Or.inr (Or.inl ⟨hge, hgt, rfl, rfl⟩) | (obtain ⟨j, hj1, hj2, hj3⟩ := ofR2 hge hle ha hb; exact Or.inr (Or.inr ⟨j, hj3, hj1, hj2, rfl, rfl⟩))
set_option maxRecDepth 100000 in
set_option maxHeartbeats 4000000 in
theorem c_X5_wrongBit__N (l : Launch) (D : va_G) (cI : ClassId) (w v : Int32) (k : Nat) (hw0 : ¬ w = 0) : CT l yX5_wrongBit cX5_wrongBit 3 (some .int) { frames := 1, cells := 0, slots := 0, locals := 25 } D cI [.int w, .int v, .int (nI k)] [] (fun zr zw => (zr = some (.int w) ∧ zw = [])) := by
  refine CT_of RX5 rfl (by decide +kernel) (Nat.le_of_ble_eq_true rfl) (fun E hnE zC zT => ?_)
  have hA : ∀ q, (ev_s E).heap.size ≤ q → ev_A E q := fun q h => by rw [zT.2]; exact Or.inr h
  show VV E 0 0 0 [(0, .int w), (1, .int v), (2, .int (nI k))] [] []
  refine v_il_n 1 zC dX5_wrongBit_0 0 rfl ?_
  refine v_if_ne 20 4 zC dX5_wrongBit_1 (fun h_1 => ?_) (fun h_1 => False.elim (by exact hw0 h_1))
  refine v_il_n 21 zC dX5_wrongBit_20 0 rfl ?_
  refine v_iret zC zT dX5_wrongBit_21  ?_
  exact ⟨rfl, rfl⟩
set_option maxRecDepth 100000 in
set_option maxHeartbeats 4000000 in
theorem c_X5_wrongBit__Z (l : Launch) (D : va_G) (cI : ClassId) (v : Int32) (k : Nat) (hk : k < 2 ^ 28) : CT l yX5_wrongBit cX5_wrongBit 3 (some .int) { frames := 1, cells := 0, slots := 0, locals := 25 } D cI [.int (nI 0), .int v, .int (nI k)] [] (fun zr zw => ((IX (k + 1) v = none) ∧ zr = some (.int (-2)) ∧ zw = []) ∨ (∃ j : Nat, (v = nI j) ∧ (IX (k + 1) (nI j) = some j) ∧ (j < k + 1) ∧ zr = some (.int (nI 0)) ∧ zw = [])) := by
  refine CT_of RX5 rfl (by decide +kernel) (Nat.le_of_ble_eq_true rfl) (fun E hnE zC zT => ?_)
  have hA : ∀ q, (ev_s E).heap.size ≤ q → ev_A E q := fun q h => by rw [zT.2]; exact Or.inr h
  show VV E 0 0 0 [(0, .int (nI 0)), (1, .int v), (2, .int (nI k))] [] []
  refine v_il_n 1 zC dX5_wrongBit_0 0 rfl ?_
  refine v_if_ne 20 4 zC dX5_wrongBit_1 (fun z => absurd (by decide +kernel) z) (fun _ => ?_)
  refine v_il_n 5 zC dX5_wrongBit_4 1 rfl ?_
  refine v_i2l (v := (Int32.toInt64 v)) 6 zC dX5_wrongBit_5 rfl ?_
  refine v_lc (v := lN 0) 7 zC dX5_wrongBit_6 (by decide +kernel) ?_
  refine v_il_n 8 zC dX5_wrongBit_7 2 rfl ?_
  refine v_i2l (v := (lN k)) 9 zC dX5_wrongBit_8 (nI_l (by omega)) ?_
  refine v_cS (As := [.long (Int32.toInt64 v), .long (lN 0), .long (lN k)]) (st := []) 12 [] zC dX5_wrongBit_9 hA (c_X5_in (ev_l E) (ev_D E) cI (x := (Int32.toInt64 v)) (y := (lN 0)) (z := (lN k)) ) cf_X5_in lk_X5_80 rfl rfl rfl (by decide +kernel) (Nat.le_of_ble_eq_true rfl) (fun rv_2 wv_3 hp_4 hm_5 => ?_)
  clear hm_5
  obtain ⟨rfl, rfl⟩ := hp_4
  show VV E 0 0 12 [(0, .int (nI 0)), (1, .int v), (2, .int (nI k))] [.int (bz (inB (Int32.toInt64 v) (lN 0) (lN k)))] []
  rw [in_ixk (by omega)]
  rcases ix_in (N := k + 1) (p := v) (by omega) with ⟨e9, i9⟩ | ⟨j9, e9, i9, l9, b9⟩
  ·
    rw [i9]
    refine v_ifb_ne 20 15 zC dX5_wrongBit_12 (fun z => absurd z (by decide)) (fun _ => ?_)
    refine v_bp (v := (-2)) 17 zC dX5_wrongBit_15 (by decide +kernel) ?_
    refine v_goto 21 zC dX5_wrongBit_17 ?_
    refine v_iret zC zT dX5_wrongBit_21  ?_
    first | exact Or.inl ⟨e9, rfl, rfl⟩ | exact Or.inr ⟨j9, e9, i9, l9, rfl, rfl⟩
  ·
    rw [b9]
    refine v_ifb_ne 20 15 zC dX5_wrongBit_12 (fun _ => ?_) (fun z => absurd z (by decide))
    refine v_il_n 21 zC dX5_wrongBit_20 0 rfl ?_
    refine v_iret zC zT dX5_wrongBit_21  ?_
    first | exact Or.inl ⟨e9, rfl, rfl⟩ | exact Or.inr ⟨j9, e9, i9, l9, rfl, rfl⟩
set_option maxRecDepth 100000 in
set_option maxHeartbeats 4000000 in
theorem c_X5_hasBit (l : Launch) (D : va_G) (cI : ClassId) (x k : Nat) (hk : k < 32) : CT l yX5_hasBit cX5_hasBit 2 (some .boolean) { frames := 0, cells := 0, slots := 0, locals := 0 } D cI [.int (nI x), .int (nI k)] [] (fun zr zw => (zr = some (.int (bz (Nat.testBit x k))) ∧ zw = [])) := by
  refine CT_of RX5 rfl (by decide +kernel) (Nat.le_of_ble_eq_true rfl) (fun E hnE zC zT => ?_)
  have hA : ∀ q, (ev_s E).heap.size ≤ q → ev_A E q := fun q h => by rw [zT.2]; exact Or.inr h
  show VV E 0 0 0 [(0, .int (nI x)), (1, .int (nI k))] [] []
  refine v_il_n 1 zC dX5_hasBit_0 0 rfl ?_
  refine v_il_n 2 zC dX5_hasBit_1 1 rfl ?_
  refine v_ishr (v := ((nI x) >>> (nI k))) 3 zC dX5_hasBit_2 (sr_of (by omega)) ?_
  refine v_ic (v := (nI 1)) 4 zC dX5_hasBit_3 (by decide +kernel) ?_
  refine v_iand (v := (bz (Nat.testBit x k))) 5 zC dX5_hasBit_4 (tb_of _ (by omega)) ?_
  refine v_ic (v := (nI 1)) 6 zC dX5_hasBit_5 (by decide +kernel) ?_
  refine v_icmpb1_ne 13 9 zC dX5_hasBit_6 (fun h_1 => ?_) (fun h_1 => ?_)
  ·
    refine v_ic (v := (nI 0)) 14 zC dX5_hasBit_13 (by decide +kernel) ?_
    refine v_zret zC zT dX5_hasBit_14 (by decide +kernel) ?_
    first | exact ⟨rfl, rfl⟩ | exact ⟨sb1 (by assumption), rfl⟩ | exact ⟨sb0 (by assumption), rfl⟩ | (exfalso; omega) | exact ⟨sb1 (by simp [*]), rfl⟩ | exact ⟨sb0 (by simp [*]), rfl⟩
  ·
    refine v_ic (v := (nI 1)) 10 zC dX5_hasBit_9 (by decide +kernel) ?_
    refine v_goto 14 zC dX5_hasBit_10 ?_
    refine v_zret zC zT dX5_hasBit_14 (by decide +kernel) ?_
    first | exact ⟨rfl, rfl⟩ | exact ⟨sb1 (by assumption), rfl⟩ | exact ⟨sb0 (by assumption), rfl⟩ | (exfalso; omega) | exact ⟨sb1 (by simp [*]), rfl⟩ | exact ⟨sb0 (by simp [*]), rfl⟩
set_option maxRecDepth 100000 in
set_option maxHeartbeats 4000000 in
theorem c_X5_onesOf (l : Launch) (D : va_G) (cI : ClassId) (x : Nat) (hx : x < 2 ^ 31) : CT l yX5_onesOf cX5_onesOf 3 (some .int) { frames := 0, cells := 0, slots := 0, locals := 0 } D cI [.int (nI x)] [] (fun zr zw => (zr = some (.int (nI (pcn x))) ∧ zw = [])) := by
  refine CT_of RX5 rfl (by decide +kernel) (Nat.le_of_ble_eq_true rfl) (fun E hnE zC zT => ?_)
  have hA : ∀ q, (ev_s E).heap.size ≤ q → ev_A E q := fun q h => by rw [zT.2]; exact Or.inr h
  show VV E 0 0 0 [(0, .int (nI x))] [] []
  refine v_ic (v := (nI 0)) 1 zC dX5_onesOf_0 (by decide +kernel) ?_
  refine v_is_n (lv2 := [(1, .int (nI 0)), (0, .int (nI x))]) 2 zC dX5_onesOf_1 (by rw [hnE]; decide) rfl ?_
  refine v_il_n 3 zC dX5_onesOf_2 1 rfl ?_
  refine v_is_n (lv2 := [(2, .int (nI x)), (1, .int (nI 0)), (0, .int (nI x))]) 4 zC dX5_onesOf_3 (by rw [hnE]; decide) rfl ?_
  have lp4 : ∀ (mz : Nat) (c : Nat) (l : Nat), (c + pcn l = pcn x) → (l < 2 ^ 31) → l = mz → VV E 0 0 4 [(2, .int (nI l)), (1, .int (nI c)), (0, .int (nI x))] [] [] := by
    intro mz
    induction mz using Nat.strongRecOn with
    | _ mz ih4 =>
    intro c l hc hl hm4
    refine v_il_n 5 zC dX5_onesOf_4 0 rfl ?_
    refine v_ifn_eq 20 8 zC dX5_onesOf_5 (fun h_1 => ?_) (fun h_1 => ?_)
    ·
      have h_z := h_1
      refine v_il_n 21 zC dX5_onesOf_20 1 rfl ?_
      refine v_iret zC zT dX5_onesOf_21  ?_
      exact ⟨sn (by subst h_z; rw [pcn_0] at hc; omega), rfl⟩
    ·
      have ho9 := ones_s (Nat.pos_of_ne_zero h_1)
      refine v_inc (v := (nI (c + 1))) (lv2 := [(1, .int (nI (c + 1))), (2, .int (nI l)), (0, .int (nI x))]) 11 zC dX5_onesOf_8 (j := 1) rfl (nI_add _ 1) (by rw [hnE]; decide) rfl ?_
      refine v_il_n 12 zC dX5_onesOf_11 1 rfl ?_
      refine v_il_n 13 zC dX5_onesOf_12 1 rfl ?_
      refine v_ic (v := (nI 1)) 14 zC dX5_onesOf_13 (by decide +kernel) ?_
      refine v_isub (v := (nI (l - 1))) 15 zC dX5_onesOf_14 (pk_sub (by first | omega | exact Nat.one_le_two_pow)) ?_
      refine v_iand (v := (nI (l &&& (l - 1)))) 16 zC dX5_onesOf_15 (fa_and _ _) ?_
      refine v_is_n (lv2 := [(2, .int (nI (l &&& (l - 1)))), (1, .int (nI (c + 1))), (0, .int (nI x))]) 17 zC dX5_onesOf_16 (by rw [hnE]; decide) rfl ?_
      refine v_goto 4 zC dX5_onesOf_17 ?_
      refine v_lvs (lv2 := [(2, .int (nI (l &&& (l - 1)))), (1, .int (nI (c + 1))), (0, .int (nI x))]) [0, 1, 2] rfl ?_
      exact ih4 _ (by omega) (c + 1) (l &&& (l - 1)) (by omega) (by omega) rfl
  refine v_lvs (lv2 := [(2, .int (nI x)), (1, .int (nI 0)), (0, .int (nI x))]) [0, 1, 2] rfl ?_
  exact lp4 _ 0 x (Nat.zero_add _) (by first | omega | assumption | rfl | (simp only []; omega) | decide) rfl
set_option maxRecDepth 100000 in
set_option maxHeartbeats 4000000 in
theorem c_X5_before (l : Launch) (D : va_G) (cI : ClassId) (r0 k1 k2 k3 k4 k6 k7 k8 k10 k12 k13 k14 k15 k16 k21 k22 k23 k24 k25 k30 k31 k33 : Nat) (n m aw ls ap sq pl tz rs : Nat) (bd pd tk : Bool) (kv : Value) (sd : Int32) (p : Nat) (hn : n ≤ 7) (hp : p < n) : CT l yX5_before cX5_before 2 (some .int) { frames := 0, cells := 0, slots := 0, locals := 0 } D cI [.ref r0, .int (nI p)] [(r0, .inr (5, [.int (nI n), .ref k1, .ref k2, .ref k3, .ref k4, .int (nI m), .ref k6, .ref k7, .ref k8, .int (nI 0), .ref k10, .int (nI aw), .ref k12, .ref k13, .ref k14, .ref k15, .ref k16, .int (nI ls), .int (nI ap), .int (bz bd), .int (nI sq), .ref k21, .ref k22, .ref k23, .ref k24, .ref k25, .int (bz pd), .int (nI pl), .int (bz tk), kv, .ref k30, .ref k31, .int (nI tz), .ref k33, .int (nI rs), .int sd]))] (fun zr zw => (zr = some (.int (nI ((p + n - 1) % n))) ∧ zw = [(r0, .inr (5, [.int (nI n), .ref k1, .ref k2, .ref k3, .ref k4, .int (nI m), .ref k6, .ref k7, .ref k8, .int (nI 0), .ref k10, .int (nI aw), .ref k12, .ref k13, .ref k14, .ref k15, .ref k16, .int (nI ls), .int (nI ap), .int (bz bd), .int (nI sq), .ref k21, .ref k22, .ref k23, .ref k24, .ref k25, .int (bz pd), .int (nI pl), .int (bz tk), kv, .ref k30, .ref k31, .int (nI tz), .ref k33, .int (nI rs), .int sd]))])) := by
  refine CT_of RX5 rfl (by decide +kernel) (Nat.le_of_ble_eq_true rfl) (fun E hnE zC zT => ?_)
  have hA : ∀ q, (ev_s E).heap.size ≤ q → ev_A E q := fun q h => by rw [zT.2]; exact Or.inr h
  show VV E 0 0 0 [(0, .ref r0), (1, .int (nI p))] [] [(r0, .inr (5, [.int (nI n), .ref k1, .ref k2, .ref k3, .ref k4, .int (nI m), .ref k6, .ref k7, .ref k8, .int (nI 0), .ref k10, .int (nI aw), .ref k12, .ref k13, .ref k14, .ref k15, .ref k16, .int (nI ls), .int (nI ap), .int (bz bd), .int (nI sq), .ref k21, .ref k22, .ref k23, .ref k24, .ref k25, .int (bz pd), .int (nI pl), .int (bz tk), kv, .ref k30, .ref k31, .int (nI tz), .ref k33, .int (nI rs), .int sd]))]
  refine v_il_n 1 zC dX5_before_0 1 rfl ?_
  refine v_al_n 2 zC dX5_before_1 0 rfl ?_
  refine v_gf 5 0 zC dX5_before_2 gf_X5_77 rfl rfl ?_
  refine v_iadd (v := (nI (p + n))) 6 zC dX5_before_5 (nI_add _ _) ?_
  refine v_ic (v := (nI 1)) 7 zC dX5_before_6 (by decide +kernel) ?_
  refine v_isub (v := (nI ((p + n) - 1))) 8 zC dX5_before_7 (pk_sub (by first | omega | exact Nat.one_le_two_pow)) ?_
  refine v_al_n 9 zC dX5_before_8 0 rfl ?_
  refine v_gf 12 0 zC dX5_before_9 gf_X5_77 rfl rfl ?_
  refine v_irem (v := (nI (((p + n) - 1) % n))) 13 zC dX5_before_12 (nI_ne0 (by omega) (by omega)) (pk_rem (by omega) (by omega) (by omega)) ?_
  refine v_iret zC zT dX5_before_13  ?_
  first | exact ⟨rfl, rfl⟩ | exact ⟨sb1 (by assumption), rfl⟩ | exact ⟨sb0 (by assumption), rfl⟩ | (exfalso; omega) | exact ⟨sb1 (by simp [*]), rfl⟩ | exact ⟨sb0 (by simp [*]), rfl⟩
set_option maxRecDepth 100000 in
set_option maxHeartbeats 4000000 in
theorem c_X5_behind (l : Launch) (D : va_G) (cI : ClassId) (r0 k1 k2 k3 k4 k6 k7 k8 k10 k12 k13 k14 k15 k16 k21 k22 k23 k24 k25 k30 k31 k33 : Nat) (n m aw ls ap sq pl tz rs : Nat) (bd pd tk : Bool) (kv : Value) (sd : Int32) (p : Nat) (hn : n ≤ 7) (hp : p < n) : CT l yX5_behind cX5_behind 2 (some .int) { frames := 0, cells := 0, slots := 0, locals := 0 } D cI [.ref r0, .int (nI p)] [(r0, .inr (5, [.int (nI n), .ref k1, .ref k2, .ref k3, .ref k4, .int (nI m), .ref k6, .ref k7, .ref k8, .int (nI 0), .ref k10, .int (nI aw), .ref k12, .ref k13, .ref k14, .ref k15, .ref k16, .int (nI ls), .int (nI ap), .int (bz bd), .int (nI sq), .ref k21, .ref k22, .ref k23, .ref k24, .ref k25, .int (bz pd), .int (nI pl), .int (bz tk), kv, .ref k30, .ref k31, .int (nI tz), .ref k33, .int (nI rs), .int sd]))] (fun zr zw => (zr = some (.int (nI ((p + 1) % n))) ∧ zw = [(r0, .inr (5, [.int (nI n), .ref k1, .ref k2, .ref k3, .ref k4, .int (nI m), .ref k6, .ref k7, .ref k8, .int (nI 0), .ref k10, .int (nI aw), .ref k12, .ref k13, .ref k14, .ref k15, .ref k16, .int (nI ls), .int (nI ap), .int (bz bd), .int (nI sq), .ref k21, .ref k22, .ref k23, .ref k24, .ref k25, .int (bz pd), .int (nI pl), .int (bz tk), kv, .ref k30, .ref k31, .int (nI tz), .ref k33, .int (nI rs), .int sd]))])) := by
  refine CT_of RX5 rfl (by decide +kernel) (Nat.le_of_ble_eq_true rfl) (fun E hnE zC zT => ?_)
  have hA : ∀ q, (ev_s E).heap.size ≤ q → ev_A E q := fun q h => by rw [zT.2]; exact Or.inr h
  show VV E 0 0 0 [(0, .ref r0), (1, .int (nI p))] [] [(r0, .inr (5, [.int (nI n), .ref k1, .ref k2, .ref k3, .ref k4, .int (nI m), .ref k6, .ref k7, .ref k8, .int (nI 0), .ref k10, .int (nI aw), .ref k12, .ref k13, .ref k14, .ref k15, .ref k16, .int (nI ls), .int (nI ap), .int (bz bd), .int (nI sq), .ref k21, .ref k22, .ref k23, .ref k24, .ref k25, .int (bz pd), .int (nI pl), .int (bz tk), kv, .ref k30, .ref k31, .int (nI tz), .ref k33, .int (nI rs), .int sd]))]
  refine v_il_n 1 zC dX5_behind_0 1 rfl ?_
  refine v_ic (v := (nI 1)) 2 zC dX5_behind_1 (by decide +kernel) ?_
  refine v_iadd (v := (nI (p + 1))) 3 zC dX5_behind_2 (nI_add _ _) ?_
  refine v_al_n 4 zC dX5_behind_3 0 rfl ?_
  refine v_gf 7 0 zC dX5_behind_4 gf_X5_77 rfl rfl ?_
  refine v_irem (v := (nI ((p + 1) % n))) 8 zC dX5_behind_7 (nI_ne0 (by omega) (by omega)) (pk_rem (by omega) (by omega) (by omega)) ?_
  refine v_iret zC zT dX5_behind_8  ?_
  first | exact ⟨rfl, rfl⟩ | exact ⟨sb1 (by assumption), rfl⟩ | exact ⟨sb0 (by assumption), rfl⟩ | (exfalso; omega) | exact ⟨sb1 (by simp [*]), rfl⟩ | exact ⟨sb0 (by simp [*]), rfl⟩
set_option maxRecDepth 100000 in
set_option maxHeartbeats 4000000 in
theorem c_X5_lacksBeside (l : Launch) (D : va_G) (cI : ClassId) (r0 k1 k2 k3 k4 k6 k7 k8 k10 k12 k13 k14 k15 k16 k21 k22 k23 k24 k25 k30 k31 k33 : Nat) (n m aw ls ap sq pl tz rs : Nat) (bd pd tk : Bool) (kv : Value) (sd : Int32) (kw : Nat → Nat) (p t : Nat) (hn : n ≤ 7) (hp : p < n) (ht : t < 10) : CT l yX5_lacksBeside cX5_lacksBeside 3 (some .boolean) { frames := 1, cells := 0, slots := 0, locals := 21 } D cI [.ref r0, .int (nI p), .int (nI t)] [(r0, .inr (5, [.int (nI n), .ref k1, .ref k2, .ref k3, .ref k4, .int (nI m), .ref k6, .ref k7, .ref k8, .int (nI 0), .ref k10, .int (nI aw), .ref k12, .ref k13, .ref k14, .ref k15, .ref k16, .int (nI ls), .int (nI ap), .int (bz bd), .int (nI sq), .ref k21, .ref k22, .ref k23, .ref k24, .ref k25, .int (bz pd), .int (nI pl), .int (bz tk), kv, .ref k30, .ref k31, .int (nI tz), .ref k33, .int (nI rs), .int sd])), (k12, .inl (cI, 7, .inl (nIf kw)))] (fun zr zw => (zr = some (.int (bz (LKB n kw p t))) ∧ zw = [(r0, .inr (5, [.int (nI n), .ref k1, .ref k2, .ref k3, .ref k4, .int (nI m), .ref k6, .ref k7, .ref k8, .int (nI 0), .ref k10, .int (nI aw), .ref k12, .ref k13, .ref k14, .ref k15, .ref k16, .int (nI ls), .int (nI ap), .int (bz bd), .int (nI sq), .ref k21, .ref k22, .ref k23, .ref k24, .ref k25, .int (bz pd), .int (nI pl), .int (bz tk), kv, .ref k30, .ref k31, .int (nI tz), .ref k33, .int (nI rs), .int sd])), (k12, .inl (cI, 7, .inl (nIf kw)))])) := by
  refine CT_of RX5 rfl (by decide +kernel) (Nat.le_of_ble_eq_true rfl) (fun E hnE zC zT => ?_)
  have hA : ∀ q, (ev_s E).heap.size ≤ q → ev_A E q := fun q h => by rw [zT.2]; exact Or.inr h
  have hm8 := Nat.mod_lt (p + n - 1) (show 0 < n by omega)
  have hm9 := Nat.mod_lt (p + 1) (show 0 < n by omega)
  show VV E 0 0 0 [(0, .ref r0), (1, .int (nI p)), (2, .int (nI t))] [] [(r0, .inr (5, [.int (nI n), .ref k1, .ref k2, .ref k3, .ref k4, .int (nI m), .ref k6, .ref k7, .ref k8, .int (nI 0), .ref k10, .int (nI aw), .ref k12, .ref k13, .ref k14, .ref k15, .ref k16, .int (nI ls), .int (nI ap), .int (bz bd), .int (nI sq), .ref k21, .ref k22, .ref k23, .ref k24, .ref k25, .int (bz pd), .int (nI pl), .int (bz tk), kv, .ref k30, .ref k31, .int (nI tz), .ref k33, .int (nI rs), .int sd])), (k12, .inl (cI, 7, .inl (nIf kw)))]
  refine v_al_n 1 zC dX5_lacksBeside_0 0 rfl ?_
  refine v_gf 4 0 zC dX5_lacksBeside_1 gf_X5_77 rfl rfl ?_
  refine v_ic (v := (nI 1)) 5 zC dX5_lacksBeside_4 (by decide +kernel) ?_
  refine v_icmpn_le 46 8 zC dX5_lacksBeside_5 (fun h_1 => ?_) (fun h_1 => ?_)
  ·
    have h1n : ¬ 1 < n := Nat.not_lt.mpr h_1
    refine v_ic (v := (nI 0)) 47 zC dX5_lacksBeside_46 (by decide +kernel) ?_
    refine v_zret zC zT dX5_lacksBeside_47 (by decide +kernel) ?_
    first | exact ⟨sb1 (by simp [LKB, *]), rfl⟩ | exact ⟨sb0 (by simp [LKB, *]), rfl⟩
  ·
    have h1n : 1 < n := h_1
    refine v_al_n 9 zC dX5_lacksBeside_8 0 rfl ?_
    refine v_gf 12 0 zC dX5_lacksBeside_9 gf_X5_34 rfl rfl ?_
    refine v_al_n 13 zC dX5_lacksBeside_12 0 rfl ?_
    refine v_il_n 14 zC dX5_lacksBeside_13 1 rfl ?_
    refine v_cV (As := [.int (nI p)]) (st := [.ref k12]) 17 0 [0] zC dX5_lacksBeside_14 hA (c_X5_before (ev_l E) (ev_D E) cI (r0 := r0) (k1 := k1) (k2 := k2) (k3 := k3) (k4 := k4) (k6 := k6) (k7 := k7) (k8 := k8) (k10 := k10) (k12 := k12) (k13 := k13) (k14 := k14) (k15 := k15) (k16 := k16) (k21 := k21) (k22 := k22) (k23 := k23) (k24 := k24) (k25 := k25) (k30 := k30) (k31 := k31) (k33 := k33) (n := n) (m := m) (aw := aw) (ls := ls) (ap := ap) (sq := sq) (pl := pl) (tz := tz) (rs := rs) (bd := bd) (pd := pd) (tk := tk) (kv := kv) (sd := sd) (p := p) (hn := (by first | omega | assumption | rfl | (simp only []; omega) | decide)) (hp := (by first | omega | assumption | rfl | (simp only []; omega) | decide))) cf_X5_before lk_X5_91 rfl rfl rfl rfl rfl (by decide +kernel) (Nat.le_of_ble_eq_true rfl) (fun rv_2 wv_3 hp_4 hm_5 => ?_)
    clear hm_5
    obtain ⟨rfl, rfl⟩ := hp_4
    show VV E 0 0 17 [(0, .ref r0), (1, .int (nI p)), (2, .int (nI t))] [.int (nI ((p + n - 1) % n)), .ref k12] [(r0, .inr (5, [.int (nI n), .ref k1, .ref k2, .ref k3, .ref k4, .int (nI m), .ref k6, .ref k7, .ref k8, .int (nI 0), .ref k10, .int (nI aw), .ref k12, .ref k13, .ref k14, .ref k15, .ref k16, .int (nI ls), .int (nI ap), .int (bz bd), .int (nI sq), .ref k21, .ref k22, .ref k23, .ref k24, .ref k25, .int (bz pd), .int (nI pl), .int (bz tk), kv, .ref k30, .ref k31, .int (nI tz), .ref k33, .int (nI rs), .int sd])), (k12, .inl (cI, 7, .inl (nIf kw)))]
    refine v_ialn (v := (nI (kw ((p + n - 1) % n)))) 18 1 zC dX5_lacksBeside_17 rfl (by omega) rfl ?_
    refine v_il_n 19 zC dX5_lacksBeside_18 2 rfl ?_
    refine v_cS (As := [.int (nI (kw ((p + n - 1) % n))), .int (nI t)]) (st := []) 22 [] zC dX5_lacksBeside_19 hA (c_X5_hasBit (ev_l E) (ev_D E) cI (x := (kw ((p + n - 1) % n))) (k := t) (hk := (by first | omega | assumption | rfl | (simp only []; omega) | decide))) cf_X5_hasBit lk_X5_95 rfl rfl rfl (by decide +kernel) (Nat.le_of_ble_eq_true rfl) (fun rv_6 wv_7 hp_8 hm_9 => ?_)
    clear hm_9
    obtain ⟨rfl, rfl⟩ := hp_8
    show VV E 0 0 22 [(0, .ref r0), (1, .int (nI p)), (2, .int (nI t))] [.int (bz (Nat.testBit (kw ((p + n - 1) % n)) t))] [(r0, .inr (5, [.int (nI n), .ref k1, .ref k2, .ref k3, .ref k4, .int (nI m), .ref k6, .ref k7, .ref k8, .int (nI 0), .ref k10, .int (nI aw), .ref k12, .ref k13, .ref k14, .ref k15, .ref k16, .int (nI ls), .int (nI ap), .int (bz bd), .int (nI sq), .ref k21, .ref k22, .ref k23, .ref k24, .ref k25, .int (bz pd), .int (nI pl), .int (bz tk), kv, .ref k30, .ref k31, .int (nI tz), .ref k33, .int (nI rs), .int sd])), (k12, .inl (cI, 7, .inl (nIf kw)))]
    refine v_ifb_eq 42 25 zC dX5_lacksBeside_22 (fun h_10 => ?_) (fun h_10 => ?_)
    ·
      refine v_ic (v := (nI 1)) 43 zC dX5_lacksBeside_42 (by decide +kernel) ?_
      refine v_goto 47 zC dX5_lacksBeside_43 ?_
      refine v_zret zC zT dX5_lacksBeside_47 (by decide +kernel) ?_
      first | exact ⟨sb1 (by simp [LKB, *]), rfl⟩ | exact ⟨sb0 (by simp [LKB, *]), rfl⟩
    ·
      refine v_al_n 26 zC dX5_lacksBeside_25 0 rfl ?_
      refine v_gf 29 0 zC dX5_lacksBeside_26 gf_X5_34 rfl rfl ?_
      refine v_al_n 30 zC dX5_lacksBeside_29 0 rfl ?_
      refine v_il_n 31 zC dX5_lacksBeside_30 1 rfl ?_
      refine v_cV (As := [.int (nI p)]) (st := [.ref k12]) 34 0 [0] zC dX5_lacksBeside_31 hA (c_X5_behind (ev_l E) (ev_D E) cI (r0 := r0) (k1 := k1) (k2 := k2) (k3 := k3) (k4 := k4) (k6 := k6) (k7 := k7) (k8 := k8) (k10 := k10) (k12 := k12) (k13 := k13) (k14 := k14) (k15 := k15) (k16 := k16) (k21 := k21) (k22 := k22) (k23 := k23) (k24 := k24) (k25 := k25) (k30 := k30) (k31 := k31) (k33 := k33) (n := n) (m := m) (aw := aw) (ls := ls) (ap := ap) (sq := sq) (pl := pl) (tz := tz) (rs := rs) (bd := bd) (pd := pd) (tk := tk) (kv := kv) (sd := sd) (p := p) (hn := (by first | omega | assumption | rfl | (simp only []; omega) | decide)) (hp := (by first | omega | assumption | rfl | (simp only []; omega) | decide))) cf_X5_behind lk_X5_99 rfl rfl rfl rfl rfl (by decide +kernel) (Nat.le_of_ble_eq_true rfl) (fun rv_11 wv_12 hp_13 hm_14 => ?_)
      clear hm_14
      obtain ⟨rfl, rfl⟩ := hp_13
      show VV E 0 0 34 [(0, .ref r0), (1, .int (nI p)), (2, .int (nI t))] [.int (nI ((p + 1) % n)), .ref k12] [(r0, .inr (5, [.int (nI n), .ref k1, .ref k2, .ref k3, .ref k4, .int (nI m), .ref k6, .ref k7, .ref k8, .int (nI 0), .ref k10, .int (nI aw), .ref k12, .ref k13, .ref k14, .ref k15, .ref k16, .int (nI ls), .int (nI ap), .int (bz bd), .int (nI sq), .ref k21, .ref k22, .ref k23, .ref k24, .ref k25, .int (bz pd), .int (nI pl), .int (bz tk), kv, .ref k30, .ref k31, .int (nI tz), .ref k33, .int (nI rs), .int sd])), (k12, .inl (cI, 7, .inl (nIf kw)))]
      refine v_ialn (v := (nI (kw ((p + 1) % n)))) 35 1 zC dX5_lacksBeside_34 rfl (by omega) rfl ?_
      refine v_il_n 36 zC dX5_lacksBeside_35 2 rfl ?_
      refine v_cS (As := [.int (nI (kw ((p + 1) % n))), .int (nI t)]) (st := []) 39 [] zC dX5_lacksBeside_36 hA (c_X5_hasBit (ev_l E) (ev_D E) cI (x := (kw ((p + 1) % n))) (k := t) (hk := (by first | omega | assumption | rfl | (simp only []; omega) | decide))) cf_X5_hasBit lk_X5_95 rfl rfl rfl (by decide +kernel) (Nat.le_of_ble_eq_true rfl) (fun rv_15 wv_16 hp_17 hm_18 => ?_)
      clear hm_18
      obtain ⟨rfl, rfl⟩ := hp_17
      show VV E 0 0 39 [(0, .ref r0), (1, .int (nI p)), (2, .int (nI t))] [.int (bz (Nat.testBit (kw ((p + 1) % n)) t))] [(r0, .inr (5, [.int (nI n), .ref k1, .ref k2, .ref k3, .ref k4, .int (nI m), .ref k6, .ref k7, .ref k8, .int (nI 0), .ref k10, .int (nI aw), .ref k12, .ref k13, .ref k14, .ref k15, .ref k16, .int (nI ls), .int (nI ap), .int (bz bd), .int (nI sq), .ref k21, .ref k22, .ref k23, .ref k24, .ref k25, .int (bz pd), .int (nI pl), .int (bz tk), kv, .ref k30, .ref k31, .int (nI tz), .ref k33, .int (nI rs), .int sd])), (k12, .inl (cI, 7, .inl (nIf kw)))]
      refine v_ifb_ne 46 42 zC dX5_lacksBeside_39 (fun h_19 => ?_) (fun h_19 => ?_)
      ·
        refine v_ic (v := (nI 0)) 47 zC dX5_lacksBeside_46 (by decide +kernel) ?_
        refine v_zret zC zT dX5_lacksBeside_47 (by decide +kernel) ?_
        first | exact ⟨sb1 (by simp [LKB, *]), rfl⟩ | exact ⟨sb0 (by simp [LKB, *]), rfl⟩
      ·
        refine v_ic (v := (nI 1)) 43 zC dX5_lacksBeside_42 (by decide +kernel) ?_
        refine v_goto 47 zC dX5_lacksBeside_43 ?_
        refine v_zret zC zT dX5_lacksBeside_47 (by decide +kernel) ?_
        first | exact ⟨sb1 (by simp [LKB, *]), rfl⟩ | exact ⟨sb0 (by simp [LKB, *]), rfl⟩
set_option maxRecDepth 100000 in
set_option maxHeartbeats 4000000 in
theorem c_X5_may (l : Launch) (D : va_G) (cI : ClassId) (r0 k1 k2 k3 k4 k6 k7 k8 k10 k12 k13 k14 k15 k16 k21 k22 k23 k24 k25 k30 k31 k33 : Nat) (n m aw ls ap sq pl tz rs : Nat) (bd pd tk : Bool) (kv : Value) (sd : Int32) (ki op K G T kw mw : Nat → Nat) (sh d p h : Nat) (hn : n ≤ 7) (hm : m ≤ 6) (hd : d < m) (hp : p < n) (hh : h < 24) (hK : ∀ z, K z < 6) (hG : ∀ z, G z < 10) (hT : ∀ z, T z < 10) (hW : ∀ z, z < 7 → mw z < 100) : CT l yX5_may cX5_may 7 (some .boolean) { frames := 2, cells := 0, slots := 0, locals := 43 } D cI [.ref r0, .int (nI d), .int (nI p), .int (nI h)] [(r0, .inr (5, [.int (nI n), .ref k1, .ref k2, .ref k3, .ref k4, .int (nI m), .ref k6, .ref k7, .ref k8, .int (nI 0), .ref k10, .int (nI aw), .ref k12, .ref k13, .ref k14, .ref k15, .ref k16, .int (nI ls), .int (nI ap), .int (bz bd), .int (nI sq), .ref k21, .ref k22, .ref k23, .ref k24, .ref k25, .int (bz pd), .int (nI pl), .int (bz tk), kv, .ref k30, .ref k31, .int (nI tz), .ref k33, .int (nI rs), .int sd])), (k1, .inl (cI, 7, .inl (nIf ki))), (k2, .inl (cI, 7, .inl (nIf op))), (k3, .inl (cI, 7, .inl (nIf (shF sh)))), (k6, .inl (cI, 6, .inl (nIf K))), (k7, .inl (cI, 6, .inl (nIf G))), (k8, .inl (cI, 6, .inl (nIf T))), (k12, .inl (cI, 7, .inl (nIf kw))), (k15, .inl (cI, 7, .inl (nIf mw)))] (fun zr zw => (zr = some (.int (bz (MAYB n (K d) (G d) (T d) d p h sh ki op mw kw))) ∧ zw = [(r0, .inr (5, [.int (nI n), .ref k1, .ref k2, .ref k3, .ref k4, .int (nI m), .ref k6, .ref k7, .ref k8, .int (nI 0), .ref k10, .int (nI aw), .ref k12, .ref k13, .ref k14, .ref k15, .ref k16, .int (nI ls), .int (nI ap), .int (bz bd), .int (nI sq), .ref k21, .ref k22, .ref k23, .ref k24, .ref k25, .int (bz pd), .int (nI pl), .int (bz tk), kv, .ref k30, .ref k31, .int (nI tz), .ref k33, .int (nI rs), .int sd])), (k1, .inl (cI, 7, .inl (nIf ki))), (k2, .inl (cI, 7, .inl (nIf op))), (k3, .inl (cI, 7, .inl (nIf (shF sh)))), (k6, .inl (cI, 6, .inl (nIf K))), (k7, .inl (cI, 6, .inl (nIf G))), (k8, .inl (cI, 6, .inl (nIf T))), (k12, .inl (cI, 7, .inl (nIf kw))), (k15, .inl (cI, 7, .inl (nIf mw)))])) := by
  refine CT_of RX5 rfl (by decide +kernel) (Nat.le_of_ble_eq_true rfl) (fun E hnE zC zT => ?_)
  have hA : ∀ q, (ev_s E).heap.size ≤ q → ev_A E q := fun q h => by rw [zT.2]; exact Or.inr h
  have hgd := hG d
  have hkd := hK d
  have hwp := hW p (by omega)
  have hs1 := shf_l sh p
  show VV E 0 0 0 [(0, .ref r0), (1, .int (nI d)), (2, .int (nI p)), (3, .int (nI h))] [] [(r0, .inr (5, [.int (nI n), .ref k1, .ref k2, .ref k3, .ref k4, .int (nI m), .ref k6, .ref k7, .ref k8, .int (nI 0), .ref k10, .int (nI aw), .ref k12, .ref k13, .ref k14, .ref k15, .ref k16, .int (nI ls), .int (nI ap), .int (bz bd), .int (nI sq), .ref k21, .ref k22, .ref k23, .ref k24, .ref k25, .int (bz pd), .int (nI pl), .int (bz tk), kv, .ref k30, .ref k31, .int (nI tz), .ref k33, .int (nI rs), .int sd])), (k1, .inl (cI, 7, .inl (nIf ki))), (k2, .inl (cI, 7, .inl (nIf op))), (k3, .inl (cI, 7, .inl (nIf (shF sh)))), (k6, .inl (cI, 6, .inl (nIf K))), (k7, .inl (cI, 6, .inl (nIf G))), (k8, .inl (cI, 6, .inl (nIf T))), (k12, .inl (cI, 7, .inl (nIf kw))), (k15, .inl (cI, 7, .inl (nIf mw)))]
  refine v_al_n 1 zC dX5_may_0 0 rfl ?_
  refine v_gf 4 0 zC dX5_may_1 gf_X5_22 rfl rfl ?_
  refine v_il_n 5 zC dX5_may_4 1 rfl ?_
  refine v_ialn (v := (nI (K d))) 6 4 zC dX5_may_5 rfl (by omega) rfl ?_
  refine v_is (lv2 := [(4, .int (nI (K d))), (0, .ref r0), (1, .int (nI d)), (2, .int (nI p)), (3, .int (nI h))]) 8 zC dX5_may_6 (by rw [hnE]; decide) rfl ?_
  have ct54 : ∀ (pb : Bool), ((PLB (K d) d p h sh ki op) = pb) → VV E 0 0 54 [(4, .int (nI (K d))), (0, .ref r0), (1, .int (nI d)), (2, .int (nI p)), (3, .int (nI h))] [.int (bz pb)] [(r0, .inr (5, [.int (nI n), .ref k1, .ref k2, .ref k3, .ref k4, .int (nI m), .ref k6, .ref k7, .ref k8, .int (nI 0), .ref k10, .int (nI aw), .ref k12, .ref k13, .ref k14, .ref k15, .ref k16, .int (nI ls), .int (nI ap), .int (bz bd), .int (nI sq), .ref k21, .ref k22, .ref k23, .ref k24, .ref k25, .int (bz pd), .int (nI pl), .int (bz tk), kv, .ref k30, .ref k31, .int (nI tz), .ref k33, .int (nI rs), .int sd])), (k1, .inl (cI, 7, .inl (nIf ki))), (k2, .inl (cI, 7, .inl (nIf op))), (k3, .inl (cI, 7, .inl (nIf (shF sh)))), (k6, .inl (cI, 6, .inl (nIf K))), (k7, .inl (cI, 6, .inl (nIf G))), (k8, .inl (cI, 6, .inl (nIf T))), (k12, .inl (cI, 7, .inl (nIf kw))), (k15, .inl (cI, 7, .inl (nIf mw)))] := by
    intro pb hpl
    refine v_is (lv2 := [(5, .int (bz pb)), (4, .int (nI (K d))), (0, .ref r0), (1, .int (nI d)), (2, .int (nI p)), (3, .int (nI h))]) 56 zC dX5_may_54 (by rw [hnE]; decide) rfl ?_
    have ct74 : ∀ (ev : Bool), (((h + G d) % 2 == 0) = ev) → VV E 0 0 74 [(5, .int (bz pb)), (4, .int (nI (K d))), (0, .ref r0), (1, .int (nI d)), (2, .int (nI p)), (3, .int (nI h))] [.int (bz ev)] [(r0, .inr (5, [.int (nI n), .ref k1, .ref k2, .ref k3, .ref k4, .int (nI m), .ref k6, .ref k7, .ref k8, .int (nI 0), .ref k10, .int (nI aw), .ref k12, .ref k13, .ref k14, .ref k15, .ref k16, .int (nI ls), .int (nI ap), .int (bz bd), .int (nI sq), .ref k21, .ref k22, .ref k23, .ref k24, .ref k25, .int (bz pd), .int (nI pl), .int (bz tk), kv, .ref k30, .ref k31, .int (nI tz), .ref k33, .int (nI rs), .int sd])), (k1, .inl (cI, 7, .inl (nIf ki))), (k2, .inl (cI, 7, .inl (nIf op))), (k3, .inl (cI, 7, .inl (nIf (shF sh)))), (k6, .inl (cI, 6, .inl (nIf K))), (k7, .inl (cI, 6, .inl (nIf G))), (k8, .inl (cI, 6, .inl (nIf T))), (k12, .inl (cI, 7, .inl (nIf kw))), (k15, .inl (cI, 7, .inl (nIf mw)))] := by
      intro ev hev
      refine v_is (lv2 := [(6, .int (bz ev)), (5, .int (bz pb)), (4, .int (nI (K d))), (0, .ref r0), (1, .int (nI d)), (2, .int (nI p)), (3, .int (nI h))]) 76 zC dX5_may_74 (by rw [hnE]; decide) rfl ?_
      refine v_il 78 zC dX5_may_76 2 rfl ?_
      have h_1 : (K d) = 0 ∨ (K d) = 1 ∨ (K d) = 2 ∨ (K d) = 3 ∨ (K d) = 4 ∨ (K d) = 5 := by omega
      rcases h_1 with h_1 | h_1 | h_1 | h_1 | h_1 | h_1
      ·
        rw [h_1]
        refine v_tsw (off := 155) 233 zC dX5_may_78 (Or.inr (by decide +kernel)) ?_
        refine v_il 235 zC dX5_may_233 1 rfl ?_
        refine v_ifb_eq 251 238 zC dX5_may_235 (fun h_2 => ?_) (fun h_2 => ?_)
        ·
          refine v_ic (v := (nI 0)) 252 zC dX5_may_251 (by decide +kernel) ?_
          refine v_zret zC zT dX5_may_252 (by decide +kernel) ?_
          first | exact ⟨sb1 (by unfold MAYB; rw [hpl]; simp [hhB, *]; try omega), rfl⟩ | exact ⟨sb0 (by unfold MAYB; rw [hpl]; simp [hhB, *]; try omega), rfl⟩
        ·
          refine v_al_n 239 zC dX5_may_238 3 rfl ?_
          refine v_gf 242 0 zC dX5_may_239 gf_X5_43 rfl rfl ?_
          refine v_il_n 243 zC dX5_may_242 5 rfl ?_
          refine v_ialn (v := (nI (mw p))) 244 8 zC dX5_may_243 rfl (by omega) rfl ?_
          refine v_ifn_ne 251 247 zC dX5_may_244 (fun h_3 => ?_) (fun h_3 => ?_)
          ·
            refine v_ic (v := (nI 0)) 252 zC dX5_may_251 (by decide +kernel) ?_
            refine v_zret zC zT dX5_may_252 (by decide +kernel) ?_
            first | exact ⟨sb1 (by unfold MAYB; rw [hpl]; simp [hhB, *]; try omega), rfl⟩ | exact ⟨sb0 (by unfold MAYB; rw [hpl]; simp [hhB, *]; try omega), rfl⟩
          ·
            refine v_ic (v := (nI 1)) 248 zC dX5_may_247 (by decide +kernel) ?_
            refine v_goto 252 zC dX5_may_248 ?_
            refine v_zret zC zT dX5_may_252 (by decide +kernel) ?_
            first | exact ⟨sb1 (by unfold MAYB; rw [hpl]; simp [hhB, *]; try omega), rfl⟩ | exact ⟨sb0 (by unfold MAYB; rw [hpl]; simp [hhB, *]; try omega), rfl⟩
      ·
        rw [h_1]
        refine v_tsw (off := 30) 108 zC dX5_may_78 (Or.inl (by decide +kernel)) ?_
        refine v_il 110 zC dX5_may_108 1 rfl ?_
        refine v_ifb_eq 131 113 zC dX5_may_110 (fun h_4 => ?_) (fun h_4 => ?_)
        ·
          refine v_ic (v := (nI 0)) 132 zC dX5_may_131 (by decide +kernel) ?_
          refine v_zret zC zT dX5_may_132 (by decide +kernel) ?_
          first | exact ⟨sb1 (by unfold MAYB; rw [hpl]; simp [hhB, *]; try omega), rfl⟩ | exact ⟨sb0 (by unfold MAYB; rw [hpl]; simp [hhB, *]; try omega), rfl⟩
        ·
          refine v_al_n 114 zC dX5_may_113 3 rfl ?_
          refine v_gf 117 0 zC dX5_may_114 gf_X5_43 rfl rfl ?_
          refine v_il_n 118 zC dX5_may_117 5 rfl ?_
          refine v_ialn (v := (nI (mw p))) 119 8 zC dX5_may_118 rfl (by omega) rfl ?_
          refine v_ifn_ne 131 122 zC dX5_may_119 (fun h_5 => ?_) (fun h_5 => ?_)
          ·
            refine v_ic (v := (nI 0)) 132 zC dX5_may_131 (by decide +kernel) ?_
            refine v_zret zC zT dX5_may_132 (by decide +kernel) ?_
            first | exact ⟨sb1 (by unfold MAYB; rw [hpl]; simp [hhB, *]; try omega), rfl⟩ | exact ⟨sb0 (by unfold MAYB; rw [hpl]; simp [hhB, *]; try omega), rfl⟩
          ·
            refine v_il 124 zC dX5_may_122 0 rfl ?_
            refine v_ifb_eq 131 127 zC dX5_may_124 (fun h_6 => ?_) (fun h_6 => ?_)
            ·
              refine v_ic (v := (nI 0)) 132 zC dX5_may_131 (by decide +kernel) ?_
              refine v_zret zC zT dX5_may_132 (by decide +kernel) ?_
              first | exact ⟨sb1 (by unfold MAYB; rw [hpl]; simp [hhB, *]; try omega), rfl⟩ | exact ⟨sb0 (by unfold MAYB; rw [hpl]; simp [hhB, *]; try omega), rfl⟩
            ·
              refine v_ic (v := (nI 1)) 128 zC dX5_may_127 (by decide +kernel) ?_
              refine v_goto 132 zC dX5_may_128 ?_
              refine v_zret zC zT dX5_may_132 (by decide +kernel) ?_
              first | exact ⟨sb1 (by unfold MAYB; rw [hpl]; simp [hhB, *]; try omega), rfl⟩ | exact ⟨sb0 (by unfold MAYB; rw [hpl]; simp [hhB, *]; try omega), rfl⟩
      ·
        rw [h_1]
        refine v_tsw (off := 55) 133 zC dX5_may_78 (Or.inl (by decide +kernel)) ?_
        refine v_il 135 zC dX5_may_133 1 rfl ?_
        refine v_ifb_eq 165 138 zC dX5_may_135 (fun h_7 => ?_) (fun h_7 => ?_)
        ·
          refine v_ic (v := (nI 0)) 166 zC dX5_may_165 (by decide +kernel) ?_
          refine v_zret zC zT dX5_may_166 (by decide +kernel) ?_
          first | exact ⟨sb1 (by unfold MAYB; rw [hpl]; simp [hhB, *]; try omega), rfl⟩ | exact ⟨sb0 (by unfold MAYB; rw [hpl]; simp [hhB, *]; try omega), rfl⟩
        ·
          refine v_al_n 139 zC dX5_may_138 3 rfl ?_
          refine v_gf 142 0 zC dX5_may_139 gf_X5_43 rfl rfl ?_
          refine v_il_n 143 zC dX5_may_142 5 rfl ?_
          refine v_ialn (v := (nI (mw p))) 144 8 zC dX5_may_143 rfl (by omega) rfl ?_
          refine v_ifn_ne 165 147 zC dX5_may_144 (fun h_8 => ?_) (fun h_8 => ?_)
          ·
            refine v_ic (v := (nI 0)) 166 zC dX5_may_165 (by decide +kernel) ?_
            refine v_zret zC zT dX5_may_166 (by decide +kernel) ?_
            first | exact ⟨sb1 (by unfold MAYB; rw [hpl]; simp [hhB, *]; try omega), rfl⟩ | exact ⟨sb0 (by unfold MAYB; rw [hpl]; simp [hhB, *]; try omega), rfl⟩
          ·
            refine v_al_n 148 zC dX5_may_147 3 rfl ?_
            refine v_il_n 149 zC dX5_may_148 5 rfl ?_
            refine v_al_n 150 zC dX5_may_149 3 rfl ?_
            refine v_gf 153 0 zC dX5_may_150 gf_X5_28 rfl rfl ?_
            refine v_il_n 154 zC dX5_may_153 4 rfl ?_
            refine v_ialn (v := (nI (T d))) 155 6 zC dX5_may_154 rfl (by omega) rfl ?_
            refine v_cV (As := [.int (nI p), .int (nI (T d))]) (st := []) 158 0 [0, 7] zC dX5_may_155 hA (c_X5_lacksBeside (ev_l E) (ev_D E) cI (r0 := r0) (k1 := k1) (k2 := k2) (k3 := k3) (k4 := k4) (k6 := k6) (k7 := k7) (k8 := k8) (k10 := k10) (k12 := k12) (k13 := k13) (k14 := k14) (k15 := k15) (k16 := k16) (k21 := k21) (k22 := k22) (k23 := k23) (k24 := k24) (k25 := k25) (k30 := k30) (k31 := k31) (k33 := k33) (n := n) (m := m) (aw := aw) (ls := ls) (ap := ap) (sq := sq) (pl := pl) (tz := tz) (rs := rs) (bd := bd) (pd := pd) (tk := tk) (kv := kv) (sd := sd) (kw := kw) (p := p) (t := (T d)) (hn := (by first | omega | assumption | rfl | (simp only []; omega) | decide)) (hp := (by first | omega | assumption | rfl | (simp only []; omega) | decide)) (ht := (hT _))) cf_X5_lacksBeside lk_X5_102 rfl rfl rfl rfl rfl (by decide +kernel) (Nat.le_of_ble_eq_true rfl) (fun rv_9 wv_10 hp_11 hm_12 => ?_)
            clear hm_12
            obtain ⟨rfl, rfl⟩ := hp_11
            show VV E 0 0 158 [(6, .int (bz ev)), (5, .int (bz pb)), (4, .int (nI 2)), (0, .ref r0), (1, .int (nI d)), (2, .int (nI p)), (3, .int (nI h))] [.int (bz (LKB n kw p (T d)))] [(r0, .inr (5, [.int (nI n), .ref k1, .ref k2, .ref k3, .ref k4, .int (nI m), .ref k6, .ref k7, .ref k8, .int (nI 0), .ref k10, .int (nI aw), .ref k12, .ref k13, .ref k14, .ref k15, .ref k16, .int (nI ls), .int (nI ap), .int (bz bd), .int (nI sq), .ref k21, .ref k22, .ref k23, .ref k24, .ref k25, .int (bz pd), .int (nI pl), .int (bz tk), kv, .ref k30, .ref k31, .int (nI tz), .ref k33, .int (nI rs), .int sd])), (k1, .inl (cI, 7, .inl (nIf ki))), (k2, .inl (cI, 7, .inl (nIf op))), (k3, .inl (cI, 7, .inl (nIf (shF sh)))), (k6, .inl (cI, 6, .inl (nIf K))), (k7, .inl (cI, 6, .inl (nIf G))), (k8, .inl (cI, 6, .inl (nIf T))), (k12, .inl (cI, 7, .inl (nIf kw))), (k15, .inl (cI, 7, .inl (nIf mw)))]
            refine v_ifb_eq 165 161 zC dX5_may_158 (fun h_13 => ?_) (fun h_13 => ?_)
            ·
              refine v_ic (v := (nI 0)) 166 zC dX5_may_165 (by decide +kernel) ?_
              refine v_zret zC zT dX5_may_166 (by decide +kernel) ?_
              first | exact ⟨sb1 (by unfold MAYB; rw [hpl]; simp [hhB, *]; try omega), rfl⟩ | exact ⟨sb0 (by unfold MAYB; rw [hpl]; simp [hhB, *]; try omega), rfl⟩
            ·
              refine v_ic (v := (nI 1)) 162 zC dX5_may_161 (by decide +kernel) ?_
              refine v_goto 166 zC dX5_may_162 ?_
              refine v_zret zC zT dX5_may_166 (by decide +kernel) ?_
              first | exact ⟨sb1 (by unfold MAYB; rw [hpl]; simp [hhB, *]; try omega), rfl⟩ | exact ⟨sb0 (by unfold MAYB; rw [hpl]; simp [hhB, *]; try omega), rfl⟩
      ·
        rw [h_1]
        refine v_tsw (off := 89) 167 zC dX5_may_78 (Or.inl (by decide +kernel)) ?_
        refine v_il 169 zC dX5_may_167 1 rfl ?_
        refine v_ifb_eq 191 172 zC dX5_may_169 (fun h_14 => ?_) (fun h_14 => ?_)
        ·
          refine v_ic (v := (nI 0)) 192 zC dX5_may_191 (by decide +kernel) ?_
          refine v_zret zC zT dX5_may_192 (by decide +kernel) ?_
          first | exact ⟨sb1 (by unfold MAYB; rw [hpl]; simp [hhB, *]; try omega), rfl⟩ | exact ⟨sb0 (by unfold MAYB; rw [hpl]; simp [hhB, *]; try omega), rfl⟩
        ·
          refine v_al_n 173 zC dX5_may_172 3 rfl ?_
          refine v_gf 176 0 zC dX5_may_173 gf_X5_43 rfl rfl ?_
          refine v_il_n 177 zC dX5_may_176 5 rfl ?_
          refine v_ialn (v := (nI (mw p))) 178 8 zC dX5_may_177 rfl (by omega) rfl ?_
          refine v_ic (v := (nI 1)) 179 zC dX5_may_178 (by decide +kernel) ?_
          refine v_icmpn_gt 191 182 zC dX5_may_179 (fun h_15 => ?_) (fun h_15 => ?_)
          ·
            refine v_ic (v := (nI 0)) 192 zC dX5_may_191 (by decide +kernel) ?_
            refine v_zret zC zT dX5_may_192 (by decide +kernel) ?_
            first | exact ⟨sb1 (by unfold MAYB; rw [hpl]; simp [hhB, *]; try omega), rfl⟩ | exact ⟨sb0 (by unfold MAYB; rw [hpl]; simp [hhB, *]; try omega), rfl⟩
          ·
            refine v_il 184 zC dX5_may_182 0 rfl ?_
            refine v_ifb_eq 191 187 zC dX5_may_184 (fun h_16 => ?_) (fun h_16 => ?_)
            ·
              refine v_ic (v := (nI 0)) 192 zC dX5_may_191 (by decide +kernel) ?_
              refine v_zret zC zT dX5_may_192 (by decide +kernel) ?_
              first | exact ⟨sb1 (by unfold MAYB; rw [hpl]; simp [hhB, *]; try omega), rfl⟩ | exact ⟨sb0 (by unfold MAYB; rw [hpl]; simp [hhB, *]; try omega), rfl⟩
            ·
              refine v_ic (v := (nI 1)) 188 zC dX5_may_187 (by decide +kernel) ?_
              refine v_goto 192 zC dX5_may_188 ?_
              refine v_zret zC zT dX5_may_192 (by decide +kernel) ?_
              first | exact ⟨sb1 (by unfold MAYB; rw [hpl]; simp [hhB, *]; try omega), rfl⟩ | exact ⟨sb0 (by unfold MAYB; rw [hpl]; simp [hhB, *]; try omega), rfl⟩
      ·
        rw [h_1]
        refine v_tsw (off := 115) 193 zC dX5_may_78 (Or.inl (by decide +kernel)) ?_
        refine v_il 195 zC dX5_may_193 1 rfl ?_
        refine v_ifb_eq 231 198 zC dX5_may_195 (fun h_17 => ?_) (fun h_17 => ?_)
        ·
          refine v_ic (v := (nI 0)) 232 zC dX5_may_231 (by decide +kernel) ?_
          refine v_zret zC zT dX5_may_232 (by decide +kernel) ?_
          first | exact ⟨sb1 (by unfold MAYB; rw [hpl]; simp [hhB, *]; try omega), rfl⟩ | exact ⟨sb0 (by unfold MAYB; rw [hpl]; simp [hhB, *]; try omega), rfl⟩
        ·
          refine v_al_n 199 zC dX5_may_198 3 rfl ?_
          refine v_gf 202 0 zC dX5_may_199 gf_X5_43 rfl rfl ?_
          refine v_il_n 203 zC dX5_may_202 5 rfl ?_
          refine v_ialn (v := (nI (mw p))) 204 8 zC dX5_may_203 rfl (by omega) rfl ?_
          refine v_ifn_ne 231 207 zC dX5_may_204 (fun h_18 => ?_) (fun h_18 => ?_)
          ·
            refine v_ic (v := (nI 0)) 232 zC dX5_may_231 (by decide +kernel) ?_
            refine v_zret zC zT dX5_may_232 (by decide +kernel) ?_
            first | exact ⟨sb1 (by unfold MAYB; rw [hpl]; simp [hhB, *]; try omega), rfl⟩ | exact ⟨sb0 (by unfold MAYB; rw [hpl]; simp [hhB, *]; try omega), rfl⟩
          ·
            refine v_al_n 208 zC dX5_may_207 3 rfl ?_
            refine v_il_n 209 zC dX5_may_208 5 rfl ?_
            refine v_al_n 210 zC dX5_may_209 3 rfl ?_
            refine v_gf 213 0 zC dX5_may_210 gf_X5_28 rfl rfl ?_
            refine v_il_n 214 zC dX5_may_213 4 rfl ?_
            refine v_ialn (v := (nI (T d))) 215 6 zC dX5_may_214 rfl (by omega) rfl ?_
            refine v_cV (As := [.int (nI p), .int (nI (T d))]) (st := []) 218 0 [0, 7] zC dX5_may_215 hA (c_X5_lacksBeside (ev_l E) (ev_D E) cI (r0 := r0) (k1 := k1) (k2 := k2) (k3 := k3) (k4 := k4) (k6 := k6) (k7 := k7) (k8 := k8) (k10 := k10) (k12 := k12) (k13 := k13) (k14 := k14) (k15 := k15) (k16 := k16) (k21 := k21) (k22 := k22) (k23 := k23) (k24 := k24) (k25 := k25) (k30 := k30) (k31 := k31) (k33 := k33) (n := n) (m := m) (aw := aw) (ls := ls) (ap := ap) (sq := sq) (pl := pl) (tz := tz) (rs := rs) (bd := bd) (pd := pd) (tk := tk) (kv := kv) (sd := sd) (kw := kw) (p := p) (t := (T d)) (hn := (by first | omega | assumption | rfl | (simp only []; omega) | decide)) (hp := (by first | omega | assumption | rfl | (simp only []; omega) | decide)) (ht := (hT _))) cf_X5_lacksBeside lk_X5_102 rfl rfl rfl rfl rfl (by decide +kernel) (Nat.le_of_ble_eq_true rfl) (fun rv_19 wv_20 hp_21 hm_22 => ?_)
            clear hm_22
            obtain ⟨rfl, rfl⟩ := hp_21
            show VV E 0 0 218 [(6, .int (bz ev)), (5, .int (bz pb)), (4, .int (nI 4)), (0, .ref r0), (1, .int (nI d)), (2, .int (nI p)), (3, .int (nI h))] [.int (bz (LKB n kw p (T d)))] [(r0, .inr (5, [.int (nI n), .ref k1, .ref k2, .ref k3, .ref k4, .int (nI m), .ref k6, .ref k7, .ref k8, .int (nI 0), .ref k10, .int (nI aw), .ref k12, .ref k13, .ref k14, .ref k15, .ref k16, .int (nI ls), .int (nI ap), .int (bz bd), .int (nI sq), .ref k21, .ref k22, .ref k23, .ref k24, .ref k25, .int (bz pd), .int (nI pl), .int (bz tk), kv, .ref k30, .ref k31, .int (nI tz), .ref k33, .int (nI rs), .int sd])), (k1, .inl (cI, 7, .inl (nIf ki))), (k2, .inl (cI, 7, .inl (nIf op))), (k3, .inl (cI, 7, .inl (nIf (shF sh)))), (k6, .inl (cI, 6, .inl (nIf K))), (k7, .inl (cI, 6, .inl (nIf G))), (k8, .inl (cI, 6, .inl (nIf T))), (k12, .inl (cI, 7, .inl (nIf kw))), (k15, .inl (cI, 7, .inl (nIf mw)))]
            refine v_ifb_eq 231 221 zC dX5_may_218 (fun h_23 => ?_) (fun h_23 => ?_)
            ·
              refine v_ic (v := (nI 0)) 232 zC dX5_may_231 (by decide +kernel) ?_
              refine v_zret zC zT dX5_may_232 (by decide +kernel) ?_
              first | exact ⟨sb1 (by unfold MAYB; rw [hpl]; simp [hhB, *]; try omega), rfl⟩ | exact ⟨sb0 (by unfold MAYB; rw [hpl]; simp [hhB, *]; try omega), rfl⟩
            ·
              refine v_il_n 222 zC dX5_may_221 6 rfl ?_
              refine v_bp (v := (nI 12)) 224 zC dX5_may_222 (by decide +kernel) ?_
              refine v_icmpn_lt 231 227 zC dX5_may_224 (fun h_24 => ?_) (fun h_24 => ?_)
              ·
                refine v_ic (v := (nI 0)) 232 zC dX5_may_231 (by decide +kernel) ?_
                refine v_zret zC zT dX5_may_232 (by decide +kernel) ?_
                first | exact ⟨sb1 (by unfold MAYB; rw [hpl]; simp [hhB, *]; try omega), rfl⟩ | exact ⟨sb0 (by unfold MAYB; rw [hpl]; simp [hhB, *]; try omega), rfl⟩
              ·
                refine v_ic (v := (nI 1)) 228 zC dX5_may_227 (by decide +kernel) ?_
                refine v_goto 232 zC dX5_may_228 ?_
                refine v_zret zC zT dX5_may_232 (by decide +kernel) ?_
                first | exact ⟨sb1 (by unfold MAYB; rw [hpl]; simp [hhB, *]; try omega), rfl⟩ | exact ⟨sb0 (by unfold MAYB; rw [hpl]; simp [hhB, *]; try omega), rfl⟩
      ·
        rw [h_1]
        refine v_tsw (off := 155) 233 zC dX5_may_78 (Or.inr (by decide +kernel)) ?_
        refine v_il 235 zC dX5_may_233 1 rfl ?_
        refine v_ifb_eq 251 238 zC dX5_may_235 (fun h_25 => ?_) (fun h_25 => ?_)
        ·
          refine v_ic (v := (nI 0)) 252 zC dX5_may_251 (by decide +kernel) ?_
          refine v_zret zC zT dX5_may_252 (by decide +kernel) ?_
          first | exact ⟨sb1 (by unfold MAYB; rw [hpl]; simp [hhB, *]; try omega), rfl⟩ | exact ⟨sb0 (by unfold MAYB; rw [hpl]; simp [hhB, *]; try omega), rfl⟩
        ·
          refine v_al_n 239 zC dX5_may_238 3 rfl ?_
          refine v_gf 242 0 zC dX5_may_239 gf_X5_43 rfl rfl ?_
          refine v_il_n 243 zC dX5_may_242 5 rfl ?_
          refine v_ialn (v := (nI (mw p))) 244 8 zC dX5_may_243 rfl (by omega) rfl ?_
          refine v_ifn_ne 251 247 zC dX5_may_244 (fun h_26 => ?_) (fun h_26 => ?_)
          ·
            refine v_ic (v := (nI 0)) 252 zC dX5_may_251 (by decide +kernel) ?_
            refine v_zret zC zT dX5_may_252 (by decide +kernel) ?_
            first | exact ⟨sb1 (by unfold MAYB; rw [hpl]; simp [hhB, *]; try omega), rfl⟩ | exact ⟨sb0 (by unfold MAYB; rw [hpl]; simp [hhB, *]; try omega), rfl⟩
          ·
            refine v_ic (v := (nI 1)) 248 zC dX5_may_247 (by decide +kernel) ?_
            refine v_goto 252 zC dX5_may_248 ?_
            refine v_zret zC zT dX5_may_252 (by decide +kernel) ?_
            first | exact ⟨sb1 (by unfold MAYB; rw [hpl]; simp [hhB, *]; try omega), rfl⟩ | exact ⟨sb0 (by unfold MAYB; rw [hpl]; simp [hhB, *]; try omega), rfl⟩
    refine v_il_n 57 zC dX5_may_56 5 rfl ?_
    refine v_al_n 58 zC dX5_may_57 2 rfl ?_
    refine v_gf 61 0 zC dX5_may_58 gf_X5_25 rfl rfl ?_
    refine v_il_n 62 zC dX5_may_61 3 rfl ?_
    refine v_ialn (v := (nI (G d))) 63 5 zC dX5_may_62 rfl (by omega) rfl ?_
    refine v_iadd (v := (nI (h + (G d)))) 64 zC dX5_may_63 (nI_add _ _) ?_
    refine v_ic (v := (nI 2)) 65 zC dX5_may_64 (by decide +kernel) ?_
    refine v_irem (v := (nI ((h + (G d)) % 2))) 66 zC dX5_may_65 (nI_ne0 (by omega) (by omega)) (pk_rem (by omega) (by omega) (by omega)) ?_
    refine v_ifn_ne 73 69 zC dX5_may_66 (fun h_27 => ?_) (fun h_27 => ?_)
    ·
      refine v_ic (v := (nI 0)) 74 zC dX5_may_73 (by decide +kernel) ?_
      refine v_lvs (lv2 := [(5, .int (bz pb)), (4, .int (nI (K d))), (0, .ref r0), (1, .int (nI d)), (2, .int (nI p)), (3, .int (nI h))]) [0, 1, 2, 3, 4, 5] rfl ?_
      exact ct74 false (by simp [*])
    ·
      refine v_ic (v := (nI 1)) 70 zC dX5_may_69 (by decide +kernel) ?_
      refine v_goto 74 zC dX5_may_70 ?_
      refine v_lvs (lv2 := [(5, .int (bz pb)), (4, .int (nI (K d))), (0, .ref r0), (1, .int (nI d)), (2, .int (nI p)), (3, .int (nI h))]) [0, 1, 2, 3, 4, 5] rfl ?_
      exact ct74 true (by simp [*])
  refine v_al_n 9 zC dX5_may_8 1 rfl ?_
  refine v_gf 12 0 zC dX5_may_9 gf_X5_13 rfl rfl ?_
  refine v_il_n 13 zC dX5_may_12 3 rfl ?_
  refine v_ialn (v := (nI (op p))) 14 2 zC dX5_may_13 rfl (by omega) rfl ?_
  refine v_il_n 15 zC dX5_may_14 4 rfl ?_
  refine v_cS (As := [.int (nI (op p)), .int (nI h)]) (st := []) 18 [] zC dX5_may_15 hA (c_X5_hasBit (ev_l E) (ev_D E) cI (x := (op p)) (k := h) (hk := (by first | omega | assumption | rfl | (simp only []; omega) | decide))) cf_X5_hasBit lk_X5_95 rfl rfl rfl (by decide +kernel) (Nat.le_of_ble_eq_true rfl) (fun rv_28 wv_29 hp_30 hm_31 => ?_)
  clear hm_31
  obtain ⟨rfl, rfl⟩ := hp_30
  show VV E 0 0 18 [(4, .int (nI (K d))), (0, .ref r0), (1, .int (nI d)), (2, .int (nI p)), (3, .int (nI h))] [.int (bz (Nat.testBit (op p) h))] [(r0, .inr (5, [.int (nI n), .ref k1, .ref k2, .ref k3, .ref k4, .int (nI m), .ref k6, .ref k7, .ref k8, .int (nI 0), .ref k10, .int (nI aw), .ref k12, .ref k13, .ref k14, .ref k15, .ref k16, .int (nI ls), .int (nI ap), .int (bz bd), .int (nI sq), .ref k21, .ref k22, .ref k23, .ref k24, .ref k25, .int (bz pd), .int (nI pl), .int (bz tk), kv, .ref k30, .ref k31, .int (nI tz), .ref k33, .int (nI rs), .int sd])), (k1, .inl (cI, 7, .inl (nIf ki))), (k2, .inl (cI, 7, .inl (nIf op))), (k3, .inl (cI, 7, .inl (nIf (shF sh)))), (k6, .inl (cI, 6, .inl (nIf K))), (k7, .inl (cI, 6, .inl (nIf G))), (k8, .inl (cI, 6, .inl (nIf T))), (k12, .inl (cI, 7, .inl (nIf kw))), (k15, .inl (cI, 7, .inl (nIf mw)))]
  refine v_ifb_eq 53 21 zC dX5_may_18 (fun h_32 => ?_) (fun h_32 => ?_)
  ·
    refine v_ic (v := (nI 0)) 54 zC dX5_may_53 (by decide +kernel) ?_
    refine v_lvs (lv2 := [(4, .int (nI (K d))), (0, .ref r0), (1, .int (nI d)), (2, .int (nI p)), (3, .int (nI h))]) [0, 1, 2, 3, 4] rfl ?_
    exact ct54 false (by simp [PLB, *])
  ·
    refine v_al_n 22 zC dX5_may_21 1 rfl ?_
    refine v_gf 25 0 zC dX5_may_22 gf_X5_16 rfl rfl ?_
    refine v_il_n 26 zC dX5_may_25 3 rfl ?_
    refine v_ialn (v := (nI ((shF sh) p))) 27 3 zC dX5_may_26 rfl (by omega) rfl ?_
    refine v_ifn_ne 53 30 zC dX5_may_27 (fun h_33 => ?_) (fun h_33 => ?_)
    ·
      have hs9 := shf_1 h_33
      refine v_ic (v := (nI 0)) 54 zC dX5_may_53 (by decide +kernel) ?_
      refine v_lvs (lv2 := [(4, .int (nI (K d))), (0, .ref r0), (1, .int (nI d)), (2, .int (nI p)), (3, .int (nI h))]) [0, 1, 2, 3, 4] rfl ?_
      exact ct54 false (by simp [PLB, *])
    ·
      have hs9 := shf_0 h_33
      refine v_il 32 zC dX5_may_30 0 rfl ?_
      refine v_ic (v := (nI 5)) 33 zC dX5_may_32 (by decide +kernel) ?_
      refine v_icmpn_eq 49 36 zC dX5_may_33 (fun h_34 => ?_) (fun h_34 => ?_)
      ·
        refine v_ic (v := (nI 1)) 50 zC dX5_may_49 (by decide +kernel) ?_
        refine v_goto 54 zC dX5_may_50 ?_
        refine v_lvs (lv2 := [(4, .int (nI (K d))), (0, .ref r0), (1, .int (nI d)), (2, .int (nI p)), (3, .int (nI h))]) [0, 1, 2, 3, 4] rfl ?_
        exact ct54 true (by simp [PLB, *])
      ·
        refine v_al_n 37 zC dX5_may_36 1 rfl ?_
        refine v_gf 40 0 zC dX5_may_37 gf_X5_7 rfl rfl ?_
        refine v_il_n 41 zC dX5_may_40 3 rfl ?_
        refine v_ialn (v := (nI (ki p))) 42 1 zC dX5_may_41 rfl (by omega) rfl ?_
        refine v_il_n 43 zC dX5_may_42 2 rfl ?_
        refine v_cS (As := [.int (nI (ki p)), .int (nI d)]) (st := []) 46 [] zC dX5_may_43 hA (c_X5_hasBit (ev_l E) (ev_D E) cI (x := (ki p)) (k := d) (hk := (by first | omega | assumption | rfl | (simp only []; omega) | decide))) cf_X5_hasBit lk_X5_95 rfl rfl rfl (by decide +kernel) (Nat.le_of_ble_eq_true rfl) (fun rv_35 wv_36 hp_37 hm_38 => ?_)
        clear hm_38
        obtain ⟨rfl, rfl⟩ := hp_37
        show VV E 0 0 46 [(4, .int (nI (K d))), (0, .ref r0), (1, .int (nI d)), (2, .int (nI p)), (3, .int (nI h))] [.int (bz (Nat.testBit (ki p) d))] [(r0, .inr (5, [.int (nI n), .ref k1, .ref k2, .ref k3, .ref k4, .int (nI m), .ref k6, .ref k7, .ref k8, .int (nI 0), .ref k10, .int (nI aw), .ref k12, .ref k13, .ref k14, .ref k15, .ref k16, .int (nI ls), .int (nI ap), .int (bz bd), .int (nI sq), .ref k21, .ref k22, .ref k23, .ref k24, .ref k25, .int (bz pd), .int (nI pl), .int (bz tk), kv, .ref k30, .ref k31, .int (nI tz), .ref k33, .int (nI rs), .int sd])), (k1, .inl (cI, 7, .inl (nIf ki))), (k2, .inl (cI, 7, .inl (nIf op))), (k3, .inl (cI, 7, .inl (nIf (shF sh)))), (k6, .inl (cI, 6, .inl (nIf K))), (k7, .inl (cI, 6, .inl (nIf G))), (k8, .inl (cI, 6, .inl (nIf T))), (k12, .inl (cI, 7, .inl (nIf kw))), (k15, .inl (cI, 7, .inl (nIf mw)))]
        refine v_ifb_eq 53 49 zC dX5_may_46 (fun h_39 => ?_) (fun h_39 => ?_)
        ·
          refine v_ic (v := (nI 0)) 54 zC dX5_may_53 (by decide +kernel) ?_
          refine v_lvs (lv2 := [(4, .int (nI (K d))), (0, .ref r0), (1, .int (nI d)), (2, .int (nI p)), (3, .int (nI h))]) [0, 1, 2, 3, 4] rfl ?_
          exact ct54 false (by simp [PLB, *])
        ·
          refine v_ic (v := (nI 1)) 50 zC dX5_may_49 (by decide +kernel) ?_
          refine v_goto 54 zC dX5_may_50 ?_
          refine v_lvs (lv2 := [(4, .int (nI (K d))), (0, .ref r0), (1, .int (nI d)), (2, .int (nI p)), (3, .int (nI h))]) [0, 1, 2, 3, 4] rfl ?_
          exact ct54 true (by simp [PLB, *])
set_option maxRecDepth 100000 in
set_option maxHeartbeats 4000000 in
theorem c_X5_speaksThrough (l : Launch) (D : va_G) (cI : ClassId) (r0 k1 k2 k3 k4 k6 k7 k8 k10 k12 k13 k14 k15 k16 k21 k22 k23 k24 k25 k30 k31 k33 : Nat) (n m aw ls ap sq pl tz rs : Nat) (bd pd tk : Bool) (kv : Value) (sd : Int32) (ki op K G T kw mw : Nat → Nat) (sh d h : Nat) (hn : n ≤ 7) (hm : m ≤ 6) (hd : d < m) (hh : h < 24) (hK : ∀ z, K z < 6) (hG : ∀ z, G z < 10) (hT : ∀ z, T z < 10) (hW : ∀ z, z < 7 → mw z < 100) : CT l yX5_speaksThrough cX5_speaksThrough 5 (some .int) { frames := 3, cells := 0, slots := 0, locals := 69 } D cI [.ref r0, .int (nI d), .int (nI h)] [(r0, .inr (5, [.int (nI n), .ref k1, .ref k2, .ref k3, .ref k4, .int (nI m), .ref k6, .ref k7, .ref k8, .int (nI 0), .ref k10, .int (nI aw), .ref k12, .ref k13, .ref k14, .ref k15, .ref k16, .int (nI ls), .int (nI ap), .int (bz bd), .int (nI sq), .ref k21, .ref k22, .ref k23, .ref k24, .ref k25, .int (bz pd), .int (nI pl), .int (bz tk), kv, .ref k30, .ref k31, .int (nI tz), .ref k33, .int (nI rs), .int sd])), (k1, .inl (cI, 7, .inl (nIf ki))), (k2, .inl (cI, 7, .inl (nIf op))), (k3, .inl (cI, 7, .inl (nIf (shF sh)))), (k6, .inl (cI, 6, .inl (nIf K))), (k7, .inl (cI, 6, .inl (nIf G))), (k8, .inl (cI, 6, .inl (nIf T))), (k12, .inl (cI, 7, .inl (nIf kw))), (k15, .inl (cI, 7, .inl (nIf mw)))] (fun zr zw => (zr = some (.int (mI (ffP n (G d) (fun p => MAYB n (K d) (G d) (T d) d p h sh ki op mw kw)))) ∧ zw = [(r0, .inr (5, [.int (nI n), .ref k1, .ref k2, .ref k3, .ref k4, .int (nI m), .ref k6, .ref k7, .ref k8, .int (nI 0), .ref k10, .int (nI aw), .ref k12, .ref k13, .ref k14, .ref k15, .ref k16, .int (nI ls), .int (nI ap), .int (bz bd), .int (nI sq), .ref k21, .ref k22, .ref k23, .ref k24, .ref k25, .int (bz pd), .int (nI pl), .int (bz tk), kv, .ref k30, .ref k31, .int (nI tz), .ref k33, .int (nI rs), .int sd])), (k1, .inl (cI, 7, .inl (nIf ki))), (k2, .inl (cI, 7, .inl (nIf op))), (k3, .inl (cI, 7, .inl (nIf (shF sh)))), (k6, .inl (cI, 6, .inl (nIf K))), (k7, .inl (cI, 6, .inl (nIf G))), (k8, .inl (cI, 6, .inl (nIf T))), (k12, .inl (cI, 7, .inl (nIf kw))), (k15, .inl (cI, 7, .inl (nIf mw)))])) := by
  refine CT_of RX5 rfl (by decide +kernel) (Nat.le_of_ble_eq_true rfl) (fun E hnE zC zT => ?_)
  have hA : ∀ q, (ev_s E).heap.size ≤ q → ev_A E q := fun q h => by rw [zT.2]; exact Or.inr h
  have hgd := hG d
  show VV E 0 0 0 [(0, .ref r0), (1, .int (nI d)), (2, .int (nI h))] [] [(r0, .inr (5, [.int (nI n), .ref k1, .ref k2, .ref k3, .ref k4, .int (nI m), .ref k6, .ref k7, .ref k8, .int (nI 0), .ref k10, .int (nI aw), .ref k12, .ref k13, .ref k14, .ref k15, .ref k16, .int (nI ls), .int (nI ap), .int (bz bd), .int (nI sq), .ref k21, .ref k22, .ref k23, .ref k24, .ref k25, .int (bz pd), .int (nI pl), .int (bz tk), kv, .ref k30, .ref k31, .int (nI tz), .ref k33, .int (nI rs), .int sd])), (k1, .inl (cI, 7, .inl (nIf ki))), (k2, .inl (cI, 7, .inl (nIf op))), (k3, .inl (cI, 7, .inl (nIf (shF sh)))), (k6, .inl (cI, 6, .inl (nIf K))), (k7, .inl (cI, 6, .inl (nIf G))), (k8, .inl (cI, 6, .inl (nIf T))), (k12, .inl (cI, 7, .inl (nIf kw))), (k15, .inl (cI, 7, .inl (nIf mw)))]
  refine v_ic (v := (nI 0)) 1 zC dX5_speaksThrough_0 (by decide +kernel) ?_
  refine v_is_n (lv2 := [(3, .int (nI 0)), (0, .ref r0), (1, .int (nI d)), (2, .int (nI h))]) 2 zC dX5_speaksThrough_1 (by rw [hnE]; decide) rfl ?_
  have lp2 : ∀ (mz : Nat) (i : Nat), (fs (fun i => (fun p => MAYB n (K d) (G d) (T d) d p h sh ki op mw kw) ((G d + i) % n)) i = none) → (i ≤ n) → n - i = mz → VV E 0 0 2 [(3, .int (nI i)), (0, .ref r0), (1, .int (nI d)), (2, .int (nI h))] [] [(r0, .inr (5, [.int (nI n), .ref k1, .ref k2, .ref k3, .ref k4, .int (nI m), .ref k6, .ref k7, .ref k8, .int (nI 0), .ref k10, .int (nI aw), .ref k12, .ref k13, .ref k14, .ref k15, .ref k16, .int (nI ls), .int (nI ap), .int (bz bd), .int (nI sq), .ref k21, .ref k22, .ref k23, .ref k24, .ref k25, .int (bz pd), .int (nI pl), .int (bz tk), kv, .ref k30, .ref k31, .int (nI tz), .ref k33, .int (nI rs), .int sd])), (k1, .inl (cI, 7, .inl (nIf ki))), (k2, .inl (cI, 7, .inl (nIf op))), (k3, .inl (cI, 7, .inl (nIf (shF sh)))), (k6, .inl (cI, 6, .inl (nIf K))), (k7, .inl (cI, 6, .inl (nIf G))), (k8, .inl (cI, 6, .inl (nIf T))), (k12, .inl (cI, 7, .inl (nIf kw))), (k15, .inl (cI, 7, .inl (nIf mw)))] := by
    intro mz
    induction mz using Nat.strongRecOn with
    | _ mz ih2 =>
    intro i hq hi hm2
    refine v_il_n 3 zC dX5_speaksThrough_2 0 rfl ?_
    refine v_al_n 4 zC dX5_speaksThrough_3 1 rfl ?_
    refine v_gf 7 0 zC dX5_speaksThrough_4 gf_X5_77 rfl rfl ?_
    refine v_icmpn_ge 45 10 zC dX5_speaksThrough_7 (fun h_1 => ?_) (fun h_1 => ?_)
    ·
      refine v_bp (v := (-9)) 47 zC dX5_speaksThrough_45 (by decide +kernel) ?_
      refine v_iret zC zT dX5_speaksThrough_47  ?_
      exact ⟨by rw [ffp_n hq hi (by omega)]; rfl, rfl⟩
    ·
      refine v_al_n 11 zC dX5_speaksThrough_10 1 rfl ?_
      refine v_gf 14 0 zC dX5_speaksThrough_11 gf_X5_25 rfl rfl ?_
      refine v_il_n 15 zC dX5_speaksThrough_14 2 rfl ?_
      refine v_ialn (v := (nI (G d))) 16 5 zC dX5_speaksThrough_15 rfl (by omega) rfl ?_
      refine v_il_n 17 zC dX5_speaksThrough_16 0 rfl ?_
      refine v_iadd (v := (nI ((G d) + i))) 18 zC dX5_speaksThrough_17 (nI_add _ _) ?_
      refine v_al_n 19 zC dX5_speaksThrough_18 1 rfl ?_
      refine v_gf 22 0 zC dX5_speaksThrough_19 gf_X5_77 rfl rfl ?_
      refine v_irem (v := (nI (((G d) + i) % n))) 23 zC dX5_speaksThrough_22 (nI_ne0 (by omega) (by omega)) (pk_rem (by omega) (by omega) (by omega)) ?_
      refine v_is (lv2 := [(4, .int (nI (((G d) + i) % n))), (3, .int (nI i)), (0, .ref r0), (1, .int (nI d)), (2, .int (nI h))]) 25 zC dX5_speaksThrough_23 (by rw [hnE]; decide) rfl ?_
      have hmod := Nat.mod_lt (G d + i) (show 0 < n by omega)
      refine v_al_n 26 zC dX5_speaksThrough_25 2 rfl ?_
      refine v_il_n 27 zC dX5_speaksThrough_26 3 rfl ?_
      refine v_il 29 zC dX5_speaksThrough_27 0 rfl ?_
      refine v_il_n 30 zC dX5_speaksThrough_29 4 rfl ?_
      refine v_cV (As := [.int (nI d), .int (nI (((G d) + i) % n)), .int (nI h)]) (st := []) 33 0 [0, 1, 2, 3, 4, 5, 6, 7, 8] zC dX5_speaksThrough_30 hA (c_X5_may (ev_l E) (ev_D E) cI (r0 := r0) (k1 := k1) (k2 := k2) (k3 := k3) (k4 := k4) (k6 := k6) (k7 := k7) (k8 := k8) (k10 := k10) (k12 := k12) (k13 := k13) (k14 := k14) (k15 := k15) (k16 := k16) (k21 := k21) (k22 := k22) (k23 := k23) (k24 := k24) (k25 := k25) (k30 := k30) (k31 := k31) (k33 := k33) (n := n) (m := m) (aw := aw) (ls := ls) (ap := ap) (sq := sq) (pl := pl) (tz := tz) (rs := rs) (bd := bd) (pd := pd) (tk := tk) (kv := kv) (sd := sd) (ki := ki) (op := op) (K := K) (G := G) (T := T) (kw := kw) (mw := mw) (sh := sh) (d := d) (p := (((G d) + i) % n)) (h := h) (hn := (by first | omega | assumption | rfl | (simp only []; omega) | decide)) (hm := (by first | omega | assumption | rfl | (simp only []; omega) | decide)) (hd := (by first | omega | assumption | rfl | (simp only []; omega) | decide)) (hp := (by first | omega | assumption | rfl | (simp only []; omega) | decide)) (hh := (by first | omega | assumption | rfl | (simp only []; omega) | decide)) (hK := hK) (hG := hG) (hT := hT) (hW := hW)) cf_X5_may lk_X5_105 rfl rfl rfl rfl rfl (by decide +kernel) (Nat.le_of_ble_eq_true rfl) (fun rv_2 wv_3 hp_4 hm_5 => ?_)
      clear hm_5
      obtain ⟨rfl, rfl⟩ := hp_4
      show VV E 0 0 33 [(4, .int (nI (((G d) + i) % n))), (3, .int (nI i)), (0, .ref r0), (1, .int (nI d)), (2, .int (nI h))] [.int (bz (MAYB n (K d) (G d) (T d) d (((G d) + i) % n) h sh ki op mw kw))] [(r0, .inr (5, [.int (nI n), .ref k1, .ref k2, .ref k3, .ref k4, .int (nI m), .ref k6, .ref k7, .ref k8, .int (nI 0), .ref k10, .int (nI aw), .ref k12, .ref k13, .ref k14, .ref k15, .ref k16, .int (nI ls), .int (nI ap), .int (bz bd), .int (nI sq), .ref k21, .ref k22, .ref k23, .ref k24, .ref k25, .int (bz pd), .int (nI pl), .int (bz tk), kv, .ref k30, .ref k31, .int (nI tz), .ref k33, .int (nI rs), .int sd])), (k1, .inl (cI, 7, .inl (nIf ki))), (k2, .inl (cI, 7, .inl (nIf op))), (k3, .inl (cI, 7, .inl (nIf (shF sh)))), (k6, .inl (cI, 6, .inl (nIf K))), (k7, .inl (cI, 6, .inl (nIf G))), (k8, .inl (cI, 6, .inl (nIf T))), (k12, .inl (cI, 7, .inl (nIf kw))), (k15, .inl (cI, 7, .inl (nIf mw)))]
      refine v_ifb_eq 39 36 zC dX5_speaksThrough_33 (fun h_6 => ?_) (fun h_6 => ?_)
      ·
        have hb9 := h_6
        refine v_inc (v := (nI (i + 1))) (lv2 := [(3, .int (nI (i + 1))), (4, .int (nI (((G d) + i) % n))), (0, .ref r0), (1, .int (nI d)), (2, .int (nI h))]) 42 zC dX5_speaksThrough_39 (j := 1) rfl (nI_add _ 1) (by rw [hnE]; decide) rfl ?_
        refine v_goto 2 zC dX5_speaksThrough_42 ?_
        refine v_lvs (lv2 := [(3, .int (nI (i + 1))), (0, .ref r0), (1, .int (nI d)), (2, .int (nI h))]) [0, 2, 3, 4] rfl ?_
        exact ih2 _ (by omega) (i + 1) (fs_0 hq hb9) (by first | omega | assumption | rfl | (simp only []; omega) | decide) rfl
      ·
        have hb9 := h_6
        refine v_il 38 zC dX5_speaksThrough_36 0 rfl ?_
        refine v_iret zC zT dX5_speaksThrough_38  ?_
        exact ⟨by rw [ffp_s hq (by omega) hb9]; rfl, rfl⟩
  refine v_lvs (lv2 := [(3, .int (nI 0)), (0, .ref r0), (1, .int (nI d)), (2, .int (nI h))]) [0, 1, 2, 3] rfl ?_
  exact lp2 _ 0 rfl (by first | omega | assumption | rfl | (simp only []; omega) | decide) rfl
set_option maxRecDepth 100000 in
set_option maxHeartbeats 4000000 in
theorem c_X5_hourOn (l : Launch) (D : va_G) (cI : ClassId) (r0 k1 k2 k3 k4 k6 k7 k8 k10 k12 k13 k14 k15 k16 k21 k22 k23 k24 k25 k30 k31 k33 : Nat) (n m aw ls ap sq pl tz rs : Nat) (bd pd tk : Bool) (kv : Value) (sd : Int32) (ki op fa K G T : Nat → Nat) (sh : Nat) (kw mw : Nat → Nat) (M : Nat → Option Nat) (h : Nat) (hn : n ≤ 7) (hm : m ≤ 6) (hh : h < 24) (hK : ∀ z, K z < 6) (hG : ∀ z, G z < 10) (hT : ∀ z, T z < 10) (hkw : ∀ z, kw z < 1024) (hM : ∀ z v, M z = some v → v < 7) (hr : ∀ p, p < n → kw p = (drD n m sh aw ki op fa K G T h) p) : CT l yX5_hourOn cX5_hourOn 4 none { frames := 4, cells := 0, slots := 0, locals := 93 } D cI [.ref r0, .int (nI h)] [(r0, .inr (5, [.int (nI n), .ref k1, .ref k2, .ref k3, .ref k4, .int (nI m), .ref k6, .ref k7, .ref k8, .int (nI 0), .ref k10, .int (nI aw), .ref k12, .ref k13, .ref k14, .ref k15, .ref k16, .int (nI ls), .int (nI ap), .int (bz bd), .int (nI sq), .ref k21, .ref k22, .ref k23, .ref k24, .ref k25, .int (bz pd), .int (nI pl), .int (bz tk), kv, .ref k30, .ref k31, .int (nI tz), .ref k33, .int (nI rs), .int sd])), (k1, .inl (cI, 7, .inl (nIf ki))), (k2, .inl (cI, 7, .inl (nIf op))), (k3, .inl (cI, 7, .inl (nIf (shF sh)))), (k6, .inl (cI, 6, .inl (nIf K))), (k7, .inl (cI, 6, .inl (nIf G))), (k8, .inl (cI, 6, .inl (nIf T))), (k12, .inl (cI, 7, .inl (nIf kw))), (k14, .inl (cI, 144, .inl (mIf M))), (k15, .inl (cI, 7, .inl (nIf mw)))] (fun zr zw => (∃ A : Nat → Nat, ∃ Y : Nat → Option Nat, ∃ V : Nat → Nat, (∀ p, p < n → A p = drD n m sh aw ki op fa K G T (h + 1) p) ∧ (∀ e, e < m → Y (6 * h + e) = dmD n m sh aw ki op fa K G T h e) ∧ (∀ z, z < 6 * h → Y z = M z) ∧ (∀ z, A z < 1024) ∧ (∀ z v, Y z = some v → v < 7) ∧ zr = none ∧ zw = [(r0, .inr (5, [.int (nI n), .ref k1, .ref k2, .ref k3, .ref k4, .int (nI m), .ref k6, .ref k7, .ref k8, .int (nI 0), .ref k10, .int (nI aw), .ref k12, .ref k13, .ref k14, .ref k15, .ref k16, .int (nI ls), .int (nI ap), .int (bz bd), .int (nI sq), .ref k21, .ref k22, .ref k23, .ref k24, .ref k25, .int (bz pd), .int (nI pl), .int (bz tk), kv, .ref k30, .ref k31, .int (nI tz), .ref k33, .int (nI rs), .int sd])), (k1, .inl (cI, 7, .inl (nIf ki))), (k2, .inl (cI, 7, .inl (nIf op))), (k3, .inl (cI, 7, .inl (nIf (shF sh)))), (k6, .inl (cI, 6, .inl (nIf K))), (k7, .inl (cI, 6, .inl (nIf G))), (k8, .inl (cI, 6, .inl (nIf T))), (k12, .inl (cI, 7, .inl (nIf A))), (k14, .inl (cI, 144, .inl (mIf Y))), (k15, .inl (cI, 7, .inl (nIf V)))])) := by
  refine CT_of RX5 rfl (by decide +kernel) (Nat.le_of_ble_eq_true rfl) (fun E hnE zC zT => ?_)
  have hA : ∀ q, (ev_s E).heap.size ≤ q → ev_A E q := fun q h => by rw [zT.2]; exact Or.inr h
  show VV E 0 0 0 [(0, .ref r0), (1, .int (nI h))] [] [(r0, .inr (5, [.int (nI n), .ref k1, .ref k2, .ref k3, .ref k4, .int (nI m), .ref k6, .ref k7, .ref k8, .int (nI 0), .ref k10, .int (nI aw), .ref k12, .ref k13, .ref k14, .ref k15, .ref k16, .int (nI ls), .int (nI ap), .int (bz bd), .int (nI sq), .ref k21, .ref k22, .ref k23, .ref k24, .ref k25, .int (bz pd), .int (nI pl), .int (bz tk), kv, .ref k30, .ref k31, .int (nI tz), .ref k33, .int (nI rs), .int sd])), (k1, .inl (cI, 7, .inl (nIf ki))), (k2, .inl (cI, 7, .inl (nIf op))), (k3, .inl (cI, 7, .inl (nIf (shF sh)))), (k6, .inl (cI, 6, .inl (nIf K))), (k7, .inl (cI, 6, .inl (nIf G))), (k8, .inl (cI, 6, .inl (nIf T))), (k12, .inl (cI, 7, .inl (nIf kw))), (k14, .inl (cI, 144, .inl (mIf M))), (k15, .inl (cI, 7, .inl (nIf mw)))]
  refine v_ic (v := (nI 0)) 1 zC dX5_hourOn_0 (by decide +kernel) ?_
  refine v_is_n (lv2 := [(2, .int (nI 0)), (0, .ref r0), (1, .int (nI h))]) 2 zC dX5_hourOn_1 (by rw [hnE]; decide) rfl ?_
  have lp2 : ∀ (mz : Nat) (V : Nat → Nat) (p : Nat), (∀ z, z < p → V z = 0) → (p ≤ 7) → 7 - p = mz → VV E 0 0 2 [(2, .int (nI p)), (0, .ref r0), (1, .int (nI h))] [] [(r0, .inr (5, [.int (nI n), .ref k1, .ref k2, .ref k3, .ref k4, .int (nI m), .ref k6, .ref k7, .ref k8, .int (nI 0), .ref k10, .int (nI aw), .ref k12, .ref k13, .ref k14, .ref k15, .ref k16, .int (nI ls), .int (nI ap), .int (bz bd), .int (nI sq), .ref k21, .ref k22, .ref k23, .ref k24, .ref k25, .int (bz pd), .int (nI pl), .int (bz tk), kv, .ref k30, .ref k31, .int (nI tz), .ref k33, .int (nI rs), .int sd])), (k1, .inl (cI, 7, .inl (nIf ki))), (k2, .inl (cI, 7, .inl (nIf op))), (k3, .inl (cI, 7, .inl (nIf (shF sh)))), (k6, .inl (cI, 6, .inl (nIf K))), (k7, .inl (cI, 6, .inl (nIf G))), (k8, .inl (cI, 6, .inl (nIf T))), (k12, .inl (cI, 7, .inl (nIf kw))), (k14, .inl (cI, 144, .inl (mIf M))), (k15, .inl (cI, 7, .inl (nIf V)))] := by
    intro mz
    induction mz using Nat.strongRecOn with
    | _ mz ih2 =>
    intro V p hV hp hm2
    refine v_il_n 3 zC dX5_hourOn_2 0 rfl ?_
    refine v_bp (v := (nI 7)) 5 zC dX5_hourOn_3 (by decide +kernel) ?_
    refine v_icmpn_ge 21 8 zC dX5_hourOn_5 (fun h_1 => ?_) (fun h_1 => ?_)
    ·
      refine v_ic (v := (nI 0)) 22 zC dX5_hourOn_21 (by decide +kernel) ?_
      refine v_is_n (lv2 := [(2, .int (nI 0)), (0, .ref r0), (1, .int (nI h))]) 23 zC dX5_hourOn_22 (by rw [hnE]; decide) rfl ?_
      have lp23 : ∀ (mz : Nat) (Y : Nat → Option Nat) (U : Nat → Nat) (d : Nat), (HWP n (hsD n (odN op n h) h (mfS n sh aw ki K) K G T (drD n m sh aw ki op fa K G T h) d).1 (hsD n (odN op n h) h (mfS n sh aw ki K) K G T (drD n m sh aw ki op fa K G T h) d).2.1 U) → (∀ z, z < 7 → U z ≤ d) → (∀ e, e < d → Y (6 * h + e) = hmD n (odN op n h) h (mfS n sh aw ki K) K G T (drD n m sh aw ki op fa K G T h) e) → (∀ z, z < 6 * h → Y z = M z) → (∀ z v, Y z = some v → v < 7) → (d ≤ m) → m - d = mz → VV E 0 0 23 [(2, .int (nI d)), (0, .ref r0), (1, .int (nI h))] [] [(r0, .inr (5, [.int (nI n), .ref k1, .ref k2, .ref k3, .ref k4, .int (nI m), .ref k6, .ref k7, .ref k8, .int (nI 0), .ref k10, .int (nI aw), .ref k12, .ref k13, .ref k14, .ref k15, .ref k16, .int (nI ls), .int (nI ap), .int (bz bd), .int (nI sq), .ref k21, .ref k22, .ref k23, .ref k24, .ref k25, .int (bz pd), .int (nI pl), .int (bz tk), kv, .ref k30, .ref k31, .int (nI tz), .ref k33, .int (nI rs), .int sd])), (k1, .inl (cI, 7, .inl (nIf ki))), (k2, .inl (cI, 7, .inl (nIf op))), (k3, .inl (cI, 7, .inl (nIf (shF sh)))), (k6, .inl (cI, 6, .inl (nIf K))), (k7, .inl (cI, 6, .inl (nIf G))), (k8, .inl (cI, 6, .inl (nIf T))), (k12, .inl (cI, 7, .inl (nIf kw))), (k14, .inl (cI, 144, .inl (mIf Y))), (k15, .inl (cI, 7, .inl (nIf U)))] := by
        intro mz
        induction mz using Nat.strongRecOn with
        | _ mz ih23 =>
        intro Y U d hU hUb h5 h6 h8 hd hm23
        refine v_il_n 24 zC dX5_hourOn_23 0 rfl ?_
        refine v_al_n 25 zC dX5_hourOn_24 1 rfl ?_
        refine v_gf 28 0 zC dX5_hourOn_25 gf_X5_84 rfl rfl ?_
        refine v_icmpn_ge 86 31 zC dX5_hourOn_28 (fun h_2 => ?_) (fun h_2 => ?_)
        ·
          have h5m : ∀ e, e < m → Y (6 * h + e) = hmD n (odN op n h) h (mfS n sh aw ki K) K G T (drD n m sh aw ki op fa K G T h) e := fun e he => h5 e (by omega)
          refine v_ic (v := (nI 0)) 87 zC dX5_hourOn_86 (by decide +kernel) ?_
          refine v_is_n (lv2 := [(2, .int (nI 0)), (0, .ref r0), (1, .int (nI h))]) 88 zC dX5_hourOn_87 (by rw [hnE]; decide) rfl ?_
          have lp88 : ∀ (mz : Nat) (A : Nat → Nat) (d : Nat), (∀ p, p < n → A p = (hsD n (odN op n h) h (mfS n sh aw ki K) K G T (drD n m sh aw ki op fa K G T h) d).2.2 p) → (∀ z, A z < 1024) → (d ≤ m) → m - d = mz → VV E 0 0 88 [(2, .int (nI d)), (0, .ref r0), (1, .int (nI h))] [] [(r0, .inr (5, [.int (nI n), .ref k1, .ref k2, .ref k3, .ref k4, .int (nI m), .ref k6, .ref k7, .ref k8, .int (nI 0), .ref k10, .int (nI aw), .ref k12, .ref k13, .ref k14, .ref k15, .ref k16, .int (nI ls), .int (nI ap), .int (bz bd), .int (nI sq), .ref k21, .ref k22, .ref k23, .ref k24, .ref k25, .int (bz pd), .int (nI pl), .int (bz tk), kv, .ref k30, .ref k31, .int (nI tz), .ref k33, .int (nI rs), .int sd])), (k1, .inl (cI, 7, .inl (nIf ki))), (k2, .inl (cI, 7, .inl (nIf op))), (k3, .inl (cI, 7, .inl (nIf (shF sh)))), (k6, .inl (cI, 6, .inl (nIf K))), (k7, .inl (cI, 6, .inl (nIf G))), (k8, .inl (cI, 6, .inl (nIf T))), (k12, .inl (cI, 7, .inl (nIf A))), (k14, .inl (cI, 144, .inl (mIf Y))), (k15, .inl (cI, 7, .inl (nIf U)))] := by
            intro mz
            induction mz using Nat.strongRecOn with
            | _ mz ih88 =>
            intro A d hAx hAb hd hm88
            refine v_il_n 89 zC dX5_hourOn_88 0 rfl ?_
            refine v_al_n 90 zC dX5_hourOn_89 1 rfl ?_
            refine v_gf 93 0 zC dX5_hourOn_90 gf_X5_84 rfl rfl ?_
            refine v_icmpn_ge 168 96 zC dX5_hourOn_93 (fun h_3 => ?_) (fun h_3 => ?_)
            ·
              refine v_vret zC zT dX5_hourOn_168  ?_
              exact ⟨A, Y, U, fun p hp => (hAx p hp).trans (by rw [show d = m by omega]; rfl), h5m, h6, hAb, h8, rfl, rfl⟩
            ·
              refine v_al_n 97 zC dX5_hourOn_96 1 rfl ?_
              refine v_gf 100 0 zC dX5_hourOn_97 gf_X5_40 rfl rfl ?_
              refine v_bp (v := (nI 6)) 102 zC dX5_hourOn_100 (by decide +kernel) ?_
              refine v_il_n 103 zC dX5_hourOn_102 2 rfl ?_
              refine v_imul (v := (nI (6 * h))) 104 zC dX5_hourOn_103 (pk_mul _ _) ?_
              refine v_il_n 105 zC dX5_hourOn_104 0 rfl ?_
              refine v_iadd (v := (nI ((6 * h) + d))) 106 zC dX5_hourOn_105 (nI_add _ _) ?_
              refine v_ialn (v := (mI (Y ((6 * h) + d)))) 107 8 zC dX5_hourOn_106 rfl (by omega) rfl ?_
              obtain ⟨u, hu9⟩ : ∃ z, z = (Y ((6 * h) + d)) := ⟨_, rfl⟩
              rw [← hu9]
              have hw9 : hwD n (odN op n h) h (mfS n sh aw ki K) K G T (drD n m sh aw ki op fa K G T h) (hsD n (odN op n h) h (mfS n sh aw ki K) K G T (drD n m sh aw ki op fa K G T h) d).1 (hsD n (odN op n h) h (mfS n sh aw ki K) K G T (drD n m sh aw ki op fa K G T h) d).2.1 d = u := (h5m d (by omega)).symm.trans hu9.symm
              refine v_is_n (lv2 := [(3, .int (mI u)), (2, .int (nI d)), (0, .ref r0), (1, .int (nI h))]) 108 zC dX5_hourOn_107 (by rw [hnE]; decide) rfl ?_
              refine v_il_n 109 zC dX5_hourOn_108 0 rfl ?_
              refine v_ifo_lt 162 112 zC dX5_hourOn_109 (fun v e => by have := hwd_lt (hw9.trans e); omega) (fun h_4 => ?_) (fun h_4 => ?_)
              ·
                have hz9 : u = none := by cases u with | none => rfl | some _ => cases h_4
                subst hz9
                refine v_inc (v := (nI (d + 1))) (lv2 := [(2, .int (nI (d + 1))), (3, .int (mI none)), (0, .ref r0), (1, .int (nI h))]) 165 zC dX5_hourOn_162 (j := 1) rfl (nI_add _ 1) (by rw [hnE]; decide) rfl ?_
                refine v_goto 88 zC dX5_hourOn_165 ?_
                refine v_lvs (lv2 := [(2, .int (nI (d + 1))), (0, .ref r0), (1, .int (nI h))]) [0, 2, 3] rfl ?_
                exact ih88 _ (by omega) A (d + 1) (by first | (intro p hp; rw [hsD_n rfl rfl hw9]; exact hAx p hp) | (intro p hp; rw [hsD_s rfl rfl hw9]; dsimp only; rw [tell_1 (by omega)]; exact hAx p hp) | (rw [hsD_s rfl rfl hw9]; exact tell_2 hn hvn9 (by assumption) hAx)) (by first | exact hAb | exact un_b (un_b hAb (Nat.or_lt_two_pow (n := 10) (hAb _) (pow_lt2 (hT _)))) (Nat.or_lt_two_pow (n := 10) (un_b hAb (Nat.or_lt_two_pow (n := 10) (hAb _) (pow_lt2 (hT _))) _) (pow_lt2 (hT _)))) (by first | omega | assumption | rfl | (simp only []; omega) | decide) rfl
              ·
                obtain ⟨v9, he_v9⟩ := Option.isSome_iff_exists.mp h_4
                subst he_v9
                have hvn9 := hwd_lt hw9
                refine v_al_n 113 zC dX5_hourOn_112 2 rfl ?_
                refine v_gf 116 0 zC dX5_hourOn_113 gf_X5_77 rfl rfl ?_
                refine v_ic (v := (nI 1)) 117 zC dX5_hourOn_116 (by decide +kernel) ?_
                refine v_icmpn_le 162 120 zC dX5_hourOn_117 (fun h_5 => ?_) (fun h_5 => ?_)
                ·
                  refine v_inc (v := (nI (d + 1))) (lv2 := [(2, .int (nI (d + 1))), (3, .int (nI v9)), (0, .ref r0), (1, .int (nI h))]) 165 zC dX5_hourOn_162 (j := 1) rfl (nI_add _ 1) (by rw [hnE]; decide) rfl ?_
                  refine v_goto 88 zC dX5_hourOn_165 ?_
                  refine v_lvs (lv2 := [(2, .int (nI (d + 1))), (0, .ref r0), (1, .int (nI h))]) [0, 2, 3] rfl ?_
                  exact ih88 _ (by omega) A (d + 1) (by first | (intro p hp; rw [hsD_n rfl rfl hw9]; exact hAx p hp) | (intro p hp; rw [hsD_s rfl rfl hw9]; dsimp only; rw [tell_1 (by omega)]; exact hAx p hp) | (rw [hsD_s rfl rfl hw9]; exact tell_2 hn hvn9 (by assumption) hAx)) (by first | exact hAb | exact un_b (un_b hAb (Nat.or_lt_two_pow (n := 10) (hAb _) (pow_lt2 (hT _)))) (Nat.or_lt_two_pow (n := 10) (un_b hAb (Nat.or_lt_two_pow (n := 10) (hAb _) (pow_lt2 (hT _))) _) (pow_lt2 (hT _)))) (by first | omega | assumption | rfl | (simp only []; omega) | decide) rfl
                ·
                  have hm8 := Nat.mod_lt (v9 + n - 1) (show 0 < n by omega)
                  have hm9 := Nat.mod_lt (v9 + 1) (show 0 < n by omega)
                  have htd := hT d
                  refine v_al_n 121 zC dX5_hourOn_120 2 rfl ?_
                  refine v_gf 124 0 zC dX5_hourOn_121 gf_X5_34 rfl rfl ?_
                  refine v_al_n 125 zC dX5_hourOn_124 2 rfl ?_
                  refine v_il_n 126 zC dX5_hourOn_125 0 rfl ?_
                  refine v_cV (As := [.int (nI v9)]) (st := [.ref k12]) 129 0 [0] zC dX5_hourOn_126 hA (c_X5_before (ev_l E) (ev_D E) cI (r0 := r0) (k1 := k1) (k2 := k2) (k3 := k3) (k4 := k4) (k6 := k6) (k7 := k7) (k8 := k8) (k10 := k10) (k12 := k12) (k13 := k13) (k14 := k14) (k15 := k15) (k16 := k16) (k21 := k21) (k22 := k22) (k23 := k23) (k24 := k24) (k25 := k25) (k30 := k30) (k31 := k31) (k33 := k33) (n := n) (m := m) (aw := aw) (ls := ls) (ap := ap) (sq := sq) (pl := pl) (tz := tz) (rs := rs) (bd := bd) (pd := pd) (tk := tk) (kv := kv) (sd := sd) (p := v9) (hn := (by first | omega | assumption | rfl | (simp only []; omega) | decide)) (hp := (by first | omega | assumption | rfl | (simp only []; omega) | decide))) cf_X5_before lk_X5_91 rfl rfl rfl rfl rfl (by decide +kernel) (Nat.le_of_ble_eq_true rfl) (fun rv_6 wv_7 hp_8 hm_9 => ?_)
                  clear hm_9
                  obtain ⟨rfl, rfl⟩ := hp_8
                  show VV E 0 0 129 [(3, .int (nI v9)), (2, .int (nI d)), (0, .ref r0), (1, .int (nI h))] [.int (nI ((v9 + n - 1) % n)), .ref k12] [(r0, .inr (5, [.int (nI n), .ref k1, .ref k2, .ref k3, .ref k4, .int (nI m), .ref k6, .ref k7, .ref k8, .int (nI 0), .ref k10, .int (nI aw), .ref k12, .ref k13, .ref k14, .ref k15, .ref k16, .int (nI ls), .int (nI ap), .int (bz bd), .int (nI sq), .ref k21, .ref k22, .ref k23, .ref k24, .ref k25, .int (bz pd), .int (nI pl), .int (bz tk), kv, .ref k30, .ref k31, .int (nI tz), .ref k33, .int (nI rs), .int sd])), (k1, .inl (cI, 7, .inl (nIf ki))), (k2, .inl (cI, 7, .inl (nIf op))), (k3, .inl (cI, 7, .inl (nIf (shF sh)))), (k6, .inl (cI, 6, .inl (nIf K))), (k7, .inl (cI, 6, .inl (nIf G))), (k8, .inl (cI, 6, .inl (nIf T))), (k12, .inl (cI, 7, .inl (nIf A))), (k14, .inl (cI, 144, .inl (mIf Y))), (k15, .inl (cI, 7, .inl (nIf U)))]
                  refine v_dup2 130 zC dX5_hourOn_129 rfl rfl ?_
                  refine v_ialn (v := (nI (A ((v9 + n - 1) % n)))) 131 7 zC dX5_hourOn_130 rfl (by omega) rfl ?_
                  refine v_ic (v := (nI 1)) 132 zC dX5_hourOn_131 (by decide +kernel) ?_
                  refine v_al_n 133 zC dX5_hourOn_132 2 rfl ?_
                  refine v_gf 136 0 zC dX5_hourOn_133 gf_X5_28 rfl rfl ?_
                  refine v_il_n 137 zC dX5_hourOn_136 1 rfl ?_
                  refine v_ialn (v := (nI (T d))) 138 6 zC dX5_hourOn_137 rfl (by omega) rfl ?_
                  refine v_ishl (v := (nI (2 ^ (T d)))) 139 zC dX5_hourOn_138 (b1n (by omega)) ?_
                  refine v_ior (v := (nI ((A ((v9 + n - 1) % n)) ||| (2 ^ (T d))))) 140 zC dX5_hourOn_139 (fa_or _ _) ?_
                  refine v_iasn (ws2 := [(r0, .inr (5, [.int (nI n), .ref k1, .ref k2, .ref k3, .ref k4, .int (nI m), .ref k6, .ref k7, .ref k8, .int (nI 0), .ref k10, .int (nI aw), .ref k12, .ref k13, .ref k14, .ref k15, .ref k16, .int (nI ls), .int (nI ap), .int (bz bd), .int (nI sq), .ref k21, .ref k22, .ref k23, .ref k24, .ref k25, .int (bz pd), .int (nI pl), .int (bz tk), kv, .ref k30, .ref k31, .int (nI tz), .ref k33, .int (nI rs), .int sd])), (k1, .inl (cI, 7, .inl (nIf ki))), (k2, .inl (cI, 7, .inl (nIf op))), (k3, .inl (cI, 7, .inl (nIf (shF sh)))), (k6, .inl (cI, 6, .inl (nIf K))), (k7, .inl (cI, 6, .inl (nIf G))), (k8, .inl (cI, 6, .inl (nIf T))), (k12, .inl (cI, 7, .inl (nIf (un A ((v9 + n - 1) % n) ((A ((v9 + n - 1) % n)) ||| (2 ^ (T d))))))), (k14, .inl (cI, 144, .inl (mIf Y))), (k15, .inl (cI, 7, .inl (nIf U)))]) 141 7 zC dX5_hourOn_140 rfl (by omega) (by rw [upd_nIf]; first | done | rfl) ?_
                  refine v_al_n 142 zC dX5_hourOn_141 2 rfl ?_
                  refine v_gf 145 0 zC dX5_hourOn_142 gf_X5_34 rfl rfl ?_
                  refine v_al_n 146 zC dX5_hourOn_145 2 rfl ?_
                  refine v_il_n 147 zC dX5_hourOn_146 0 rfl ?_
                  refine v_cV (As := [.int (nI v9)]) (st := [.ref k12]) 150 0 [0] zC dX5_hourOn_147 hA (c_X5_behind (ev_l E) (ev_D E) cI (r0 := r0) (k1 := k1) (k2 := k2) (k3 := k3) (k4 := k4) (k6 := k6) (k7 := k7) (k8 := k8) (k10 := k10) (k12 := k12) (k13 := k13) (k14 := k14) (k15 := k15) (k16 := k16) (k21 := k21) (k22 := k22) (k23 := k23) (k24 := k24) (k25 := k25) (k30 := k30) (k31 := k31) (k33 := k33) (n := n) (m := m) (aw := aw) (ls := ls) (ap := ap) (sq := sq) (pl := pl) (tz := tz) (rs := rs) (bd := bd) (pd := pd) (tk := tk) (kv := kv) (sd := sd) (p := v9) (hn := (by first | omega | assumption | rfl | (simp only []; omega) | decide)) (hp := (by first | omega | assumption | rfl | (simp only []; omega) | decide))) cf_X5_behind lk_X5_99 rfl rfl rfl rfl rfl (by decide +kernel) (Nat.le_of_ble_eq_true rfl) (fun rv_10 wv_11 hp_12 hm_13 => ?_)
                  clear hm_13
                  obtain ⟨rfl, rfl⟩ := hp_12
                  show VV E 0 0 150 [(3, .int (nI v9)), (2, .int (nI d)), (0, .ref r0), (1, .int (nI h))] [.int (nI ((v9 + 1) % n)), .ref k12] [(r0, .inr (5, [.int (nI n), .ref k1, .ref k2, .ref k3, .ref k4, .int (nI m), .ref k6, .ref k7, .ref k8, .int (nI 0), .ref k10, .int (nI aw), .ref k12, .ref k13, .ref k14, .ref k15, .ref k16, .int (nI ls), .int (nI ap), .int (bz bd), .int (nI sq), .ref k21, .ref k22, .ref k23, .ref k24, .ref k25, .int (bz pd), .int (nI pl), .int (bz tk), kv, .ref k30, .ref k31, .int (nI tz), .ref k33, .int (nI rs), .int sd])), (k1, .inl (cI, 7, .inl (nIf ki))), (k2, .inl (cI, 7, .inl (nIf op))), (k3, .inl (cI, 7, .inl (nIf (shF sh)))), (k6, .inl (cI, 6, .inl (nIf K))), (k7, .inl (cI, 6, .inl (nIf G))), (k8, .inl (cI, 6, .inl (nIf T))), (k12, .inl (cI, 7, .inl (nIf (un A ((v9 + n - 1) % n) ((A ((v9 + n - 1) % n)) ||| (2 ^ (T d))))))), (k14, .inl (cI, 144, .inl (mIf Y))), (k15, .inl (cI, 7, .inl (nIf U)))]
                  refine v_dup2 151 zC dX5_hourOn_150 rfl rfl ?_
                  refine v_ialn (v := (nI ((un A ((v9 + n - 1) % n) ((A ((v9 + n - 1) % n)) ||| (2 ^ (T d)))) ((v9 + 1) % n)))) 152 7 zC dX5_hourOn_151 rfl (by omega) rfl ?_
                  refine v_ic (v := (nI 1)) 153 zC dX5_hourOn_152 (by decide +kernel) ?_
                  refine v_al_n 154 zC dX5_hourOn_153 2 rfl ?_
                  refine v_gf 157 0 zC dX5_hourOn_154 gf_X5_28 rfl rfl ?_
                  refine v_il_n 158 zC dX5_hourOn_157 1 rfl ?_
                  refine v_ialn (v := (nI (T d))) 159 6 zC dX5_hourOn_158 rfl (by omega) rfl ?_
                  refine v_ishl (v := (nI (2 ^ (T d)))) 160 zC dX5_hourOn_159 (b1n (by omega)) ?_
                  refine v_ior (v := (nI (((un A ((v9 + n - 1) % n) ((A ((v9 + n - 1) % n)) ||| (2 ^ (T d)))) ((v9 + 1) % n)) ||| (2 ^ (T d))))) 161 zC dX5_hourOn_160 (fa_or _ _) ?_
                  refine v_iasn (ws2 := [(r0, .inr (5, [.int (nI n), .ref k1, .ref k2, .ref k3, .ref k4, .int (nI m), .ref k6, .ref k7, .ref k8, .int (nI 0), .ref k10, .int (nI aw), .ref k12, .ref k13, .ref k14, .ref k15, .ref k16, .int (nI ls), .int (nI ap), .int (bz bd), .int (nI sq), .ref k21, .ref k22, .ref k23, .ref k24, .ref k25, .int (bz pd), .int (nI pl), .int (bz tk), kv, .ref k30, .ref k31, .int (nI tz), .ref k33, .int (nI rs), .int sd])), (k1, .inl (cI, 7, .inl (nIf ki))), (k2, .inl (cI, 7, .inl (nIf op))), (k3, .inl (cI, 7, .inl (nIf (shF sh)))), (k6, .inl (cI, 6, .inl (nIf K))), (k7, .inl (cI, 6, .inl (nIf G))), (k8, .inl (cI, 6, .inl (nIf T))), (k12, .inl (cI, 7, .inl (nIf (un (un A ((v9 + n - 1) % n) ((A ((v9 + n - 1) % n)) ||| (2 ^ (T d)))) ((v9 + 1) % n) (((un A ((v9 + n - 1) % n) ((A ((v9 + n - 1) % n)) ||| (2 ^ (T d)))) ((v9 + 1) % n)) ||| (2 ^ (T d))))))), (k14, .inl (cI, 144, .inl (mIf Y))), (k15, .inl (cI, 7, .inl (nIf U)))]) 162 7 zC dX5_hourOn_161 rfl (by omega) (by rw [upd_nIf]; first | done | rfl) ?_
                  refine v_inc (v := (nI (d + 1))) (lv2 := [(2, .int (nI (d + 1))), (3, .int (nI v9)), (0, .ref r0), (1, .int (nI h))]) 165 zC dX5_hourOn_162 (j := 1) rfl (nI_add _ 1) (by rw [hnE]; decide) rfl ?_
                  refine v_goto 88 zC dX5_hourOn_165 ?_
                  refine v_lvs (lv2 := [(2, .int (nI (d + 1))), (0, .ref r0), (1, .int (nI h))]) [0, 2, 3] rfl ?_
                  exact ih88 _ (by omega) (un (un A ((v9 + n - 1) % n) ((A ((v9 + n - 1) % n)) ||| (2 ^ (T d)))) ((v9 + 1) % n) (((un A ((v9 + n - 1) % n) ((A ((v9 + n - 1) % n)) ||| (2 ^ (T d)))) ((v9 + 1) % n)) ||| (2 ^ (T d)))) (d + 1) (by first | (intro p hp; rw [hsD_n rfl rfl hw9]; exact hAx p hp) | (intro p hp; rw [hsD_s rfl rfl hw9]; dsimp only; rw [tell_1 (by omega)]; exact hAx p hp) | (rw [hsD_s rfl rfl hw9]; exact tell_2 hn hvn9 (by assumption) hAx)) (by first | exact hAb | exact un_b (un_b hAb (Nat.or_lt_two_pow (n := 10) (hAb _) (pow_lt2 (hT _)))) (Nat.or_lt_two_pow (n := 10) (un_b hAb (Nat.or_lt_two_pow (n := 10) (hAb _) (pow_lt2 (hT _))) _) (pow_lt2 (hT _)))) (by first | omega | assumption | rfl | (simp only []; omega) | decide) rfl
          refine v_lvs (lv2 := [(2, .int (nI 0)), (0, .ref r0), (1, .int (nI h))]) [0, 1, 2] rfl ?_
          exact lp88 _ kw 0 hr hkw (by first | omega | assumption | rfl | (simp only []; omega) | decide) rfl
        ·
          refine v_al_n 32 zC dX5_hourOn_31 1 rfl ?_
          refine v_gf 35 0 zC dX5_hourOn_32 gf_X5_109 rfl rfl ?_
          refine v_il_n 36 zC dX5_hourOn_35 0 rfl ?_
          refine v_cS (As := [.int (nI aw), .int (nI d)]) (st := []) 39 [] zC dX5_hourOn_36 hA (c_X5_hasBit (ev_l E) (ev_D E) cI (x := aw) (k := d) (hk := (by first | omega | assumption | rfl | (simp only []; omega) | decide))) cf_X5_hasBit lk_X5_95 rfl rfl rfl (by decide +kernel) (Nat.le_of_ble_eq_true rfl) (fun rv_14 wv_15 hp_16 hm_17 => ?_)
          clear hm_17
          obtain ⟨rfl, rfl⟩ := hp_16
          show VV E 0 0 39 [(2, .int (nI d)), (0, .ref r0), (1, .int (nI h))] [.int (bz (Nat.testBit aw d))] [(r0, .inr (5, [.int (nI n), .ref k1, .ref k2, .ref k3, .ref k4, .int (nI m), .ref k6, .ref k7, .ref k8, .int (nI 0), .ref k10, .int (nI aw), .ref k12, .ref k13, .ref k14, .ref k15, .ref k16, .int (nI ls), .int (nI ap), .int (bz bd), .int (nI sq), .ref k21, .ref k22, .ref k23, .ref k24, .ref k25, .int (bz pd), .int (nI pl), .int (bz tk), kv, .ref k30, .ref k31, .int (nI tz), .ref k33, .int (nI rs), .int sd])), (k1, .inl (cI, 7, .inl (nIf ki))), (k2, .inl (cI, 7, .inl (nIf op))), (k3, .inl (cI, 7, .inl (nIf (shF sh)))), (k6, .inl (cI, 6, .inl (nIf K))), (k7, .inl (cI, 6, .inl (nIf G))), (k8, .inl (cI, 6, .inl (nIf T))), (k12, .inl (cI, 7, .inl (nIf kw))), (k14, .inl (cI, 144, .inl (mIf Y))), (k15, .inl (cI, 7, .inl (nIf U)))]
          refine v_ifb_eq 47 42 zC dX5_hourOn_39 (fun h_18 => ?_) (fun h_18 => ?_)
          ·
            have ha9 := h_18
            refine v_al_n 48 zC dX5_hourOn_47 1 rfl ?_
            refine v_il_n 49 zC dX5_hourOn_48 0 rfl ?_
            refine v_il_n 50 zC dX5_hourOn_49 2 rfl ?_
            refine v_cV (As := [.int (nI d), .int (nI h)]) (st := []) 53 0 [0, 1, 2, 3, 4, 5, 6, 7, 9] zC dX5_hourOn_50 hA (c_X5_speaksThrough (ev_l E) (ev_D E) cI (r0 := r0) (k1 := k1) (k2 := k2) (k3 := k3) (k4 := k4) (k6 := k6) (k7 := k7) (k8 := k8) (k10 := k10) (k12 := k12) (k13 := k13) (k14 := k14) (k15 := k15) (k16 := k16) (k21 := k21) (k22 := k22) (k23 := k23) (k24 := k24) (k25 := k25) (k30 := k30) (k31 := k31) (k33 := k33) (n := n) (m := m) (aw := aw) (ls := ls) (ap := ap) (sq := sq) (pl := pl) (tz := tz) (rs := rs) (bd := bd) (pd := pd) (tk := tk) (kv := kv) (sd := sd) (ki := ki) (op := op) (K := K) (G := G) (T := T) (kw := kw) (mw := U) (sh := sh) (d := d) (h := h) (hn := (by first | omega | assumption | rfl | (simp only []; omega) | decide)) (hm := (by first | omega | assumption | rfl | (simp only []; omega) | decide)) (hd := (by first | omega | assumption | rfl | (simp only []; omega) | decide)) (hh := (by first | omega | assumption | rfl | (simp only []; omega) | decide)) (hK := hK) (hG := hG) (hT := hT) (hW := (fun z hz => by have := hUb z hz; omega))) cf_X5_speaksThrough lk_X5_112 rfl rfl rfl rfl rfl (by decide +kernel) (Nat.le_of_ble_eq_true rfl) (fun rv_19 wv_20 hp_21 hm_22 => ?_)
            clear hm_22
            obtain ⟨rfl, rfl⟩ := hp_21
            show VV E 0 0 53 [(2, .int (nI d)), (0, .ref r0), (1, .int (nI h))] [.int (mI (ffP n (G d) (fun p => MAYB n (K d) (G d) (T d) d p h sh ki op U kw)))] [(r0, .inr (5, [.int (nI n), .ref k1, .ref k2, .ref k3, .ref k4, .int (nI m), .ref k6, .ref k7, .ref k8, .int (nI 0), .ref k10, .int (nI aw), .ref k12, .ref k13, .ref k14, .ref k15, .ref k16, .int (nI ls), .int (nI ap), .int (bz bd), .int (nI sq), .ref k21, .ref k22, .ref k23, .ref k24, .ref k25, .int (bz pd), .int (nI pl), .int (bz tk), kv, .ref k30, .ref k31, .int (nI tz), .ref k33, .int (nI rs), .int sd])), (k1, .inl (cI, 7, .inl (nIf ki))), (k2, .inl (cI, 7, .inl (nIf op))), (k3, .inl (cI, 7, .inl (nIf (shF sh)))), (k6, .inl (cI, 6, .inl (nIf K))), (k7, .inl (cI, 6, .inl (nIf G))), (k8, .inl (cI, 6, .inl (nIf T))), (k12, .inl (cI, 7, .inl (nIf kw))), (k14, .inl (cI, 144, .inl (mIf Y))), (k15, .inl (cI, 7, .inl (nIf U)))]
            obtain ⟨u, hu9⟩ : ∃ z, z = (ffP n (G d) (fun p => MAYB n (K d) (G d) (T d) d p h sh ki op U kw)) := ⟨_, rfl⟩
            rw [← hu9]
            have hw9 : hwD n (odN op n h) h (mfS n sh aw ki K) K G T (drD n m sh aw ki op fa K G T h) (hsD n (odN op n h) h (mfS n sh aw ki K) K G T (drD n m sh aw ki op fa K G T h) d).1 (hsD n (odN op n h) h (mfS n sh aw ki K) K G T (drD n m sh aw ki op fa K G T h) d).2.1 d = u := (hour_eq (m := m) hn ha9 hU).trans ((ffp_c (fun p hp => by rw [MAYB, MAYB, LKB, LKB, hr _ (Nat.mod_lt _ (by omega)), hr _ (Nat.mod_lt _ (by omega))])).trans hu9.symm)
            refine v_is_n (lv2 := [(3, .int (mI u)), (2, .int (nI d)), (0, .ref r0), (1, .int (nI h))]) 54 zC dX5_hourOn_53 (by rw [hnE]; decide) rfl ?_
            refine v_al_n 55 zC dX5_hourOn_54 2 rfl ?_
            refine v_gf 58 0 zC dX5_hourOn_55 gf_X5_40 rfl rfl ?_
            refine v_bp (v := (nI 6)) 60 zC dX5_hourOn_58 (by decide +kernel) ?_
            refine v_il_n 61 zC dX5_hourOn_60 3 rfl ?_
            refine v_imul (v := (nI (6 * h))) 62 zC dX5_hourOn_61 (pk_mul _ _) ?_
            refine v_il_n 63 zC dX5_hourOn_62 1 rfl ?_
            refine v_iadd (v := (nI ((6 * h) + d))) 64 zC dX5_hourOn_63 (nI_add _ _) ?_
            refine v_il_n 65 zC dX5_hourOn_64 0 rfl ?_
            refine v_iasn (ws2 := [(r0, .inr (5, [.int (nI n), .ref k1, .ref k2, .ref k3, .ref k4, .int (nI m), .ref k6, .ref k7, .ref k8, .int (nI 0), .ref k10, .int (nI aw), .ref k12, .ref k13, .ref k14, .ref k15, .ref k16, .int (nI ls), .int (nI ap), .int (bz bd), .int (nI sq), .ref k21, .ref k22, .ref k23, .ref k24, .ref k25, .int (bz pd), .int (nI pl), .int (bz tk), kv, .ref k30, .ref k31, .int (nI tz), .ref k33, .int (nI rs), .int sd])), (k1, .inl (cI, 7, .inl (nIf ki))), (k2, .inl (cI, 7, .inl (nIf op))), (k3, .inl (cI, 7, .inl (nIf (shF sh)))), (k6, .inl (cI, 6, .inl (nIf K))), (k7, .inl (cI, 6, .inl (nIf G))), (k8, .inl (cI, 6, .inl (nIf T))), (k12, .inl (cI, 7, .inl (nIf kw))), (k14, .inl (cI, 144, .inl (mIf (uo Y ((6 * h) + d) u)))), (k15, .inl (cI, 7, .inl (nIf U)))]) 66 8 zC dX5_hourOn_65 rfl (by omega) (by rw [upd_mI]; first | done | rfl) ?_
            refine v_il_n 67 zC dX5_hourOn_66 0 rfl ?_
            refine v_ifo_lt 80 70 zC dX5_hourOn_67 (fun v e => by have := hwd_lt (hw9.trans e); omega) (fun h_23 => ?_) (fun h_23 => ?_)
            ·
              have hz9 : u = none := by cases u with | none => rfl | some _ => cases h_23
              subst hz9
              refine v_inc (v := (nI (d + 1))) (lv2 := [(2, .int (nI (d + 1))), (3, .int (mI none)), (0, .ref r0), (1, .int (nI h))]) 83 zC dX5_hourOn_80 (j := 1) rfl (nI_add _ 1) (by rw [hnE]; decide) rfl ?_
              refine v_goto 23 zC dX5_hourOn_83 ?_
              refine v_lvs (lv2 := [(2, .int (nI (d + 1))), (0, .ref r0), (1, .int (nI h))]) [0, 2, 3] rfl ?_
              exact ih23 _ (by omega) (uo Y ((6 * h) + d) none) U (d + 1) (by first | (rw [hsD_n rfl rfl hw9]; exact hU) | (rw [hsD_s rfl rfl hw9]; exact hwp_s hU)) (fun z hz => by first | (have := hUb z hz; omega) | (by_cases q9 : z = v9; (· subst q9; rw [un_s]; have := hUb z hz; omega); (· rw [un_n q9]; have := hUb z hz; omega))) (fun e he => by by_cases q9 : e = d; (· subst q9; rw [uo_s]; exact (hm_of rfl rfl hw9).symm); (· rw [uo_n (by omega)]; exact h5 e (by omega))) (fun z hz => by rw [uo_n (by omega)]; exact h6 z hz) (uo_m h8 (fun v q9 => by first | (cases q9; done) | (cases q9; omega))) (by first | omega | assumption | rfl | (simp only []; omega) | decide) rfl
            ·
              obtain ⟨v9, he_v9⟩ := Option.isSome_iff_exists.mp h_23
              subst he_v9
              have hvn9 := hwd_lt hw9
              refine v_al_n 71 zC dX5_hourOn_70 2 rfl ?_
              refine v_gf 74 0 zC dX5_hourOn_71 gf_X5_43 rfl rfl ?_
              refine v_il_n 75 zC dX5_hourOn_74 0 rfl ?_
              refine v_dup2 76 zC dX5_hourOn_75 rfl rfl ?_
              refine v_ialn (v := (nI (U v9))) 77 9 zC dX5_hourOn_76 rfl (by omega) rfl ?_
              refine v_ic (v := (nI 1)) 78 zC dX5_hourOn_77 (by decide +kernel) ?_
              refine v_iadd (v := (nI ((U v9) + 1))) 79 zC dX5_hourOn_78 (nI_add _ _) ?_
              refine v_iasn (ws2 := [(r0, .inr (5, [.int (nI n), .ref k1, .ref k2, .ref k3, .ref k4, .int (nI m), .ref k6, .ref k7, .ref k8, .int (nI 0), .ref k10, .int (nI aw), .ref k12, .ref k13, .ref k14, .ref k15, .ref k16, .int (nI ls), .int (nI ap), .int (bz bd), .int (nI sq), .ref k21, .ref k22, .ref k23, .ref k24, .ref k25, .int (bz pd), .int (nI pl), .int (bz tk), kv, .ref k30, .ref k31, .int (nI tz), .ref k33, .int (nI rs), .int sd])), (k1, .inl (cI, 7, .inl (nIf ki))), (k2, .inl (cI, 7, .inl (nIf op))), (k3, .inl (cI, 7, .inl (nIf (shF sh)))), (k6, .inl (cI, 6, .inl (nIf K))), (k7, .inl (cI, 6, .inl (nIf G))), (k8, .inl (cI, 6, .inl (nIf T))), (k12, .inl (cI, 7, .inl (nIf kw))), (k14, .inl (cI, 144, .inl (mIf (uo Y ((6 * h) + d) (some v9))))), (k15, .inl (cI, 7, .inl (nIf (un U v9 ((U v9) + 1)))))]) 80 9 zC dX5_hourOn_79 rfl (by omega) (by rw [upd_nIf]; first | done | rfl) ?_
              refine v_inc (v := (nI (d + 1))) (lv2 := [(2, .int (nI (d + 1))), (3, .int (nI v9)), (0, .ref r0), (1, .int (nI h))]) 83 zC dX5_hourOn_80 (j := 1) rfl (nI_add _ 1) (by rw [hnE]; decide) rfl ?_
              refine v_goto 23 zC dX5_hourOn_83 ?_
              refine v_lvs (lv2 := [(2, .int (nI (d + 1))), (0, .ref r0), (1, .int (nI h))]) [0, 2, 3] rfl ?_
              exact ih23 _ (by omega) (uo Y ((6 * h) + d) (some v9)) (un U v9 ((U v9) + 1)) (d + 1) (by first | (rw [hsD_n rfl rfl hw9]; exact hU) | (rw [hsD_s rfl rfl hw9]; exact hwp_s hU)) (fun z hz => by first | (have := hUb z hz; omega) | (by_cases q9 : z = v9; (· subst q9; rw [un_s]; have := hUb z hz; omega); (· rw [un_n q9]; have := hUb z hz; omega))) (fun e he => by by_cases q9 : e = d; (· subst q9; rw [uo_s]; exact (hm_of rfl rfl hw9).symm); (· rw [uo_n (by omega)]; exact h5 e (by omega))) (fun z hz => by rw [uo_n (by omega)]; exact h6 z hz) (uo_m h8 (fun v q9 => by first | (cases q9; done) | (cases q9; omega))) (by first | omega | assumption | rfl | (simp only []; omega) | decide) rfl
          ·
            have hw8 := h_18
            have hw9 : hwD n (odN op n h) h (mfS n sh aw ki K) K G T (drD n m sh aw ki op fa K G T h) (hsD n (odN op n h) h (mfS n sh aw ki K) K G T (drD n m sh aw ki op fa K G T h) d).1 (hsD n (odN op n h) h (mfS n sh aw ki K) K G T (drD n m sh aw ki op fa K G T h) d).2.1 d = none := hour_aw hw8
            refine v_bp (v := (-9)) 44 zC dX5_hourOn_42 (by decide +kernel) ?_
            refine v_goto 53 zC dX5_hourOn_44 ?_
            refine v_is_n (lv2 := [(3, .int (-9)), (2, .int (nI d)), (0, .ref r0), (1, .int (nI h))]) 54 zC dX5_hourOn_53 (by rw [hnE]; decide) rfl ?_
            refine v_al_n 55 zC dX5_hourOn_54 2 rfl ?_
            refine v_gf 58 0 zC dX5_hourOn_55 gf_X5_40 rfl rfl ?_
            refine v_bp (v := (nI 6)) 60 zC dX5_hourOn_58 (by decide +kernel) ?_
            refine v_il_n 61 zC dX5_hourOn_60 3 rfl ?_
            refine v_imul (v := (nI (6 * h))) 62 zC dX5_hourOn_61 (pk_mul _ _) ?_
            refine v_il_n 63 zC dX5_hourOn_62 1 rfl ?_
            refine v_iadd (v := (nI ((6 * h) + d))) 64 zC dX5_hourOn_63 (nI_add _ _) ?_
            refine v_il_n 65 zC dX5_hourOn_64 0 rfl ?_
            refine v_iasn (ws2 := [(r0, .inr (5, [.int (nI n), .ref k1, .ref k2, .ref k3, .ref k4, .int (nI m), .ref k6, .ref k7, .ref k8, .int (nI 0), .ref k10, .int (nI aw), .ref k12, .ref k13, .ref k14, .ref k15, .ref k16, .int (nI ls), .int (nI ap), .int (bz bd), .int (nI sq), .ref k21, .ref k22, .ref k23, .ref k24, .ref k25, .int (bz pd), .int (nI pl), .int (bz tk), kv, .ref k30, .ref k31, .int (nI tz), .ref k33, .int (nI rs), .int sd])), (k1, .inl (cI, 7, .inl (nIf ki))), (k2, .inl (cI, 7, .inl (nIf op))), (k3, .inl (cI, 7, .inl (nIf (shF sh)))), (k6, .inl (cI, 6, .inl (nIf K))), (k7, .inl (cI, 6, .inl (nIf G))), (k8, .inl (cI, 6, .inl (nIf T))), (k12, .inl (cI, 7, .inl (nIf kw))), (k14, .inl (cI, 144, .inl (mIf (uo Y ((6 * h) + d) none)))), (k15, .inl (cI, 7, .inl (nIf U)))]) 66 8 zC dX5_hourOn_65 rfl (by omega) (by rw [upd_mI0]; first | done | rfl) ?_
            refine v_il_n 67 zC dX5_hourOn_66 0 rfl ?_
            refine v_if_lt 80 70 zC dX5_hourOn_67 (fun _ => ?_) (fun z => absurd (by decide +kernel) z)
            refine v_inc (v := (nI (d + 1))) (lv2 := [(2, .int (nI (d + 1))), (3, .int (-9)), (0, .ref r0), (1, .int (nI h))]) 83 zC dX5_hourOn_80 (j := 1) rfl (nI_add _ 1) (by rw [hnE]; decide) rfl ?_
            refine v_goto 23 zC dX5_hourOn_83 ?_
            refine v_lvs (lv2 := [(2, .int (nI (d + 1))), (0, .ref r0), (1, .int (nI h))]) [0, 2, 3] rfl ?_
            exact ih23 _ (by omega) (uo Y ((6 * h) + d) none) U (d + 1) (by first | (rw [hsD_n rfl rfl hw9]; exact hU) | (rw [hsD_s rfl rfl hw9]; exact hwp_s hU)) (fun z hz => by first | (have := hUb z hz; omega) | (by_cases q9 : z = v9; (· subst q9; rw [un_s]; have := hUb z hz; omega); (· rw [un_n q9]; have := hUb z hz; omega))) (fun e he => by by_cases q9 : e = d; (· subst q9; rw [uo_s]; exact (hm_of rfl rfl hw9).symm); (· rw [uo_n (by omega)]; exact h5 e (by omega))) (fun z hz => by rw [uo_n (by omega)]; exact h6 z hz) (uo_m h8 (fun v q9 => by first | (cases q9; done) | (cases q9; omega))) (by first | omega | assumption | rfl | (simp only []; omega) | decide) rfl
      refine v_lvs (lv2 := [(2, .int (nI 0)), (0, .ref r0), (1, .int (nI h))]) [0, 1, 2] rfl ?_
      exact lp23 _ M V 0 (hwp_0 hn (fun z hz => hV z (by omega))) (fun z hz => Nat.le_of_eq (hV z (by omega))) (fun e he => absurd he (Nat.not_lt_zero e)) (fun _ _ => rfl) hM (by first | omega | assumption | rfl | (simp only []; omega) | decide) rfl
    ·
      refine v_al_n 9 zC dX5_hourOn_8 1 rfl ?_
      refine v_gf 12 0 zC dX5_hourOn_9 gf_X5_43 rfl rfl ?_
      refine v_il_n 13 zC dX5_hourOn_12 0 rfl ?_
      refine v_ic (v := (nI 0)) 14 zC dX5_hourOn_13 (by decide +kernel) ?_
      refine v_iasn (ws2 := [(r0, .inr (5, [.int (nI n), .ref k1, .ref k2, .ref k3, .ref k4, .int (nI m), .ref k6, .ref k7, .ref k8, .int (nI 0), .ref k10, .int (nI aw), .ref k12, .ref k13, .ref k14, .ref k15, .ref k16, .int (nI ls), .int (nI ap), .int (bz bd), .int (nI sq), .ref k21, .ref k22, .ref k23, .ref k24, .ref k25, .int (bz pd), .int (nI pl), .int (bz tk), kv, .ref k30, .ref k31, .int (nI tz), .ref k33, .int (nI rs), .int sd])), (k1, .inl (cI, 7, .inl (nIf ki))), (k2, .inl (cI, 7, .inl (nIf op))), (k3, .inl (cI, 7, .inl (nIf (shF sh)))), (k6, .inl (cI, 6, .inl (nIf K))), (k7, .inl (cI, 6, .inl (nIf G))), (k8, .inl (cI, 6, .inl (nIf T))), (k12, .inl (cI, 7, .inl (nIf kw))), (k14, .inl (cI, 144, .inl (mIf M))), (k15, .inl (cI, 7, .inl (nIf (un V p 0))))]) 15 9 zC dX5_hourOn_14 rfl (by omega) (by rw [upd_nIf]; first | done | rfl) ?_
      refine v_inc (v := (nI (p + 1))) (lv2 := [(2, .int (nI (p + 1))), (0, .ref r0), (1, .int (nI h))]) 18 zC dX5_hourOn_15 (j := 0) rfl (nI_add _ 1) (by rw [hnE]; decide) rfl ?_
      refine v_goto 2 zC dX5_hourOn_18 ?_
      refine v_lvs (lv2 := [(2, .int (nI (p + 1))), (0, .ref r0), (1, .int (nI h))]) [0, 1, 2] rfl ?_
      exact ih2 _ (by omega) (un V p 0) (p + 1) (fun z hz => by by_cases q9 : z = p; (· subst q9; exact un_s); (· rw [un_n q9]; exact hV z (by omega))) (by first | omega | assumption | rfl | (simp only []; omega) | decide) rfl
  refine v_lvs (lv2 := [(2, .int (nI 0)), (0, .ref r0), (1, .int (nI h))]) [0, 1, 2] rfl ?_
  exact lp2 _ mw 0 (fun z hz => absurd hz (Nat.not_lt_zero z)) (by first | omega | assumption | rfl | (simp only []; omega) | decide) rfl
set_option maxRecDepth 100000 in
set_option maxHeartbeats 4000000 in
theorem c_X5_day (l : Launch) (D : va_G) (cI : ClassId) (r0 k1 k2 k3 k4 k6 k7 k8 k10 k12 k13 k14 k15 k16 k21 k22 k23 k24 k25 k30 k31 k33 : Nat) (n m aw ls ap sq pl tz rs : Nat) (bd pd tk : Bool) (kv : Value) (sd : Int32) (ki op fa K G T : Nat → Nat) (sh : Nat) (kw kn : Nat → Nat) (M : Nat → Option Nat) (mw : Nat → Nat) (hw : FW n m sh ki op fa K G T) (hkw : ∀ z, kw z < 1024) (hkn : ∀ z, kn z < 1024) (hM : ∀ z v, M z = some v → v < 7) : CT l yX5_day cX5_day 3 none { frames := 5, cells := 0, slots := 0, locals := 116 } D cI [.ref r0] [(r0, .inr (5, [.int (nI n), .ref k1, .ref k2, .ref k3, .ref k4, .int (nI m), .ref k6, .ref k7, .ref k8, .int (nI 0), .ref k10, .int (nI aw), .ref k12, .ref k13, .ref k14, .ref k15, .ref k16, .int (nI ls), .int (nI ap), .int (bz bd), .int (nI sq), .ref k21, .ref k22, .ref k23, .ref k24, .ref k25, .int (bz pd), .int (nI pl), .int (bz tk), kv, .ref k30, .ref k31, .int (nI tz), .ref k33, .int (nI rs), .int sd])), (k1, .inl (cI, 7, .inl (nIf ki))), (k2, .inl (cI, 7, .inl (nIf op))), (k3, .inl (cI, 7, .inl (nIf (shF sh)))), (k4, .inl (cI, 7, .inl (nIf fa))), (k6, .inl (cI, 6, .inl (nIf K))), (k7, .inl (cI, 6, .inl (nIf G))), (k8, .inl (cI, 6, .inl (nIf T))), (k12, .inl (cI, 7, .inl (nIf kw))), (k13, .inl (cI, 175, .inl (nIf kn))), (k14, .inl (cI, 144, .inl (mIf M))), (k15, .inl (cI, 7, .inl (nIf mw)))] (fun zr zw => (∃ kw1 : Nat → Nat, ∃ kn1 : Nat → Nat, ∃ M1 : Nat → Option Nat, ∃ mw1 : Nat → Nat, (ROK (n, m, sh, aw, ki, op, fa, K, G, T) kw1 kn1 M1) ∧ zr = none ∧ zw = [(r0, .inr (5, [.int (nI n), .ref k1, .ref k2, .ref k3, .ref k4, .int (nI m), .ref k6, .ref k7, .ref k8, .int (nI 0), .ref k10, .int (nI aw), .ref k12, .ref k13, .ref k14, .ref k15, .ref k16, .int (nI ls), .int (nI ap), .int (bz bd), .int (nI sq), .ref k21, .ref k22, .ref k23, .ref k24, .ref k25, .int (bz pd), .int (nI pl), .int (bz tk), kv, .ref k30, .ref k31, .int (nI tz), .ref k33, .int (nI rs), .int sd])), (k1, .inl (cI, 7, .inl (nIf ki))), (k2, .inl (cI, 7, .inl (nIf op))), (k3, .inl (cI, 7, .inl (nIf (shF sh)))), (k4, .inl (cI, 7, .inl (nIf fa))), (k6, .inl (cI, 6, .inl (nIf K))), (k7, .inl (cI, 6, .inl (nIf G))), (k8, .inl (cI, 6, .inl (nIf T))), (k12, .inl (cI, 7, .inl (nIf kw1))), (k13, .inl (cI, 175, .inl (nIf kn1))), (k14, .inl (cI, 144, .inl (mIf M1))), (k15, .inl (cI, 7, .inl (nIf mw1)))])) := by
  refine CT_of RX5 rfl (by decide +kernel) (Nat.le_of_ble_eq_true rfl) (fun E hnE zC zT => ?_)
  have hA : ∀ q, (ev_s E).heap.size ≤ q → ev_A E q := fun q h => by rw [zT.2]; exact Or.inr h
  obtain ⟨hn, hm, hsh, hki, hop, hfa, hK, hG, hT, vki, vop, vfa, vK, vG, vT⟩ := id hw
  show VV E 0 0 0 [(0, .ref r0)] [] [(r0, .inr (5, [.int (nI n), .ref k1, .ref k2, .ref k3, .ref k4, .int (nI m), .ref k6, .ref k7, .ref k8, .int (nI 0), .ref k10, .int (nI aw), .ref k12, .ref k13, .ref k14, .ref k15, .ref k16, .int (nI ls), .int (nI ap), .int (bz bd), .int (nI sq), .ref k21, .ref k22, .ref k23, .ref k24, .ref k25, .int (bz pd), .int (nI pl), .int (bz tk), kv, .ref k30, .ref k31, .int (nI tz), .ref k33, .int (nI rs), .int sd])), (k1, .inl (cI, 7, .inl (nIf ki))), (k2, .inl (cI, 7, .inl (nIf op))), (k3, .inl (cI, 7, .inl (nIf (shF sh)))), (k4, .inl (cI, 7, .inl (nIf fa))), (k6, .inl (cI, 6, .inl (nIf K))), (k7, .inl (cI, 6, .inl (nIf G))), (k8, .inl (cI, 6, .inl (nIf T))), (k12, .inl (cI, 7, .inl (nIf kw))), (k13, .inl (cI, 175, .inl (nIf kn))), (k14, .inl (cI, 144, .inl (mIf M))), (k15, .inl (cI, 7, .inl (nIf mw)))]
  refine v_ic (v := (nI 0)) 1 zC dX5_day_0 (by decide +kernel) ?_
  refine v_is_n (lv2 := [(1, .int (nI 0)), (0, .ref r0)]) 2 zC dX5_day_1 (by rw [hnE]; decide) rfl ?_
  have lp2 : ∀ (mz : Nat) (A : Nat → Nat) (X : Nat → Nat) (p : Nat), (∀ z, z < p → A z = if z < n then fa z else 0) → (∀ z, z < p → X z = if z < n then fa z else 0) → (∀ z, A z < 1024) → (∀ z, X z < 1024) → (p ≤ 7) → 7 - p = mz → VV E 0 0 2 [(1, .int (nI p)), (0, .ref r0)] [] [(r0, .inr (5, [.int (nI n), .ref k1, .ref k2, .ref k3, .ref k4, .int (nI m), .ref k6, .ref k7, .ref k8, .int (nI 0), .ref k10, .int (nI aw), .ref k12, .ref k13, .ref k14, .ref k15, .ref k16, .int (nI ls), .int (nI ap), .int (bz bd), .int (nI sq), .ref k21, .ref k22, .ref k23, .ref k24, .ref k25, .int (bz pd), .int (nI pl), .int (bz tk), kv, .ref k30, .ref k31, .int (nI tz), .ref k33, .int (nI rs), .int sd])), (k1, .inl (cI, 7, .inl (nIf ki))), (k2, .inl (cI, 7, .inl (nIf op))), (k3, .inl (cI, 7, .inl (nIf (shF sh)))), (k4, .inl (cI, 7, .inl (nIf fa))), (k6, .inl (cI, 6, .inl (nIf K))), (k7, .inl (cI, 6, .inl (nIf G))), (k8, .inl (cI, 6, .inl (nIf T))), (k12, .inl (cI, 7, .inl (nIf A))), (k13, .inl (cI, 175, .inl (nIf X))), (k14, .inl (cI, 144, .inl (mIf M))), (k15, .inl (cI, 7, .inl (nIf mw)))] := by
    intro mz
    induction mz using Nat.strongRecOn with
    | _ mz ih2 =>
    intro A X p hAx hX hAb hXb hp hm2
    refine v_il_n 3 zC dX5_day_2 0 rfl ?_
    refine v_bp (v := (nI 7)) 5 zC dX5_day_3 (by decide +kernel) ?_
    refine v_icmpn_ge 50 8 zC dX5_day_5 (fun h_1 => ?_) (fun h_1 => ?_)
    ·
      refine v_ic (v := (nI 0)) 51 zC dX5_day_50 (by decide +kernel) ?_
      refine v_is_n (lv2 := [(1, .int (nI 0)), (0, .ref r0)]) 52 zC dX5_day_51 (by rw [hnE]; decide) rfl ?_
      have lp52 : ∀ (mz : Nat) (A : Nat → Nat) (X : Nat → Nat) (Y : Nat → Option Nat) (V : Nat → Nat) (h : Nat), (∀ p, p < n → A p = drD n m sh aw ki op fa K G T h p) → (∀ j, j ≤ h → ∀ p, p < n → X (7 * j + p) = drD n m sh aw ki op fa K G T j p) → (∀ j, j < h → ∀ e, e < m → Y (6 * j + e) = dmD n m sh aw ki op fa K G T j e) → (∀ z, A z < 1024) → (∀ z, X z < 1024) → (∀ z v, Y z = some v → v < 7) → (h ≤ 24) → 24 - h = mz → VV E 0 0 52 [(1, .int (nI h)), (0, .ref r0)] [] [(r0, .inr (5, [.int (nI n), .ref k1, .ref k2, .ref k3, .ref k4, .int (nI m), .ref k6, .ref k7, .ref k8, .int (nI 0), .ref k10, .int (nI aw), .ref k12, .ref k13, .ref k14, .ref k15, .ref k16, .int (nI ls), .int (nI ap), .int (bz bd), .int (nI sq), .ref k21, .ref k22, .ref k23, .ref k24, .ref k25, .int (bz pd), .int (nI pl), .int (bz tk), kv, .ref k30, .ref k31, .int (nI tz), .ref k33, .int (nI rs), .int sd])), (k1, .inl (cI, 7, .inl (nIf ki))), (k2, .inl (cI, 7, .inl (nIf op))), (k3, .inl (cI, 7, .inl (nIf (shF sh)))), (k4, .inl (cI, 7, .inl (nIf fa))), (k6, .inl (cI, 6, .inl (nIf K))), (k7, .inl (cI, 6, .inl (nIf G))), (k8, .inl (cI, 6, .inl (nIf T))), (k12, .inl (cI, 7, .inl (nIf A))), (k13, .inl (cI, 175, .inl (nIf X))), (k14, .inl (cI, 144, .inl (mIf Y))), (k15, .inl (cI, 7, .inl (nIf V)))] := by
        intro mz
        induction mz using Nat.strongRecOn with
        | _ mz ih52 =>
        intro A X Y V h hAx h3 h5 hAb hXb h8 hh hm52
        refine v_il_n 53 zC dX5_day_52 0 rfl ?_
        refine v_bp (v := (nI 24)) 55 zC dX5_day_53 (by decide +kernel) ?_
        refine v_icmpn_ge 103 58 zC dX5_day_55 (fun h_2 => ?_) (fun h_2 => ?_)
        ·
          refine v_vret zC zT dX5_day_103  ?_
          have q9 : h = 24 := by omega
          subst q9
          exact ⟨A, X, Y, V, ⟨hAx, h3, h5, hAb, hXb, h8⟩, rfl, rfl⟩
        ·
          refine v_al_n 59 zC dX5_day_58 1 rfl ?_
          refine v_il_n 60 zC dX5_day_59 0 rfl ?_
          refine v_cV (As := [.int (nI h)]) (st := []) 63 0 [0, 1, 2, 3, 5, 6, 7, 8, 10, 11] zC dX5_day_60 hA (c_X5_hourOn (ev_l E) (ev_D E) cI (r0 := r0) (k1 := k1) (k2 := k2) (k3 := k3) (k4 := k4) (k6 := k6) (k7 := k7) (k8 := k8) (k10 := k10) (k12 := k12) (k13 := k13) (k14 := k14) (k15 := k15) (k16 := k16) (k21 := k21) (k22 := k22) (k23 := k23) (k24 := k24) (k25 := k25) (k30 := k30) (k31 := k31) (k33 := k33) (n := n) (m := m) (aw := aw) (ls := ls) (ap := ap) (sq := sq) (pl := pl) (tz := tz) (rs := rs) (bd := bd) (pd := pd) (tk := tk) (kv := kv) (sd := sd) (ki := ki) (op := op) (fa := fa) (K := K) (G := G) (T := T) (sh := sh) (kw := A) (mw := V) (M := Y) (h := h) (hn := (by first | omega | assumption | rfl | (simp only []; omega) | decide)) (hm := (by first | omega | assumption | rfl | (simp only []; omega) | decide)) (hh := (by first | omega | assumption | rfl | (simp only []; omega) | decide)) (hK := hK) (hG := hG) (hT := hT) (hkw := hAb) (hM := h8) (hr := hAx)) cf_X5_hourOn lk_X5_116 rfl rfl rfl rfl rfl (by decide +kernel) (Nat.le_of_ble_eq_true rfl) (fun rv_3 wv_4 hp_5 hm_6 => ?_)
          clear hm_6
          obtain ⟨A_7, Y_8, V_9, h3_10, h5_11, h6_12, h7_13, h8_14, rfl, rfl⟩ := hp_5
          show VV E 0 0 63 [(1, .int (nI h)), (0, .ref r0)] [] [(r0, .inr (5, [.int (nI n), .ref k1, .ref k2, .ref k3, .ref k4, .int (nI m), .ref k6, .ref k7, .ref k8, .int (nI 0), .ref k10, .int (nI aw), .ref k12, .ref k13, .ref k14, .ref k15, .ref k16, .int (nI ls), .int (nI ap), .int (bz bd), .int (nI sq), .ref k21, .ref k22, .ref k23, .ref k24, .ref k25, .int (bz pd), .int (nI pl), .int (bz tk), kv, .ref k30, .ref k31, .int (nI tz), .ref k33, .int (nI rs), .int sd])), (k1, .inl (cI, 7, .inl (nIf ki))), (k2, .inl (cI, 7, .inl (nIf op))), (k3, .inl (cI, 7, .inl (nIf (shF sh)))), (k4, .inl (cI, 7, .inl (nIf fa))), (k6, .inl (cI, 6, .inl (nIf K))), (k7, .inl (cI, 6, .inl (nIf G))), (k8, .inl (cI, 6, .inl (nIf T))), (k12, .inl (cI, 7, .inl (nIf A_7))), (k13, .inl (cI, 175, .inl (nIf X))), (k14, .inl (cI, 144, .inl (mIf Y_8))), (k15, .inl (cI, 7, .inl (nIf V_9)))]
          obtain ⟨A_9, he_A⟩ : ∃ z, z = A_7 := ⟨_, rfl⟩
          subst he_A
          have g3 := h3_10
          have g5 := h5_11
          have g6 := h6_12
          have g7 := h7_13
          have g8 := h8_14
          refine v_ic (v := (nI 0)) 64 zC dX5_day_63 (by decide +kernel) ?_
          refine v_is_n (lv2 := [(2, .int (nI 0)), (1, .int (nI h)), (0, .ref r0)]) 65 zC dX5_day_64 (by rw [hnE]; decide) rfl ?_
          have lp65 : ∀ (mz : Nat) (X2 : Nat → Nat) (p : Nat), (∀ z, z < 7 * h + 7 → X2 z = X z) → (∀ q, q < p → X2 (7 * h + 7 + q) = A_9 q) → (∀ z, X2 z < 1024) → (p ≤ 7) → 7 - p = mz → VV E 0 0 65 [(2, .int (nI p)), (1, .int (nI h)), (0, .ref r0)] [] [(r0, .inr (5, [.int (nI n), .ref k1, .ref k2, .ref k3, .ref k4, .int (nI m), .ref k6, .ref k7, .ref k8, .int (nI 0), .ref k10, .int (nI aw), .ref k12, .ref k13, .ref k14, .ref k15, .ref k16, .int (nI ls), .int (nI ap), .int (bz bd), .int (nI sq), .ref k21, .ref k22, .ref k23, .ref k24, .ref k25, .int (bz pd), .int (nI pl), .int (bz tk), kv, .ref k30, .ref k31, .int (nI tz), .ref k33, .int (nI rs), .int sd])), (k1, .inl (cI, 7, .inl (nIf ki))), (k2, .inl (cI, 7, .inl (nIf op))), (k3, .inl (cI, 7, .inl (nIf (shF sh)))), (k4, .inl (cI, 7, .inl (nIf fa))), (k6, .inl (cI, 6, .inl (nIf K))), (k7, .inl (cI, 6, .inl (nIf G))), (k8, .inl (cI, 6, .inl (nIf T))), (k12, .inl (cI, 7, .inl (nIf A_9))), (k13, .inl (cI, 175, .inl (nIf X2))), (k14, .inl (cI, 144, .inl (mIf Y_8))), (k15, .inl (cI, 7, .inl (nIf V_9)))] := by
            intro mz
            induction mz using Nat.strongRecOn with
            | _ mz ih65 =>
            intro X2 p g1 g2 hX2 hp hm65
            refine v_il_n 66 zC dX5_day_65 0 rfl ?_
            refine v_bp (v := (nI 7)) 68 zC dX5_day_66 (by decide +kernel) ?_
            refine v_icmpn_ge 97 71 zC dX5_day_68 (fun h_15 => ?_) (fun h_15 => ?_)
            ·
              refine v_inc (v := (nI (h + 1))) (lv2 := [(1, .int (nI (h + 1))), (2, .int (nI p)), (0, .ref r0)]) 100 zC dX5_day_97 (j := 1) rfl (nI_add _ 1) (by rw [hnE]; decide) rfl ?_
              refine v_goto 52 zC dX5_day_100 ?_
              refine v_lvs (lv2 := [(1, .int (nI (h + 1))), (0, .ref r0)]) [0, 2] rfl ?_
              exact ih52 _ (by omega) A_9 X2 Y_8 V_9 (h + 1) g3 (fun j hj q hq => by by_cases q9 : j = h + 1; (· subst q9; rw [show 7 * (h + 1) + q = 7 * h + 7 + q by omega, g2 q (by omega)]; exact g3 q hq); (· rw [g1 _ (by omega)]; exact h3 j (by omega) q hq)) (fun j hj e he => by by_cases q9 : j = h; (· subst q9; exact g5 e he); (· rw [g6 _ (by omega)]; exact h5 j (by omega) e he)) g7 hX2 g8 (by first | omega | assumption | rfl | (simp only []; omega) | decide) rfl
            ·
              refine v_al_n 72 zC dX5_day_71 2 rfl ?_
              refine v_gf 75 0 zC dX5_day_72 gf_X5_37 rfl rfl ?_
              refine v_bp (v := (nI 7)) 77 zC dX5_day_75 (by decide +kernel) ?_
              refine v_il_n 78 zC dX5_day_77 1 rfl ?_
              refine v_imul (v := (nI (7 * h))) 79 zC dX5_day_78 (pk_mul _ _) ?_
              refine v_bp (v := (nI 7)) 81 zC dX5_day_79 (by decide +kernel) ?_
              refine v_iadd (v := (nI ((7 * h) + 7))) 82 zC dX5_day_81 (nI_add _ _) ?_
              refine v_il_n 83 zC dX5_day_82 0 rfl ?_
              refine v_iadd (v := (nI (((7 * h) + 7) + p))) 84 zC dX5_day_83 (nI_add _ _) ?_
              refine v_al_n 85 zC dX5_day_84 2 rfl ?_
              refine v_gf 88 0 zC dX5_day_85 gf_X5_34 rfl rfl ?_
              refine v_il_n 89 zC dX5_day_88 0 rfl ?_
              refine v_ialn (v := (nI (A_9 p))) 90 8 zC dX5_day_89 rfl (by omega) rfl ?_
              refine v_iasn (ws2 := [(r0, .inr (5, [.int (nI n), .ref k1, .ref k2, .ref k3, .ref k4, .int (nI m), .ref k6, .ref k7, .ref k8, .int (nI 0), .ref k10, .int (nI aw), .ref k12, .ref k13, .ref k14, .ref k15, .ref k16, .int (nI ls), .int (nI ap), .int (bz bd), .int (nI sq), .ref k21, .ref k22, .ref k23, .ref k24, .ref k25, .int (bz pd), .int (nI pl), .int (bz tk), kv, .ref k30, .ref k31, .int (nI tz), .ref k33, .int (nI rs), .int sd])), (k1, .inl (cI, 7, .inl (nIf ki))), (k2, .inl (cI, 7, .inl (nIf op))), (k3, .inl (cI, 7, .inl (nIf (shF sh)))), (k4, .inl (cI, 7, .inl (nIf fa))), (k6, .inl (cI, 6, .inl (nIf K))), (k7, .inl (cI, 6, .inl (nIf G))), (k8, .inl (cI, 6, .inl (nIf T))), (k12, .inl (cI, 7, .inl (nIf A_9))), (k13, .inl (cI, 175, .inl (nIf (un X2 (((7 * h) + 7) + p) (A_9 p))))), (k14, .inl (cI, 144, .inl (mIf Y_8))), (k15, .inl (cI, 7, .inl (nIf V_9)))]) 91 9 zC dX5_day_90 rfl (by omega) (by rw [upd_nIf]; first | done | rfl) ?_
              refine v_inc (v := (nI (p + 1))) (lv2 := [(2, .int (nI (p + 1))), (1, .int (nI h)), (0, .ref r0)]) 94 zC dX5_day_91 (j := 0) rfl (nI_add _ 1) (by rw [hnE]; decide) rfl ?_
              refine v_goto 65 zC dX5_day_94 ?_
              refine v_lvs (lv2 := [(2, .int (nI (p + 1))), (1, .int (nI h)), (0, .ref r0)]) [0, 1, 2] rfl ?_
              exact ih65 _ (by omega) (un X2 (((7 * h) + 7) + p) (A_9 p)) (p + 1) (fun z hz => by rw [un_n (by omega)]; exact g1 z hz) (fun q hq => by by_cases q9 : q = p; (· subst q9; exact un_s); (· rw [un_n (by omega)]; exact g2 q (by omega))) (un_b hX2 (g7 _)) (by first | omega | assumption | rfl | (simp only []; omega) | decide) rfl
          refine v_lvs (lv2 := [(2, .int (nI 0)), (1, .int (nI h)), (0, .ref r0)]) [0, 1, 2] rfl ?_
          exact lp65 _ X 0 (fun _ _ => rfl) (fun q hq => absurd hq (Nat.not_lt_zero q)) hXb (by first | omega | assumption | rfl | (simp only []; omega) | decide) rfl
      refine v_lvs (lv2 := [(1, .int (nI 0)), (0, .ref r0)]) [0, 1] rfl ?_
      exact lp52 _ A X M mw 0 (fun z hz => (hAx z (by omega)).trans (if_pos hz)) (fun j hj z hz => by rw [show 7 * j + z = z by omega, show j = 0 by omega]; exact (hX z (by omega)).trans (if_pos hz)) (fun j hj => absurd hj (Nat.not_lt_zero j)) (by first | omega | assumption | rfl | (simp only []; omega) | decide) (by first | omega | assumption | rfl | (simp only []; omega) | decide) hM (by first | omega | assumption | rfl | (simp only []; omega) | decide) rfl
    ·
      refine v_al_n 9 zC dX5_day_8 1 rfl ?_
      refine v_gf 12 0 zC dX5_day_9 gf_X5_34 rfl rfl ?_
      refine v_il_n 13 zC dX5_day_12 0 rfl ?_
      refine v_il_n 14 zC dX5_day_13 0 rfl ?_
      refine v_al_n 15 zC dX5_day_14 1 rfl ?_
      refine v_gf 18 0 zC dX5_day_15 gf_X5_77 rfl rfl ?_
      refine v_icmpn_ge 30 21 zC dX5_day_18 (fun h_16 => ?_) (fun h_16 => ?_)
      ·
        refine v_ic (v := (nI 0)) 31 zC dX5_day_30 (by decide +kernel) ?_
        refine v_iasn (ws2 := [(r0, .inr (5, [.int (nI n), .ref k1, .ref k2, .ref k3, .ref k4, .int (nI m), .ref k6, .ref k7, .ref k8, .int (nI 0), .ref k10, .int (nI aw), .ref k12, .ref k13, .ref k14, .ref k15, .ref k16, .int (nI ls), .int (nI ap), .int (bz bd), .int (nI sq), .ref k21, .ref k22, .ref k23, .ref k24, .ref k25, .int (bz pd), .int (nI pl), .int (bz tk), kv, .ref k30, .ref k31, .int (nI tz), .ref k33, .int (nI rs), .int sd])), (k1, .inl (cI, 7, .inl (nIf ki))), (k2, .inl (cI, 7, .inl (nIf op))), (k3, .inl (cI, 7, .inl (nIf (shF sh)))), (k4, .inl (cI, 7, .inl (nIf fa))), (k6, .inl (cI, 6, .inl (nIf K))), (k7, .inl (cI, 6, .inl (nIf G))), (k8, .inl (cI, 6, .inl (nIf T))), (k12, .inl (cI, 7, .inl (nIf (un A p 0)))), (k13, .inl (cI, 175, .inl (nIf X))), (k14, .inl (cI, 144, .inl (mIf M))), (k15, .inl (cI, 7, .inl (nIf mw)))]) 32 8 zC dX5_day_31 rfl (by omega) (by rw [upd_nIf]; first | done | rfl) ?_
        refine v_al_n 33 zC dX5_day_32 1 rfl ?_
        refine v_gf 36 0 zC dX5_day_33 gf_X5_37 rfl rfl ?_
        refine v_il_n 37 zC dX5_day_36 0 rfl ?_
        refine v_al_n 38 zC dX5_day_37 1 rfl ?_
        refine v_gf 41 0 zC dX5_day_38 gf_X5_34 rfl rfl ?_
        refine v_il_n 42 zC dX5_day_41 0 rfl ?_
        refine v_ialn (v := (nI ((un A p 0) p))) 43 8 zC dX5_day_42 rfl (by omega) rfl ?_
        refine v_iasn (ws2 := [(r0, .inr (5, [.int (nI n), .ref k1, .ref k2, .ref k3, .ref k4, .int (nI m), .ref k6, .ref k7, .ref k8, .int (nI 0), .ref k10, .int (nI aw), .ref k12, .ref k13, .ref k14, .ref k15, .ref k16, .int (nI ls), .int (nI ap), .int (bz bd), .int (nI sq), .ref k21, .ref k22, .ref k23, .ref k24, .ref k25, .int (bz pd), .int (nI pl), .int (bz tk), kv, .ref k30, .ref k31, .int (nI tz), .ref k33, .int (nI rs), .int sd])), (k1, .inl (cI, 7, .inl (nIf ki))), (k2, .inl (cI, 7, .inl (nIf op))), (k3, .inl (cI, 7, .inl (nIf (shF sh)))), (k4, .inl (cI, 7, .inl (nIf fa))), (k6, .inl (cI, 6, .inl (nIf K))), (k7, .inl (cI, 6, .inl (nIf G))), (k8, .inl (cI, 6, .inl (nIf T))), (k12, .inl (cI, 7, .inl (nIf (un A p 0)))), (k13, .inl (cI, 175, .inl (nIf (un X p ((un A p 0) p))))), (k14, .inl (cI, 144, .inl (mIf M))), (k15, .inl (cI, 7, .inl (nIf mw)))]) 44 9 zC dX5_day_43 rfl (by omega) (by rw [upd_nIf]; first | done | rfl) ?_
        refine v_inc (v := (nI (p + 1))) (lv2 := [(1, .int (nI (p + 1))), (0, .ref r0)]) 47 zC dX5_day_44 (j := 0) rfl (nI_add _ 1) (by rw [hnE]; decide) rfl ?_
        refine v_goto 2 zC dX5_day_47 ?_
        refine v_lvs (lv2 := [(1, .int (nI (p + 1))), (0, .ref r0)]) [0, 1] rfl ?_
        exact ih2 _ (by omega) (un A p 0) (un X p ((un A p 0) p)) (p + 1) (fun z hz => by by_cases q9 : z = p; (· subst q9; rw [un_s]; first | exact (if_pos (by assumption)).symm | exact (if_neg (Nat.not_lt.mpr (by assumption))).symm); (· rw [un_n q9]; exact hAx z (by omega))) (fun z hz => by by_cases q9 : z = p; (· subst q9; rw [un_s, un_s]; first | exact (if_pos (by assumption)).symm | exact (if_neg (Nat.not_lt.mpr (by assumption))).symm); (· rw [un_n q9]; exact hX z (by omega))) (un_b hAb (by first | exact hfa _ | decide)) (un_b hXb (un_b hAb (by first | exact hfa _ | decide) _)) (by first | omega | assumption | rfl | (simp only []; omega) | decide) rfl
      ·
        refine v_al_n 22 zC dX5_day_21 1 rfl ?_
        refine v_gf 25 0 zC dX5_day_22 gf_X5_19 rfl rfl ?_
        refine v_il_n 26 zC dX5_day_25 0 rfl ?_
        refine v_ialn (v := (nI (fa p))) 27 4 zC dX5_day_26 rfl (by omega) rfl ?_
        refine v_goto 31 zC dX5_day_27 ?_
        refine v_iasn (ws2 := [(r0, .inr (5, [.int (nI n), .ref k1, .ref k2, .ref k3, .ref k4, .int (nI m), .ref k6, .ref k7, .ref k8, .int (nI 0), .ref k10, .int (nI aw), .ref k12, .ref k13, .ref k14, .ref k15, .ref k16, .int (nI ls), .int (nI ap), .int (bz bd), .int (nI sq), .ref k21, .ref k22, .ref k23, .ref k24, .ref k25, .int (bz pd), .int (nI pl), .int (bz tk), kv, .ref k30, .ref k31, .int (nI tz), .ref k33, .int (nI rs), .int sd])), (k1, .inl (cI, 7, .inl (nIf ki))), (k2, .inl (cI, 7, .inl (nIf op))), (k3, .inl (cI, 7, .inl (nIf (shF sh)))), (k4, .inl (cI, 7, .inl (nIf fa))), (k6, .inl (cI, 6, .inl (nIf K))), (k7, .inl (cI, 6, .inl (nIf G))), (k8, .inl (cI, 6, .inl (nIf T))), (k12, .inl (cI, 7, .inl (nIf (un A p (fa p))))), (k13, .inl (cI, 175, .inl (nIf X))), (k14, .inl (cI, 144, .inl (mIf M))), (k15, .inl (cI, 7, .inl (nIf mw)))]) 32 8 zC dX5_day_31 rfl (by omega) (by rw [upd_nIf]; first | done | rfl) ?_
        refine v_al_n 33 zC dX5_day_32 1 rfl ?_
        refine v_gf 36 0 zC dX5_day_33 gf_X5_37 rfl rfl ?_
        refine v_il_n 37 zC dX5_day_36 0 rfl ?_
        refine v_al_n 38 zC dX5_day_37 1 rfl ?_
        refine v_gf 41 0 zC dX5_day_38 gf_X5_34 rfl rfl ?_
        refine v_il_n 42 zC dX5_day_41 0 rfl ?_
        refine v_ialn (v := (nI ((un A p (fa p)) p))) 43 8 zC dX5_day_42 rfl (by omega) rfl ?_
        refine v_iasn (ws2 := [(r0, .inr (5, [.int (nI n), .ref k1, .ref k2, .ref k3, .ref k4, .int (nI m), .ref k6, .ref k7, .ref k8, .int (nI 0), .ref k10, .int (nI aw), .ref k12, .ref k13, .ref k14, .ref k15, .ref k16, .int (nI ls), .int (nI ap), .int (bz bd), .int (nI sq), .ref k21, .ref k22, .ref k23, .ref k24, .ref k25, .int (bz pd), .int (nI pl), .int (bz tk), kv, .ref k30, .ref k31, .int (nI tz), .ref k33, .int (nI rs), .int sd])), (k1, .inl (cI, 7, .inl (nIf ki))), (k2, .inl (cI, 7, .inl (nIf op))), (k3, .inl (cI, 7, .inl (nIf (shF sh)))), (k4, .inl (cI, 7, .inl (nIf fa))), (k6, .inl (cI, 6, .inl (nIf K))), (k7, .inl (cI, 6, .inl (nIf G))), (k8, .inl (cI, 6, .inl (nIf T))), (k12, .inl (cI, 7, .inl (nIf (un A p (fa p))))), (k13, .inl (cI, 175, .inl (nIf (un X p ((un A p (fa p)) p))))), (k14, .inl (cI, 144, .inl (mIf M))), (k15, .inl (cI, 7, .inl (nIf mw)))]) 44 9 zC dX5_day_43 rfl (by omega) (by rw [upd_nIf]; first | done | rfl) ?_
        refine v_inc (v := (nI (p + 1))) (lv2 := [(1, .int (nI (p + 1))), (0, .ref r0)]) 47 zC dX5_day_44 (j := 0) rfl (nI_add _ 1) (by rw [hnE]; decide) rfl ?_
        refine v_goto 2 zC dX5_day_47 ?_
        refine v_lvs (lv2 := [(1, .int (nI (p + 1))), (0, .ref r0)]) [0, 1] rfl ?_
        exact ih2 _ (by omega) (un A p (fa p)) (un X p ((un A p (fa p)) p)) (p + 1) (fun z hz => by by_cases q9 : z = p; (· subst q9; rw [un_s]; first | exact (if_pos (by assumption)).symm | exact (if_neg (Nat.not_lt.mpr (by assumption))).symm); (· rw [un_n q9]; exact hAx z (by omega))) (fun z hz => by by_cases q9 : z = p; (· subst q9; rw [un_s, un_s]; first | exact (if_pos (by assumption)).symm | exact (if_neg (Nat.not_lt.mpr (by assumption))).symm); (· rw [un_n q9]; exact hX z (by omega))) (un_b hAb (by first | exact hfa _ | decide)) (un_b hXb (un_b hAb (by first | exact hfa _ | decide) _)) (by first | omega | assumption | rfl | (simp only []; omega) | decide) rfl
  refine v_lvs (lv2 := [(1, .int (nI 0)), (0, .ref r0)]) [0, 1] rfl ?_
  exact lp2 _ kw kn 0 (fun z hz => absurd hz (Nat.not_lt_zero z)) (fun z hz => absurd hz (Nat.not_lt_zero z)) hkw hkn (by first | omega | assumption | rfl | (simp only []; omega) | decide) rfl
