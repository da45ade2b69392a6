/-! numbers as Nat: bits, sets, rows of numbers, sums -/
theorem fa_and (a b : Nat) : nI a &&& nI b = nI (a &&& b) := by
  apply Int32.toBitVec_inj.1
  show BitVec.ofNat 32 a &&& BitVec.ofNat 32 b = BitVec.ofNat 32 (a &&& b)
  apply BitVec.eq_of_getLsbD_eq
  intro i hi
  simp [hi]
theorem fa_or (a b : Nat) : nI a ||| nI b = nI (a ||| b) := by
  apply Int32.toBitVec_inj.1
  show BitVec.ofNat 32 a ||| BitVec.ofNat 32 b = BitVec.ofNat 32 (a ||| b)
  apply BitVec.eq_of_getLsbD_eq
  intro i hi
  simp [hi]
theorem fb_xorI (a b : Nat) : nI a ^^^ nI b = nI (a ^^^ b) := by
  apply Int32.toBitVec_inj.1
  show BitVec.ofNat 32 a ^^^ BitVec.ofNat 32 b = BitVec.ofNat 32 (a ^^^ b)
  apply BitVec.eq_of_getLsbD_eq
  intro i hi
  simp [hi]
def andn (a b : Nat) : Nat := a ^^^ (a &&& b)
theorem andn_of (a b : Nat) : nI a &&& (nI b ^^^ (-1)) = nI (andn a b) := by
  apply Int32.toBitVec_inj.1
  show BitVec.ofNat 32 a &&& (BitVec.ofNat 32 b ^^^ (-1 : Int32).toBitVec) = BitVec.ofNat 32 (andn a b)
  rw [show (-1 : Int32).toBitVec = BitVec.allOnes 32 from rfl]
  apply BitVec.eq_of_getLsbD_eq
  intro i hi
  simp only [andn, BitVec.getLsbD_and, BitVec.getLsbD_xor, BitVec.getLsbD_ofNat, BitVec.getLsbD_allOnes, hi, decide_true, Bool.true_and, Nat.testBit_xor, Nat.testBit_and]
  cases a.testBit i <;> cases b.testBit i <;> rfl
theorem and1 (a : Nat) : nI a &&& nI 1 = nI (a % 2) := by
  rw [fa_and]
  exact congrArg nI (Nat.and_two_pow_sub_one_eq_mod a 1)
theorem tb_of (x : Nat) {k : Nat} (h : k < 32) : (nI x >>> nI k) &&& nI 1 = bz (x.testBit k) := by
  rw [bt_of _ h]
  have e : bt (nI x) k = x.testBit k := by
    show (BitVec.ofNat 32 x).getLsbD k = _
    rw [BitVec.getLsbD_ofNat]
    simp [h]
  rw [e]
theorem shln {x k : Nat} (h : x * 2 ^ k < 2 ^ 32) (hk : k < 32) : nI x <<< (nI k &&& 31) = nI (x * 2 ^ k) := by
  rw [a31 hk]
  exact pk_shlN (nI k) k (sm_nI hk) h
theorem b1n {k : Nat} (hk : k < 31) : nI 1 <<< (nI k &&& 31) = nI (2 ^ k) := by
  have h : 1 * 2 ^ k < 2 ^ 32 := by
    rw [Nat.one_mul]
    exact Nat.pow_lt_pow_right (by decide) (by omega)
  rw [shln h (by omega), Nat.one_mul]
theorem shrn {x k : Nat} (h : x < 2 ^ 31) (hk : k < 32) : nI x >>> (nI k &&& 31) = nI (x / 2 ^ k) := by
  rw [a31 hk]
  exact pk_shrN h (nI k) k (sm_nI hk)
theorem sb1 {B : Bool} (h : B = true) : some (Value.int (nI 1)) = some (Value.int (bz B)) := by rw [h]; rfl
theorem sb0 {B : Bool} (h : B = false) : some (Value.int (nI 0)) = some (Value.int (bz B)) := by rw [h]; rfl
theorem sn {a b : Nat} (h : a = b) : some (Value.int (nI a)) = some (Value.int (nI b)) := by rw [h]
theorem si {a b : Int32} (h : a = b) : some (Value.int a) = some (Value.int b) := by rw [h]
def nIf (f : Nat → Nat) : Nat → Int32 := fun z => nI (f z)
def un (f : Nat → Nat) (i v : Nat) : Nat → Nat := fun j => if j = i then v else f j
theorem un_s {f : Nat → Nat} {i v : Nat} : un f i v i = v := by simp [un]
theorem un_n {f : Nat → Nat} {i v j : Nat} (h : j ≠ i) : un f i v j = f j := by simp [un, h]
theorem upd_nIf (f : Nat → Nat) (i v : Nat) : upd (nIf f) i (nI v) = nIf (un f i v) := by
  funext j
  by_cases h : j = i
  · subst h
    rw [pk_us]
    simp [nIf, un]
  · rw [pk_un h]
    simp [nIf, un, h]
theorem cpy_nIf (f g : Nat → Nat) (a b c : Nat) : va_cpy (nIf f) (nIf g) a b c = nIf (va_cpy f g a b c) := by
  funext j
  simp only [va_cpy, nIf]
  split <;> rfl
/-- a set, as bits -/
def mkn (P : Nat → Bool) : Nat → Nat
  | 0 => 0
  | k + 1 => if P k = true then mkn P k ||| 2 ^ k else mkn P k
theorem mkn_lt (P : Nat → Bool) : ∀ n, mkn P n < 2 ^ n
  | 0 => by simp [mkn]
  | n + 1 => by
    have h := mkn_lt P n
    have h2 : 2 ^ n < 2 ^ (n + 1) := Nat.pow_lt_pow_right (by decide) (Nat.lt_succ_self n)
    simp only [mkn]
    split
    · exact Nat.or_lt_two_pow (Nat.lt_trans h h2) h2
    · exact Nat.lt_trans h h2
theorem mkn_bit (P : Nat → Bool) : ∀ n j, (mkn P n).testBit j = (decide (j < n) && P j)
  | 0, j => by simp [mkn]
  | n + 1, j => by
    have h := mkn_bit P n j
    simp only [mkn]
    by_cases hj : j = n
    · subst hj
      have e : (mkn P j).testBit j = false := by rw [h]; simp
      split
      · rename_i hp
        simp [Nat.testBit_or, Nat.testBit_two_pow_self, hp]
      · rename_i hp
        rw [e]
        simp [hp]
    · have e1 : (decide (j < n + 1) : Bool) = decide (j < n) := by
        have : (j < n + 1) ↔ (j < n) := by omega
        simp [this]
      rw [e1]
      split
      · rw [Nat.testBit_or, h, Nat.testBit_two_pow_of_ne (fun e => hj e.symm)]
        simp
      · exact h
theorem mkn_c {P Q : Nat → Bool} : ∀ {n : Nat}, (∀ k, k < n → P k = Q k) → mkn P n = mkn Q n
  | 0, _ => rfl
  | n + 1, h => by
    simp only [mkn]
    rw [mkn_c (fun k hk => h k (Nat.lt_succ_of_lt hk)), h n (Nat.lt_succ_self n)]
theorem mkn_1 {P : Nat → Bool} {k : Nat} (h : P k = true) : mkn P (k + 1) = mkn P k ||| 2 ^ k := by simp [mkn, h]
theorem mkn_0 {P : Nat → Bool} {k : Nat} (h : P k = false) : mkn P (k + 1) = mkn P k := by simp [mkn, h]
theorem mkn_7 (P : Nat → Bool) {n : Nat} (h : n ≤ 7) : mkn P n < 128 := Nat.lt_of_lt_of_le (mkn_lt P n) (Nat.pow_le_pow_right (by decide) h)
def sm (f : Nat → Nat) : Nat → Nat
  | 0 => 0
  | n + 1 => sm f n + f n
theorem sm_le {f : Nat → Nat} {c : Nat} (h : ∀ z, f z ≤ c) : ∀ n, sm f n ≤ n * c
  | 0 => by simp [sm]
  | n + 1 => by
    have h1 := sm_le h n
    have h2 := h n
    simp only [sm]
    rw [Nat.succ_mul]
    omega
/-- how many bits of a number are set -/
def pcn (x : Nat) : Nat := if x = 0 then 0 else x % 2 + pcn (x / 2)
termination_by x
decreasing_by omega
theorem pcn_0 : pcn 0 = 0 := by rw [pcn, if_pos rfl]
theorem pcn_s (x : Nat) : pcn x = x % 2 + pcn (x / 2) := by
  by_cases h : x = 0
  · subst h
    rw [pcn_0]
  · rw [pcn, if_neg h]
theorem pcn_k : ∀ (k x : Nat), x < 2 ^ k → pcn x ≤ k
  | 0, x, h => by
    have e : x = 0 := by omega
    subst e
    rw [pcn_0]
    exact Nat.le_refl 0
  | k + 1, x, h => by
    have h2 : x / 2 < 2 ^ k := by
      rw [Nat.pow_succ] at h
      omega
    have g := pcn_k k (x / 2) h2
    rw [pcn_s]
    omega
/-- the first place that answers -/
def fs (P : Nat → Bool) : Nat → Option Nat
  | 0 => none
  | k + 1 => match fs P k with
    | some i => some i
    | none => if P k = true then some k else none
theorem fs_1 {P : Nat → Bool} {k : Nat} (h : fs P k = none) (hp : P k = true) : fs P (k + 1) = some k := by simp [fs, h, hp]
theorem fs_0 {P : Nat → Bool} {k : Nat} (h : fs P k = none) (hp : P k = false) : fs P (k + 1) = none := by simp [fs, h, hp]
theorem fs_m {P : Nat → Bool} {i : Nat} : ∀ {k n : Nat}, k ≤ n → fs P k = some i → fs P n = some i
  | k, 0, h, e => by
    have : k = 0 := by omega
    subst this
    exact e
  | k, n + 1, h, e => by
    rcases Nat.lt_or_ge n k with q | q
    · have : k = n + 1 := by omega
      subst this
      exact e
    · have g := fs_m q e
      simp [fs, g]
theorem fs_lt {P : Nat → Bool} : ∀ {n i : Nat}, fs P n = some i → i < n ∧ P i = true
  | 0, i, h => by simp [fs] at h
  | n + 1, i, h => by
    cases hc : fs P n with
    | some j =>
      simp only [fs, hc] at h
      have e : j = i := Option.some.inj h
      subst e
      obtain ⟨h1, h2⟩ := fs_lt hc
      exact ⟨by omega, h2⟩
    | none =>
      simp only [fs, hc] at h
      by_cases hp : P n = true
      · rw [if_pos hp] at h
        have e : n = i := Option.some.inj h
        subst e
        exact ⟨by omega, hp⟩
      · rw [if_neg hp] at h
        cases h
/-! the family's and the day's own numbers -/
def besN (n s : Nat) : Nat := if n < 2 then 0 else mkn (fun p => s.testBit ((p + 1) % n) || s.testBit ((p + n - 1) % n)) n
theorem besN_of {n s : Nat} (hn : n ≤ 7) (h2 : 2 ≤ n) (hs : s < 2 ^ n) : (((s * 2 ^ 1) ||| (s / 2 ^ (n - 1))) ||| ((s / 2 ^ 1) ||| (s * 2 ^ (n - 1)))) &&& (2 ^ n - 1) = besN n s := by
  have g : ∀ k, k < 8 → 2 ≤ k → ∀ x, x < 2 ^ k → (((x * 2 ^ 1) ||| (x / 2 ^ (k - 1))) ||| ((x / 2 ^ 1) ||| (x * 2 ^ (k - 1)))) &&& (2 ^ k - 1) = besN k x := by decide +kernel
  exact g n (by omega) h2 s hs
theorem besN_lt {n s : Nat} (hn : n ≤ 7) : besN n s < 128 := by
  unfold besN
  split
  · decide
  · exact mkn_7 _ hn
def mfN (n sh aw k d : Nat) (ki : Nat → Nat) : Nat := if aw.testBit d = true then 0 else mkn (fun p => !sh.testBit p && (k == 5 || (ki p).testBit d)) n
def hhB (k g h : Nat) : Bool := if k = 1 ∨ k = 3 then (h + g) % 2 == 0 else if k = 4 then decide (12 ≤ h) else true
def ffO (n g s : Nat) : Option Nat := (fs (fun i => s.testBit ((g + i) % n)) n).map (fun i => (g + i) % n)
