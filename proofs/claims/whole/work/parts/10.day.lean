/-! rows of numbers or nothing; the day's own readings -/
def mI (x : Option Nat) : Int32 := match x with
  | none => -9
  | some p => nI p
def mIf (f : Nat → Option Nat) : Nat → Int32 := fun z => mI (f z)
def uo (f : Nat → Option Nat) (i : Nat) (v : Option Nat) : Nat → Option Nat := fun j => if j = i then v else f j
theorem uo_s {f : Nat → Option Nat} {i : Nat} {v : Option Nat} : uo f i v i = v := by simp [uo]
theorem uo_n {f : Nat → Option Nat} {i j : Nat} {v : Option Nat} (h : j ≠ i) : uo f i v j = f j := by simp [uo, h]
theorem upd_mI (f : Nat → Option Nat) (i : Nat) (v : Option Nat) : upd (mIf f) i (mI v) = mIf (uo f i v) := by
  funext j
  by_cases h : j = i
  · subst h
    rw [pk_us]
    simp [mIf, uo]
  · rw [pk_un h]
    simp [mIf, uo, h]
theorem upd_mI0 (f : Nat → Option Nat) (i : Nat) : upd (mIf f) i (-9) = mIf (uo f i none) := upd_mI f i none
theorem upd_mI1 (f : Nat → Option Nat) (i v : Nat) : upd (mIf f) i (nI v) = mIf (uo f i (some v)) := upd_mI f i (some v)
theorem mI_lt {x : Option Nat} (hb : ∀ v, x = some v → v < 2 ^ 31) : mI x < 0 ↔ x.isSome = false := by
  cases x with
  | none => exact ⟨fun _ => rfl, fun _ => by decide +kernel⟩
  | some v => exact ⟨fun h => absurd h (nI_pos (hb v rfl)), fun h => by cases h⟩
theorem mI_eq {x : Option Nat} {p : Nat} (hb : ∀ v, x = some v → v < 2 ^ 31) (hp : p < 2 ^ 31) : mI x = nI p ↔ (x == some p) = true := by
  cases x with
  | none =>
    refine ⟨fun h => ?_, fun h => by simp at h⟩
    exact absurd (show nI p < 0 by rw [← h]; decide +kernel) (nI_pos hp)
  | some v =>
    have e : mI (some v) = nI v := rfl
    rw [e, nI_eq (hb v rfl) hp]
    simp
section VO
variable {E : EV} {cc : ByteArray} {own : String} {ret : Option FieldType} {cI : ClassId} {rm : Room} {k n pc : Nat} {lv : List (Nat × Value)} {st : List Value} {ws : va_W} {X : Option Nat} {p : Nat} {off : Int}
theorem v_ifo_lt (t q : Nat) (C : CX E cc own ret cI rm) (hd : decode cc pc = .ok (.ifCond .lt off, 3)) (hb : ∀ v, X = some v → v < 2 ^ 31) (kt : X.isSome = false → VV E k n t lv st ws) (kf : X.isSome = true → VV E k n q lv st ws) (ht : (pc : Int) + off = (t : Int) := by rfl) (hq : pc + 3 = q := by rfl) : VV E k n pc lv (.int (mI X) :: st) ws :=
  v_if_lt t q C hd (fun c => kt ((mI_lt hb).mp c)) (fun c => kf (by
    have h := mt (mI_lt hb).mpr c
    simpa using h)) ht hq
theorem v_ifo_ge (t q : Nat) (C : CX E cc own ret cI rm) (hd : decode cc pc = .ok (.ifCond .ge off, 3)) (hb : ∀ v, X = some v → v < 2 ^ 31) (kt : X.isSome = true → VV E k n t lv st ws) (kf : X.isSome = false → VV E k n q lv st ws) (ht : (pc : Int) + off = (t : Int) := by rfl) (hq : pc + 3 = q := by rfl) : VV E k n pc lv (.int (mI X) :: st) ws :=
  v_if_ge t q C hd (fun c => kt (by
    have h := mt (mI_lt hb).mpr (Int32.not_lt.mpr c)
    simpa using h)) (fun c => kf ((mI_lt hb).mp (Int32.not_le.mp c))) ht hq
theorem v_icmpo_ne (t q : Nat) (C : CX E cc own ret cI rm) (hd : decode cc pc = .ok (.if_icmp .ne off, 3)) (hb : ∀ v, X = some v → v < 2 ^ 31) (kt : (X == some p) = false → VV E k n t lv st ws) (kf : (X == some p) = true → VV E k n q lv st ws) (hp : p < 2 ^ 31 := by omega) (ht : (pc : Int) + off = (t : Int) := by rfl) (hq : pc + 3 = q := by rfl) : VV E k n pc lv (.int (nI p) :: .int (mI X) :: st) ws :=
  v_icmp_ne t q C hd (fun c => kt (by
    have h := mt (mI_eq hb hp).mpr c
    simpa using h)) (fun c => kf ((mI_eq hb hp).mp c)) ht hq
theorem v_icmpo_eq (t q : Nat) (C : CX E cc own ret cI rm) (hd : decode cc pc = .ok (.if_icmp .eq off, 3)) (hb : ∀ v, X = some v → v < 2 ^ 31) (kt : (X == some p) = true → VV E k n t lv st ws) (kf : (X == some p) = false → VV E k n q lv st ws) (hp : p < 2 ^ 31 := by omega) (ht : (pc : Int) + off = (t : Int) := by rfl) (hq : pc + 3 = q := by rfl) : VV E k n pc lv (.int (nI p) :: .int (mI X) :: st) ws :=
  v_icmp_eq t q C hd (fun c => kt ((mI_eq hb hp).mp c)) (fun c => kf (by
    have h := mt (mI_eq hb hp).mpr c
    simpa using h)) ht hq
end VO
def tlk (kn : Nat → Nat) (P h s t : Nat) : Nat → Nat := fun z => if h * 7 ≤ z ∧ z < h * 7 + P ∧ s.testBit (z - h * 7) = true then kn z ||| 2 ^ t else kn z
theorem tlk_z (kn : Nat → Nat) (h s t : Nat) : tlk kn 0 h s t = kn := by
  funext z
  unfold tlk
  rw [if_neg (by omega)]
theorem tlk_1 {kn : Nat → Nat} {p h s t : Nat} (hb : s.testBit p = true) : un (tlk kn p h s t) (h * 7 + p) (tlk kn p h s t (h * 7 + p) ||| 2 ^ t) = tlk kn (p + 1) h s t := by
  funext z
  by_cases hz : z = h * 7 + p
  · subst hz
    rw [un_s]
    unfold tlk
    rw [if_neg (by omega), if_pos ⟨by omega, by omega, by rw [Nat.add_sub_cancel_left]; exact hb⟩]
  · rw [un_n hz]
    unfold tlk
    by_cases hc : h * 7 ≤ z ∧ z < h * 7 + p ∧ s.testBit (z - h * 7) = true
    · rw [if_pos hc, if_pos ⟨hc.1, by omega, hc.2.2⟩]
    · rw [if_neg hc, if_neg (fun g => hc ⟨g.1, by omega, g.2.2⟩)]
theorem tlk_0 {kn : Nat → Nat} {p h s t : Nat} (hb : s.testBit p = false) : tlk kn p h s t = tlk kn (p + 1) h s t := by
  funext z
  unfold tlk
  by_cases hc : h * 7 ≤ z ∧ z < h * 7 + p ∧ s.testBit (z - h * 7) = true
  · rw [if_pos hc, if_pos ⟨hc.1, by omega, hc.2.2⟩]
  · rw [if_neg hc, if_neg (fun g => ?_)]
    by_cases hz : z = h * 7 + p
    · subst hz
      rw [Nat.add_sub_cancel_left, hb] at g
      exact absurd g.2.2 (by decide)
    · exact hc ⟨g.1, by omega, g.2.2⟩
def anb (P : Nat → Bool) : Nat → Bool
  | 0 => false
  | k + 1 => anb P k || P k
def ctn (P : Nat → Bool) : Nat → Nat
  | 0 => 0
  | k + 1 => ctn P k + (if P k = true then 1 else 0)
theorem ctn_le (P : Nat → Bool) : ∀ n, ctn P n ≤ n
  | 0 => Nat.le_refl _
  | n + 1 => by
    have h := ctn_le P n
    simp only [ctn]
    split <;> omega
theorem ctn_1 {P : Nat → Bool} {k : Nat} (h : P k = true) : ctn P (k + 1) = ctn P k + 1 := by simp [ctn, h]
theorem ctn_0 {P : Nat → Bool} {k : Nat} (h : P k = false) : ctn P (k + 1) = ctn P k := by simp [ctn, h]
def orn (f : Nat → Nat) : Nat → Nat
  | 0 => 0
  | k + 1 => orn f k ||| f k
def ann (f : Nat → Nat) : Nat → Nat
  | 0 => 1023
  | k + 1 => ann f k &&& f k
