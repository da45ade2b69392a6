/-! rows of numbers or nothing; the day's own readings -/
def mI (x : Option Nat) : Int32 := match x with
  | none => -9
  | some p => nI p
def mIf (f : Nat → Option Nat) : Nat → Int32 := fun z => mI (f z)
def uo (f : Nat → Option Nat) (i : Nat) (v : Option Nat) : Nat → Option Nat := fun j => if j = i then v else f j
theorem uo_s {f : Nat → Option Nat} {i : Nat} {v : Option Nat} : uo f i v i = v := by simp [uo]
theorem uo_n {f : Nat → Option Nat} {i j : Nat} {v : Option Nat} (h : j ≠ i) : uo f i v j = f j := by simp [uo, h]
theorem upd_mI (f : Nat → Option Nat) (i : Nat) (v : Option Nat) : upd (mIf f) i (mI v) = mIf (uo f i v) := by
  funext j
  by_cases h : j = i
  · subst h
    rw [pk_us]
    simp [mIf, uo]
  · rw [pk_un h]
    simp [mIf, uo, h]
theorem upd_mI0 (f : Nat → Option Nat) (i : Nat) : upd (mIf f) i (-9) = mIf (uo f i none) := upd_mI f i none
theorem upd_mI1 (f : Nat → Option Nat) (i v : Nat) : upd (mIf f) i (nI v) = mIf (uo f i (some v)) := upd_mI f i (some v)
theorem mI_lt {x : Option Nat} (hb : ∀ v, x = some v → v < 2 ^ 31) : mI x < 0 ↔ x.isSome = false := by
  cases x with
  | none => exact ⟨fun _ => rfl, fun _ => by decide +kernel⟩
  | some v => exact ⟨fun h => absurd h (nI_pos (hb v rfl)), fun h => by cases h⟩
theorem mI_eq {x : Option Nat} {p : Nat} (hb : ∀ v, x = some v → v < 2 ^ 31) (hp : p < 2 ^ 31) : mI x = nI p ↔ (x == some p) = true := by
  cases x with
  | none =>
    refine ⟨fun h => ?_, fun h => by simp at h⟩
    exact absurd (show nI p < 0 by rw [← h]; decide +kernel) (nI_pos hp)
  | some v =>
    have e : mI (some v) = nI v := rfl
    rw [e, nI_eq (hb v rfl) hp]
    simp
section VO
variable {E : EV} {cc : ByteArray} {own : String} {ret : Option FieldType} {cI : ClassId} {rm : Room} {k n pc : Nat} {lv : List (Nat × Value)} {st : List Value} {ws : va_W} {X : Option Nat} {p : Nat} {off : Int}
theorem v_ifo_lt (t q : Nat) (C : CX E cc own ret cI rm) (hd : decode cc pc = .ok (.ifCond .lt off, 3)) (hb : ∀ v, X = some v → v < 2 ^ 31) (kt : X.isSome = false → VV E k n t lv st ws) (kf : X.isSome = true → VV E k n q lv st ws) (ht : (pc : Int) + off = (t : Int) := by rfl) (hq : pc + 3 = q := by rfl) : VV E k n pc lv (.int (mI X) :: st) ws :=
  v_if_lt t q C hd (fun c => kt ((mI_lt hb).mp c)) (fun c => kf (by
    have h := mt (mI_lt hb).mpr c
    exact eq_true_of_ne_false h)) ht hq
theorem v_ifo_ge (t q : Nat) (C : CX E cc own ret cI rm) (hd : decode cc pc = .ok (.ifCond .ge off, 3)) (hb : ∀ v, X = some v → v < 2 ^ 31) (kt : X.isSome = true → VV E k n t lv st ws) (kf : X.isSome = false → VV E k n q lv st ws) (ht : (pc : Int) + off = (t : Int) := by rfl) (hq : pc + 3 = q := by rfl) : VV E k n pc lv (.int (mI X) :: st) ws :=
  v_if_ge t q C hd (fun c => kt (by
    have h := mt (mI_lt hb).mpr (Int32.not_lt.mpr c)
    exact eq_true_of_ne_false h)) (fun c => kf ((mI_lt hb).mp (Int32.not_le.mp c))) ht hq
theorem v_icmpo_ne (t q : Nat) (C : CX E cc own ret cI rm) (hd : decode cc pc = .ok (.if_icmp .ne off, 3)) (hb : ∀ v, X = some v → v < 2 ^ 31) (kt : (X == some p) = false → VV E k n t lv st ws) (kf : (X == some p) = true → VV E k n q lv st ws) (hp : p < 2 ^ 31 := by omega) (ht : (pc : Int) + off = (t : Int) := by rfl) (hq : pc + 3 = q := by rfl) : VV E k n pc lv (.int (nI p) :: .int (mI X) :: st) ws :=
  v_icmp_ne t q C hd (fun c => kt (by
    have h := mt (mI_eq hb hp).mpr c
    simpa using h)) (fun c => kf ((mI_eq hb hp).mp c)) ht hq
theorem v_icmpo_eq (t q : Nat) (C : CX E cc own ret cI rm) (hd : decode cc pc = .ok (.if_icmp .eq off, 3)) (hb : ∀ v, X = some v → v < 2 ^ 31) (kt : (X == some p) = true → VV E k n t lv st ws) (kf : (X == some p) = false → VV E k n q lv st ws) (hp : p < 2 ^ 31 := by omega) (ht : (pc : Int) + off = (t : Int) := by rfl) (hq : pc + 3 = q := by rfl) : VV E k n pc lv (.int (nI p) :: .int (mI X) :: st) ws :=
  v_icmp_eq t q C hd (fun c => kt ((mI_eq hb hp).mp c)) (fun c => kf (by
    have h := mt (mI_eq hb hp).mpr c
    simpa using h)) ht hq
end VO
def tlk (kn : Nat → Nat) (P h s t : Nat) : Nat → Nat := fun z => if h * 7 ≤ z ∧ z < h * 7 + P ∧ s.testBit (z - h * 7) = true then kn z ||| 2 ^ t else kn z
theorem tlk_z (kn : Nat → Nat) (h s t : Nat) : tlk kn 0 h s t = kn := by
  funext z
  unfold tlk
  rw [if_neg (by omega)]
theorem tlk_1 {kn : Nat → Nat} {p h s t : Nat} (hb : s.testBit p = true) : un (tlk kn p h s t) (h * 7 + p) (tlk kn p h s t (h * 7 + p) ||| 2 ^ t) = tlk kn (p + 1) h s t := by
  funext z
  by_cases hz : z = h * 7 + p
  · subst hz
    rw [un_s]
    unfold tlk
    rw [if_neg (by omega), if_pos ⟨by omega, by omega, by rw [Nat.add_sub_cancel_left]; exact hb⟩]
  · rw [un_n hz]
    unfold tlk
    by_cases hc : h * 7 ≤ z ∧ z < h * 7 + p ∧ s.testBit (z - h * 7) = true
    · rw [if_pos hc, if_pos ⟨hc.1, by omega, hc.2.2⟩]
    · rw [if_neg hc, if_neg (fun g => hc ⟨g.1, by omega, g.2.2⟩)]
theorem tlk_0 {kn : Nat → Nat} {p h s t : Nat} (hb : s.testBit p = false) : tlk kn p h s t = tlk kn (p + 1) h s t := by
  funext z
  unfold tlk
  by_cases hc : h * 7 ≤ z ∧ z < h * 7 + p ∧ s.testBit (z - h * 7) = true
  · rw [if_pos hc, if_pos ⟨hc.1, by omega, hc.2.2⟩]
  · rw [if_neg hc, if_neg (fun g => ?_)]
    by_cases hz : z = h * 7 + p
    · subst hz
      rw [Nat.add_sub_cancel_left, hb] at g
      exact absurd g.2.2 (by decide)
    · exact hc ⟨g.1, by omega, g.2.2⟩
def anb (P : Nat → Bool) : Nat → Bool
  | 0 => false
  | k + 1 => anb P k || P k
def ctn (P : Nat → Bool) : Nat → Nat
  | 0 => 0
  | k + 1 => ctn P k + (if P k = true then 1 else 0)
theorem ctn_le (P : Nat → Bool) : ∀ n, ctn P n ≤ n
  | 0 => Nat.le_refl _
  | n + 1 => by
    have h := ctn_le P n
    simp only [ctn]
    split <;> omega
theorem ctn_1 {P : Nat → Bool} {k : Nat} (h : P k = true) : ctn P (k + 1) = ctn P k + 1 := by simp [ctn, h]
theorem ctn_0 {P : Nat → Bool} {k : Nat} (h : P k = false) : ctn P (k + 1) = ctn P k := by simp [ctn, h]
def orn (f : Nat → Nat) : Nat → Nat
  | 0 => 0
  | k + 1 => orn f k ||| f k
def ann (f : Nat → Nat) : Nat → Nat
  | 0 => 1023
  | k + 1 => ann f k &&& f k
theorem andn_mkn (f : Nat → Bool) (n : Nat) : andn (2 ^ n - 1) (mkn (fun p => !f p) n) = mkn f n := by
  apply Nat.eq_of_testBit_eq
  intro i
  rw [andn, Nat.testBit_xor, Nat.testBit_and, Nat.testBit_two_pow_sub_one, mkn_bit, mkn_bit]
  by_cases h : i < n
  · simp [h]
  · simp [h]
theorem anb_m {P : Nat → Bool} {i : Nat} (hp : P i = true) : ∀ {n : Nat}, i < n → anb P n = true
  | 0, h => absurd h (Nat.not_lt_zero i)
  | n + 1, h => by
    by_cases e : i = n
    · subst e
      simp [anb, hp]
    · simp [anb, anb_m hp (show i < n by omega)]
theorem anb_0 {P : Nat → Bool} {k : Nat} (h : anb P k = false) (hp : P k = false) : anb P (k + 1) = false := by simp [anb, h, hp]

/-! how many bits are set, as the JDK counts them -/
theorem and_sp {k a b c d : Nat} (ha : a < 2 ^ k) (hc : c < 2 ^ k) : (2 ^ k * b + a) &&& (2 ^ k * d + c) = 2 ^ k * (b &&& d) + (a &&& c) := by
  apply Nat.eq_of_testBit_eq
  intro i
  rw [Nat.testBit_and, Nat.testBit_two_pow_mul_add _ ha, Nat.testBit_two_pow_mul_add _ hc, Nat.testBit_two_pow_mul_add _ (Nat.lt_of_le_of_lt Nat.and_le_left ha)]
  split
  · rw [Nat.testBit_and]
  · rw [Nat.testBit_and]
theorem and_s8 {a b c d : Nat} (ha : a < 256) (hc : c < 256) : (a + 256 * b) &&& (c + 256 * d) = (a &&& c) + 256 * (b &&& d) := by
  have h := and_sp (k := 8) (b := b) (d := d) ha hc
  rw [show (2 : Nat) ^ 8 = 256 from rfl] at h
  rw [Nat.add_comm a, Nat.add_comm c, h, Nat.add_comm]
def mk8 (m : Nat) : Nat → Nat
  | 0 => 0
  | k + 1 => m + 256 * mk8 m k
theorem mk8_and (m k a y : Nat) (hm : m < 256) (ha : a < 256) : (a + 256 * y) &&& mk8 m (k + 1) = (a &&& m) + 256 * (y &&& mk8 m k) := and_s8 ha hm
theorem b8_1 : ∀ a, a < 256 → ∀ c, c < 2 → (a / 2 + 128 * c) &&& 85 = a / 2 &&& 85 := by decide +kernel
theorem b8_2 : ∀ a, a < 256 → ∀ c, c < 4 → (a / 4 + 64 * c) &&& 51 = a / 4 &&& 51 := by decide +kernel
def bg1 (a : Nat) : Nat := a - (a / 2 &&& 85)
def bg2 (a : Nat) : Nat := (a &&& 51) + (a / 4 &&& 51)
def bg3 (a : Nat) : Nat := (a + a / 16) % 16
def pc8 (a : Nat) : Nat := a % 2 + (a / 2 % 2 + (a / 2 / 2 % 2 + (a / 2 / 2 / 2 % 2 + (a / 2 / 2 / 2 / 2 % 2 + (a / 2 / 2 / 2 / 2 / 2 % 2 + (a / 2 / 2 / 2 / 2 / 2 / 2 % 2 + (a / 2 / 2 / 2 / 2 / 2 / 2 / 2 % 2 + 0)))))))
theorem pc8_of {a : Nat} (h : a < 256) : pc8 a = pcn a := by
  have e : a / 2 / 2 / 2 / 2 / 2 / 2 / 2 / 2 = 0 := by omega
  unfold pc8
  rw [pcn_s a, pcn_s (a / 2), pcn_s (a / 2 / 2), pcn_s (a / 2 / 2 / 2), pcn_s (a / 2 / 2 / 2 / 2), pcn_s (a / 2 / 2 / 2 / 2 / 2), pcn_s (a / 2 / 2 / 2 / 2 / 2 / 2), pcn_s (a / 2 / 2 / 2 / 2 / 2 / 2 / 2), e, pcn_0]
theorem b8_4 : ∀ a, a < 256 → (a / 2 &&& 85) ≤ a ∧ bg1 a < 256 ∧ bg2 (bg1 a) ≤ 68 ∧ bg2 (bg1 a) % 16 ≤ 4 ∧ bg2 (bg1 a) / 16 ≤ 4 ∧ bg3 (bg2 (bg1 a)) = pc8 a ∧ pc8 a ≤ 8 := by decide +kernel
theorem b8_3 : ∀ a, a < 256 → (a / 2 &&& 85) ≤ a ∧ bg1 a < 256 ∧ bg2 (bg1 a) ≤ 68 ∧ bg2 (bg1 a) % 16 ≤ 4 ∧ bg2 (bg1 a) / 16 ≤ 4 ∧ bg3 (bg2 (bg1 a)) = pcn a ∧ pcn a ≤ 8 := fun a h => by
  rw [← pc8_of h]
  exact b8_4 a h
theorem b8_s1 {k a y : Nat} (ha : a < 256) : (a + 256 * y) - ((a + 256 * y) / 2 &&& mk8 85 (k + 1)) = bg1 a + 256 * (y - (y / 2 &&& mk8 85 k)) := by
  have e : (a + 256 * y) / 2 = (a / 2 + 128 * (y % 2)) + 256 * (y / 2) := by omega
  rw [e, mk8_and 85 k _ _ (by decide) (by omega), b8_1 a ha _ (by omega)]
  have h1 := (b8_3 a ha).1
  have h2 : (y / 2 &&& mk8 85 k) ≤ y / 2 := Nat.and_le_left
  unfold bg1
  omega
theorem b8_s2 {k a y : Nat} (ha : a < 256) : ((a + 256 * y) &&& mk8 51 (k + 1)) + ((a + 256 * y) / 4 &&& mk8 51 (k + 1)) = bg2 a + 256 * ((y &&& mk8 51 k) + (y / 4 &&& mk8 51 k)) := by
  have e : (a + 256 * y) / 4 = (a / 4 + 64 * (y % 4)) + 256 * (y / 4) := by omega
  rw [e, mk8_and 51 k a y (by decide) ha, mk8_and 51 k (a / 4 + 64 * (y % 4)) (y / 4) (by decide) (by omega), b8_2 a ha _ (by omega)]
  unfold bg2
  omega
theorem b8_s3 {k a y : Nat} (ha : a ≤ 68) (hy : y % 16 ≤ 4) : ((a + 256 * y) + (a + 256 * y) / 16) &&& mk8 15 (k + 1) = bg3 a + 256 * ((y + y / 16) &&& mk8 15 k) := by
  have e : (a + 256 * y) + (a + 256 * y) / 16 = (a + a / 16 + 16 * (y % 16)) + 256 * (y + y / 16) := by omega
  rw [e, mk8_and 15 k _ _ (by decide) (by omega)]
  have e2 : (a + a / 16 + 16 * (y % 16)) &&& 15 = bg3 a := by
    have h := Nat.and_two_pow_sub_one_eq_mod (a + a / 16 + 16 * (y % 16)) 4
    rw [show (2 : Nat) ^ 4 - 1 = 15 from rfl] at h
    rw [h]
    unfold bg3
    omega
  rw [e2]
theorem pcn_8 : ∀ (k a y : Nat), a < 2 ^ k → pcn (a + 2 ^ k * y) = pcn a + pcn y
  | 0, a, y, h => by
    have e : a = 0 := by omega
    subst e
    rw [pcn_0]
    simp
  | k + 1, a, y, h => by
    have e : 2 ^ (k + 1) = 2 * 2 ^ k := by rw [Nat.pow_succ, Nat.mul_comm]
    have h3 : a / 2 < 2 ^ k := by omega
    have ih := pcn_8 k (a / 2) y h3
    have e4 : 2 ^ (k + 1) * y = 2 * (2 ^ k * y) := by rw [e, Nat.mul_assoc]
    rw [pcn_s (a + _), pcn_s a, e4]
    have e5 : (a + 2 * (2 ^ k * y)) % 2 = a % 2 := by omega
    have e6 : (a + 2 * (2 ^ k * y)) / 2 = a / 2 + 2 ^ k * y := by omega
    rw [e5, e6, ih]
    omega
theorem sw_fin {a b c d x3 x4 x5 : Nat} (ha : a ≤ 8) (hb : b ≤ 8) (hc : c ≤ 8) (hd : d ≤ 8) (e3 : x3 = a + 256 * (b + 256 * (c + 256 * d))) (h4 : x4 = x3 + x3 / 256) (h5 : x5 = x4 + x4 / 65536) : x5 % 64 = a + (b + (c + d)) := by
  have q1 : x3 / 256 = b + 256 * (c + 256 * d) := by omega
  have e4 : x4 = (a + b) + 256 * ((b + c) + 256 * ((c + d) + 256 * d)) := by omega
  have q2 : x4 / 65536 = (c + d) + 256 * d := by omega
  have e5 : x5 = (a + (b + (c + d))) + 64 * (4 * ((b + c + d) + 256 * ((c + d) + 256 * d))) := by omega
  omega
theorem swar {x x1 x2 x3 x4 x5 : Nat} (hx : x < 2 ^ 32) (h1 : x1 = x - (x / 2 ^ 1 &&& 1431655765)) (h2 : x2 = (x1 &&& 858993459) + (x1 / 2 ^ 2 &&& 858993459)) (h3 : x3 = (x2 + x2 / 2 ^ 4) &&& 252645135) (h4 : x4 = x3 + x3 / 2 ^ 8) (h5 : x5 = x4 + x4 / 2 ^ 16) : x5 &&& 63 = pcn x := by
  obtain ⟨a, b, c, d, ha, hb, hc, hd, e⟩ : ∃ a b c d, a < 256 ∧ b < 256 ∧ c < 256 ∧ d < 256 ∧ x = a + 256 * (b + 256 * (c + 256 * (d + 256 * 0))) := ⟨x % 256, x / 256 % 256, x / 65536 % 256, x / 16777216, by omega, by omega, by omega, by omega, by omega⟩
  have A := b8_3 a ha
  have B := b8_3 b hb
  have C := b8_3 c hc
  have D := b8_3 d hd
  rw [show (2 : Nat) ^ 1 = 2 from rfl, show (1431655765 : Nat) = mk8 85 4 from rfl, e, b8_s1 ha, b8_s1 hb, b8_s1 hc, b8_s1 hd] at h1
  rw [show (2 : Nat) ^ 2 = 4 from rfl, show (858993459 : Nat) = mk8 51 4 from rfl, h1, b8_s2 A.2.1, b8_s2 B.2.1, b8_s2 C.2.1, b8_s2 D.2.1] at h2
  rw [show (2 : Nat) ^ 4 = 16 from rfl, show (252645135 : Nat) = mk8 15 4 from rfl, h2, b8_s3 A.2.2.1 (by omega), b8_s3 B.2.2.1 (by omega), b8_s3 C.2.2.1 (by omega), b8_s3 D.2.2.1 (by simp [mk8]), A.2.2.2.2.2.1, B.2.2.2.2.2.1, C.2.2.2.2.2.1, D.2.2.2.2.2.1] at h3
  have e3 : x3 = pcn a + 256 * (pcn b + 256 * (pcn c + 256 * pcn d)) := by
    rw [h3]
    simp [mk8]
  have e7 : pcn x = pcn a + (pcn b + (pcn c + pcn d)) := by
    rw [e]
    have p1 := pcn_8 8 a (b + 256 * (c + 256 * (d + 256 * 0))) ha
    have p2 := pcn_8 8 b (c + 256 * (d + 256 * 0)) hb
    have p3 := pcn_8 8 c (d + 256 * 0) hc
    rw [show (2 : Nat) ^ 8 = 256 from rfl] at p1 p2 p3
    rw [p1, p2, p3, Nat.mul_zero, Nat.add_zero]
  have hm := Nat.and_two_pow_sub_one_eq_mod x5 6
  rw [show (2 : Nat) ^ 6 - 1 = 63 from rfl] at hm
  rw [hm, e7]
  rw [show (2 : Nat) ^ 8 = 256 from rfl] at h4
  rw [show (2 : Nat) ^ 16 = 65536 from rfl] at h5
  exact sw_fin A.2.2.2.2.2.2 B.2.2.2.2.2.2 C.2.2.2.2.2.2 D.2.2.2.2.2.2 e3 h4 h5

set_option maxRecDepth 100000 in
set_option maxHeartbeats 4000000 in
theorem c_J6_bitCount_0f7a4 (l : Launch) (D : va_G) (cI : ClassId) (x : Nat) (hx : x < 2 ^ 31) : CT l yJ6_bitCount_0f7a4 cJ6_bitCount_0f7a4 1 (some .int) { frames := 0, cells := 0, slots := 0, locals := 0 } D cI [.int (nI x)] [] (fun zr zw => (zr = some (.int (nI (pcn x))) ∧ zw = [])) := by
  refine CT_of RJ6 rfl (by decide +kernel) (Nat.le_of_ble_eq_true rfl) (fun E hnE zC zT => ?_)
  have hA : ∀ q, (ev_s E).heap.size ≤ q → ev_A E q := fun q h => by rw [zT.2]; exact Or.inr h
  show VV E 0 0 0 [(0, .int (nI x))] [] []
  refine v_il_n 1 zC dJ6_bitCount_0f7a4_0 0 rfl ?_
  refine v_il_n 2 zC dJ6_bitCount_0f7a4_1 0 rfl ?_
  refine v_ic (v := (nI 1)) 3 zC dJ6_bitCount_0f7a4_2 (by decide +kernel) ?_
  refine v_iushr (v := (nI (x / 2 ^ 1))) 4 zC dJ6_bitCount_0f7a4_3 (pk_ushrN (by omega) (nI 1) 1 (by decide +kernel)) ?_
  refine v_ldcw (v := (nI 1431655765)) 7 zC dJ6_bitCount_0f7a4_4 kc_J6_265 ?_
  refine v_iand (v := (nI ((x / 2 ^ 1) &&& 1431655765))) 8 zC dJ6_bitCount_0f7a4_7 (fa_and _ _) ?_
  refine v_isub (v := (nI (x - (x / 2 ^ 1 &&& 1431655765)))) 9 zC dJ6_bitCount_0f7a4_8 (pk_sub (Nat.le_trans Nat.and_le_left (Nat.div_le_self _ _))) ?_
  obtain ⟨x1, h1⟩ : ∃ z, z = (x - (x / 2 ^ 1 &&& 1431655765)) := ⟨_, rfl⟩
  rw [← h1]
  have b1 : x1 < 2 ^ 31 := by omega
  refine v_is_n (lv2 := [(0, .int (nI x1))]) 10 zC dJ6_bitCount_0f7a4_9 (by rw [hnE]; decide) rfl ?_
  refine v_il_n 11 zC dJ6_bitCount_0f7a4_10 0 rfl ?_
  refine v_ldcw (v := (nI 858993459)) 14 zC dJ6_bitCount_0f7a4_11 kc_J6_266 ?_
  refine v_iand (v := (nI (x1 &&& 858993459))) 15 zC dJ6_bitCount_0f7a4_14 (fa_and _ _) ?_
  refine v_il_n 16 zC dJ6_bitCount_0f7a4_15 0 rfl ?_
  refine v_ic (v := (nI 2)) 17 zC dJ6_bitCount_0f7a4_16 (by decide +kernel) ?_
  refine v_iushr (v := (nI (x1 / 2 ^ 2))) 18 zC dJ6_bitCount_0f7a4_17 (pk_ushrN (by omega) (nI 2) 2 (by decide +kernel)) ?_
  refine v_ldcw (v := (nI 858993459)) 21 zC dJ6_bitCount_0f7a4_18 kc_J6_266 ?_
  refine v_iand (v := (nI ((x1 / 2 ^ 2) &&& 858993459))) 22 zC dJ6_bitCount_0f7a4_21 (fa_and _ _) ?_
  refine v_iadd (v := (nI ((x1 &&& 858993459) + ((x1 / 2 ^ 2) &&& 858993459)))) 23 zC dJ6_bitCount_0f7a4_22 (nI_add _ _) ?_
  obtain ⟨x2, h2⟩ : ∃ z, z = ((x1 &&& 858993459) + ((x1 / 2 ^ 2) &&& 858993459)) := ⟨_, rfl⟩
  rw [← h2]
  have b2 : x2 < 2 ^ 31 := by have e1 : x1 &&& 858993459 ≤ 858993459 := Nat.and_le_right; have e2 : x1 / 2 ^ 2 &&& 858993459 ≤ 858993459 := Nat.and_le_right; omega
  refine v_is_n (lv2 := [(0, .int (nI x2))]) 24 zC dJ6_bitCount_0f7a4_23 (by rw [hnE]; decide) rfl ?_
  refine v_il_n 25 zC dJ6_bitCount_0f7a4_24 0 rfl ?_
  refine v_il_n 26 zC dJ6_bitCount_0f7a4_25 0 rfl ?_
  refine v_ic (v := (nI 4)) 27 zC dJ6_bitCount_0f7a4_26 (by decide +kernel) ?_
  refine v_iushr (v := (nI (x2 / 2 ^ 4))) 28 zC dJ6_bitCount_0f7a4_27 (pk_ushrN (by omega) (nI 4) 4 (by decide +kernel)) ?_
  refine v_iadd (v := (nI (x2 + (x2 / 2 ^ 4)))) 29 zC dJ6_bitCount_0f7a4_28 (nI_add _ _) ?_
  refine v_ldcw (v := (nI 252645135)) 32 zC dJ6_bitCount_0f7a4_29 kc_J6_267 ?_
  refine v_iand (v := (nI ((x2 + (x2 / 2 ^ 4)) &&& 252645135))) 33 zC dJ6_bitCount_0f7a4_32 (fa_and _ _) ?_
  obtain ⟨x3, h3⟩ : ∃ z, z = ((x2 + (x2 / 2 ^ 4)) &&& 252645135) := ⟨_, rfl⟩
  rw [← h3]
  have b3 : x3 < 2 ^ 29 := by have e1 : (x2 + x2 / 2 ^ 4) &&& 252645135 ≤ 252645135 := Nat.and_le_right; omega
  refine v_is_n (lv2 := [(0, .int (nI x3))]) 34 zC dJ6_bitCount_0f7a4_33 (by rw [hnE]; decide) rfl ?_
  refine v_il_n 35 zC dJ6_bitCount_0f7a4_34 0 rfl ?_
  refine v_il_n 36 zC dJ6_bitCount_0f7a4_35 0 rfl ?_
  refine v_bp (v := (nI 8)) 38 zC dJ6_bitCount_0f7a4_36 (by decide +kernel) ?_
  refine v_iushr (v := (nI (x3 / 2 ^ 8))) 39 zC dJ6_bitCount_0f7a4_38 (pk_ushrN (by omega) (nI 8) 8 (by decide +kernel)) ?_
  refine v_iadd (v := (nI (x3 + (x3 / 2 ^ 8)))) 40 zC dJ6_bitCount_0f7a4_39 (nI_add _ _) ?_
  obtain ⟨x4, h4⟩ : ∃ z, z = (x3 + (x3 / 2 ^ 8)) := ⟨_, rfl⟩
  rw [← h4]
  have b4 : x4 < 2 ^ 30 := by omega
  refine v_is_n (lv2 := [(0, .int (nI x4))]) 41 zC dJ6_bitCount_0f7a4_40 (by rw [hnE]; decide) rfl ?_
  refine v_il_n 42 zC dJ6_bitCount_0f7a4_41 0 rfl ?_
  refine v_il_n 43 zC dJ6_bitCount_0f7a4_42 0 rfl ?_
  refine v_bp (v := (nI 16)) 45 zC dJ6_bitCount_0f7a4_43 (by decide +kernel) ?_
  refine v_iushr (v := (nI (x4 / 2 ^ 16))) 46 zC dJ6_bitCount_0f7a4_45 (pk_ushrN (by omega) (nI 16) 16 (by decide +kernel)) ?_
  refine v_iadd (v := (nI (x4 + (x4 / 2 ^ 16)))) 47 zC dJ6_bitCount_0f7a4_46 (nI_add _ _) ?_
  obtain ⟨x5, h5⟩ : ∃ z, z = (x4 + (x4 / 2 ^ 16)) := ⟨_, rfl⟩
  rw [← h5]
  have b5 : x5 < 2 ^ 31 := by omega
  refine v_is_n (lv2 := [(0, .int (nI x5))]) 48 zC dJ6_bitCount_0f7a4_47 (by rw [hnE]; decide) rfl ?_
  refine v_il_n 49 zC dJ6_bitCount_0f7a4_48 0 rfl ?_
  refine v_bp (v := (nI 63)) 51 zC dJ6_bitCount_0f7a4_49 (by decide +kernel) ?_
  refine v_iand (v := (nI (x5 &&& 63))) 52 zC dJ6_bitCount_0f7a4_51 (fa_and _ _) ?_
  refine v_iret zC zT dJ6_bitCount_0f7a4_52  ?_
  exact ⟨sn (swar (by omega) h1 h2 h3 h4 h5), rfl⟩
set_option maxRecDepth 100000 in
set_option maxHeartbeats 4000000 in
theorem c_X1_knownBehind (l : Launch) (D : va_G) (cI : ClassId) (b0 b1 b2 b3 : Nat) (P Q : Nat) (kn : Nat → Nat) (h p : Nat) (hP : P ≤ 7) (hh : h ≤ 24) (hp : p < P) : CT l yX1_knownBehind cX1_knownBehind 3 (some .int) { frames := 0, cells := 0, slots := 0, locals := 0 } D cI [.ref b0, .int (nI h), .int (nI p)] [(b0, .inr (1, [.int (nI P), .int (nI Q), .ref b1, .ref b2, .ref b3])), (b3, .inl (cI, 175, .inl (nIf kn)))] (fun zr zw => (zr = some (.int (nI (kn (h * 7 + p)))) ∧ zw = [(b0, .inr (1, [.int (nI P), .int (nI Q), .ref b1, .ref b2, .ref b3])), (b3, .inl (cI, 175, .inl (nIf kn)))])) := by
  refine CT_of RX1 rfl (by decide +kernel) (Nat.le_of_ble_eq_true rfl) (fun E hnE zC zT => ?_)
  have hA : ∀ q, (ev_s E).heap.size ≤ q → ev_A E q := fun q h => by rw [zT.2]; exact Or.inr h
  show VV E 0 0 0 [(0, .ref b0), (1, .int (nI h)), (2, .int (nI p))] [] [(b0, .inr (1, [.int (nI P), .int (nI Q), .ref b1, .ref b2, .ref b3])), (b3, .inl (cI, 175, .inl (nIf kn)))]
  refine v_il_n 1 zC dX1_knownBehind_0 1 rfl ?_
  refine v_ifn_lt 22 4 zC dX1_knownBehind_1 (fun z => absurd z (Nat.not_lt_zero _)) (fun _ => ?_)
  refine v_il_n 5 zC dX1_knownBehind_4 1 rfl ?_
  refine v_bp (v := (nI 24)) 7 zC dX1_knownBehind_5 (by decide +kernel) ?_
  refine v_icmpn_gt 22 10 zC dX1_knownBehind_7 (fun h_2 => False.elim (by omega)) (fun h_2 => ?_)
  refine v_il_n 11 zC dX1_knownBehind_10 2 rfl ?_
  refine v_ifn_lt 22 14 zC dX1_knownBehind_11 (fun z => absurd z (Nat.not_lt_zero _)) (fun _ => ?_)
  refine v_il_n 15 zC dX1_knownBehind_14 2 rfl ?_
  refine v_al_n 16 zC dX1_knownBehind_15 0 rfl ?_
  refine v_gf 19 0 zC dX1_knownBehind_16 gf_X1_27 rfl rfl ?_
  refine v_icmpn_lt 24 22 zC dX1_knownBehind_19 (fun h_4 => ?_) (fun h_4 => False.elim (by omega))
  refine v_al_n 25 zC dX1_knownBehind_24 0 rfl ?_
  refine v_gf 28 0 zC dX1_knownBehind_25 gf_X1_18 rfl rfl ?_
  refine v_il_n 29 zC dX1_knownBehind_28 1 rfl ?_
  refine v_bp (v := (nI 7)) 31 zC dX1_knownBehind_29 (by decide +kernel) ?_
  refine v_imul (v := (nI (h * 7))) 32 zC dX1_knownBehind_31 (pk_mul _ _) ?_
  refine v_il_n 33 zC dX1_knownBehind_32 2 rfl ?_
  refine v_iadd (v := (nI ((h * 7) + p))) 34 zC dX1_knownBehind_33 (nI_add _ _) ?_
  refine v_ialn (v := (nI (kn ((h * 7) + p)))) 35 1 zC dX1_knownBehind_34 rfl (by omega) rfl ?_
  refine v_iret zC zT dX1_knownBehind_35  ?_
  first | exact ⟨rfl, rfl⟩ | exact ⟨sb1 (by assumption), rfl⟩ | exact ⟨sb0 (by assumption), rfl⟩ | (exfalso; omega) | exact ⟨sb1 (by simp [*]), rfl⟩ | exact ⟨sb0 (by simp [*]), rfl⟩
set_option maxRecDepth 100000 in
set_option maxHeartbeats 4000000 in
theorem c_X1_lackers (l : Launch) (D : va_G) (cI : ClassId) (b0 b1 b2 b3 : Nat) (P Q : Nat) (kn : Nat → Nat) (h t : Nat) (hP : P ≤ 7) (hh : h ≤ 24) (ht : t < 10) : CT l yX1_lackers cX1_lackers 5 (some .int) { frames := 1, cells := 0, slots := 0, locals := 22 } D cI [.ref b0, .int (nI h), .int (nI t)] [(b0, .inr (1, [.int (nI P), .int (nI Q), .ref b1, .ref b2, .ref b3])), (b3, .inl (cI, 175, .inl (nIf kn)))] (fun zr zw => (zr = some (.int (nI (mkn (fun p => !Nat.testBit (kn (h * 7 + p)) t) P))) ∧ zw = [(b0, .inr (1, [.int (nI P), .int (nI Q), .ref b1, .ref b2, .ref b3])), (b3, .inl (cI, 175, .inl (nIf kn)))])) := by
  refine CT_of RX1 rfl (by decide +kernel) (Nat.le_of_ble_eq_true rfl) (fun E hnE zC zT => ?_)
  have hA : ∀ q, (ev_s E).heap.size ≤ q → ev_A E q := fun q h => by rw [zT.2]; exact Or.inr h
  show VV E 0 0 0 [(0, .ref b0), (1, .int (nI h)), (2, .int (nI t))] [] [(b0, .inr (1, [.int (nI P), .int (nI Q), .ref b1, .ref b2, .ref b3])), (b3, .inl (cI, 175, .inl (nIf kn)))]
  refine v_ic (v := (nI 0)) 1 zC dX1_lackers_0 (by decide +kernel) ?_
  refine v_is_n (lv2 := [(3, .int (nI 0)), (0, .ref b0), (1, .int (nI h)), (2, .int (nI t))]) 2 zC dX1_lackers_1 (by rw [hnE]; decide) rfl ?_
  refine v_ic (v := (nI 0)) 3 zC dX1_lackers_2 (by decide +kernel) ?_
  refine v_is (lv2 := [(4, .int (nI 0)), (3, .int (nI 0)), (0, .ref b0), (1, .int (nI h)), (2, .int (nI t))]) 5 zC dX1_lackers_3 (by rw [hnE]; decide) rfl ?_
  have lp5 : ∀ (mz : Nat) (x : Nat) (p : Nat), (x = mkn (fun p => !Nat.testBit (kn (h * 7 + p)) t) p) → (p ≤ P) → P - p = mz → VV E 0 0 5 [(4, .int (nI p)), (3, .int (nI x)), (0, .ref b0), (1, .int (nI h)), (2, .int (nI t))] [] [(b0, .inr (1, [.int (nI P), .int (nI Q), .ref b1, .ref b2, .ref b3])), (b3, .inl (cI, 175, .inl (nIf kn)))] := by
    intro mz
    induction mz using Nat.strongRecOn with
    | _ mz ih5 =>
    intro x p hx hp hm5
    refine v_il 7 zC dX1_lackers_5 0 rfl ?_
    refine v_al_n 8 zC dX1_lackers_7 2 rfl ?_
    refine v_gf 11 0 zC dX1_lackers_8 gf_X1_27 rfl rfl ?_
    refine v_icmpn_ge 41 14 zC dX1_lackers_11 (fun h_1 => ?_) (fun h_1 => ?_)
    ·
      refine v_il_n 42 zC dX1_lackers_41 1 rfl ?_
      refine v_iret zC zT dX1_lackers_42  ?_
      exact ⟨sn (by rw [hx, show p = P by omega]), rfl⟩
    ·
      refine v_al_n 15 zC dX1_lackers_14 2 rfl ?_
      refine v_il_n 16 zC dX1_lackers_15 3 rfl ?_
      refine v_il 18 zC dX1_lackers_16 0 rfl ?_
      refine v_cV (As := [.int (nI h), .int (nI p)]) (st := []) 21 0 [0, 1] zC dX1_lackers_18 hA (c_X1_knownBehind (ev_l E) (ev_D E) cI (b0 := b0) (b1 := b1) (b2 := b2) (b3 := b3) (P := P) (Q := Q) (kn := kn) (h := h) (p := p) (hP := (by first | omega | assumption | rfl | (simp only []; omega) | decide)) (hh := (by first | omega | assumption | rfl | (simp only []; omega) | decide)) (hp := (by first | omega | assumption | rfl | (simp only []; omega) | decide))) cf_X1_knownBehind lk_X1_78 rfl rfl rfl rfl rfl (by decide +kernel) (Nat.le_of_ble_eq_true rfl) (fun rv_2 wv_3 hp_4 hm_5 => ?_)
      clear hm_5
      obtain ⟨rfl, rfl⟩ := hp_4
      show VV E 0 0 21 [(4, .int (nI p)), (3, .int (nI x)), (0, .ref b0), (1, .int (nI h)), (2, .int (nI t))] [.int (nI (kn (h * 7 + p)))] [(b0, .inr (1, [.int (nI P), .int (nI Q), .ref b1, .ref b2, .ref b3])), (b3, .inl (cI, 175, .inl (nIf kn)))]
      refine v_il_n 22 zC dX1_lackers_21 4 rfl ?_
      refine v_ishr (v := ((nI (kn (h * 7 + p))) >>> (nI t))) 23 zC dX1_lackers_22 (sr_of (by omega)) ?_
      refine v_ic (v := (nI 1)) 24 zC dX1_lackers_23 (by decide +kernel) ?_
      refine v_iand (v := (bz (Nat.testBit (kn (h * 7 + p)) t))) 25 zC dX1_lackers_24 (tb_of _ (by omega)) ?_
      refine v_ifb_ne 35 28 zC dX1_lackers_25 (fun h_6 => ?_) (fun h_6 => ?_)
      ·
        refine v_inc (v := (nI (p + 1))) (lv2 := [(4, .int (nI (p + 1))), (3, .int (nI x)), (0, .ref b0), (1, .int (nI h)), (2, .int (nI t))]) 38 zC dX1_lackers_35 (j := 0) rfl (nI_add _ 1) (by rw [hnE]; decide) rfl ?_
        refine v_goto 5 zC dX1_lackers_38 ?_
        refine v_lvs (lv2 := [(4, .int (nI (p + 1))), (3, .int (nI x)), (0, .ref b0), (1, .int (nI h)), (2, .int (nI t))]) [0, 1, 2, 3, 4] rfl ?_
        exact ih5 _ (by omega) x (p + 1) (by first | exact (by rw [hx]; exact (mkn_1 (by first | assumption | simp [*])).symm) | exact (by rw [hx]; exact (mkn_0 (by first | assumption | simp [*])).symm)) (by first | omega | assumption | rfl | (simp only []; omega) | decide) rfl
      ·
        refine v_il_n 29 zC dX1_lackers_28 1 rfl ?_
        refine v_ic (v := (nI 1)) 30 zC dX1_lackers_29 (by decide +kernel) ?_
        refine v_il 32 zC dX1_lackers_30 0 rfl ?_
        refine v_ishl (v := (nI (2 ^ p))) 33 zC dX1_lackers_32 (b1n (by omega)) ?_
        refine v_ior (v := (nI (x ||| (2 ^ p)))) 34 zC dX1_lackers_33 (fa_or _ _) ?_
        refine v_is_n (lv2 := [(3, .int (nI (x ||| (2 ^ p)))), (4, .int (nI p)), (0, .ref b0), (1, .int (nI h)), (2, .int (nI t))]) 35 zC dX1_lackers_34 (by rw [hnE]; decide) rfl ?_
        refine v_inc (v := (nI (p + 1))) (lv2 := [(4, .int (nI (p + 1))), (3, .int (nI (x ||| (2 ^ p)))), (0, .ref b0), (1, .int (nI h)), (2, .int (nI t))]) 38 zC dX1_lackers_35 (j := 1) rfl (nI_add _ 1) (by rw [hnE]; decide) rfl ?_
        refine v_goto 5 zC dX1_lackers_38 ?_
        refine v_lvs (lv2 := [(4, .int (nI (p + 1))), (3, .int (nI (x ||| (2 ^ p)))), (0, .ref b0), (1, .int (nI h)), (2, .int (nI t))]) [0, 1, 2, 3, 4] rfl ?_
        exact ih5 _ (by omega) (x ||| (2 ^ p)) (p + 1) (by first | exact (by rw [hx]; exact (mkn_1 (by first | assumption | simp [*])).symm) | exact (by rw [hx]; exact (mkn_0 (by first | assumption | simp [*])).symm)) (by first | omega | assumption | rfl | (simp only []; omega) | decide) rfl
  refine v_lvs (lv2 := [(4, .int (nI 0)), (3, .int (nI 0)), (0, .ref b0), (1, .int (nI h)), (2, .int (nI t))]) [0, 1, 2, 3, 4] rfl ?_
  exact lp5 _ 0 0 (by first | omega | assumption | rfl | (simp only []; omega) | decide) (by first | omega | assumption | rfl | (simp only []; omega) | decide) rfl
set_option maxRecDepth 100000 in
set_option maxHeartbeats 4000000 in
theorem c_X1_tell (l : Launch) (D : va_G) (cI : ClassId) (b0 b1 b2 b3 : Nat) (P Q : Nat) (kn : Nat → Nat) (h s t : Nat) (hP : P ≤ 7) (hh : h ≤ 24) (hs : s < 128) (ht : t < 10) : CT l yX1_tell cX1_tell 5 none { frames := 0, cells := 0, slots := 0, locals := 0 } D cI [.ref b0, .int (nI h), .int (nI s), .int (nI t)] [(b0, .inr (1, [.int (nI P), .int (nI Q), .ref b1, .ref b2, .ref b3])), (b3, .inl (cI, 175, .inl (nIf kn)))] (fun zr zw => (zr = none ∧ zw = [(b0, .inr (1, [.int (nI P), .int (nI Q), .ref b1, .ref b2, .ref b3])), (b3, .inl (cI, 175, .inl (nIf (tlk kn P h s t))))])) := by
  refine CT_of RX1 rfl (by decide +kernel) (Nat.le_of_ble_eq_true rfl) (fun E hnE zC zT => ?_)
  have hA : ∀ q, (ev_s E).heap.size ≤ q → ev_A E q := fun q h => by rw [zT.2]; exact Or.inr h
  show VV E 0 0 0 [(0, .ref b0), (1, .int (nI h)), (2, .int (nI s)), (3, .int (nI t))] [] [(b0, .inr (1, [.int (nI P), .int (nI Q), .ref b1, .ref b2, .ref b3])), (b3, .inl (cI, 175, .inl (nIf kn)))]
  refine v_ic (v := (nI 0)) 1 zC dX1_tell_0 (by decide +kernel) ?_
  refine v_is (lv2 := [(4, .int (nI 0)), (0, .ref b0), (1, .int (nI h)), (2, .int (nI s)), (3, .int (nI t))]) 3 zC dX1_tell_1 (by rw [hnE]; decide) rfl ?_
  have lp3 : ∀ (mz : Nat) (X : Nat → Nat) (p : Nat), (X = tlk kn p h s t) → (p ≤ P) → P - p = mz → VV E 0 0 3 [(4, .int (nI p)), (0, .ref b0), (1, .int (nI h)), (2, .int (nI s)), (3, .int (nI t))] [] [(b0, .inr (1, [.int (nI P), .int (nI Q), .ref b1, .ref b2, .ref b3])), (b3, .inl (cI, 175, .inl (nIf X)))] := by
    intro mz
    induction mz using Nat.strongRecOn with
    | _ mz ih3 =>
    intro X p hX hp hm3
    refine v_il 5 zC dX1_tell_3 0 rfl ?_
    refine v_al_n 6 zC dX1_tell_5 1 rfl ?_
    refine v_gf 9 0 zC dX1_tell_6 gf_X1_27 rfl rfl ?_
    refine v_icmpn_ge 45 12 zC dX1_tell_9 (fun h_1 => ?_) (fun h_1 => ?_)
    ·
      refine v_vret zC zT dX1_tell_45  ?_
      exact ⟨rfl, by rw [hX, show p = P by omega]⟩
    ·
      refine v_il_n 13 zC dX1_tell_12 3 rfl ?_
      refine v_il 15 zC dX1_tell_13 0 rfl ?_
      refine v_ishr (v := ((nI s) >>> (nI p))) 16 zC dX1_tell_15 (sr_of (by omega)) ?_
      refine v_ic (v := (nI 1)) 17 zC dX1_tell_16 (by decide +kernel) ?_
      refine v_iand (v := (bz (Nat.testBit s p))) 18 zC dX1_tell_17 (tb_of _ (by omega)) ?_
      refine v_ifb_eq 39 21 zC dX1_tell_18 (fun h_2 => ?_) (fun h_2 => ?_)
      ·
        refine v_inc (v := (nI (p + 1))) (lv2 := [(4, .int (nI (p + 1))), (0, .ref b0), (1, .int (nI h)), (2, .int (nI s)), (3, .int (nI t))]) 42 zC dX1_tell_39 (j := 0) rfl (nI_add _ 1) (by rw [hnE]; decide) rfl ?_
        refine v_goto 3 zC dX1_tell_42 ?_
        refine v_lvs (lv2 := [(4, .int (nI (p + 1))), (0, .ref b0), (1, .int (nI h)), (2, .int (nI s)), (3, .int (nI t))]) [0, 1, 2, 3, 4] rfl ?_
        exact ih3 _ (by omega) X (p + 1) (by subst hX; first | exact tlk_1 (by assumption) | exact tlk_0 (by assumption)) (by first | omega | assumption | rfl | (simp only []; omega) | decide) rfl
      ·
        refine v_al_n 22 zC dX1_tell_21 1 rfl ?_
        refine v_gf 25 0 zC dX1_tell_22 gf_X1_18 rfl rfl ?_
        refine v_il_n 26 zC dX1_tell_25 2 rfl ?_
        refine v_bp (v := (nI 7)) 28 zC dX1_tell_26 (by decide +kernel) ?_
        refine v_imul (v := (nI (h * 7))) 29 zC dX1_tell_28 (pk_mul _ _) ?_
        refine v_il 31 zC dX1_tell_29 0 rfl ?_
        refine v_iadd (v := (nI ((h * 7) + p))) 32 zC dX1_tell_31 (nI_add _ _) ?_
        refine v_dup2 33 zC dX1_tell_32 rfl rfl ?_
        refine v_ialn (v := (nI (X ((h * 7) + p)))) 34 1 zC dX1_tell_33 rfl (by omega) rfl ?_
        refine v_ic (v := (nI 1)) 35 zC dX1_tell_34 (by decide +kernel) ?_
        refine v_il_n 36 zC dX1_tell_35 4 rfl ?_
        refine v_ishl (v := (nI (2 ^ t))) 37 zC dX1_tell_36 (b1n (by omega)) ?_
        refine v_ior (v := (nI ((X ((h * 7) + p)) ||| (2 ^ t)))) 38 zC dX1_tell_37 (fa_or _ _) ?_
        refine v_iasn (ws2 := [(b0, .inr (1, [.int (nI P), .int (nI Q), .ref b1, .ref b2, .ref b3])), (b3, .inl (cI, 175, .inl (nIf (un X ((h * 7) + p) ((X ((h * 7) + p)) ||| (2 ^ t))))))]) 39 1 zC dX1_tell_38 rfl (by omega) (by rw [upd_nIf]; first | done | rfl) ?_
        refine v_inc (v := (nI (p + 1))) (lv2 := [(4, .int (nI (p + 1))), (0, .ref b0), (1, .int (nI h)), (2, .int (nI s)), (3, .int (nI t))]) 42 zC dX1_tell_39 (j := 0) rfl (nI_add _ 1) (by rw [hnE]; decide) rfl ?_
        refine v_goto 3 zC dX1_tell_42 ?_
        refine v_lvs (lv2 := [(4, .int (nI (p + 1))), (0, .ref b0), (1, .int (nI h)), (2, .int (nI s)), (3, .int (nI t))]) [0, 1, 2, 3, 4] rfl ?_
        exact ih3 _ (by omega) (un X ((h * 7) + p) ((X ((h * 7) + p)) ||| (2 ^ t))) (p + 1) (by subst hX; first | exact tlk_1 (by assumption) | exact tlk_0 (by assumption)) (by first | omega | assumption | rfl | (simp only []; omega) | decide) rfl
  refine v_lvs (lv2 := [(4, .int (nI 0)), (0, .ref b0), (1, .int (nI h)), (2, .int (nI s)), (3, .int (nI t))]) [0, 1, 2, 3, 4] rfl ?_
  exact lp3 _ kn 0 (tlk_z _ _ _ _).symm (by first | omega | assumption | rfl | (simp only []; omega) | decide) rfl
set_option maxRecDepth 100000 in
set_option maxHeartbeats 4000000 in
theorem c_X1_mouth (l : Launch) (D : va_G) (cI : ClassId) (b0 b1 b2 b3 : Nat) (P Q : Nat) (M : Nat → Option Nat) (d h : Nat) (hQ : Q ≤ 6) (hd : d < Q) (hh : h < 24) : CT l yX1_mouth cX1_mouth 3 (some .int) { frames := 0, cells := 0, slots := 0, locals := 0 } D cI [.ref b0, .int (nI d), .int (nI h)] [(b0, .inr (1, [.int (nI P), .int (nI Q), .ref b1, .ref b2, .ref b3])), (b2, .inl (cI, 144, .inl (mIf M)))] (fun zr zw => (zr = some (.int (mI (M (h * 6 + d)))) ∧ zw = [(b0, .inr (1, [.int (nI P), .int (nI Q), .ref b1, .ref b2, .ref b3])), (b2, .inl (cI, 144, .inl (mIf M)))])) := by
  refine CT_of RX1 rfl (by decide +kernel) (Nat.le_of_ble_eq_true rfl) (fun E hnE zC zT => ?_)
  have hA : ∀ q, (ev_s E).heap.size ≤ q → ev_A E q := fun q h => by rw [zT.2]; exact Or.inr h
  show VV E 0 0 0 [(0, .ref b0), (1, .int (nI d)), (2, .int (nI h))] [] [(b0, .inr (1, [.int (nI P), .int (nI Q), .ref b1, .ref b2, .ref b3])), (b2, .inl (cI, 144, .inl (mIf M)))]
  refine v_il_n 1 zC dX1_mouth_0 1 rfl ?_
  refine v_ifn_lt 22 4 zC dX1_mouth_1 (fun z => absurd z (Nat.not_lt_zero _)) (fun _ => ?_)
  refine v_il_n 5 zC dX1_mouth_4 1 rfl ?_
  refine v_al_n 6 zC dX1_mouth_5 0 rfl ?_
  refine v_gf 9 0 zC dX1_mouth_6 gf_X1_31 rfl rfl ?_
  refine v_icmpn_ge 22 12 zC dX1_mouth_9 (fun h_2 => False.elim (by omega)) (fun h_2 => ?_)
  refine v_il_n 13 zC dX1_mouth_12 2 rfl ?_
  refine v_ifn_lt 22 16 zC dX1_mouth_13 (fun z => absurd z (Nat.not_lt_zero _)) (fun _ => ?_)
  refine v_il_n 17 zC dX1_mouth_16 2 rfl ?_
  refine v_bp (v := (nI 24)) 19 zC dX1_mouth_17 (by decide +kernel) ?_
  refine v_icmpn_lt 25 22 zC dX1_mouth_19 (fun h_4 => ?_) (fun h_4 => False.elim (by omega))
  refine v_al_n 26 zC dX1_mouth_25 0 rfl ?_
  refine v_gf 29 0 zC dX1_mouth_26 gf_X1_15 rfl rfl ?_
  refine v_il_n 30 zC dX1_mouth_29 2 rfl ?_
  refine v_bp (v := (nI 6)) 32 zC dX1_mouth_30 (by decide +kernel) ?_
  refine v_imul (v := (nI (h * 6))) 33 zC dX1_mouth_32 (pk_mul _ _) ?_
  refine v_il_n 34 zC dX1_mouth_33 1 rfl ?_
  refine v_iadd (v := (nI ((h * 6) + d))) 35 zC dX1_mouth_34 (nI_add _ _) ?_
  refine v_ialn (v := (mI (M ((h * 6) + d)))) 36 1 zC dX1_mouth_35 rfl (by omega) rfl ?_
  refine v_iret zC zT dX1_mouth_36  ?_
  first | exact ⟨rfl, rfl⟩ | exact ⟨sb1 (by assumption), rfl⟩ | exact ⟨sb0 (by assumption), rfl⟩ | (exfalso; omega) | exact ⟨sb1 (by simp [*]), rfl⟩ | exact ⟨sb0 (by simp [*]), rfl⟩
set_option maxRecDepth 100000 in
set_option maxHeartbeats 4000000 in
theorem c_X1_speakers (l : Launch) (D : va_G) (cI : ClassId) (b0 b1 b2 b3 : Nat) (P Q : Nat) (M : Nat → Option Nat) (h : Nat) (hQ : Q ≤ 6) (hh : h < 24) (hM : ∀ z v, M z = some v → v < 7) : CT l yX1_speakers cX1_speakers 4 (some .int) { frames := 1, cells := 0, slots := 0, locals := 22 } D cI [.ref b0, .int (nI h)] [(b0, .inr (1, [.int (nI P), .int (nI Q), .ref b1, .ref b2, .ref b3])), (b2, .inl (cI, 144, .inl (mIf M)))] (fun zr zw => (zr = some (.int (nI (mkn (fun d => (M (h * 6 + d)).isSome) Q))) ∧ zw = [(b0, .inr (1, [.int (nI P), .int (nI Q), .ref b1, .ref b2, .ref b3])), (b2, .inl (cI, 144, .inl (mIf M)))])) := by
  refine CT_of RX1 rfl (by decide +kernel) (Nat.le_of_ble_eq_true rfl) (fun E hnE zC zT => ?_)
  have hA : ∀ q, (ev_s E).heap.size ≤ q → ev_A E q := fun q h => by rw [zT.2]; exact Or.inr h
  show VV E 0 0 0 [(0, .ref b0), (1, .int (nI h))] [] [(b0, .inr (1, [.int (nI P), .int (nI Q), .ref b1, .ref b2, .ref b3])), (b2, .inl (cI, 144, .inl (mIf M)))]
  refine v_ic (v := (nI 0)) 1 zC dX1_speakers_0 (by decide +kernel) ?_
  refine v_is_n (lv2 := [(2, .int (nI 0)), (0, .ref b0), (1, .int (nI h))]) 2 zC dX1_speakers_1 (by rw [hnE]; decide) rfl ?_
  refine v_ic (v := (nI 0)) 3 zC dX1_speakers_2 (by decide +kernel) ?_
  refine v_is_n (lv2 := [(3, .int (nI 0)), (2, .int (nI 0)), (0, .ref b0), (1, .int (nI h))]) 4 zC dX1_speakers_3 (by rw [hnE]; decide) rfl ?_
  have lp4 : ∀ (mz : Nat) (x : Nat) (p : Nat), (x = mkn (fun d => (M (h * 6 + d)).isSome) p) → (p ≤ Q) → Q - p = mz → VV E 0 0 4 [(3, .int (nI p)), (2, .int (nI x)), (0, .ref b0), (1, .int (nI h))] [] [(b0, .inr (1, [.int (nI P), .int (nI Q), .ref b1, .ref b2, .ref b3])), (b2, .inl (cI, 144, .inl (mIf M)))] := by
    intro mz
    induction mz using Nat.strongRecOn with
    | _ mz ih4 =>
    intro x p hx hp hm4
    refine v_il_n 5 zC dX1_speakers_4 0 rfl ?_
    refine v_al_n 6 zC dX1_speakers_5 2 rfl ?_
    refine v_gf 9 0 zC dX1_speakers_6 gf_X1_31 rfl rfl ?_
    refine v_icmpn_ge 33 12 zC dX1_speakers_9 (fun h_1 => ?_) (fun h_1 => ?_)
    ·
      refine v_il_n 34 zC dX1_speakers_33 1 rfl ?_
      refine v_iret zC zT dX1_speakers_34  ?_
      exact ⟨sn (by rw [hx, show p = Q by omega]), rfl⟩
    ·
      refine v_al_n 13 zC dX1_speakers_12 2 rfl ?_
      refine v_il_n 14 zC dX1_speakers_13 0 rfl ?_
      refine v_il_n 15 zC dX1_speakers_14 3 rfl ?_
      refine v_cV (As := [.int (nI p), .int (nI h)]) (st := []) 18 0 [0, 1] zC dX1_speakers_15 hA (c_X1_mouth (ev_l E) (ev_D E) cI (b0 := b0) (b1 := b1) (b2 := b2) (b3 := b3) (P := P) (Q := Q) (M := M) (d := p) (h := h) (hQ := (by first | omega | assumption | rfl | (simp only []; omega) | decide)) (hd := (by first | omega | assumption | rfl | (simp only []; omega) | decide)) (hh := (by first | omega | assumption | rfl | (simp only []; omega) | decide))) cf_X1_mouth lk_X1_86 rfl rfl rfl rfl rfl (by decide +kernel) (Nat.le_of_ble_eq_true rfl) (fun rv_2 wv_3 hp_4 hm_5 => ?_)
      clear hm_5
      obtain ⟨rfl, rfl⟩ := hp_4
      show VV E 0 0 18 [(3, .int (nI p)), (2, .int (nI x)), (0, .ref b0), (1, .int (nI h))] [.int (mI (M (h * 6 + p)))] [(b0, .inr (1, [.int (nI P), .int (nI Q), .ref b1, .ref b2, .ref b3])), (b2, .inl (cI, 144, .inl (mIf M)))]
      refine v_ifo_lt 27 21 zC dX1_speakers_18 (fun w h => Nat.lt_trans (hM _ _ h) (by decide)) (fun h_6 => ?_) (fun h_6 => ?_)
      ·
        refine v_inc (v := (nI (p + 1))) (lv2 := [(3, .int (nI (p + 1))), (2, .int (nI x)), (0, .ref b0), (1, .int (nI h))]) 30 zC dX1_speakers_27 (j := 0) rfl (nI_add _ 1) (by rw [hnE]; decide) rfl ?_
        refine v_goto 4 zC dX1_speakers_30 ?_
        refine v_lvs (lv2 := [(3, .int (nI (p + 1))), (2, .int (nI x)), (0, .ref b0), (1, .int (nI h))]) [0, 1, 2, 3] rfl ?_
        exact ih4 _ (by omega) x (p + 1) (by first | exact (by rw [hx]; exact (mkn_1 (by first | assumption | simp [*])).symm) | exact (by rw [hx]; exact (mkn_0 (by first | assumption | simp [*])).symm)) (by first | omega | assumption | rfl | (simp only []; omega) | decide) rfl
      ·
        refine v_il_n 22 zC dX1_speakers_21 1 rfl ?_
        refine v_ic (v := (nI 1)) 23 zC dX1_speakers_22 (by decide +kernel) ?_
        refine v_il_n 24 zC dX1_speakers_23 0 rfl ?_
        refine v_ishl (v := (nI (2 ^ p))) 25 zC dX1_speakers_24 (b1n (by omega)) ?_
        refine v_ior (v := (nI (x ||| (2 ^ p)))) 26 zC dX1_speakers_25 (fa_or _ _) ?_
        refine v_is_n (lv2 := [(2, .int (nI (x ||| (2 ^ p)))), (3, .int (nI p)), (0, .ref b0), (1, .int (nI h))]) 27 zC dX1_speakers_26 (by rw [hnE]; decide) rfl ?_
        refine v_inc (v := (nI (p + 1))) (lv2 := [(3, .int (nI (p + 1))), (2, .int (nI (x ||| (2 ^ p)))), (0, .ref b0), (1, .int (nI h))]) 30 zC dX1_speakers_27 (j := 1) rfl (nI_add _ 1) (by rw [hnE]; decide) rfl ?_
        refine v_goto 4 zC dX1_speakers_30 ?_
        refine v_lvs (lv2 := [(3, .int (nI (p + 1))), (2, .int (nI (x ||| (2 ^ p)))), (0, .ref b0), (1, .int (nI h))]) [0, 1, 2, 3] rfl ?_
        exact ih4 _ (by omega) (x ||| (2 ^ p)) (p + 1) (by first | exact (by rw [hx]; exact (mkn_1 (by first | assumption | simp [*])).symm) | exact (by rw [hx]; exact (mkn_0 (by first | assumption | simp [*])).symm)) (by first | omega | assumption | rfl | (simp only []; omega) | decide) rfl
  refine v_lvs (lv2 := [(3, .int (nI 0)), (2, .int (nI 0)), (0, .ref b0), (1, .int (nI h))]) [0, 1, 2, 3] rfl ?_
  exact lp4 _ 0 0 (by first | omega | assumption | rfl | (simp only []; omega) | decide) (by first | omega | assumption | rfl | (simp only []; omega) | decide) rfl
set_option maxRecDepth 100000 in
set_option maxHeartbeats 4000000 in
theorem c_X1_speakersThrough (l : Launch) (D : va_G) (cI : ClassId) (b0 b1 b2 b3 : Nat) (P Q : Nat) (M : Nat → Option Nat) (v h : Nat) (hQ : Q ≤ 6) (hv : v < 7) (hh : h < 24) (hM : ∀ z v, M z = some v → v < 7) : CT l yX1_speakersThrough cX1_speakersThrough 5 (some .int) { frames := 1, cells := 0, slots := 0, locals := 22 } D cI [.ref b0, .int (nI v), .int (nI h)] [(b0, .inr (1, [.int (nI P), .int (nI Q), .ref b1, .ref b2, .ref b3])), (b2, .inl (cI, 144, .inl (mIf M)))] (fun zr zw => (zr = some (.int (nI (mkn (fun d => M (h * 6 + d) == some v) Q))) ∧ zw = [(b0, .inr (1, [.int (nI P), .int (nI Q), .ref b1, .ref b2, .ref b3])), (b2, .inl (cI, 144, .inl (mIf M)))])) := by
  refine CT_of RX1 rfl (by decide +kernel) (Nat.le_of_ble_eq_true rfl) (fun E hnE zC zT => ?_)
  have hA : ∀ q, (ev_s E).heap.size ≤ q → ev_A E q := fun q h => by rw [zT.2]; exact Or.inr h
  show VV E 0 0 0 [(0, .ref b0), (1, .int (nI v)), (2, .int (nI h))] [] [(b0, .inr (1, [.int (nI P), .int (nI Q), .ref b1, .ref b2, .ref b3])), (b2, .inl (cI, 144, .inl (mIf M)))]
  refine v_ic (v := (nI 0)) 1 zC dX1_speakersThrough_0 (by decide +kernel) ?_
  refine v_is_n (lv2 := [(3, .int (nI 0)), (0, .ref b0), (1, .int (nI v)), (2, .int (nI h))]) 2 zC dX1_speakersThrough_1 (by rw [hnE]; decide) rfl ?_
  refine v_ic (v := (nI 0)) 3 zC dX1_speakersThrough_2 (by decide +kernel) ?_
  refine v_is (lv2 := [(4, .int (nI 0)), (3, .int (nI 0)), (0, .ref b0), (1, .int (nI v)), (2, .int (nI h))]) 5 zC dX1_speakersThrough_3 (by rw [hnE]; decide) rfl ?_
  have lp5 : ∀ (mz : Nat) (x : Nat) (p : Nat), (x = mkn (fun d => M (h * 6 + d) == some v) p) → (p ≤ Q) → Q - p = mz → VV E 0 0 5 [(4, .int (nI p)), (3, .int (nI x)), (0, .ref b0), (1, .int (nI v)), (2, .int (nI h))] [] [(b0, .inr (1, [.int (nI P), .int (nI Q), .ref b1, .ref b2, .ref b3])), (b2, .inl (cI, 144, .inl (mIf M)))] := by
    intro mz
    induction mz using Nat.strongRecOn with
    | _ mz ih5 =>
    intro x p hx hp hm5
    refine v_il 7 zC dX1_speakersThrough_5 0 rfl ?_
    refine v_al_n 8 zC dX1_speakersThrough_7 2 rfl ?_
    refine v_gf 11 0 zC dX1_speakersThrough_8 gf_X1_31 rfl rfl ?_
    refine v_icmpn_ge 38 14 zC dX1_speakersThrough_11 (fun h_1 => ?_) (fun h_1 => ?_)
    ·
      refine v_il_n 39 zC dX1_speakersThrough_38 1 rfl ?_
      refine v_iret zC zT dX1_speakersThrough_39  ?_
      exact ⟨sn (by rw [hx, show p = Q by omega]), rfl⟩
    ·
      refine v_al_n 15 zC dX1_speakersThrough_14 2 rfl ?_
      refine v_il 17 zC dX1_speakersThrough_15 0 rfl ?_
      refine v_il_n 18 zC dX1_speakersThrough_17 4 rfl ?_
      refine v_cV (As := [.int (nI p), .int (nI h)]) (st := []) 21 0 [0, 1] zC dX1_speakersThrough_18 hA (c_X1_mouth (ev_l E) (ev_D E) cI (b0 := b0) (b1 := b1) (b2 := b2) (b3 := b3) (P := P) (Q := Q) (M := M) (d := p) (h := h) (hQ := (by first | omega | assumption | rfl | (simp only []; omega) | decide)) (hd := (by first | omega | assumption | rfl | (simp only []; omega) | decide)) (hh := (by first | omega | assumption | rfl | (simp only []; omega) | decide))) cf_X1_mouth lk_X1_86 rfl rfl rfl rfl rfl (by decide +kernel) (Nat.le_of_ble_eq_true rfl) (fun rv_2 wv_3 hp_4 hm_5 => ?_)
      clear hm_5
      obtain ⟨rfl, rfl⟩ := hp_4
      show VV E 0 0 21 [(4, .int (nI p)), (3, .int (nI x)), (0, .ref b0), (1, .int (nI v)), (2, .int (nI h))] [.int (mI (M (h * 6 + p)))] [(b0, .inr (1, [.int (nI P), .int (nI Q), .ref b1, .ref b2, .ref b3])), (b2, .inl (cI, 144, .inl (mIf M)))]
      refine v_il_n 22 zC dX1_speakersThrough_21 3 rfl ?_
      refine v_icmpo_ne 32 25 zC dX1_speakersThrough_22 (fun w h => Nat.lt_trans (hM _ _ h) (by decide)) (fun h_6 => ?_) (fun h_6 => ?_)
      ·
        refine v_inc (v := (nI (p + 1))) (lv2 := [(4, .int (nI (p + 1))), (3, .int (nI x)), (0, .ref b0), (1, .int (nI v)), (2, .int (nI h))]) 35 zC dX1_speakersThrough_32 (j := 0) rfl (nI_add _ 1) (by rw [hnE]; decide) rfl ?_
        refine v_goto 5 zC dX1_speakersThrough_35 ?_
        refine v_lvs (lv2 := [(4, .int (nI (p + 1))), (3, .int (nI x)), (0, .ref b0), (1, .int (nI v)), (2, .int (nI h))]) [0, 1, 2, 3, 4] rfl ?_
        exact ih5 _ (by omega) x (p + 1) (by first | exact (by rw [hx]; exact (mkn_1 (by first | assumption | simp [*])).symm) | exact (by rw [hx]; exact (mkn_0 (by first | assumption | simp [*])).symm)) (by first | omega | assumption | rfl | (simp only []; omega) | decide) rfl
      ·
        refine v_il_n 26 zC dX1_speakersThrough_25 1 rfl ?_
        refine v_ic (v := (nI 1)) 27 zC dX1_speakersThrough_26 (by decide +kernel) ?_
        refine v_il 29 zC dX1_speakersThrough_27 0 rfl ?_
        refine v_ishl (v := (nI (2 ^ p))) 30 zC dX1_speakersThrough_29 (b1n (by omega)) ?_
        refine v_ior (v := (nI (x ||| (2 ^ p)))) 31 zC dX1_speakersThrough_30 (fa_or _ _) ?_
        refine v_is_n (lv2 := [(3, .int (nI (x ||| (2 ^ p)))), (4, .int (nI p)), (0, .ref b0), (1, .int (nI v)), (2, .int (nI h))]) 32 zC dX1_speakersThrough_31 (by rw [hnE]; decide) rfl ?_
        refine v_inc (v := (nI (p + 1))) (lv2 := [(4, .int (nI (p + 1))), (3, .int (nI (x ||| (2 ^ p)))), (0, .ref b0), (1, .int (nI v)), (2, .int (nI h))]) 35 zC dX1_speakersThrough_32 (j := 1) rfl (nI_add _ 1) (by rw [hnE]; decide) rfl ?_
        refine v_goto 5 zC dX1_speakersThrough_35 ?_
        refine v_lvs (lv2 := [(4, .int (nI (p + 1))), (3, .int (nI (x ||| (2 ^ p)))), (0, .ref b0), (1, .int (nI v)), (2, .int (nI h))]) [0, 1, 2, 3, 4] rfl ?_
        exact ih5 _ (by omega) (x ||| (2 ^ p)) (p + 1) (by first | exact (by rw [hx]; exact (mkn_1 (by first | assumption | simp [*])).symm) | exact (by rw [hx]; exact (mkn_0 (by first | assumption | simp [*])).symm)) (by first | omega | assumption | rfl | (simp only []; omega) | decide) rfl
  refine v_lvs (lv2 := [(4, .int (nI 0)), (3, .int (nI 0)), (0, .ref b0), (1, .int (nI v)), (2, .int (nI h))]) [0, 1, 2, 3, 4] rfl ?_
  exact lp5 _ 0 0 (by first | omega | assumption | rfl | (simp only []; omega) | decide) (by first | omega | assumption | rfl | (simp only []; omega) | decide) rfl
set_option maxRecDepth 100000 in
set_option maxHeartbeats 4000000 in
theorem c_X1_timesOf (l : Launch) (D : va_G) (cI : ClassId) (b0 b1 b2 b3 : Nat) (P Q : Nat) (M : Nat → Option Nat) (d : Nat) (hQ : Q ≤ 6) (hd : d < Q) (hM : ∀ z v, M z = some v → v < 7) : CT l yX1_timesOf cX1_timesOf 4 (some .int) { frames := 1, cells := 0, slots := 0, locals := 22 } D cI [.ref b0, .int (nI d)] [(b0, .inr (1, [.int (nI P), .int (nI Q), .ref b1, .ref b2, .ref b3])), (b2, .inl (cI, 144, .inl (mIf M)))] (fun zr zw => (zr = some (.int (nI (ctn (fun z => (M (z * 6 + d)).isSome) 24))) ∧ zw = [(b0, .inr (1, [.int (nI P), .int (nI Q), .ref b1, .ref b2, .ref b3])), (b2, .inl (cI, 144, .inl (mIf M)))])) := by
  refine CT_of RX1 rfl (by decide +kernel) (Nat.le_of_ble_eq_true rfl) (fun E hnE zC zT => ?_)
  have hA : ∀ q, (ev_s E).heap.size ≤ q → ev_A E q := fun q h => by rw [zT.2]; exact Or.inr h
  show VV E 0 0 0 [(0, .ref b0), (1, .int (nI d))] [] [(b0, .inr (1, [.int (nI P), .int (nI Q), .ref b1, .ref b2, .ref b3])), (b2, .inl (cI, 144, .inl (mIf M)))]
  refine v_ic (v := (nI 0)) 1 zC dX1_timesOf_0 (by decide +kernel) ?_
  refine v_is_n (lv2 := [(2, .int (nI 0)), (0, .ref b0), (1, .int (nI d))]) 2 zC dX1_timesOf_1 (by rw [hnE]; decide) rfl ?_
  refine v_ic (v := (nI 0)) 3 zC dX1_timesOf_2 (by decide +kernel) ?_
  refine v_is_n (lv2 := [(3, .int (nI 0)), (2, .int (nI 0)), (0, .ref b0), (1, .int (nI d))]) 4 zC dX1_timesOf_3 (by rw [hnE]; decide) rfl ?_
  have lp4 : ∀ (mz : Nat) (x : Nat) (h : Nat), (x = ctn (fun z => (M (z * 6 + d)).isSome) h) → (h ≤ 24) → 24 - h = mz → VV E 0 0 4 [(3, .int (nI h)), (2, .int (nI x)), (0, .ref b0), (1, .int (nI d))] [] [(b0, .inr (1, [.int (nI P), .int (nI Q), .ref b1, .ref b2, .ref b3])), (b2, .inl (cI, 144, .inl (mIf M)))] := by
    intro mz
    induction mz using Nat.strongRecOn with
    | _ mz ih4 =>
    intro x h hx hh hm4
    refine v_il_n 5 zC dX1_timesOf_4 0 rfl ?_
    refine v_bp (v := (nI 24)) 7 zC dX1_timesOf_5 (by decide +kernel) ?_
    refine v_icmpn_ge 28 10 zC dX1_timesOf_7 (fun h_1 => ?_) (fun h_1 => ?_)
    ·
      refine v_il_n 29 zC dX1_timesOf_28 1 rfl ?_
      refine v_iret zC zT dX1_timesOf_29  ?_
      exact ⟨sn (by rw [hx, show h = 24 by omega]), rfl⟩
    ·
      refine v_al_n 11 zC dX1_timesOf_10 2 rfl ?_
      refine v_il_n 12 zC dX1_timesOf_11 3 rfl ?_
      refine v_il_n 13 zC dX1_timesOf_12 0 rfl ?_
      refine v_cV (As := [.int (nI d), .int (nI h)]) (st := []) 16 0 [0, 1] zC dX1_timesOf_13 hA (c_X1_mouth (ev_l E) (ev_D E) cI (b0 := b0) (b1 := b1) (b2 := b2) (b3 := b3) (P := P) (Q := Q) (M := M) (d := d) (h := h) (hQ := (by first | omega | assumption | rfl | (simp only []; omega) | decide)) (hd := (by first | omega | assumption | rfl | (simp only []; omega) | decide)) (hh := (by first | omega | assumption | rfl | (simp only []; omega) | decide))) cf_X1_mouth lk_X1_86 rfl rfl rfl rfl rfl (by decide +kernel) (Nat.le_of_ble_eq_true rfl) (fun rv_2 wv_3 hp_4 hm_5 => ?_)
      clear hm_5
      obtain ⟨rfl, rfl⟩ := hp_4
      show VV E 0 0 16 [(3, .int (nI h)), (2, .int (nI x)), (0, .ref b0), (1, .int (nI d))] [.int (mI (M (h * 6 + d)))] [(b0, .inr (1, [.int (nI P), .int (nI Q), .ref b1, .ref b2, .ref b3])), (b2, .inl (cI, 144, .inl (mIf M)))]
      refine v_ifo_lt 22 19 zC dX1_timesOf_16 (fun w h => Nat.lt_trans (hM _ _ h) (by decide)) (fun h_6 => ?_) (fun h_6 => ?_)
      ·
        refine v_inc (v := (nI (h + 1))) (lv2 := [(3, .int (nI (h + 1))), (2, .int (nI x)), (0, .ref b0), (1, .int (nI d))]) 25 zC dX1_timesOf_22 (j := 0) rfl (nI_add _ 1) (by rw [hnE]; decide) rfl ?_
        refine v_goto 4 zC dX1_timesOf_25 ?_
        refine v_lvs (lv2 := [(3, .int (nI (h + 1))), (2, .int (nI x)), (0, .ref b0), (1, .int (nI d))]) [0, 1, 2, 3] rfl ?_
        exact ih4 _ (by omega) x (h + 1) (by first | exact (by rw [hx]; exact (ctn_1 (by first | assumption | simp [*])).symm) | exact (by rw [hx]; exact (ctn_0 (by first | assumption | simp [*])).symm)) (by first | omega | assumption | rfl | (simp only []; omega) | decide) rfl
      ·
        refine v_inc (v := (nI (x + 1))) (lv2 := [(2, .int (nI (x + 1))), (3, .int (nI h)), (0, .ref b0), (1, .int (nI d))]) 22 zC dX1_timesOf_19 (j := 1) rfl (nI_add _ 1) (by rw [hnE]; decide) rfl ?_
        refine v_inc (v := (nI (h + 1))) (lv2 := [(3, .int (nI (h + 1))), (2, .int (nI (x + 1))), (0, .ref b0), (1, .int (nI d))]) 25 zC dX1_timesOf_22 (j := 1) rfl (nI_add _ 1) (by rw [hnE]; decide) rfl ?_
        refine v_goto 4 zC dX1_timesOf_25 ?_
        refine v_lvs (lv2 := [(3, .int (nI (h + 1))), (2, .int (nI (x + 1))), (0, .ref b0), (1, .int (nI d))]) [0, 1, 2, 3] rfl ?_
        exact ih4 _ (by omega) (x + 1) (h + 1) (by first | exact (by rw [hx]; exact (ctn_1 (by first | assumption | simp [*])).symm) | exact (by rw [hx]; exact (ctn_0 (by first | assumption | simp [*])).symm)) (by first | omega | assumption | rfl | (simp only []; omega) | decide) rfl
  refine v_lvs (lv2 := [(3, .int (nI 0)), (2, .int (nI 0)), (0, .ref b0), (1, .int (nI d))]) [0, 1, 2, 3] rfl ?_
  exact lp4 _ 0 0 (by first | omega | assumption | rfl | (simp only []; omega) | decide) (by first | omega | assumption | rfl | (simp only []; omega) | decide) rfl
set_option maxRecDepth 100000 in
set_option maxHeartbeats 4000000 in
theorem c_X1_timesThrough (l : Launch) (D : va_G) (cI : ClassId) (b0 b1 b2 b3 : Nat) (P Q : Nat) (M : Nat → Option Nat) (d p : Nat) (hQ : Q ≤ 6) (hd : d < Q) (hp : p < 7) (hM : ∀ z v, M z = some v → v < 7) : CT l yX1_timesThrough cX1_timesThrough 5 (some .int) { frames := 1, cells := 0, slots := 0, locals := 22 } D cI [.ref b0, .int (nI d), .int (nI p)] [(b0, .inr (1, [.int (nI P), .int (nI Q), .ref b1, .ref b2, .ref b3])), (b2, .inl (cI, 144, .inl (mIf M)))] (fun zr zw => (zr = some (.int (nI (ctn (fun z => M (z * 6 + d) == some p) 24))) ∧ zw = [(b0, .inr (1, [.int (nI P), .int (nI Q), .ref b1, .ref b2, .ref b3])), (b2, .inl (cI, 144, .inl (mIf M)))])) := by
  refine CT_of RX1 rfl (by decide +kernel) (Nat.le_of_ble_eq_true rfl) (fun E hnE zC zT => ?_)
  have hA : ∀ q, (ev_s E).heap.size ≤ q → ev_A E q := fun q h => by rw [zT.2]; exact Or.inr h
  show VV E 0 0 0 [(0, .ref b0), (1, .int (nI d)), (2, .int (nI p))] [] [(b0, .inr (1, [.int (nI P), .int (nI Q), .ref b1, .ref b2, .ref b3])), (b2, .inl (cI, 144, .inl (mIf M)))]
  refine v_ic (v := (nI 0)) 1 zC dX1_timesThrough_0 (by decide +kernel) ?_
  refine v_is_n (lv2 := [(3, .int (nI 0)), (0, .ref b0), (1, .int (nI d)), (2, .int (nI p))]) 2 zC dX1_timesThrough_1 (by rw [hnE]; decide) rfl ?_
  refine v_ic (v := (nI 0)) 3 zC dX1_timesThrough_2 (by decide +kernel) ?_
  refine v_is (lv2 := [(4, .int (nI 0)), (3, .int (nI 0)), (0, .ref b0), (1, .int (nI d)), (2, .int (nI p))]) 5 zC dX1_timesThrough_3 (by rw [hnE]; decide) rfl ?_
  have lp5 : ∀ (mz : Nat) (x : Nat) (h : Nat), (x = ctn (fun z => M (z * 6 + d) == some p) h) → (h ≤ 24) → 24 - h = mz → VV E 0 0 5 [(4, .int (nI h)), (3, .int (nI x)), (0, .ref b0), (1, .int (nI d)), (2, .int (nI p))] [] [(b0, .inr (1, [.int (nI P), .int (nI Q), .ref b1, .ref b2, .ref b3])), (b2, .inl (cI, 144, .inl (mIf M)))] := by
    intro mz
    induction mz using Nat.strongRecOn with
    | _ mz ih5 =>
    intro x h hx hh hm5
    refine v_il 7 zC dX1_timesThrough_5 0 rfl ?_
    refine v_bp (v := (nI 24)) 9 zC dX1_timesThrough_7 (by decide +kernel) ?_
    refine v_icmpn_ge 32 12 zC dX1_timesThrough_9 (fun h_1 => ?_) (fun h_1 => ?_)
    ·
      refine v_il_n 33 zC dX1_timesThrough_32 1 rfl ?_
      refine v_iret zC zT dX1_timesThrough_33  ?_
      exact ⟨sn (by rw [hx, show h = 24 by omega]), rfl⟩
    ·
      refine v_al_n 13 zC dX1_timesThrough_12 2 rfl ?_
      refine v_il_n 14 zC dX1_timesThrough_13 3 rfl ?_
      refine v_il 16 zC dX1_timesThrough_14 0 rfl ?_
      refine v_cV (As := [.int (nI d), .int (nI h)]) (st := []) 19 0 [0, 1] zC dX1_timesThrough_16 hA (c_X1_mouth (ev_l E) (ev_D E) cI (b0 := b0) (b1 := b1) (b2 := b2) (b3 := b3) (P := P) (Q := Q) (M := M) (d := d) (h := h) (hQ := (by first | omega | assumption | rfl | (simp only []; omega) | decide)) (hd := (by first | omega | assumption | rfl | (simp only []; omega) | decide)) (hh := (by first | omega | assumption | rfl | (simp only []; omega) | decide))) cf_X1_mouth lk_X1_86 rfl rfl rfl rfl rfl (by decide +kernel) (Nat.le_of_ble_eq_true rfl) (fun rv_2 wv_3 hp_4 hm_5 => ?_)
      clear hm_5
      obtain ⟨rfl, rfl⟩ := hp_4
      show VV E 0 0 19 [(4, .int (nI h)), (3, .int (nI x)), (0, .ref b0), (1, .int (nI d)), (2, .int (nI p))] [.int (mI (M (h * 6 + d)))] [(b0, .inr (1, [.int (nI P), .int (nI Q), .ref b1, .ref b2, .ref b3])), (b2, .inl (cI, 144, .inl (mIf M)))]
      refine v_il_n 20 zC dX1_timesThrough_19 4 rfl ?_
      refine v_icmpo_ne 26 23 zC dX1_timesThrough_20 (fun w h => Nat.lt_trans (hM _ _ h) (by decide)) (fun h_6 => ?_) (fun h_6 => ?_)
      ·
        refine v_inc (v := (nI (h + 1))) (lv2 := [(4, .int (nI (h + 1))), (3, .int (nI x)), (0, .ref b0), (1, .int (nI d)), (2, .int (nI p))]) 29 zC dX1_timesThrough_26 (j := 0) rfl (nI_add _ 1) (by rw [hnE]; decide) rfl ?_
        refine v_goto 5 zC dX1_timesThrough_29 ?_
        refine v_lvs (lv2 := [(4, .int (nI (h + 1))), (3, .int (nI x)), (0, .ref b0), (1, .int (nI d)), (2, .int (nI p))]) [0, 1, 2, 3, 4] rfl ?_
        exact ih5 _ (by omega) x (h + 1) (by first | exact (by rw [hx]; exact (ctn_1 (by first | assumption | simp [*])).symm) | exact (by rw [hx]; exact (ctn_0 (by first | assumption | simp [*])).symm)) (by first | omega | assumption | rfl | (simp only []; omega) | decide) rfl
      ·
        refine v_inc (v := (nI (x + 1))) (lv2 := [(3, .int (nI (x + 1))), (4, .int (nI h)), (0, .ref b0), (1, .int (nI d)), (2, .int (nI p))]) 26 zC dX1_timesThrough_23 (j := 1) rfl (nI_add _ 1) (by rw [hnE]; decide) rfl ?_
        refine v_inc (v := (nI (h + 1))) (lv2 := [(4, .int (nI (h + 1))), (3, .int (nI (x + 1))), (0, .ref b0), (1, .int (nI d)), (2, .int (nI p))]) 29 zC dX1_timesThrough_26 (j := 1) rfl (nI_add _ 1) (by rw [hnE]; decide) rfl ?_
        refine v_goto 5 zC dX1_timesThrough_29 ?_
        refine v_lvs (lv2 := [(4, .int (nI (h + 1))), (3, .int (nI (x + 1))), (0, .ref b0), (1, .int (nI d)), (2, .int (nI p))]) [0, 1, 2, 3, 4] rfl ?_
        exact ih5 _ (by omega) (x + 1) (h + 1) (by first | exact (by rw [hx]; exact (ctn_1 (by first | assumption | simp [*])).symm) | exact (by rw [hx]; exact (ctn_0 (by first | assumption | simp [*])).symm)) (by first | omega | assumption | rfl | (simp only []; omega) | decide) rfl
  refine v_lvs (lv2 := [(4, .int (nI 0)), (3, .int (nI 0)), (0, .ref b0), (1, .int (nI d)), (2, .int (nI p))]) [0, 1, 2, 3, 4] rfl ?_
  exact lp5 _ 0 0 (by first | omega | assumption | rfl | (simp only []; omega) | decide) (by first | omega | assumption | rfl | (simp only []; omega) | decide) rfl
set_option maxRecDepth 100000 in
set_option maxHeartbeats 4000000 in
theorem c_X1_timesTogether (l : Launch) (D : va_G) (cI : ClassId) (b0 b1 b2 b3 : Nat) (P Q : Nat) (M : Nat → Option Nat) (a b : Nat) (hQ : Q ≤ 6) (ha : a < Q) (hb : b < Q) (hM : ∀ z v, M z = some v → v < 7) : CT l yX1_timesTogether cX1_timesTogether 5 (some .int) { frames := 1, cells := 0, slots := 0, locals := 22 } D cI [.ref b0, .int (nI a), .int (nI b)] [(b0, .inr (1, [.int (nI P), .int (nI Q), .ref b1, .ref b2, .ref b3])), (b2, .inl (cI, 144, .inl (mIf M)))] (fun zr zw => (zr = some (.int (nI (ctn (fun z => (M (z * 6 + a)).isSome && (M (z * 6 + b)).isSome) 24))) ∧ zw = [(b0, .inr (1, [.int (nI P), .int (nI Q), .ref b1, .ref b2, .ref b3])), (b2, .inl (cI, 144, .inl (mIf M)))])) := by
  refine CT_of RX1 rfl (by decide +kernel) (Nat.le_of_ble_eq_true rfl) (fun E hnE zC zT => ?_)
  have hA : ∀ q, (ev_s E).heap.size ≤ q → ev_A E q := fun q h => by rw [zT.2]; exact Or.inr h
  show VV E 0 0 0 [(0, .ref b0), (1, .int (nI a)), (2, .int (nI b))] [] [(b0, .inr (1, [.int (nI P), .int (nI Q), .ref b1, .ref b2, .ref b3])), (b2, .inl (cI, 144, .inl (mIf M)))]
  refine v_ic (v := (nI 0)) 1 zC dX1_timesTogether_0 (by decide +kernel) ?_
  refine v_is_n (lv2 := [(3, .int (nI 0)), (0, .ref b0), (1, .int (nI a)), (2, .int (nI b))]) 2 zC dX1_timesTogether_1 (by rw [hnE]; decide) rfl ?_
  refine v_ic (v := (nI 0)) 3 zC dX1_timesTogether_2 (by decide +kernel) ?_
  refine v_is (lv2 := [(4, .int (nI 0)), (3, .int (nI 0)), (0, .ref b0), (1, .int (nI a)), (2, .int (nI b))]) 5 zC dX1_timesTogether_3 (by rw [hnE]; decide) rfl ?_
  have lp5 : ∀ (mz : Nat) (x : Nat) (h : Nat), (x = ctn (fun z => (M (z * 6 + a)).isSome && (M (z * 6 + b)).isSome) h) → (h ≤ 24) → 24 - h = mz → VV E 0 0 5 [(4, .int (nI h)), (3, .int (nI x)), (0, .ref b0), (1, .int (nI a)), (2, .int (nI b))] [] [(b0, .inr (1, [.int (nI P), .int (nI Q), .ref b1, .ref b2, .ref b3])), (b2, .inl (cI, 144, .inl (mIf M)))] := by
    intro mz
    induction mz using Nat.strongRecOn with
    | _ mz ih5 =>
    intro x h hx hh hm5
    refine v_il 7 zC dX1_timesTogether_5 0 rfl ?_
    refine v_bp (v := (nI 24)) 9 zC dX1_timesTogether_7 (by decide +kernel) ?_
    refine v_icmpn_ge 41 12 zC dX1_timesTogether_9 (fun h_1 => ?_) (fun h_1 => ?_)
    ·
      refine v_il_n 42 zC dX1_timesTogether_41 1 rfl ?_
      refine v_iret zC zT dX1_timesTogether_42  ?_
      exact ⟨sn (by rw [hx, show h = 24 by omega]), rfl⟩
    ·
      refine v_al_n 13 zC dX1_timesTogether_12 2 rfl ?_
      refine v_il_n 14 zC dX1_timesTogether_13 3 rfl ?_
      refine v_il 16 zC dX1_timesTogether_14 0 rfl ?_
      refine v_cV (As := [.int (nI a), .int (nI h)]) (st := []) 19 0 [0, 1] zC dX1_timesTogether_16 hA (c_X1_mouth (ev_l E) (ev_D E) cI (b0 := b0) (b1 := b1) (b2 := b2) (b3 := b3) (P := P) (Q := Q) (M := M) (d := a) (h := h) (hQ := (by first | omega | assumption | rfl | (simp only []; omega) | decide)) (hd := (by first | omega | assumption | rfl | (simp only []; omega) | decide)) (hh := (by first | omega | assumption | rfl | (simp only []; omega) | decide))) cf_X1_mouth lk_X1_86 rfl rfl rfl rfl rfl (by decide +kernel) (Nat.le_of_ble_eq_true rfl) (fun rv_2 wv_3 hp_4 hm_5 => ?_)
      clear hm_5
      obtain ⟨rfl, rfl⟩ := hp_4
      show VV E 0 0 19 [(4, .int (nI h)), (3, .int (nI x)), (0, .ref b0), (1, .int (nI a)), (2, .int (nI b))] [.int (mI (M (h * 6 + a)))] [(b0, .inr (1, [.int (nI P), .int (nI Q), .ref b1, .ref b2, .ref b3])), (b2, .inl (cI, 144, .inl (mIf M)))]
      refine v_ifo_lt 35 22 zC dX1_timesTogether_19 (fun w h => Nat.lt_trans (hM _ _ h) (by decide)) (fun h_6 => ?_) (fun h_6 => ?_)
      ·
        refine v_inc (v := (nI (h + 1))) (lv2 := [(4, .int (nI (h + 1))), (3, .int (nI x)), (0, .ref b0), (1, .int (nI a)), (2, .int (nI b))]) 38 zC dX1_timesTogether_35 (j := 0) rfl (nI_add _ 1) (by rw [hnE]; decide) rfl ?_
        refine v_goto 5 zC dX1_timesTogether_38 ?_
        refine v_lvs (lv2 := [(4, .int (nI (h + 1))), (3, .int (nI x)), (0, .ref b0), (1, .int (nI a)), (2, .int (nI b))]) [0, 1, 2, 3, 4] rfl ?_
        exact ih5 _ (by omega) x (h + 1) (by first | exact (by rw [hx]; exact (ctn_1 (by first | assumption | simp [*])).symm) | exact (by rw [hx]; exact (ctn_0 (by first | assumption | simp [*])).symm)) (by first | omega | assumption | rfl | (simp only []; omega) | decide) rfl
      ·
        refine v_al_n 23 zC dX1_timesTogether_22 2 rfl ?_
        refine v_il_n 24 zC dX1_timesTogether_23 4 rfl ?_
        refine v_il 26 zC dX1_timesTogether_24 0 rfl ?_
        refine v_cV (As := [.int (nI b), .int (nI h)]) (st := []) 29 0 [0, 1] zC dX1_timesTogether_26 hA (c_X1_mouth (ev_l E) (ev_D E) cI (b0 := b0) (b1 := b1) (b2 := b2) (b3 := b3) (P := P) (Q := Q) (M := M) (d := b) (h := h) (hQ := (by first | omega | assumption | rfl | (simp only []; omega) | decide)) (hd := (by first | omega | assumption | rfl | (simp only []; omega) | decide)) (hh := (by first | omega | assumption | rfl | (simp only []; omega) | decide))) cf_X1_mouth lk_X1_86 rfl rfl rfl rfl rfl (by decide +kernel) (Nat.le_of_ble_eq_true rfl) (fun rv_7 wv_8 hp_9 hm_10 => ?_)
        clear hm_10
        obtain ⟨rfl, rfl⟩ := hp_9
        show VV E 0 0 29 [(4, .int (nI h)), (3, .int (nI x)), (0, .ref b0), (1, .int (nI a)), (2, .int (nI b))] [.int (mI (M (h * 6 + b)))] [(b0, .inr (1, [.int (nI P), .int (nI Q), .ref b1, .ref b2, .ref b3])), (b2, .inl (cI, 144, .inl (mIf M)))]
        refine v_ifo_lt 35 32 zC dX1_timesTogether_29 (fun w h => Nat.lt_trans (hM _ _ h) (by decide)) (fun h_11 => ?_) (fun h_11 => ?_)
        ·
          refine v_inc (v := (nI (h + 1))) (lv2 := [(4, .int (nI (h + 1))), (3, .int (nI x)), (0, .ref b0), (1, .int (nI a)), (2, .int (nI b))]) 38 zC dX1_timesTogether_35 (j := 0) rfl (nI_add _ 1) (by rw [hnE]; decide) rfl ?_
          refine v_goto 5 zC dX1_timesTogether_38 ?_
          refine v_lvs (lv2 := [(4, .int (nI (h + 1))), (3, .int (nI x)), (0, .ref b0), (1, .int (nI a)), (2, .int (nI b))]) [0, 1, 2, 3, 4] rfl ?_
          exact ih5 _ (by omega) x (h + 1) (by first | exact (by rw [hx]; exact (ctn_1 (by first | assumption | simp [*])).symm) | exact (by rw [hx]; exact (ctn_0 (by first | assumption | simp [*])).symm)) (by first | omega | assumption | rfl | (simp only []; omega) | decide) rfl
        ·
          refine v_inc (v := (nI (x + 1))) (lv2 := [(3, .int (nI (x + 1))), (4, .int (nI h)), (0, .ref b0), (1, .int (nI a)), (2, .int (nI b))]) 35 zC dX1_timesTogether_32 (j := 1) rfl (nI_add _ 1) (by rw [hnE]; decide) rfl ?_
          refine v_inc (v := (nI (h + 1))) (lv2 := [(4, .int (nI (h + 1))), (3, .int (nI (x + 1))), (0, .ref b0), (1, .int (nI a)), (2, .int (nI b))]) 38 zC dX1_timesTogether_35 (j := 1) rfl (nI_add _ 1) (by rw [hnE]; decide) rfl ?_
          refine v_goto 5 zC dX1_timesTogether_38 ?_
          refine v_lvs (lv2 := [(4, .int (nI (h + 1))), (3, .int (nI (x + 1))), (0, .ref b0), (1, .int (nI a)), (2, .int (nI b))]) [0, 1, 2, 3, 4] rfl ?_
          exact ih5 _ (by omega) (x + 1) (h + 1) (by first | exact (by rw [hx]; exact (ctn_1 (by first | assumption | simp [*])).symm) | exact (by rw [hx]; exact (ctn_0 (by first | assumption | simp [*])).symm)) (by first | omega | assumption | rfl | (simp only []; omega) | decide) rfl
  refine v_lvs (lv2 := [(4, .int (nI 0)), (3, .int (nI 0)), (0, .ref b0), (1, .int (nI a)), (2, .int (nI b))]) [0, 1, 2, 3, 4] rfl ?_
  exact lp5 _ 0 0 (by first | omega | assumption | rfl | (simp only []; omega) | decide) (by first | omega | assumption | rfl | (simp only []; omega) | decide) rfl
set_option maxRecDepth 100000 in
set_option maxHeartbeats 4000000 in
theorem c_X1_knowers (l : Launch) (D : va_G) (cI : ClassId) (b0 b1 b2 b3 : Nat) (P Q : Nat) (kn : Nat → Nat) (t : Nat) (hP : P ≤ 7) (ht : t < 10) : CT l yX1_knowers cX1_knowers 2 (some .int) { frames := 2, cells := 0, slots := 0, locals := 46 } D cI [.ref b0, .int (nI t)] [(b0, .inr (1, [.int (nI P), .int (nI Q), .ref b1, .ref b2, .ref b3])), (b3, .inl (cI, 175, .inl (nIf kn)))] (fun zr zw => (zr = some (.int (nI (mkn (fun p => Nat.testBit (kn (24 * 7 + p)) t) P))) ∧ zw = [(b0, .inr (1, [.int (nI P), .int (nI Q), .ref b1, .ref b2, .ref b3])), (b3, .inl (cI, 175, .inl (nIf kn)))])) := by
  refine CT_of RX1 rfl (by decide +kernel) (Nat.le_of_ble_eq_true rfl) (fun E hnE zC zT => ?_)
  have hA : ∀ q, (ev_s E).heap.size ≤ q → ev_A E q := fun q h => by rw [zT.2]; exact Or.inr h
  show VV E 0 0 0 [(0, .ref b0), (1, .int (nI t))] [] [(b0, .inr (1, [.int (nI P), .int (nI Q), .ref b1, .ref b2, .ref b3])), (b3, .inl (cI, 175, .inl (nIf kn)))]
  refine v_ic (v := (nI 1)) 1 zC dX1_knowers_0 (by decide +kernel) ?_
  refine v_al_n 2 zC dX1_knowers_1 0 rfl ?_
  refine v_gf 5 0 zC dX1_knowers_2 gf_X1_27 rfl rfl ?_
  refine v_ishl (v := (nI (2 ^ P))) 6 zC dX1_knowers_5 (b1n (by omega)) ?_
  refine v_ic (v := (nI 1)) 7 zC dX1_knowers_6 (by decide +kernel) ?_
  refine v_isub (v := (nI ((2 ^ P) - 1))) 8 zC dX1_knowers_7 (pk_sub (by first | omega | exact Nat.one_le_two_pow)) ?_
  refine v_al_n 9 zC dX1_knowers_8 0 rfl ?_
  refine v_bp (v := (nI 24)) 11 zC dX1_knowers_9 (by decide +kernel) ?_
  refine v_il_n 12 zC dX1_knowers_11 1 rfl ?_
  refine v_cV (As := [.int (nI 24), .int (nI t)]) (st := [.int (nI ((2 ^ P) - 1))]) 15 0 [0, 1] zC dX1_knowers_12 hA (c_X1_lackers (ev_l E) (ev_D E) cI (b0 := b0) (b1 := b1) (b2 := b2) (b3 := b3) (P := P) (Q := Q) (kn := kn) (h := 24) (t := t) (hP := (by first | omega | assumption | rfl | (simp only []; omega) | decide)) (hh := (by first | omega | assumption | rfl | (simp only []; omega) | decide)) (ht := (by first | omega | assumption | rfl | (simp only []; omega) | decide))) cf_X1_lackers lk_X1_61 rfl rfl rfl rfl rfl (by decide +kernel) (Nat.le_of_ble_eq_true rfl) (fun rv_1 wv_2 hp_3 hm_4 => ?_)
  clear hm_4
  obtain ⟨rfl, rfl⟩ := hp_3
  show VV E 0 0 15 [(0, .ref b0), (1, .int (nI t))] [.int (nI (mkn (fun p => !Nat.testBit (kn (24 * 7 + p)) t) P)), .int (nI ((2 ^ P) - 1))] [(b0, .inr (1, [.int (nI P), .int (nI Q), .ref b1, .ref b2, .ref b3])), (b3, .inl (cI, 175, .inl (nIf kn)))]
  refine v_ic (v := (-1)) 16 zC dX1_knowers_15 (by decide +kernel) ?_
  refine v_ixor (v := ((nI (mkn (fun p => !Nat.testBit (kn (24 * 7 + p)) t) P)) ^^^ (-1))) 17 zC dX1_knowers_16 rfl ?_
  refine v_iand (v := (nI (andn ((2 ^ P) - 1) (mkn (fun p => !Nat.testBit (kn (24 * 7 + p)) t) P)))) 18 zC dX1_knowers_17 (andn_of _ _) ?_
  refine v_iret zC zT dX1_knowers_18  ?_
  exact ⟨sn (andn_mkn _ _), rfl⟩
set_option maxRecDepth 100000 in
set_option maxHeartbeats 4000000 in
theorem c_X1_heardBehind (l : Launch) (D : va_G) (cI : ClassId) (b0 b1 b2 b3 : Nat) (P Q : Nat) (kn : Nat → Nat) (p t : Nat) (hP : P ≤ 7) (hp : p < P) (ht : t < 10) : CT l yX1_heardBehind cX1_heardBehind 4 (some .int) { frames := 1, cells := 0, slots := 0, locals := 22 } D cI [.ref b0, .int (nI p), .int (nI t)] [(b0, .inr (1, [.int (nI P), .int (nI Q), .ref b1, .ref b2, .ref b3])), (b3, .inl (cI, 175, .inl (nIf kn)))] (fun zr zw => ((fs (fun h => Nat.testBit (kn (h * 7 + p)) t) 25 = none) ∧ zr = some (.int (-9)) ∧ zw = [(b0, .inr (1, [.int (nI P), .int (nI Q), .ref b1, .ref b2, .ref b3])), (b3, .inl (cI, 175, .inl (nIf kn)))]) ∨ (∃ v : Nat, (fs (fun h => Nat.testBit (kn (h * 7 + p)) t) 25 = some v) ∧ (v < 25) ∧ zr = some (.int (nI v)) ∧ zw = [(b0, .inr (1, [.int (nI P), .int (nI Q), .ref b1, .ref b2, .ref b3])), (b3, .inl (cI, 175, .inl (nIf kn)))])) := by
  refine CT_of RX1 rfl (by decide +kernel) (Nat.le_of_ble_eq_true rfl) (fun E hnE zC zT => ?_)
  have hA : ∀ q, (ev_s E).heap.size ≤ q → ev_A E q := fun q h => by rw [zT.2]; exact Or.inr h
  show VV E 0 0 0 [(0, .ref b0), (1, .int (nI p)), (2, .int (nI t))] [] [(b0, .inr (1, [.int (nI P), .int (nI Q), .ref b1, .ref b2, .ref b3])), (b3, .inl (cI, 175, .inl (nIf kn)))]
  refine v_ic (v := (nI 0)) 1 zC dX1_heardBehind_0 (by decide +kernel) ?_
  refine v_is_n (lv2 := [(3, .int (nI 0)), (0, .ref b0), (1, .int (nI p)), (2, .int (nI t))]) 2 zC dX1_heardBehind_1 (by rw [hnE]; decide) rfl ?_
  have lp2 : ∀ (mz : Nat) (h : Nat), (h ≤ 25) → (fs (fun h => Nat.testBit (kn (h * 7 + p)) t) h = none) → 25 - h = mz → VV E 0 0 2 [(3, .int (nI h)), (0, .ref b0), (1, .int (nI p)), (2, .int (nI t))] [] [(b0, .inr (1, [.int (nI P), .int (nI Q), .ref b1, .ref b2, .ref b3])), (b3, .inl (cI, 175, .inl (nIf kn)))] := by
    intro mz
    induction mz using Nat.strongRecOn with
    | _ mz ih2 =>
    intro h hh hq hm2
    refine v_il_n 3 zC dX1_heardBehind_2 0 rfl ?_
    refine v_bp (v := (nI 24)) 5 zC dX1_heardBehind_3 (by decide +kernel) ?_
    refine v_icmpn_gt 29 8 zC dX1_heardBehind_5 (fun h_1 => ?_) (fun h_1 => ?_)
    ·
      refine v_bp (v := (-9)) 31 zC dX1_heardBehind_29 (by decide +kernel) ?_
      refine v_iret zC zT dX1_heardBehind_31  ?_
      exact Or.inl ⟨by rw [show (25 : Nat) = h by omega]; exact hq, rfl, rfl⟩
    ·
      refine v_al_n 9 zC dX1_heardBehind_8 1 rfl ?_
      refine v_il_n 10 zC dX1_heardBehind_9 0 rfl ?_
      refine v_il_n 11 zC dX1_heardBehind_10 2 rfl ?_
      refine v_cV (As := [.int (nI h), .int (nI p)]) (st := []) 14 0 [0, 1] zC dX1_heardBehind_11 hA (c_X1_knownBehind (ev_l E) (ev_D E) cI (b0 := b0) (b1 := b1) (b2 := b2) (b3 := b3) (P := P) (Q := Q) (kn := kn) (h := h) (p := p) (hP := (by first | omega | assumption | rfl | (simp only []; omega) | decide)) (hh := (by first | omega | assumption | rfl | (simp only []; omega) | decide)) (hp := (by first | omega | assumption | rfl | (simp only []; omega) | decide))) cf_X1_knownBehind lk_X1_78 rfl rfl rfl rfl rfl (by decide +kernel) (Nat.le_of_ble_eq_true rfl) (fun rv_2 wv_3 hp_4 hm_5 => ?_)
      clear hm_5
      obtain ⟨rfl, rfl⟩ := hp_4
      show VV E 0 0 14 [(3, .int (nI h)), (0, .ref b0), (1, .int (nI p)), (2, .int (nI t))] [.int (nI (kn (h * 7 + p)))] [(b0, .inr (1, [.int (nI P), .int (nI Q), .ref b1, .ref b2, .ref b3])), (b3, .inl (cI, 175, .inl (nIf kn)))]
      refine v_il_n 15 zC dX1_heardBehind_14 3 rfl ?_
      refine v_ishr (v := ((nI (kn (h * 7 + p))) >>> (nI t))) 16 zC dX1_heardBehind_15 (sr_of (by omega)) ?_
      refine v_ic (v := (nI 1)) 17 zC dX1_heardBehind_16 (by decide +kernel) ?_
      refine v_iand (v := (bz (Nat.testBit (kn (h * 7 + p)) t))) 18 zC dX1_heardBehind_17 (tb_of _ (by omega)) ?_
      refine v_ifb_eq 23 21 zC dX1_heardBehind_18 (fun h_6 => ?_) (fun h_6 => ?_)
      ·
        refine v_inc (v := (nI (h + 1))) (lv2 := [(3, .int (nI (h + 1))), (0, .ref b0), (1, .int (nI p)), (2, .int (nI t))]) 26 zC dX1_heardBehind_23 (j := 0) rfl (nI_add _ 1) (by rw [hnE]; decide) rfl ?_
        refine v_goto 2 zC dX1_heardBehind_26 ?_
        refine v_lvs (lv2 := [(3, .int (nI (h + 1))), (0, .ref b0), (1, .int (nI p)), (2, .int (nI t))]) [0, 1, 2, 3] rfl ?_
        exact ih2 _ (by omega) (h + 1) (by first | omega | assumption | rfl | (simp only []; omega) | decide) (fs_0 hq (by assumption)) rfl
      ·
        refine v_il_n 22 zC dX1_heardBehind_21 0 rfl ?_
        refine v_iret zC zT dX1_heardBehind_22  ?_
        exact Or.inr ⟨_, fs_m (by omega) (fs_1 hq (by assumption)), by omega, rfl, rfl⟩
  refine v_lvs (lv2 := [(3, .int (nI 0)), (0, .ref b0), (1, .int (nI p)), (2, .int (nI t))]) [0, 1, 2, 3] rfl ?_
  exact lp2 _ 0 (by first | omega | assumption | rfl | (simp only []; omega) | decide) (by first | omega | assumption | rfl | (simp only []; omega) | decide) rfl
set_option maxRecDepth 100000 in
set_option maxHeartbeats 4000000 in
theorem c_X1_knownInAllBehind (l : Launch) (D : va_G) (cI : ClassId) (b0 b1 b2 b3 : Nat) (P Q : Nat) (kn : Nat → Nat) (h : Nat) (hP : P ≤ 7) (hh : h ≤ 24) (hK : ∀ z, kn z < 1024) : CT l yX1_knownInAllBehind cX1_knownInAllBehind 4 (some .int) { frames := 1, cells := 0, slots := 0, locals := 22 } D cI [.ref b0, .int (nI h)] [(b0, .inr (1, [.int (nI P), .int (nI Q), .ref b1, .ref b2, .ref b3])), (b3, .inl (cI, 175, .inl (nIf kn)))] (fun zr zw => (zr = some (.int (nI (sm (fun p => pcn (kn (h * 7 + p))) P))) ∧ zw = [(b0, .inr (1, [.int (nI P), .int (nI Q), .ref b1, .ref b2, .ref b3])), (b3, .inl (cI, 175, .inl (nIf kn)))])) := by
  refine CT_of RX1 rfl (by decide +kernel) (Nat.le_of_ble_eq_true rfl) (fun E hnE zC zT => ?_)
  have hA : ∀ q, (ev_s E).heap.size ≤ q → ev_A E q := fun q h => by rw [zT.2]; exact Or.inr h
  show VV E 0 0 0 [(0, .ref b0), (1, .int (nI h))] [] [(b0, .inr (1, [.int (nI P), .int (nI Q), .ref b1, .ref b2, .ref b3])), (b3, .inl (cI, 175, .inl (nIf kn)))]
  refine v_ic (v := (nI 0)) 1 zC dX1_knownInAllBehind_0 (by decide +kernel) ?_
  refine v_is_n (lv2 := [(2, .int (nI 0)), (0, .ref b0), (1, .int (nI h))]) 2 zC dX1_knownInAllBehind_1 (by rw [hnE]; decide) rfl ?_
  refine v_ic (v := (nI 0)) 3 zC dX1_knownInAllBehind_2 (by decide +kernel) ?_
  refine v_is_n (lv2 := [(3, .int (nI 0)), (2, .int (nI 0)), (0, .ref b0), (1, .int (nI h))]) 4 zC dX1_knownInAllBehind_3 (by rw [hnE]; decide) rfl ?_
  have lp4 : ∀ (mz : Nat) (x : Nat) (p : Nat), (x = sm (fun p => pcn (kn (h * 7 + p))) p) → (p ≤ P) → P - p = mz → VV E 0 0 4 [(3, .int (nI p)), (2, .int (nI x)), (0, .ref b0), (1, .int (nI h))] [] [(b0, .inr (1, [.int (nI P), .int (nI Q), .ref b1, .ref b2, .ref b3])), (b3, .inl (cI, 175, .inl (nIf kn)))] := by
    intro mz
    induction mz using Nat.strongRecOn with
    | _ mz ih4 =>
    intro x p hx hp hm4
    refine v_il_n 5 zC dX1_knownInAllBehind_4 0 rfl ?_
    refine v_al_n 6 zC dX1_knownInAllBehind_5 2 rfl ?_
    refine v_gf 9 0 zC dX1_knownInAllBehind_6 gf_X1_27 rfl rfl ?_
    refine v_icmpn_ge 30 12 zC dX1_knownInAllBehind_9 (fun h_1 => ?_) (fun h_1 => ?_)
    ·
      refine v_il_n 31 zC dX1_knownInAllBehind_30 1 rfl ?_
      refine v_iret zC zT dX1_knownInAllBehind_31  ?_
      exact ⟨sn (by rw [hx, show p = P by omega]), rfl⟩
    ·
      refine v_il_n 13 zC dX1_knownInAllBehind_12 1 rfl ?_
      refine v_al_n 14 zC dX1_knownInAllBehind_13 2 rfl ?_
      refine v_il_n 15 zC dX1_knownInAllBehind_14 3 rfl ?_
      refine v_il_n 16 zC dX1_knownInAllBehind_15 0 rfl ?_
      refine v_cV (As := [.int (nI h), .int (nI p)]) (st := [.int (nI x)]) 19 0 [0, 1] zC dX1_knownInAllBehind_16 hA (c_X1_knownBehind (ev_l E) (ev_D E) cI (b0 := b0) (b1 := b1) (b2 := b2) (b3 := b3) (P := P) (Q := Q) (kn := kn) (h := h) (p := p) (hP := (by first | omega | assumption | rfl | (simp only []; omega) | decide)) (hh := (by first | omega | assumption | rfl | (simp only []; omega) | decide)) (hp := (by first | omega | assumption | rfl | (simp only []; omega) | decide))) cf_X1_knownBehind lk_X1_78 rfl rfl rfl rfl rfl (by decide +kernel) (Nat.le_of_ble_eq_true rfl) (fun rv_2 wv_3 hp_4 hm_5 => ?_)
      clear hm_5
      obtain ⟨rfl, rfl⟩ := hp_4
      show VV E 0 0 19 [(3, .int (nI p)), (2, .int (nI x)), (0, .ref b0), (1, .int (nI h))] [.int (nI (kn (h * 7 + p))), .int (nI x)] [(b0, .inr (1, [.int (nI P), .int (nI Q), .ref b1, .ref b2, .ref b3])), (b3, .inl (cI, 175, .inl (nIf kn)))]
      refine v_cS (As := [.int (nI (kn (h * 7 + p)))]) (st := [.int (nI x)]) 22 [] zC dX1_knownInAllBehind_19 hA (c_J6_bitCount_0f7a4 (ev_l E) (ev_D E) cI (x := (kn (h * 7 + p))) (hx := (Nat.lt_trans (hK _) (by decide)))) cf_J6_bitCount_0f7a4 lk_X1_81 rfl rfl rfl (by decide +kernel) (Nat.le_of_ble_eq_true rfl) (fun rv_6 wv_7 hp_8 hm_9 => ?_)
      clear hm_9
      obtain ⟨rfl, rfl⟩ := hp_8
      show VV E 0 0 22 [(3, .int (nI p)), (2, .int (nI x)), (0, .ref b0), (1, .int (nI h))] [.int (nI (pcn (kn (h * 7 + p)))), .int (nI x)] [(b0, .inr (1, [.int (nI P), .int (nI Q), .ref b1, .ref b2, .ref b3])), (b3, .inl (cI, 175, .inl (nIf kn)))]
      refine v_iadd (v := (nI (x + (pcn (kn (h * 7 + p)))))) 23 zC dX1_knownInAllBehind_22 (nI_add _ _) ?_
      refine v_is_n (lv2 := [(2, .int (nI (x + (pcn (kn (h * 7 + p)))))), (3, .int (nI p)), (0, .ref b0), (1, .int (nI h))]) 24 zC dX1_knownInAllBehind_23 (by rw [hnE]; decide) rfl ?_
      refine v_inc (v := (nI (p + 1))) (lv2 := [(3, .int (nI (p + 1))), (2, .int (nI (x + (pcn (kn (h * 7 + p)))))), (0, .ref b0), (1, .int (nI h))]) 27 zC dX1_knownInAllBehind_24 (j := 1) rfl (nI_add _ 1) (by rw [hnE]; decide) rfl ?_
      refine v_goto 4 zC dX1_knownInAllBehind_27 ?_
      refine v_lvs (lv2 := [(3, .int (nI (p + 1))), (2, .int (nI (x + (pcn (kn (h * 7 + p)))))), (0, .ref b0), (1, .int (nI h))]) [0, 1, 2, 3] rfl ?_
      exact ih4 _ (by omega) (x + (pcn (kn (h * 7 + p)))) (p + 1) (by rw [hx]; rfl) (by first | omega | assumption | rfl | (simp only []; omega) | decide) rfl
  refine v_lvs (lv2 := [(3, .int (nI 0)), (2, .int (nI 0)), (0, .ref b0), (1, .int (nI h))]) [0, 1, 2, 3] rfl ?_
  exact lp4 _ 0 0 (by first | omega | assumption | rfl | (simp only []; omega) | decide) (by first | omega | assumption | rfl | (simp only []; omega) | decide) rfl
set_option maxRecDepth 100000 in
set_option maxHeartbeats 4000000 in
theorem c_X1_knownTogether (l : Launch) (D : va_G) (cI : ClassId) (b0 b1 b2 b3 : Nat) (P Q : Nat) (kn : Nat → Nat) (s : Nat) (hP : P ≤ 7) (hs : s < 128) : CT l yX1_knownTogether cX1_knownTogether 4 (some .int) { frames := 1, cells := 0, slots := 0, locals := 22 } D cI [.ref b0, .int (nI s)] [(b0, .inr (1, [.int (nI P), .int (nI Q), .ref b1, .ref b2, .ref b3])), (b3, .inl (cI, 175, .inl (nIf kn)))] (fun zr zw => (zr = some (.int (nI (orn (fun p => if Nat.testBit s p = true then kn (24 * 7 + p) else 0) P))) ∧ zw = [(b0, .inr (1, [.int (nI P), .int (nI Q), .ref b1, .ref b2, .ref b3])), (b3, .inl (cI, 175, .inl (nIf kn)))])) := by
  refine CT_of RX1 rfl (by decide +kernel) (Nat.le_of_ble_eq_true rfl) (fun E hnE zC zT => ?_)
  have hA : ∀ q, (ev_s E).heap.size ≤ q → ev_A E q := fun q h => by rw [zT.2]; exact Or.inr h
  show VV E 0 0 0 [(0, .ref b0), (1, .int (nI s))] [] [(b0, .inr (1, [.int (nI P), .int (nI Q), .ref b1, .ref b2, .ref b3])), (b3, .inl (cI, 175, .inl (nIf kn)))]
  refine v_ic (v := (nI 0)) 1 zC dX1_knownTogether_0 (by decide +kernel) ?_
  refine v_is_n (lv2 := [(2, .int (nI 0)), (0, .ref b0), (1, .int (nI s))]) 2 zC dX1_knownTogether_1 (by rw [hnE]; decide) rfl ?_
  refine v_ic (v := (nI 0)) 3 zC dX1_knownTogether_2 (by decide +kernel) ?_
  refine v_is_n (lv2 := [(3, .int (nI 0)), (2, .int (nI 0)), (0, .ref b0), (1, .int (nI s))]) 4 zC dX1_knownTogether_3 (by rw [hnE]; decide) rfl ?_
  have lp4 : ∀ (mz : Nat) (x : Nat) (p : Nat), (x = orn (fun p => if Nat.testBit s p = true then kn (24 * 7 + p) else 0) p) → (p ≤ P) → P - p = mz → VV E 0 0 4 [(3, .int (nI p)), (2, .int (nI x)), (0, .ref b0), (1, .int (nI s))] [] [(b0, .inr (1, [.int (nI P), .int (nI Q), .ref b1, .ref b2, .ref b3])), (b3, .inl (cI, 175, .inl (nIf kn)))] := by
    intro mz
    induction mz using Nat.strongRecOn with
    | _ mz ih4 =>
    intro x p hx hp hm4
    refine v_il_n 5 zC dX1_knownTogether_4 0 rfl ?_
    refine v_al_n 6 zC dX1_knownTogether_5 2 rfl ?_
    refine v_gf 9 0 zC dX1_knownTogether_6 gf_X1_27 rfl rfl ?_
    refine v_icmpn_ge 36 12 zC dX1_knownTogether_9 (fun h_1 => ?_) (fun h_1 => ?_)
    ·
      refine v_il_n 37 zC dX1_knownTogether_36 1 rfl ?_
      refine v_iret zC zT dX1_knownTogether_37  ?_
      exact ⟨sn (by rw [hx, show p = P by omega]), rfl⟩
    ·
      refine v_il_n 13 zC dX1_knownTogether_12 3 rfl ?_
      refine v_il_n 14 zC dX1_knownTogether_13 0 rfl ?_
      refine v_ishr (v := ((nI s) >>> (nI p))) 15 zC dX1_knownTogether_14 (sr_of (by omega)) ?_
      refine v_ic (v := (nI 1)) 16 zC dX1_knownTogether_15 (by decide +kernel) ?_
      refine v_iand (v := (bz (Nat.testBit s p))) 17 zC dX1_knownTogether_16 (tb_of _ (by omega)) ?_
      refine v_ifb_eq 30 20 zC dX1_knownTogether_17 (fun h_2 => ?_) (fun h_2 => ?_)
      ·
        refine v_inc (v := (nI (p + 1))) (lv2 := [(3, .int (nI (p + 1))), (2, .int (nI x)), (0, .ref b0), (1, .int (nI s))]) 33 zC dX1_knownTogether_30 (j := 0) rfl (nI_add _ 1) (by rw [hnE]; decide) rfl ?_
        refine v_goto 4 zC dX1_knownTogether_33 ?_
        refine v_lvs (lv2 := [(3, .int (nI (p + 1))), (2, .int (nI x)), (0, .ref b0), (1, .int (nI s))]) [0, 1, 2, 3] rfl ?_
        exact ih4 _ (by omega) x (p + 1) (by rw [hx]; simp [orn, *]) (by first | omega | assumption | rfl | (simp only []; omega) | decide) rfl
      ·
        refine v_il_n 21 zC dX1_knownTogether_20 1 rfl ?_
        refine v_al_n 22 zC dX1_knownTogether_21 2 rfl ?_
        refine v_bp (v := (nI 24)) 24 zC dX1_knownTogether_22 (by decide +kernel) ?_
        refine v_il_n 25 zC dX1_knownTogether_24 0 rfl ?_
        refine v_cV (As := [.int (nI 24), .int (nI p)]) (st := [.int (nI x)]) 28 0 [0, 1] zC dX1_knownTogether_25 hA (c_X1_knownBehind (ev_l E) (ev_D E) cI (b0 := b0) (b1 := b1) (b2 := b2) (b3 := b3) (P := P) (Q := Q) (kn := kn) (h := 24) (p := p) (hP := (by first | omega | assumption | rfl | (simp only []; omega) | decide)) (hh := (by first | omega | assumption | rfl | (simp only []; omega) | decide)) (hp := (by first | omega | assumption | rfl | (simp only []; omega) | decide))) cf_X1_knownBehind lk_X1_78 rfl rfl rfl rfl rfl (by decide +kernel) (Nat.le_of_ble_eq_true rfl) (fun rv_3 wv_4 hp_5 hm_6 => ?_)
        clear hm_6
        obtain ⟨rfl, rfl⟩ := hp_5
        show VV E 0 0 28 [(3, .int (nI p)), (2, .int (nI x)), (0, .ref b0), (1, .int (nI s))] [.int (nI (kn (24 * 7 + p))), .int (nI x)] [(b0, .inr (1, [.int (nI P), .int (nI Q), .ref b1, .ref b2, .ref b3])), (b3, .inl (cI, 175, .inl (nIf kn)))]
        refine v_ior (v := (nI (x ||| (kn (24 * 7 + p))))) 29 zC dX1_knownTogether_28 (fa_or _ _) ?_
        refine v_is_n (lv2 := [(2, .int (nI (x ||| (kn (24 * 7 + p))))), (3, .int (nI p)), (0, .ref b0), (1, .int (nI s))]) 30 zC dX1_knownTogether_29 (by rw [hnE]; decide) rfl ?_
        refine v_inc (v := (nI (p + 1))) (lv2 := [(3, .int (nI (p + 1))), (2, .int (nI (x ||| (kn (24 * 7 + p))))), (0, .ref b0), (1, .int (nI s))]) 33 zC dX1_knownTogether_30 (j := 1) rfl (nI_add _ 1) (by rw [hnE]; decide) rfl ?_
        refine v_goto 4 zC dX1_knownTogether_33 ?_
        refine v_lvs (lv2 := [(3, .int (nI (p + 1))), (2, .int (nI (x ||| (kn (24 * 7 + p))))), (0, .ref b0), (1, .int (nI s))]) [0, 1, 2, 3] rfl ?_
        exact ih4 _ (by omega) (x ||| (kn (24 * 7 + p))) (p + 1) (by rw [hx]; simp [orn, *]) (by first | omega | assumption | rfl | (simp only []; omega) | decide) rfl
  refine v_lvs (lv2 := [(3, .int (nI 0)), (2, .int (nI 0)), (0, .ref b0), (1, .int (nI s))]) [0, 1, 2, 3] rfl ?_
  exact lp4 _ 0 0 (by first | omega | assumption | rfl | (simp only []; omega) | decide) (by first | omega | assumption | rfl | (simp only []; omega) | decide) rfl
set_option maxRecDepth 100000 in
set_option maxHeartbeats 4000000 in
theorem c_X1_knownToEach (l : Launch) (D : va_G) (cI : ClassId) (b0 b1 b2 b3 : Nat) (P Q : Nat) (kn : Nat → Nat) (hP : P ≤ 7) : CT l yX1_knownToEach cX1_knownToEach 3 (some .int) { frames := 1, cells := 0, slots := 0, locals := 22 } D cI [.ref b0] [(b0, .inr (1, [.int (nI P), .int (nI Q), .ref b1, .ref b2, .ref b3])), (b3, .inl (cI, 175, .inl (nIf kn)))] (fun zr zw => (zr = some (.int (nI (if P = 0 then 0 else ann (fun p => kn (24 * 7 + p)) P))) ∧ zw = [(b0, .inr (1, [.int (nI P), .int (nI Q), .ref b1, .ref b2, .ref b3])), (b3, .inl (cI, 175, .inl (nIf kn)))])) := by
  refine CT_of RX1 rfl (by decide +kernel) (Nat.le_of_ble_eq_true rfl) (fun E hnE zC zT => ?_)
  have hA : ∀ q, (ev_s E).heap.size ≤ q → ev_A E q := fun q h => by rw [zT.2]; exact Or.inr h
  show VV E 0 0 0 [(0, .ref b0)] [] [(b0, .inr (1, [.int (nI P), .int (nI Q), .ref b1, .ref b2, .ref b3])), (b3, .inl (cI, 175, .inl (nIf kn)))]
  refine v_al_n 1 zC dX1_knownToEach_0 0 rfl ?_
  refine v_gf 4 0 zC dX1_knownToEach_1 gf_X1_27 rfl rfl ?_
  refine v_ifn_le 13 7 zC dX1_knownToEach_4 (fun h_1 => ?_) (fun h_1 => ?_)
  ·
    refine v_ic (v := (nI 0)) 14 zC dX1_knownToEach_13 (by decide +kernel) ?_
    refine v_is_n (lv2 := [(1, .int (nI 0)), (0, .ref b0)]) 15 zC dX1_knownToEach_14 (by rw [hnE]; decide) rfl ?_
    refine v_ic (v := (nI 0)) 16 zC dX1_knownToEach_15 (by decide +kernel) ?_
    refine v_is_n (lv2 := [(2, .int (nI 0)), (1, .int (nI 0)), (0, .ref b0)]) 17 zC dX1_knownToEach_16 (by rw [hnE]; decide) rfl ?_
    have lp17 : ∀ (mz : Nat) (x : Nat) (p : Nat), (x = if P = 0 then 0 else ann (fun p => kn (24 * 7 + p)) p) → (p ≤ P) → P - p = mz → VV E 0 0 17 [(2, .int (nI p)), (1, .int (nI x)), (0, .ref b0)] [] [(b0, .inr (1, [.int (nI P), .int (nI Q), .ref b1, .ref b2, .ref b3])), (b3, .inl (cI, 175, .inl (nIf kn)))] := by
      intro mz
      induction mz using Nat.strongRecOn with
      | _ mz ih17 =>
      intro x p hx hp hm17
      refine v_il_n 18 zC dX1_knownToEach_17 0 rfl ?_
      refine v_al_n 19 zC dX1_knownToEach_18 2 rfl ?_
      refine v_gf 22 0 zC dX1_knownToEach_19 gf_X1_27 rfl rfl ?_
      refine v_icmpn_ge 41 25 zC dX1_knownToEach_22 (fun h_2 => ?_) (fun h_2 => ?_)
      ·
        refine v_il_n 42 zC dX1_knownToEach_41 1 rfl ?_
        refine v_iret zC zT dX1_knownToEach_42  ?_
        exact ⟨sn (by rw [hx, show p = P by omega]), rfl⟩
      ·
        refine v_il_n 26 zC dX1_knownToEach_25 1 rfl ?_
        refine v_al_n 27 zC dX1_knownToEach_26 2 rfl ?_
        refine v_bp (v := (nI 24)) 29 zC dX1_knownToEach_27 (by decide +kernel) ?_
        refine v_il_n 30 zC dX1_knownToEach_29 0 rfl ?_
        refine v_cV (As := [.int (nI 24), .int (nI p)]) (st := [.int (nI x)]) 33 0 [0, 1] zC dX1_knownToEach_30 hA (c_X1_knownBehind (ev_l E) (ev_D E) cI (b0 := b0) (b1 := b1) (b2 := b2) (b3 := b3) (P := P) (Q := Q) (kn := kn) (h := 24) (p := p) (hP := (by first | omega | assumption | rfl | (simp only []; omega) | decide)) (hh := (by first | omega | assumption | rfl | (simp only []; omega) | decide)) (hp := (by first | omega | assumption | rfl | (simp only []; omega) | decide))) cf_X1_knownBehind lk_X1_78 rfl rfl rfl rfl rfl (by decide +kernel) (Nat.le_of_ble_eq_true rfl) (fun rv_3 wv_4 hp_5 hm_6 => ?_)
        clear hm_6
        obtain ⟨rfl, rfl⟩ := hp_5
        show VV E 0 0 33 [(2, .int (nI p)), (1, .int (nI x)), (0, .ref b0)] [.int (nI (kn (24 * 7 + p))), .int (nI x)] [(b0, .inr (1, [.int (nI P), .int (nI Q), .ref b1, .ref b2, .ref b3])), (b3, .inl (cI, 175, .inl (nIf kn)))]
        refine v_iand (v := (nI (x &&& (kn (24 * 7 + p))))) 34 zC dX1_knownToEach_33 (fa_and _ _) ?_
        refine v_is_n (lv2 := [(1, .int (nI (x &&& (kn (24 * 7 + p))))), (2, .int (nI p)), (0, .ref b0)]) 35 zC dX1_knownToEach_34 (by rw [hnE]; decide) rfl ?_
        refine v_inc (v := (nI (p + 1))) (lv2 := [(2, .int (nI (p + 1))), (1, .int (nI (x &&& (kn (24 * 7 + p))))), (0, .ref b0)]) 38 zC dX1_knownToEach_35 (j := 1) rfl (nI_add _ 1) (by rw [hnE]; decide) rfl ?_
        refine v_goto 17 zC dX1_knownToEach_38 ?_
        refine v_lvs (lv2 := [(2, .int (nI (p + 1))), (1, .int (nI (x &&& (kn (24 * 7 + p))))), (0, .ref b0)]) [0, 1, 2] rfl ?_
        exact ih17 _ (by omega) (x &&& (kn (24 * 7 + p))) (p + 1) (by rw [hx, if_neg (by omega), if_neg (by omega)]; rfl) (by first | omega | assumption | rfl | (simp only []; omega) | decide) rfl
    refine v_lvs (lv2 := [(2, .int (nI 0)), (1, .int (nI 0)), (0, .ref b0)]) [0, 1, 2] rfl ?_
    exact lp17 _ 0 0 (by first | exact (if_pos (by omega)).symm | exact (if_neg (by omega)).symm) (by first | omega | assumption | rfl | (simp only []; omega) | decide) rfl
  ·
    refine v_sp (v := (nI 1023)) 10 zC dX1_knownToEach_7 (by decide +kernel) ?_
    refine v_goto 14 zC dX1_knownToEach_10 ?_
    refine v_is_n (lv2 := [(1, .int (nI 1023)), (0, .ref b0)]) 15 zC dX1_knownToEach_14 (by rw [hnE]; decide) rfl ?_
    refine v_ic (v := (nI 0)) 16 zC dX1_knownToEach_15 (by decide +kernel) ?_
    refine v_is_n (lv2 := [(2, .int (nI 0)), (1, .int (nI 1023)), (0, .ref b0)]) 17 zC dX1_knownToEach_16 (by rw [hnE]; decide) rfl ?_
    have lp17 : ∀ (mz : Nat) (x : Nat) (p : Nat), (x = if P = 0 then 0 else ann (fun p => kn (24 * 7 + p)) p) → (p ≤ P) → P - p = mz → VV E 0 0 17 [(2, .int (nI p)), (1, .int (nI x)), (0, .ref b0)] [] [(b0, .inr (1, [.int (nI P), .int (nI Q), .ref b1, .ref b2, .ref b3])), (b3, .inl (cI, 175, .inl (nIf kn)))] := by
      intro mz
      induction mz using Nat.strongRecOn with
      | _ mz ih17 =>
      intro x p hx hp hm17
      refine v_il_n 18 zC dX1_knownToEach_17 0 rfl ?_
      refine v_al_n 19 zC dX1_knownToEach_18 2 rfl ?_
      refine v_gf 22 0 zC dX1_knownToEach_19 gf_X1_27 rfl rfl ?_
      refine v_icmpn_ge 41 25 zC dX1_knownToEach_22 (fun h_7 => ?_) (fun h_7 => ?_)
      ·
        refine v_il_n 42 zC dX1_knownToEach_41 1 rfl ?_
        refine v_iret zC zT dX1_knownToEach_42  ?_
        exact ⟨sn (by rw [hx, show p = P by omega]), rfl⟩
      ·
        refine v_il_n 26 zC dX1_knownToEach_25 1 rfl ?_
        refine v_al_n 27 zC dX1_knownToEach_26 2 rfl ?_
        refine v_bp (v := (nI 24)) 29 zC dX1_knownToEach_27 (by decide +kernel) ?_
        refine v_il_n 30 zC dX1_knownToEach_29 0 rfl ?_
        refine v_cV (As := [.int (nI 24), .int (nI p)]) (st := [.int (nI x)]) 33 0 [0, 1] zC dX1_knownToEach_30 hA (c_X1_knownBehind (ev_l E) (ev_D E) cI (b0 := b0) (b1 := b1) (b2 := b2) (b3 := b3) (P := P) (Q := Q) (kn := kn) (h := 24) (p := p) (hP := (by first | omega | assumption | rfl | (simp only []; omega) | decide)) (hh := (by first | omega | assumption | rfl | (simp only []; omega) | decide)) (hp := (by first | omega | assumption | rfl | (simp only []; omega) | decide))) cf_X1_knownBehind lk_X1_78 rfl rfl rfl rfl rfl (by decide +kernel) (Nat.le_of_ble_eq_true rfl) (fun rv_8 wv_9 hp_10 hm_11 => ?_)
        clear hm_11
        obtain ⟨rfl, rfl⟩ := hp_10
        show VV E 0 0 33 [(2, .int (nI p)), (1, .int (nI x)), (0, .ref b0)] [.int (nI (kn (24 * 7 + p))), .int (nI x)] [(b0, .inr (1, [.int (nI P), .int (nI Q), .ref b1, .ref b2, .ref b3])), (b3, .inl (cI, 175, .inl (nIf kn)))]
        refine v_iand (v := (nI (x &&& (kn (24 * 7 + p))))) 34 zC dX1_knownToEach_33 (fa_and _ _) ?_
        refine v_is_n (lv2 := [(1, .int (nI (x &&& (kn (24 * 7 + p))))), (2, .int (nI p)), (0, .ref b0)]) 35 zC dX1_knownToEach_34 (by rw [hnE]; decide) rfl ?_
        refine v_inc (v := (nI (p + 1))) (lv2 := [(2, .int (nI (p + 1))), (1, .int (nI (x &&& (kn (24 * 7 + p))))), (0, .ref b0)]) 38 zC dX1_knownToEach_35 (j := 1) rfl (nI_add _ 1) (by rw [hnE]; decide) rfl ?_
        refine v_goto 17 zC dX1_knownToEach_38 ?_
        refine v_lvs (lv2 := [(2, .int (nI (p + 1))), (1, .int (nI (x &&& (kn (24 * 7 + p))))), (0, .ref b0)]) [0, 1, 2] rfl ?_
        exact ih17 _ (by omega) (x &&& (kn (24 * 7 + p))) (p + 1) (by rw [hx, if_neg (by omega), if_neg (by omega)]; rfl) (by first | omega | assumption | rfl | (simp only []; omega) | decide) rfl
    refine v_lvs (lv2 := [(2, .int (nI 0)), (1, .int (nI 1023)), (0, .ref b0)]) [0, 1, 2] rfl ?_
    exact lp17 _ 1023 0 (by first | exact (if_pos (by omega)).symm | exact (if_neg (by omega)).symm) (by first | omega | assumption | rfl | (simp only []; omega) | decide) rfl
set_option maxRecDepth 100000 in
set_option maxHeartbeats 4000000 in
theorem c_X1_leaveKnown (l : Launch) (D : va_G) (cI : ClassId) (b0 b1 b2 b3 : Nat) (P Q : Nat) (a0 a1 a2 a3 a4 a5 a6 : Nat) (n m sh aw : Nat) (kn fa : Nat → Nat)  : CT l yX1_leaveKnown cX1_leaveKnown 2 none { frames := 1, cells := 0, slots := 0, locals := 40 } D cI [.ref b0, .ref a0] [(b0, .inr (1, [.int (nI P), .int (nI Q), .ref b1, .ref b2, .ref b3])), (b3, .inl (cI, 175, .inl (nIf kn))), (a0, .inr (2, [.int (nI n), .int (nI m), .int (nI sh), .int (nI aw), .ref a1, .ref a2, .ref a3, .ref a4, .ref a5, .ref a6])), (a3, .inl (cI, 7, .inl (nIf fa)))] (fun zr zw => (zr = none ∧ zw = [(b0, .inr (1, [.int (nI P), .int (nI Q), .ref b1, .ref b2, .ref b3])), (b3, .inl (cI, 175, .inl (nIf kn))), (a0, .inr (2, [.int (nI n), .int (nI m), .int (nI sh), .int (nI aw), .ref a1, .ref a2, .ref a3, .ref a4, .ref a5, .ref a6])), (a3, .inl (cI, 7, .inl (nIf (va_cpy kn fa 168 0 7))))])) := by
  refine CT_of RX1 rfl (by decide +kernel) (Nat.le_of_ble_eq_true rfl) (fun E hnE zC zT => ?_)
  have hA : ∀ q, (ev_s E).heap.size ≤ q → ev_A E q := fun q h => by rw [zT.2]; exact Or.inr h
  show VV E 0 0 0 [(0, .ref b0), (1, .ref a0)] [] [(b0, .inr (1, [.int (nI P), .int (nI Q), .ref b1, .ref b2, .ref b3])), (b3, .inl (cI, 175, .inl (nIf kn))), (a0, .inr (2, [.int (nI n), .int (nI m), .int (nI sh), .int (nI aw), .ref a1, .ref a2, .ref a3, .ref a4, .ref a5, .ref a6])), (a3, .inl (cI, 7, .inl (nIf fa)))]
  refine v_al_n 1 zC dX1_leaveKnown_0 0 rfl ?_
  refine v_gf 4 0 zC dX1_leaveKnown_1 gf_X1_18 rfl rfl ?_
  refine v_sp (v := (nI 168)) 7 zC dX1_leaveKnown_4 (by decide +kernel) ?_
  refine v_al_n 8 zC dX1_leaveKnown_7 1 rfl ?_
  refine v_gf 11 2 zC dX1_leaveKnown_8 gf_X1_32 rfl rfl ?_
  refine v_ic (v := (nI 0)) 12 zC dX1_leaveKnown_11 (by decide +kernel) ?_
  refine v_bp (v := (nI 7)) 14 zC dX1_leaveKnown_12 (by decide +kernel) ?_
  refine v_cpy (ws2 := [(b0, .inr (1, [.int (nI P), .int (nI Q), .ref b1, .ref b2, .ref b3])), (b3, .inl (cI, 175, .inl (nIf kn))), (a0, .inr (2, [.int (nI n), .int (nI m), .int (nI sh), .int (nI aw), .ref a1, .ref a2, .ref a3, .ref a4, .ref a5, .ref a6])), (a3, .inl (cI, 7, .inl (nIf (va_cpy kn fa 168 0 7))))]) (hsp := (by decide)) (hdp := (by decide)) (hm := (by decide)) 17 1 3 zC dX1_leaveKnown_14 ac_X1_35 ac_n ac_s ac_i rfl rfl (by omega) (by omega) ⟨Nat.le_of_ble_eq_true rfl, Nat.le_of_ble_eq_true rfl⟩ (by rw [cpy_nIf]; first | done | rfl) ?_
  refine v_vret zC zT dX1_leaveKnown_17  ?_
  first | exact ⟨rfl, rfl⟩ | exact ⟨sb1 (by assumption), rfl⟩ | exact ⟨sb0 (by assumption), rfl⟩ | (exfalso; omega) | exact ⟨sb1 (by simp [*]), rfl⟩ | exact ⟨sb0 (by simp [*]), rfl⟩
set_option maxRecDepth 100000 in
set_option maxHeartbeats 4000000 in
theorem c_X1_twoThroughOne (l : Launch) (D : va_G) (cI : ClassId) (b0 b1 b2 b3 : Nat) (P Q : Nat) (M : Nat → Option Nat) (h : Nat) (hP : P ≤ 7) (hQ : Q ≤ 6) (hh : h < 24) (hM : ∀ z v, M z = some v → v < 7) : CT l yX1_twoThroughOne cX1_twoThroughOne 3 (some .boolean) { frames := 2, cells := 0, slots := 0, locals := 46 } D cI [.ref b0, .int (nI h)] [(b0, .inr (1, [.int (nI P), .int (nI Q), .ref b1, .ref b2, .ref b3])), (b2, .inl (cI, 144, .inl (mIf M)))] (fun zr zw => (zr = some (.int (bz (anb (fun p => decide (2 ≤ pcn (mkn (fun d => M (h * 6 + d) == some p) Q))) P))) ∧ zw = [(b0, .inr (1, [.int (nI P), .int (nI Q), .ref b1, .ref b2, .ref b3])), (b2, .inl (cI, 144, .inl (mIf M)))])) := by
  refine CT_of RX1 rfl (by decide +kernel) (Nat.le_of_ble_eq_true rfl) (fun E hnE zC zT => ?_)
  have hA : ∀ q, (ev_s E).heap.size ≤ q → ev_A E q := fun q h => by rw [zT.2]; exact Or.inr h
  show VV E 0 0 0 [(0, .ref b0), (1, .int (nI h))] [] [(b0, .inr (1, [.int (nI P), .int (nI Q), .ref b1, .ref b2, .ref b3])), (b2, .inl (cI, 144, .inl (mIf M)))]
  refine v_ic (v := (nI 0)) 1 zC dX1_twoThroughOne_0 (by decide +kernel) ?_
  refine v_is_n (lv2 := [(2, .int (nI 0)), (0, .ref b0), (1, .int (nI h))]) 2 zC dX1_twoThroughOne_1 (by rw [hnE]; decide) rfl ?_
  have lp2 : ∀ (mz : Nat) (p : Nat), (p ≤ P) → (anb (fun p => decide (2 ≤ pcn (mkn (fun d => M (h * 6 + d) == some p) Q))) p = false) → P - p = mz → VV E 0 0 2 [(2, .int (nI p)), (0, .ref b0), (1, .int (nI h))] [] [(b0, .inr (1, [.int (nI P), .int (nI Q), .ref b1, .ref b2, .ref b3])), (b2, .inl (cI, 144, .inl (mIf M)))] := by
    intro mz
    induction mz using Nat.strongRecOn with
    | _ mz ih2 =>
    intro p hp hq hm2
    refine v_il_n 3 zC dX1_twoThroughOne_2 0 rfl ?_
    refine v_al_n 4 zC dX1_twoThroughOne_3 1 rfl ?_
    refine v_gf 7 0 zC dX1_twoThroughOne_4 gf_X1_27 rfl rfl ?_
    refine v_icmpn_ge 31 10 zC dX1_twoThroughOne_7 (fun h_1 => ?_) (fun h_1 => ?_)
    ·
      refine v_ic (v := (nI 0)) 32 zC dX1_twoThroughOne_31 (by decide +kernel) ?_
      refine v_zret zC zT dX1_twoThroughOne_32 (by decide +kernel) ?_
      exact ⟨sb0 (by rw [show P = p by omega]; exact hq), rfl⟩
    ·
      refine v_al_n 11 zC dX1_twoThroughOne_10 1 rfl ?_
      refine v_il_n 12 zC dX1_twoThroughOne_11 0 rfl ?_
      refine v_il_n 13 zC dX1_twoThroughOne_12 2 rfl ?_
      refine v_cV (As := [.int (nI p), .int (nI h)]) (st := []) 16 0 [0, 1] zC dX1_twoThroughOne_13 hA (c_X1_speakersThrough (ev_l E) (ev_D E) cI (b0 := b0) (b1 := b1) (b2 := b2) (b3 := b3) (P := P) (Q := Q) (M := M) (v := p) (h := h) (hQ := (by first | omega | assumption | rfl | (simp only []; omega) | decide)) (hv := (by first | omega | assumption | rfl | (simp only []; omega) | decide)) (hh := (by first | omega | assumption | rfl | (simp only []; omega) | decide)) (hM := (by first | omega | assumption | rfl | (simp only []; omega) | decide))) cf_X1_speakersThrough lk_X1_89 rfl rfl rfl rfl rfl (by decide +kernel) (Nat.le_of_ble_eq_true rfl) (fun rv_2 wv_3 hp_4 hm_5 => ?_)
      clear hm_5
      obtain ⟨rfl, rfl⟩ := hp_4
      show VV E 0 0 16 [(2, .int (nI p)), (0, .ref b0), (1, .int (nI h))] [.int (nI (mkn (fun d => M (h * 6 + d) == some p) Q))] [(b0, .inr (1, [.int (nI P), .int (nI Q), .ref b1, .ref b2, .ref b3])), (b2, .inl (cI, 144, .inl (mIf M)))]
      have hmk := mkn_lt (fun d => M (h * 6 + d) == some p) Q
      refine v_cS (As := [.int (nI (mkn (fun d => M (h * 6 + d) == some p) Q))]) (st := []) 19 [] zC dX1_twoThroughOne_16 hA (c_J6_bitCount_0f7a4 (ev_l E) (ev_D E) cI (x := (mkn (fun d => M (h * 6 + d) == some p) Q)) (hx := (Nat.lt_of_lt_of_le (mkn_lt _ _) (Nat.pow_le_pow_right (by decide) (by omega))))) cf_J6_bitCount_0f7a4 lk_X1_81 rfl rfl rfl (by decide +kernel) (Nat.le_of_ble_eq_true rfl) (fun rv_6 wv_7 hp_8 hm_9 => ?_)
      clear hm_9
      obtain ⟨rfl, rfl⟩ := hp_8
      show VV E 0 0 19 [(2, .int (nI p)), (0, .ref b0), (1, .int (nI h))] [.int (nI (pcn (mkn (fun d => M (h * 6 + d) == some p) Q)))] [(b0, .inr (1, [.int (nI P), .int (nI Q), .ref b1, .ref b2, .ref b3])), (b2, .inl (cI, 144, .inl (mIf M)))]
      have hpl := pcn_k _ _ hmk
      refine v_ic (v := (nI 2)) 20 zC dX1_twoThroughOne_19 (by decide +kernel) ?_
      refine v_icmpn_lt 25 23 zC dX1_twoThroughOne_20 (fun h_10 => ?_) (fun h_10 => ?_)
      ·
        refine v_inc (v := (nI (p + 1))) (lv2 := [(2, .int (nI (p + 1))), (0, .ref b0), (1, .int (nI h))]) 28 zC dX1_twoThroughOne_25 (j := 0) rfl (nI_add _ 1) (by rw [hnE]; decide) rfl ?_
        refine v_goto 2 zC dX1_twoThroughOne_28 ?_
        refine v_lvs (lv2 := [(2, .int (nI (p + 1))), (0, .ref b0), (1, .int (nI h))]) [0, 1, 2] rfl ?_
        exact ih2 _ (by omega) (p + 1) (by first | omega | assumption | rfl | (simp only []; omega) | decide) (anb_0 hq (decide_eq_false (Nat.not_le.mpr (by omega)))) rfl
      ·
        refine v_ic (v := (nI 1)) 24 zC dX1_twoThroughOne_23 (by decide +kernel) ?_
        refine v_zret zC zT dX1_twoThroughOne_24 (by decide +kernel) ?_
        exact ⟨sb1 (anb_m (decide_eq_true (by omega)) (by omega)), rfl⟩
  refine v_lvs (lv2 := [(2, .int (nI 0)), (0, .ref b0), (1, .int (nI h))]) [0, 1, 2] rfl ?_
  exact lp2 _ 0 (by first | omega | assumption | rfl | (simp only []; omega) | decide) (by first | omega | assumption | rfl | (simp only []; omega) | decide) rfl
