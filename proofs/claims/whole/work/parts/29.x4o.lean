/-! lists, lots, chances -/
theorem mx_o {a b : Option Nat} (ha : ∀ v, a = some v → v < 2 ^ 31) (hb : ∀ v, b = some v → v < 2 ^ 31) : (if mI a < mI b then mI b else mI a) = mI (mxO a b) := by
  cases a with
  | none => cases b with
    | none => split <;> rfl
    | some v => rw [if_pos (Int32.lt_iff_toInt_lt.mpr (by
        show (-9 : Int32).toInt < (nI v).toInt
        rw [nI_toInt (hb v rfl), show (-9 : Int32).toInt = -9 from rfl]
        omega))]; rfl
  | some x => cases b with
    | none => rw [if_neg (fun h => by
        have h2 := Int32.lt_iff_toInt_lt.mp h
        have e1 : (mI (some x)).toInt = (x : Int) := nI_toInt (ha x rfl)
        have e2 : (mI none).toInt = -9 := rfl
        rw [e1, e2] at h2
        omega)]; rfl
    | some v =>
      have e1 : mI (some x) = nI x := rfl
      have e2 : mI (some v) = nI v := rfl
      rw [e1, e2]
      unfold mxO
      dsimp only
      by_cases c : x < v
      · rw [if_pos ((nI_ltI (ha x rfl) (hb v rfl)).mpr c), if_pos c]; rfl
      · rw [if_neg (fun h => c ((nI_ltI (ha x rfl) (hb v rfl)).mp h)), if_neg c]; rfl
theorem mxo_lt {a b : Option Nat} {N : Nat} (ha : ∀ v, a = some v → v < N) (hb : ∀ v, b = some v → v < N) : ∀ v, mxO a b = some v → v < N := by
  intro v e
  cases a with
  | none => exact hb v e
  | some x => cases b with
    | none => exact ha v e
    | some y =>
      unfold mxO at e
      dsimp only at e
      split at e
      · exact hb v e
      · exact ha v e
section VMM
variable {E : EV} {cc : ByteArray} {own : String} {ret : Option FieldType} {cI : ClassId} {rm : Room} {k n pc : Nat} {lv : List (Nat × Value)} {st : List Value} {ws : va_W}
theorem v_mmax {index : Nat} {x y v : Int32} (q : Nat) (C : CX E cc own ret cI rm) (hd : decode cc pc = .ok (.invokestatic index, 3)) (h1 : Cond.methodLink own index Lib.Math.max.name ∈ gw) (h2 : Cond.static Lib.Math.max.name ∈ gw) (h3 : Cond.initialized "java/lang/Math" ∈ gw) (h4 : Cond.code Lib.Math.max.name Lib.Math.max.code 2 (some .int) ∈ gw) (hR : (1 ≤ rm.frames ∧ (st.map fun v => v.category).sum + 13 ≤ rm.locals) ∧ k ≤ rm.cells ∧ n ≤ rm.slots) (hv : (if x < y then y else x) = v) (kk : VV E k n q lv (.int v :: st) ws) (hq : pc + 3 = q := by rfl) : VV E k n pc lv (.int y :: .int x :: st) ws := by
  subst hq
  subst hv
  intro H locs ls hP hD hS hl
  exact va_mmax C.1 C.2.1 (C.2.2.1.trans hl.1.symm) C.2.2.2.1 (C.2.2.2.2.1 _ h1) (C.2.2.2.2.1 _ h2) (C.2.2.2.2.1 _ h3) (C.2.2.2.2.1 _ h4) (by rw [C.2.2.2.2.2.2.2.2.2]; exact hR.1.1) (by rw [C.2.2.2.2.2.2.2.2.2]; exact hR.1.2) (by rw [C.2.2.2.2.2.2.2.2.2]; exact hR.2.1) (by rw [C.2.2.2.2.2.2.2.2.2]; exact hR.2.2) hd (kk H locs ls hP hD hS hl)
theorem v_mmin {index : Nat} {x y v : Int32} (q : Nat) (C : CX E cc own ret cI rm) (hd : decode cc pc = .ok (.invokestatic index, 3)) (h1 : Cond.methodLink own index Lib.Math.min.name ∈ gw) (h2 : Cond.static Lib.Math.min.name ∈ gw) (h3 : Cond.initialized "java/lang/Math" ∈ gw) (h4 : Cond.code Lib.Math.min.name Lib.Math.min.code 2 (some .int) ∈ gw) (hR : (1 ≤ rm.frames ∧ (st.map fun v => v.category).sum + 13 ≤ rm.locals) ∧ k ≤ rm.cells ∧ n ≤ rm.slots) (hv : (if y < x then y else x) = v) (kk : VV E k n q lv (.int v :: st) ws) (hq : pc + 3 = q := by rfl) : VV E k n pc lv (.int y :: .int x :: st) ws := by
  subst hq
  subst hv
  intro H locs ls hP hD hS hl
  exact va_mmin C.1 C.2.1 (C.2.2.1.trans hl.1.symm) C.2.2.2.1 (C.2.2.2.2.1 _ h1) (C.2.2.2.2.1 _ h2) (C.2.2.2.2.1 _ h3) (C.2.2.2.2.1 _ h4) (by rw [C.2.2.2.2.2.2.2.2.2]; exact hR.1.1) (by rw [C.2.2.2.2.2.2.2.2.2]; exact hR.1.2) (by rw [C.2.2.2.2.2.2.2.2.2]; exact hR.2.1) (by rw [C.2.2.2.2.2.2.2.2.2]; exact hR.2.2) hd (kk H locs ls hP hD hS hl)
end VMM
theorem mm_x1 : Cond.methodLink RX4 251 Lib.Math.max.name ∈ gw := gw_at 575 (by decide +kernel) rfl
theorem mm_x2 : Cond.static Lib.Math.max.name ∈ gw := gw_at 576 (by decide +kernel) rfl
theorem mm_x3 : Cond.initialized "java/lang/Math" ∈ gw := gw_at 9 (by decide +kernel) rfl
theorem mm_x4 : Cond.code Lib.Math.max.name Lib.Math.max.code 2 (some .int) ∈ gw := gw_at 577 (by decide +kernel) rfl
theorem mm_n1 : Cond.methodLink RX4 278 Lib.Math.min.name ∈ gw := gw_at 687 (by decide +kernel) rfl
theorem mm_n2 : Cond.static Lib.Math.min.name ∈ gw := gw_at 688 (by decide +kernel) rfl
theorem mm_n4 : Cond.code Lib.Math.min.name Lib.Math.min.code 2 (some .int) ∈ gw := gw_at 689 (by decide +kernel) rfl
theorem lis_1 {s : SG} {p f : Nat} {x : Option Nat} (e : Nat.testBit (LISB s p) f = true) : lisS s p f x = mxO x (HEARD s p f) := if_pos e
theorem lis_0 {s : SG} {p f : Nat} {x : Option Nat} (e : Nat.testBit (LISB s p) f = false) : lisS s p f x = x := if_neg (by rw [e]; decide)
theorem heard_25 {s : SG} {p f : Nat} : ∀ v, HEARD s p f = some v → v < 25 := fun v e => (fs_lt e).1
def nxS (z : Int32) : Int32 := z * nI 1103515245 + nI 12345
def drH (z : Int32) : Nat := z.toBitVec.toNat % 2 ^ 31 / 65536 % 24
/-- kept from omega's eyes -/
def DH (z : Int32) (d : Nat) : Prop := d = drH z
theorem drH_lt (z : Int32) : drH z < 24 := Nat.mod_lt _ (by decide)
theorem mn_n {a b : Nat} (ha : a < 2 ^ 31) (hb : b < 2 ^ 31) : (if nI b < nI a then nI b else nI a) = nI (min a b) := by
  by_cases c : b < a
  · rw [if_pos ((nI_ltI hb ha).mpr c), Nat.min_eq_right (Nat.le_of_lt c)]
  · rw [if_neg (fun h => c ((nI_ltI hb ha).mp h)), Nat.min_eq_left (Nat.not_lt.mp c)]
theorem mx_n {a b : Nat} (ha : a < 2 ^ 31) (hb : b < 2 ^ 31) : (if nI a < nI b then nI b else nI a) = nI (max a b) := by
  by_cases c : a < b
  · rw [if_pos ((nI_ltI ha hb).mpr c), Nat.max_eq_right (Nat.le_of_lt c)]
  · rw [if_neg (fun h => c ((nI_ltI ha hb).mp h)), Nat.max_eq_left (Nat.not_lt.mp c)]
theorem hr_lt {f e : Nat} (h : e < 24) : HR f e < 2 ^ 24 := by
  have h1 : 2 ^ (e + 1) ≤ 2 ^ 24 := Nat.pow_le_pow_right (by decide) (by omega)
  have h2 : 0 < 2 ^ f := Nat.pow_pos (by decide)
  unfold HR
  omega
/-- one's hours by lot -/
def lotP (p : Nat) (x : Int32 × (Nat → Nat)) : Int32 × (Nat → Nat) := (nxS (nxS x.1), un x.2 p (HR (min (drH (nxS x.1)) (drH (nxS (nxS x.1)))) (max (drH (nxS x.1)) (drH (nxS (nxS x.1))))))
def COM (s : SG) : Nat := if g_n s = 0 then 0 else ann (fun p => DR s 24 p) (g_n s)
def lotS (s : SG) (_ : Nat) (x : Int32 × (Nat → Nat) × Nat × Nat) : Int32 × (Nat → Nat) × Nat × Nat :=
  ((it lotP (x.1, x.2.1) (g_n s)).1, (it lotP (x.1, x.2.1) (g_n s)).2, x.2.2.1 + ALL (wop s (it lotP (x.1, x.2.1) (g_n s)).2), if COM (wop s (it lotP (x.1, x.2.1) (g_n s)).2) = 0 then x.2.2.2 else x.2.2.2 + 1)
def LOT (s : SG) (k : Nat) (z : Int32) : Int32 × (Nat → Nat) × Nat × Nat := it (lotS s) (z, g_op s, 0, 0) k
def q_lots (s : SG) (k z w : Int32) : Nat × Int32 := if k < nI 1 then (4, -4) else if nI 20 < k then (6, -6) else match IX 2 w with
  | none => (2, -2)
  | some e => (0, if e = 0 then nI (LOT s k.toNatClampNeg z).2.2.1 else nI (LOT s k.toNatClampNeg z).2.2.2)
theorem lot_1 {s : SG} {i x y : Nat} {sd s2 : Int32} {O O2 : Nat → Nat} (h : (s2, O2) = it lotP (sd, O) (g_n s)) (e : COM (wop s O2) ≠ 0) : lotS s i (sd, O, x, y) = (s2, O2, x + ALL (wop s O2), y + 1) := by
  unfold lotS
  dsimp only
  rw [← h]
  dsimp only
  rw [if_neg e]
theorem lot_0 {s : SG} {i x y : Nat} {sd s2 : Int32} {O O2 : Nat → Nat} (h : (s2, O2) = it lotP (sd, O) (g_n s)) (e : COM (wop s O2) = 0) : lotS s i (sd, O, x, y) = (s2, O2, x + ALL (wop s O2), y) := by
  unfold lotS
  dsimp only
  rw [← h]
  dsimp only
  rw [if_pos e]
theorem dk_com {n m sh aw : Nat} {ki op fa K G T X : Nat → Nat} {Y : Nat → Option Nat} (h : DOK n m sh aw ki op fa K G T X Y) (hn : n ≤ 7) : (if n = 0 then 0 else ann (fun p => X (24 * 7 + p)) n) = COM (n, m, sh, aw, ki, op, fa, K, G, T) := by
  rw [dk_ann h hn]
  rfl
theorem ann_le (f : Nat → Nat) : ∀ n, ann f n ≤ 1023
  | 0 => Nat.le_refl _
  | n + 1 => Nat.le_trans Nat.and_le_left (ann_le f n)
theorem com_le (s : SG) : COM s ≤ 1023 := by
  unfold COM
  split
  · exact Nat.zero_le _
  · exact ann_le _ _
theorem lotp_s {p d1 d2 : Nat} {s2 sd : Int32} {O2 O : Nat → Nat} (h : (s2, O2) = it lotP (sd, O) p) (h1 : DH (nxS s2) d1) (h2 : DH (nxS (nxS s2)) d2) : (nxS (nxS s2), un O2 p (HR (min d1 d2) (max d1 d2))) = it lotP (sd, O) (p + 1) := by
  refine it_s h ?_
  unfold DH at h1 h2
  rw [h1, h2]
  rfl
theorem sl {a b : Nat} (h : a = b) : some (Value.long (lN a)) = some (Value.long (lN b)) := by rw [h]
theorem sll {a b : Int64} (h : a = b) : some (Value.long a) = some (Value.long b) := by rw [h]
theorem lN_ne0 {n : Nat} (h0 : 0 < n) (h : n < 2 ^ 63) : ¬ lN n = 0 := fun e => by
  have h2 := (pk_lEQ h (show 0 < 2 ^ 63 by decide)).mp (e.trans (show (0 : Int64) = lN 0 from rfl))
  omega
/-- a part of a fraction in lowest terms -/
def PTO (a b k : Nat) : Nat := if a = 0 then k else if k = 0 then a / Nat.gcd b a else b / Nat.gcd b a
theorem gd_1 {x y i : Nat} (h : x * y < 2 ^ (128 - i)) (hy : 0 < y) (hi : i < 128) (hc : y ≤ x ∨ (i = 0 ∧ x * y < 2 ^ 124)) : y * (x % y) < 2 ^ (128 - (i + 1)) := by
  rcases hc with hc | ⟨rfl, hc⟩
  · have h1 : x % y + y ≤ x := by
      have e := Nat.div_add_mod x y
      have h2 : 0 < x / y := Nat.div_pos hc hy
      have h3 : y * 1 ≤ y * (x / y) := Nat.mul_le_mul_left y h2
      omega
    have h4 : x % y < y := Nat.mod_lt _ hy
    have h5 : 2 * (x % y) ≤ x := by omega
    have h6 : y * (2 * (x % y)) ≤ y * x := Nat.mul_le_mul_left y h5
    have e2 : 2 ^ (128 - i) = 2 * 2 ^ (128 - (i + 1)) := by
      rw [show 128 - i = (128 - (i + 1)) + 1 by omega, Nat.pow_succ, Nat.mul_comm]
    rw [e2, Nat.mul_comm x y] at h
    have e3 : y * (2 * (x % y)) = 2 * (y * (x % y)) := by rw [Nat.mul_left_comm]
    omega
  · have h1 : y * (x % y) ≤ y * x := Nat.mul_le_mul_left y (Nat.mod_le x y)
    rw [Nat.mul_comm] at hc
    have h2 : (2 : Nat) ^ 124 ≤ 2 ^ (128 - (0 + 1)) := Nat.pow_le_pow_right (by decide) (by decide)
    exact Nat.lt_of_le_of_lt h1 (Nat.lt_of_lt_of_le hc h2)
theorem gd_2 {x y i : Nat} (h : x * y < 2 ^ (128 - i)) (hi : 128 ≤ i) (hc : y ≤ x ∨ (i = 0 ∧ x * y < 2 ^ 124)) : y = 0 := by
  rw [show 128 - i = 0 by omega] at h
  rcases hc with hc | ⟨rfl, _⟩
  · cases y with
    | zero => rfl
    | succ k =>
      have h2 : (k + 1) * (k + 1) ≤ x * (k + 1) := Nat.mul_le_mul_right (k + 1) hc
      have h3 : 1 * 1 ≤ (k + 1) * (k + 1) := Nat.mul_le_mul (by omega) (by omega)
      omega
  · omega
theorem gd_0 {a b : Nat} (ha : a < 2 ^ 62) (hb : b < 2 ^ 62) : b * a < 2 ^ 124 := by
  have h : b * a < 2 ^ 62 * 2 ^ 62 := Nat.mul_lt_mul_of_lt_of_lt hb ha
  rw [← Nat.pow_add] at h
  exact h
theorem gd_g {x y g : Nat} (h : Nat.gcd x y = g) : Nat.gcd y (x % y) = g := by
  rw [← h, Nat.gcd_comm x y, Nat.gcd_rec y x, Nat.gcd_comm]
theorem pto_0 {a b k : Nat} (h : a = 0) : PTO a b k = k := if_pos h
theorem pto_1 {a b k g : Nat} (h : a ≠ 0) (hk : k = 0) (hg : g = Nat.gcd b a) : PTO a b k = a / g := by
  subst hg
  unfold PTO
  rw [if_neg h, if_pos hk]
theorem pto_2 {a b k g : Nat} (h : a ≠ 0) (hk : k ≠ 0) (hg : g = Nat.gcd b a) : PTO a b k = b / g := by
  subst hg
  unfold PTO
  rw [if_neg h, if_neg hk]
def RLF (v : Int32) : Int64 := lN 4000000000000000000 - v.toInt64
def SPKS (s : SG) : Nat := sm (fun d => SPOKE s d) (g_m s)
def q_share (s : SG) (d w : Int32) : Nat × Int64 := match IX (g_m s) d with
  | none => (1, RLF (-1))
  | some e => match IX 2 w with
    | none => (2, RLF (-2))
    | some k => (0, lN (PTO (SPOKE s e) (SPKS s) k))
theorem ctn_h {P : Nat → Bool} : ∀ k, ctn P (k + 1) = (if P 0 = true then 1 else 0) + ctn (fun i => P (i + 1)) k
  | 0 => by simp [ctn]
  | k + 1 => by
    have ih := ctn_h (P := P) k
    show ctn P (k + 1) + _ = _
    rw [ih]
    simp only [ctn]
    omega
theorem pcn_ctn : ∀ (k x : Nat), x < 2 ^ k → pcn x = ctn (fun i => x.testBit i) k
  | 0, x, h => by
    have e : x = 0 := by omega
    subst e
    exact pcn_0
  | k + 1, x, h => by
    have h2 : x / 2 < 2 ^ k := by
      rw [Nat.pow_succ] at h
      omega
    rw [pcn_s, pcn_ctn k (x / 2) h2, ctn_h]
    have e : (fun i => (x / 2).testBit i) = (fun i => x.testBit (i + 1)) := by
      funext i
      rw [Nat.testBit_succ]
    rw [e]
    have e2 : (if x.testBit 0 = true then 1 else 0) = x % 2 := by
      rw [Nat.testBit_zero]
      rcases Nat.mod_two_eq_zero_or_one x with h | h <;> simp [h]
    rw [e2]
theorem ctn_or {P Q : Nat → Bool} : ∀ {n : Nat}, (∀ k, k < n → (P k && Q k) = false) → ctn (fun i => P i || Q i) n = ctn P n + ctn Q n
  | 0, _ => rfl
  | n + 1, h => by
    simp only [ctn]
    rw [ctn_or (fun k hk => h k (Nat.lt_succ_of_lt hk))]
    have h2 := h n (Nat.lt_succ_self n)
    rcases Bool.eq_false_or_eq_true (P n) with hp | hp <;> rcases Bool.eq_false_or_eq_true (Q n) with hq | hq <;> simp [hp, hq] at h2 ⊢ <;> omega
theorem pcn_or {n a b : Nat} (ha : a < 2 ^ n) (hb : b < 2 ^ n) (h : a &&& b = 0) : pcn (a ||| b) = pcn a + pcn b := by
  rw [pcn_ctn n _ (Nat.or_lt_two_pow ha hb), pcn_ctn n a ha, pcn_ctn n b hb, ← ctn_or]
  · exact ctn_c (fun k _ => Nat.testBit_or a b k)
  · intro k _
    have e : (a &&& b).testBit k = false := by rw [h]; simp
    rw [Nat.testBit_and] at e
    exact e
theorem pcn_dj {n a b : Nat} (ha : a < 2 ^ n) (hb : b < 2 ^ n) (h : a &&& b = 0) : pcn a + pcn b ≤ n := by
  rw [← pcn_or ha hb h]
  exact pcn_k n _ (Nat.or_lt_two_pow ha hb)
theorem pw_le {b e : Nat} (hb : b ≤ 20) (he : e ≤ 7) : b ^ e ≤ 1280000000 := by
  have h1 : b ^ e ≤ 20 ^ e := Nat.pow_le_pow_left hb e
  have h2 : 20 ^ e ≤ 20 ^ 7 := Nat.pow_le_pow_right (by decide) he
  exact Nat.le_trans h1 (Nat.le_trans h2 (by decide))
def colS (s : SG) (p f t z x : Nat) : Nat := if z &&& g_sh s = 0 ∧ Nat.testBit (KNW (wsh s (g_sh s ||| z)) f) p = true then x + (t - 1) ^ (g_n s - pcn (g_sh s) - pcn z) else x
def COLA (s : SG) (p f t : Nat) : Nat := it (colS s p f t) 0 (2 ^ g_n s)
def q_colds (s : SG) (p f t w : Int32) : Nat × Int64 := match IX (g_n s) p with
  | none => (1, RLF (-1))
  | some j => match IX 10 f with
    | none => (1, RLF (-1))
    | some k => if t < nI 2 then (4, RLF (-4)) else if nI 20 < t then (6, RLF (-6)) else match IX 2 w with
      | none => (2, RLF (-2))
      | some e => (0, lN (PTO (COLA s j k t.toNatClampNeg) (t.toNatClampNeg ^ (g_n s - pcn (g_sh s))) e))
theorem col_1 {s : SG} {p f t z x : Nat} (h1 : z &&& g_sh s = 0) (h2 : Nat.testBit (KNW (wsh s (g_sh s ||| z)) f) p = true) : colS s p f t z x = x + (t - 1) ^ (g_n s - pcn (g_sh s) - pcn z) := if_pos ⟨h1, h2⟩
theorem col_2 {s : SG} {p f t z x : Nat} (h1 : z &&& g_sh s ≠ 0) : colS s p f t z x = x := if_neg (fun q => h1 q.1)
theorem col_3 {s : SG} {p f t z x : Nat} (h2 : Nat.testBit (KNW (wsh s (g_sh s ||| z)) f) p = false) : colS s p f t z x = x := if_neg (fun q => by rw [h2] at q; exact absurd q.2 (by decide))
theorem spo_le {s : SG} {d : Nat} : SPOKE s d ≤ 24 := ctn_le _ _

set_option maxRecDepth 100000 in
set_option maxHeartbeats 4000000 in
theorem c_X4_list (l : Launch) (D : va_G) (cI : ClassId) (x0 xm xp g0 s0 w0 y0 : Nat) (pd : Bool) (rs : Nat) (b0 b1 b2 b3 : Nat) (P Q : Nat) (mf : Nat → Nat) (M : Nat → Option Nat) (kn : Nat → Nat) (a0 a1 a2 a3 a4 a5 a6 : Nat) (n m sh : Nat) (ki op fa K G T : Nat → Nat) (R : Nat → Nat) (u w : Int32) (hw : FW n m sh ki op fa K G T) (hB : ∀ z, kn z < 1024) (hM : ∀ z v, M z = some v → v < 7) : CT l yX4_list cX4_list 6 (some .int) { frames := 4, cells := 0, slots := 0, locals := 99 } D cI [.ref x0, .int u, .int w] [(x0, .inr (4, [.ref a0, .ref xm, .ref xp, .int (bz pd), .ref b0, .ref g0, .ref s0, .ref w0, .int (nI rs), .ref y0])), (a0, .inr (2, [.int (nI n), .int (nI m), .int (nI sh), .int (nI 0), .ref a1, .ref a2, .ref a3, .ref a4, .ref a5, .ref a6])), (a1, .inl (cI, 7, .inl (nIf ki))), (a2, .inl (cI, 7, .inl (nIf op))), (a3, .inl (cI, 7, .inl (nIf fa))), (a4, .inl (cI, 6, .inl (nIf K))), (a5, .inl (cI, 6, .inl (nIf G))), (a6, .inl (cI, 6, .inl (nIf T))), (b0, .inr (1, [.int (nI P), .int (nI Q), .ref b1, .ref b2, .ref b3])), (b1, .inl (cI, 6, .inl (nIf mf))), (b2, .inl (cI, 144, .inl (mIf M))), (b3, .inl (cI, 175, .inl (nIf kn))), (y0, .inl (cI, 7, .inl (nIf R)))] (fun zr zw => (∃ P1 : Nat, ∃ Q1 : Nat, ∃ mg : Nat → Nat, ∃ X : Nat → Nat, ∃ Y : Nat → Option Nat, ∃ rc : Nat, ∃ rv : Int32, (q_list (n, m, sh, 0, ki, op, fa, K, G, T) u w = (rc, rv)) ∧ (∀ z, X z < 1024) ∧ (∀ z v, Y z = some v → v < 7) ∧ zr = some (.int rv) ∧ zw = [(x0, .inr (4, [.ref a0, .ref xm, .ref xp, .int (bz pd), .ref b0, .ref g0, .ref s0, .ref w0, .int (nI rs), .ref y0])), (a0, .inr (2, [.int (nI n), .int (nI m), .int (nI sh), .int (nI 0), .ref a1, .ref a2, .ref a3, .ref a4, .ref a5, .ref a6])), (a1, .inl (cI, 7, .inl (nIf ki))), (a2, .inl (cI, 7, .inl (nIf op))), (a3, .inl (cI, 7, .inl (nIf fa))), (a4, .inl (cI, 6, .inl (nIf K))), (a5, .inl (cI, 6, .inl (nIf G))), (a6, .inl (cI, 6, .inl (nIf T))), (b0, .inr (1, [.int (nI P1), .int (nI Q1), .ref b1, .ref b2, .ref b3])), (b1, .inl (cI, 6, .inl (nIf mg))), (b2, .inl (cI, 144, .inl (mIf Y))), (b3, .inl (cI, 175, .inl (nIf X))), (y0, .inl (cI, 7, .inl (nIf (rf R rc))))])) := by
  refine CT_of RX4 rfl (by decide +kernel) (Nat.le_of_ble_eq_true rfl) (fun E hnE zC zT => ?_)
  have hA : ∀ q, (ev_s E).heap.size ≤ q → ev_A E q := fun q h => by rw [zT.2]; exact Or.inr h
  obtain ⟨hn, hm, hsh, hki, hop, hfa, hK, hG, hT, vki, vop, vfa, vK, vG, vT⟩ := id hw
  show VV E 0 0 0 [(0, .ref x0), (1, .int u), (2, .int w)] [] [(x0, .inr (4, [.ref a0, .ref xm, .ref xp, .int (bz pd), .ref b0, .ref g0, .ref s0, .ref w0, .int (nI rs), .ref y0])), (a0, .inr (2, [.int (nI n), .int (nI m), .int (nI sh), .int (nI 0), .ref a1, .ref a2, .ref a3, .ref a4, .ref a5, .ref a6])), (a1, .inl (cI, 7, .inl (nIf ki))), (a2, .inl (cI, 7, .inl (nIf op))), (a3, .inl (cI, 7, .inl (nIf fa))), (a4, .inl (cI, 6, .inl (nIf K))), (a5, .inl (cI, 6, .inl (nIf G))), (a6, .inl (cI, 6, .inl (nIf T))), (b0, .inr (1, [.int (nI P), .int (nI Q), .ref b1, .ref b2, .ref b3])), (b1, .inl (cI, 6, .inl (nIf mf))), (b2, .inl (cI, 144, .inl (mIf M))), (b3, .inl (cI, 175, .inl (nIf kn))), (y0, .inl (cI, 7, .inl (nIf R)))]
  refine v_al_n 1 zC dX4_list_0 0 rfl ?_
  refine v_il_n 2 zC dX4_list_1 1 rfl ?_
  refine v_cV (As := [.int u]) (st := []) 5 0 [0, 1] zC dX4_list_2 hA (c_X4_noPerson (ev_l E) (ev_D E) cI (x0 := x0) (xm := xm) (xp := xp) (b0 := b0) (g0 := g0) (s0 := s0) (w0 := w0) (y0 := y0) (pd := pd) (rs := rs) (a0 := a0) (a1 := a1) (a2 := a2) (a3 := a3) (a4 := a4) (a5 := a5) (a6 := a6) (n := n) (m := m) (sh := sh) (p := u) (hn := (by first | omega | assumption | rfl | (simp only []; omega) | decide))) cf_X4_noPerson lk_X4_79 rfl rfl rfl rfl rfl (by decide +kernel) (Nat.le_of_ble_eq_true rfl) (fun rv_1 wv_2 hp_3 hm_4 => ?_)
  clear hm_4
  rcases hp_3 with ⟨hi_5, rfl, rfl⟩ | ⟨j_6, he_7, hi_8, hj_9, rfl, rfl⟩
  ·
    show VV E 0 0 5 [(0, .ref x0), (1, .int u), (2, .int w)] [.int (nI 1)] [(x0, .inr (4, [.ref a0, .ref xm, .ref xp, .int (bz pd), .ref b0, .ref g0, .ref s0, .ref w0, .int (nI rs), .ref y0])), (a0, .inr (2, [.int (nI n), .int (nI m), .int (nI sh), .int (nI 0), .ref a1, .ref a2, .ref a3, .ref a4, .ref a5, .ref a6])), (a1, .inl (cI, 7, .inl (nIf ki))), (a2, .inl (cI, 7, .inl (nIf op))), (a3, .inl (cI, 7, .inl (nIf fa))), (a4, .inl (cI, 6, .inl (nIf K))), (a5, .inl (cI, 6, .inl (nIf G))), (a6, .inl (cI, 6, .inl (nIf T))), (b0, .inr (1, [.int (nI P), .int (nI Q), .ref b1, .ref b2, .ref b3])), (b1, .inl (cI, 6, .inl (nIf mf))), (b2, .inl (cI, 144, .inl (mIf M))), (b3, .inl (cI, 175, .inl (nIf kn))), (y0, .inl (cI, 7, .inl (nIf R)))]
    have hi_u := hi_5
    refine v_if_eq 14 8 zC dX4_list_5 (fun z => absurd z (by decide +kernel)) (fun _ => ?_)
    refine v_al_n 9 zC dX4_list_8 0 rfl ?_
    refine v_ic (v := (-1)) 10 zC dX4_list_9 (by decide +kernel) ?_
    refine v_cV (As := [.int (-1)]) (st := []) 13 0 [0, 12] zC dX4_list_10 hA (c_X4_refuse (ev_l E) (ev_D E) cI (x0 := x0) (xn := a0) (xm := xm) (xp := xp) (b0 := b0) (g0 := g0) (s0 := s0) (w0 := w0) (y0 := y0) (pd := pd) (rs := rs) (R := R) (v := (-1)) (j := 1) (hv := (by first | omega | assumption | rfl | (simp only []; omega) | decide)) (h1 := (by first | omega | assumption | rfl | (simp only []; omega) | decide)) (h6 := (by first | omega | assumption | rfl | (simp only []; omega) | decide))) cf_X4_refuse lk_X4_50 rfl rfl rfl rfl rfl (by decide +kernel) (Nat.le_of_ble_eq_true rfl) (fun rv_11 wv_12 hp_13 hm_14 => ?_)
    clear hm_14
    obtain ⟨rfl, rfl⟩ := hp_13
    show VV E 0 0 13 [(0, .ref x0), (1, .int u), (2, .int w)] [.int (-1)] [(x0, .inr (4, [.ref a0, .ref xm, .ref xp, .int (bz pd), .ref b0, .ref g0, .ref s0, .ref w0, .int (nI rs), .ref y0])), (a0, .inr (2, [.int (nI n), .int (nI m), .int (nI sh), .int (nI 0), .ref a1, .ref a2, .ref a3, .ref a4, .ref a5, .ref a6])), (a1, .inl (cI, 7, .inl (nIf ki))), (a2, .inl (cI, 7, .inl (nIf op))), (a3, .inl (cI, 7, .inl (nIf fa))), (a4, .inl (cI, 6, .inl (nIf K))), (a5, .inl (cI, 6, .inl (nIf G))), (a6, .inl (cI, 6, .inl (nIf T))), (b0, .inr (1, [.int (nI P), .int (nI Q), .ref b1, .ref b2, .ref b3])), (b1, .inl (cI, 6, .inl (nIf mf))), (b2, .inl (cI, 144, .inl (mIf M))), (b3, .inl (cI, 175, .inl (nIf kn))), (y0, .inl (cI, 7, .inl (nIf (un R 1 (R 1 + 1)))))]
    refine v_iret zC zT dX4_list_13  ?_
    first | exact ⟨P, Q, mf, kn, M, 1, _, by unfold q_list; rw [hi_u], hB, hM, rfl, rfl⟩ | exact ⟨P, Q, mf, kn, M, 2, _, by unfold q_list; rw [hi_u]; dsimp only; rw [hi_w], hB, hM, rfl, rfl⟩ | exact ⟨_, _, _, _, _, 0, _, by unfold q_list; rw [hi_u]; dsimp only; rw [hi_w]; dsimp only; first | (rw [if_pos (by assumption)]; done) | (rw [if_pos (by assumption)]; rfl) | (rw [if_neg (by assumption), show (10 : Nat) = jf by omega, ← hs]), hD9.2.2.1, hD9.2.2.2, rfl, rfl⟩
  ·
    show VV E 0 0 5 [(0, .ref x0), (1, .int u), (2, .int w)] [.int (nI 0)] [(x0, .inr (4, [.ref a0, .ref xm, .ref xp, .int (bz pd), .ref b0, .ref g0, .ref s0, .ref w0, .int (nI rs), .ref y0])), (a0, .inr (2, [.int (nI n), .int (nI m), .int (nI sh), .int (nI 0), .ref a1, .ref a2, .ref a3, .ref a4, .ref a5, .ref a6])), (a1, .inl (cI, 7, .inl (nIf ki))), (a2, .inl (cI, 7, .inl (nIf op))), (a3, .inl (cI, 7, .inl (nIf fa))), (a4, .inl (cI, 6, .inl (nIf K))), (a5, .inl (cI, 6, .inl (nIf G))), (a6, .inl (cI, 6, .inl (nIf T))), (b0, .inr (1, [.int (nI P), .int (nI Q), .ref b1, .ref b2, .ref b3])), (b1, .inl (cI, 6, .inl (nIf mf))), (b2, .inl (cI, 144, .inl (mIf M))), (b3, .inl (cI, 175, .inl (nIf kn))), (y0, .inl (cI, 7, .inl (nIf R)))]
    subst he_7
    have hi_u := hi_8
    obtain ⟨ju, hx_ju⟩ : ∃ z, z = j_6 := ⟨_, rfl⟩
    subst hx_ju
    refine v_if_eq 14 8 zC dX4_list_5 (fun _ => ?_) (fun z => absurd (by decide +kernel) z)
    refine v_il_n 15 zC dX4_list_14 2 rfl ?_
    refine v_ic (v := (nI 2)) 16 zC dX4_list_15 (by decide +kernel) ?_
    refine v_cS (As := [.int w, .int (nI 2)]) (st := []) 19 [] zC dX4_list_16 hA (c_X4_noWhat (ev_l E) (ev_D E) cI (p := w) (k := 2) (hk := (by first | omega | assumption | rfl | (simp only []; omega) | decide))) cf_X4_noWhat lk_X4_83 rfl rfl rfl (by decide +kernel) (Nat.le_of_ble_eq_true rfl) (fun rv_16 wv_17 hp_18 hm_19 => ?_)
    clear hm_19
    rcases hp_18 with ⟨hi_20, rfl, rfl⟩ | ⟨j_21, he_22, hi_23, hj_24, rfl, rfl⟩
    ·
      show VV E 0 0 19 [(0, .ref x0), (1, .int (nI ju)), (2, .int w)] [.int (nI 1)] [(x0, .inr (4, [.ref a0, .ref xm, .ref xp, .int (bz pd), .ref b0, .ref g0, .ref s0, .ref w0, .int (nI rs), .ref y0])), (a0, .inr (2, [.int (nI n), .int (nI m), .int (nI sh), .int (nI 0), .ref a1, .ref a2, .ref a3, .ref a4, .ref a5, .ref a6])), (a1, .inl (cI, 7, .inl (nIf ki))), (a2, .inl (cI, 7, .inl (nIf op))), (a3, .inl (cI, 7, .inl (nIf fa))), (a4, .inl (cI, 6, .inl (nIf K))), (a5, .inl (cI, 6, .inl (nIf G))), (a6, .inl (cI, 6, .inl (nIf T))), (b0, .inr (1, [.int (nI P), .int (nI Q), .ref b1, .ref b2, .ref b3])), (b1, .inl (cI, 6, .inl (nIf mf))), (b2, .inl (cI, 144, .inl (mIf M))), (b3, .inl (cI, 175, .inl (nIf kn))), (y0, .inl (cI, 7, .inl (nIf R)))]
      have hi_w := hi_20
      refine v_if_eq 29 22 zC dX4_list_19 (fun z => absurd z (by decide +kernel)) (fun _ => ?_)
      refine v_al_n 23 zC dX4_list_22 0 rfl ?_
      refine v_bp (v := (-2)) 25 zC dX4_list_23 (by decide +kernel) ?_
      refine v_cV (As := [.int (-2)]) (st := []) 28 0 [0, 12] zC dX4_list_25 hA (c_X4_refuse (ev_l E) (ev_D E) cI (x0 := x0) (xn := a0) (xm := xm) (xp := xp) (b0 := b0) (g0 := g0) (s0 := s0) (w0 := w0) (y0 := y0) (pd := pd) (rs := rs) (R := R) (v := (-2)) (j := 2) (hv := (by first | omega | assumption | rfl | (simp only []; omega) | decide)) (h1 := (by first | omega | assumption | rfl | (simp only []; omega) | decide)) (h6 := (by first | omega | assumption | rfl | (simp only []; omega) | decide))) cf_X4_refuse lk_X4_50 rfl rfl rfl rfl rfl (by decide +kernel) (Nat.le_of_ble_eq_true rfl) (fun rv_26 wv_27 hp_28 hm_29 => ?_)
      clear hm_29
      obtain ⟨rfl, rfl⟩ := hp_28
      show VV E 0 0 28 [(0, .ref x0), (1, .int (nI ju)), (2, .int w)] [.int (-2)] [(x0, .inr (4, [.ref a0, .ref xm, .ref xp, .int (bz pd), .ref b0, .ref g0, .ref s0, .ref w0, .int (nI rs), .ref y0])), (a0, .inr (2, [.int (nI n), .int (nI m), .int (nI sh), .int (nI 0), .ref a1, .ref a2, .ref a3, .ref a4, .ref a5, .ref a6])), (a1, .inl (cI, 7, .inl (nIf ki))), (a2, .inl (cI, 7, .inl (nIf op))), (a3, .inl (cI, 7, .inl (nIf fa))), (a4, .inl (cI, 6, .inl (nIf K))), (a5, .inl (cI, 6, .inl (nIf G))), (a6, .inl (cI, 6, .inl (nIf T))), (b0, .inr (1, [.int (nI P), .int (nI Q), .ref b1, .ref b2, .ref b3])), (b1, .inl (cI, 6, .inl (nIf mf))), (b2, .inl (cI, 144, .inl (mIf M))), (b3, .inl (cI, 175, .inl (nIf kn))), (y0, .inl (cI, 7, .inl (nIf (un R 2 (R 2 + 1)))))]
      refine v_iret zC zT dX4_list_28  ?_
      first | exact ⟨P, Q, mf, kn, M, 1, _, by unfold q_list; rw [hi_u], hB, hM, rfl, rfl⟩ | exact ⟨P, Q, mf, kn, M, 2, _, by unfold q_list; rw [hi_u]; dsimp only; rw [hi_w], hB, hM, rfl, rfl⟩ | exact ⟨_, _, _, _, _, 0, _, by unfold q_list; rw [hi_u]; dsimp only; rw [hi_w]; dsimp only; first | (rw [if_pos (by assumption)]; done) | (rw [if_pos (by assumption)]; rfl) | (rw [if_neg (by assumption), show (10 : Nat) = jf by omega, ← hs]), hD9.2.2.1, hD9.2.2.2, rfl, rfl⟩
    ·
      show VV E 0 0 19 [(0, .ref x0), (1, .int (nI ju)), (2, .int w)] [.int (nI 0)] [(x0, .inr (4, [.ref a0, .ref xm, .ref xp, .int (bz pd), .ref b0, .ref g0, .ref s0, .ref w0, .int (nI rs), .ref y0])), (a0, .inr (2, [.int (nI n), .int (nI m), .int (nI sh), .int (nI 0), .ref a1, .ref a2, .ref a3, .ref a4, .ref a5, .ref a6])), (a1, .inl (cI, 7, .inl (nIf ki))), (a2, .inl (cI, 7, .inl (nIf op))), (a3, .inl (cI, 7, .inl (nIf fa))), (a4, .inl (cI, 6, .inl (nIf K))), (a5, .inl (cI, 6, .inl (nIf G))), (a6, .inl (cI, 6, .inl (nIf T))), (b0, .inr (1, [.int (nI P), .int (nI Q), .ref b1, .ref b2, .ref b3])), (b1, .inl (cI, 6, .inl (nIf mf))), (b2, .inl (cI, 144, .inl (mIf M))), (b3, .inl (cI, 175, .inl (nIf kn))), (y0, .inl (cI, 7, .inl (nIf R)))]
      subst he_22
      have hi_w := hi_23
      refine v_if_eq 29 22 zC dX4_list_19 (fun _ => ?_) (fun z => absurd (by decide +kernel) z)
      refine v_al_n 30 zC dX4_list_29 0 rfl ?_
      refine v_gf 33 0 zC dX4_list_30 gf_X4_25 rfl rfl ?_
      refine v_al_n 34 zC dX4_list_33 0 rfl ?_
      refine v_gf 37 0 zC dX4_list_34 gf_X4_12 rfl rfl ?_
      refine v_cV (As := [.ref a0]) (st := []) 40 8 [8, 9, 10, 11, 1, 2, 3, 4, 5, 6, 7] zC dX4_list_37 hA (c_X1_live (ev_l E) (ev_D E) cI (b0 := b0) (b1 := b1) (b2 := b2) (b3 := b3) (P := P) (Q := Q) (mf := mf) (M := M) (kn := kn) (a0 := a0) (a1 := a1) (a2 := a2) (a3 := a3) (a4 := a4) (a5 := a5) (a6 := a6) (n := n) (m := m) (sh := sh) (aw := 0) (ki := ki) (op := op) (fa := fa) (K := K) (G := G) (T := T) (hn := (by first | omega | assumption | rfl | (simp only []; omega) | decide)) (hm := (by first | omega | assumption | rfl | (simp only []; omega) | decide)) (hK := (by first | omega | assumption | rfl | (simp only []; omega) | decide)) (hG := (by first | omega | assumption | rfl | (simp only []; omega) | decide)) (hT := (by first | omega | assumption | rfl | (simp only []; omega) | decide)) (hA2 := (by first | omega | assumption | rfl | (simp only []; omega) | decide)) (hB := (by first | omega | assumption | rfl | (simp only []; omega) | decide)) (hM := (by first | omega | assumption | rfl | (simp only []; omega) | decide))) cf_X1_live lk_X4_158 rfl rfl rfl rfl rfl (by decide +kernel) (Nat.le_of_ble_eq_true rfl) (fun rv_31 wv_32 hp_33 hm_34 => ?_)
      clear hm_34
      obtain ⟨mg_35, X_36, Y_37, hD_38, rfl, rfl⟩ := hp_33
      show VV E 0 0 40 [(0, .ref x0), (1, .int (nI ju)), (2, .int (nI j_21))] [] [(x0, .inr (4, [.ref a0, .ref xm, .ref xp, .int (bz pd), .ref b0, .ref g0, .ref s0, .ref w0, .int (nI rs), .ref y0])), (a0, .inr (2, [.int (nI n), .int (nI m), .int (nI sh), .int (nI 0), .ref a1, .ref a2, .ref a3, .ref a4, .ref a5, .ref a6])), (a1, .inl (cI, 7, .inl (nIf ki))), (a2, .inl (cI, 7, .inl (nIf op))), (a3, .inl (cI, 7, .inl (nIf fa))), (a4, .inl (cI, 6, .inl (nIf K))), (a5, .inl (cI, 6, .inl (nIf G))), (a6, .inl (cI, 6, .inl (nIf T))), (b0, .inr (1, [.int (nI n), .int (nI m), .ref b1, .ref b2, .ref b3])), (b1, .inl (cI, 6, .inl (nIf mg_35))), (b2, .inl (cI, 144, .inl (mIf Y_37))), (b3, .inl (cI, 175, .inl (nIf X_36))), (y0, .inl (cI, 7, .inl (nIf R)))]
      have hD9 := hD_38
      refine v_al_n 41 zC dX4_list_40 0 rfl ?_
      refine v_gf 44 0 zC dX4_list_41 gf_X4_25 rfl rfl ?_
      refine v_bp (v := (nI 24)) 46 zC dX4_list_44 (by decide +kernel) ?_
      refine v_il_n 47 zC dX4_list_46 1 rfl ?_
      refine v_cV (As := [.int (nI 24), .int (nI ju)]) (st := []) 50 8 [8, 11] zC dX4_list_47 hA (c_X1_knownBehind (ev_l E) (ev_D E) cI (b0 := b0) (b1 := b1) (b2 := b2) (b3 := b3) (P := n) (Q := m) (kn := X_36) (h := 24) (p := ju) (hP := (by first | omega | assumption | rfl | (simp only []; omega) | decide)) (hh := (by first | omega | assumption | rfl | (simp only []; omega) | decide)) (hp := (by first | omega | assumption | rfl | (simp only []; omega) | decide))) cf_X1_knownBehind lk_X4_168 rfl rfl rfl rfl rfl (by decide +kernel) (Nat.le_of_ble_eq_true rfl) (fun rv_39 wv_40 hp_41 hm_42 => ?_)
      clear hm_42
      obtain ⟨rfl, rfl⟩ := hp_41
      show VV E 0 0 50 [(0, .ref x0), (1, .int (nI ju)), (2, .int (nI j_21))] [.int (nI (X_36 (24 * 7 + ju)))] [(x0, .inr (4, [.ref a0, .ref xm, .ref xp, .int (bz pd), .ref b0, .ref g0, .ref s0, .ref w0, .int (nI rs), .ref y0])), (a0, .inr (2, [.int (nI n), .int (nI m), .int (nI sh), .int (nI 0), .ref a1, .ref a2, .ref a3, .ref a4, .ref a5, .ref a6])), (a1, .inl (cI, 7, .inl (nIf ki))), (a2, .inl (cI, 7, .inl (nIf op))), (a3, .inl (cI, 7, .inl (nIf fa))), (a4, .inl (cI, 6, .inl (nIf K))), (a5, .inl (cI, 6, .inl (nIf G))), (a6, .inl (cI, 6, .inl (nIf T))), (b0, .inr (1, [.int (nI n), .int (nI m), .ref b1, .ref b2, .ref b3])), (b1, .inl (cI, 6, .inl (nIf mg_35))), (b2, .inl (cI, 144, .inl (mIf Y_37))), (b3, .inl (cI, 175, .inl (nIf X_36))), (y0, .inl (cI, 7, .inl (nIf R)))]
      rw [dk_r hD9 (by omega) (by omega)]
      refine v_al_n 51 zC dX4_list_50 0 rfl ?_
      refine v_gf 54 0 zC dX4_list_51 gf_X4_12 rfl rfl ?_
      refine v_gf 57 1 zC dX4_list_54 gf_X4_96 rfl rfl ?_
      refine v_il_n 58 zC dX4_list_57 1 rfl ?_
      refine v_ialn (v := (nI (fa ju))) 59 4 zC dX4_list_58 rfl (by omega) rfl ?_
      refine v_ic (v := (-1)) 60 zC dX4_list_59 (by decide +kernel) ?_
      refine v_ixor (v := ((nI (fa ju)) ^^^ (-1))) 61 zC dX4_list_60 rfl ?_
      refine v_iand (v := (nI (andn (DR (n, m, sh, 0, ki, op, fa, K, G, T) 24 ju) (fa ju)))) 62 zC dX4_list_61 (andn_of _ _) ?_
      refine v_is_n (lv2 := [(3, .int (nI (andn (DR (n, m, sh, 0, ki, op, fa, K, G, T) 24 ju) (fa ju)))), (0, .ref x0), (1, .int (nI ju)), (2, .int (nI j_21))]) 63 zC dX4_list_62 (by rw [hnE]; decide) rfl ?_
      refine v_il_n 64 zC dX4_list_63 3 rfl ?_
      refine v_ifn_ne 69 67 zC dX4_list_64 (fun h_43 => ?_) (fun h_43 => ?_)
      ·
        refine v_bp (v := (-9)) 71 zC dX4_list_69 (by decide +kernel) ?_
        refine v_is (lv2 := [(4, .int (-9)), (3, .int (nI (andn (DR (n, m, sh, 0, ki, op, fa, K, G, T) 24 ju) (fa ju)))), (0, .ref x0), (1, .int (nI ju)), (2, .int (nI j_21))]) 73 zC dX4_list_71 (by rw [hnE]; decide) rfl ?_
        refine v_ic (v := (nI 0)) 74 zC dX4_list_73 (by decide +kernel) ?_
        refine v_is (lv2 := [(5, .int (nI 0)), (4, .int (-9)), (3, .int (nI (andn (DR (n, m, sh, 0, ki, op, fa, K, G, T) 24 ju) (fa ju)))), (0, .ref x0), (1, .int (nI ju)), (2, .int (nI j_21))]) 76 zC dX4_list_74 (by rw [hnE]; decide) rfl ?_
        have lp76 : ∀ (mz : Nat) (B : Option Nat) (jf : Nat), (B = it (lisS (n, m, sh, 0, ki, op, fa, K, G, T) ju) none jf) → (jf ≤ 10) → (∀ v, B = some v → v < 25) → 10 - jf = mz → VV E 0 0 76 [(5, .int (nI jf)), (4, .int (mI B)), (3, .int (nI (andn (DR (n, m, sh, 0, ki, op, fa, K, G, T) 24 ju) (fa ju)))), (0, .ref x0), (1, .int (nI ju)), (2, .int (nI j_21))] [] [(x0, .inr (4, [.ref a0, .ref xm, .ref xp, .int (bz pd), .ref b0, .ref g0, .ref s0, .ref w0, .int (nI rs), .ref y0])), (a0, .inr (2, [.int (nI n), .int (nI m), .int (nI sh), .int (nI 0), .ref a1, .ref a2, .ref a3, .ref a4, .ref a5, .ref a6])), (a1, .inl (cI, 7, .inl (nIf ki))), (a2, .inl (cI, 7, .inl (nIf op))), (a3, .inl (cI, 7, .inl (nIf fa))), (a4, .inl (cI, 6, .inl (nIf K))), (a5, .inl (cI, 6, .inl (nIf G))), (a6, .inl (cI, 6, .inl (nIf T))), (b0, .inr (1, [.int (nI n), .int (nI m), .ref b1, .ref b2, .ref b3])), (b1, .inl (cI, 6, .inl (nIf mg_35))), (b2, .inl (cI, 144, .inl (mIf Y_37))), (b3, .inl (cI, 175, .inl (nIf X_36))), (y0, .inl (cI, 7, .inl (nIf R)))] := by
          intro mz
          induction mz using Nat.strongRecOn with
          | _ mz ih76 =>
          intro B jf hs hf hBl hm76
          refine v_il 78 zC dX4_list_76 0 rfl ?_
          refine v_bp (v := (nI 10)) 80 zC dX4_list_78 (by decide +kernel) ?_
          refine v_icmpn_ge 115 83 zC dX4_list_80 (fun h_44 => ?_) (fun h_44 => ?_)
          ·
            refine v_il 117 zC dX4_list_115 1 rfl ?_
            refine v_iret zC zT dX4_list_117  ?_
            first | exact ⟨P, Q, mf, kn, M, 1, _, by unfold q_list; rw [hi_u], hB, hM, rfl, rfl⟩ | exact ⟨P, Q, mf, kn, M, 2, _, by unfold q_list; rw [hi_u]; dsimp only; rw [hi_w], hB, hM, rfl, rfl⟩ | exact ⟨_, _, _, _, _, 0, _, by unfold q_list; rw [hi_u]; dsimp only; rw [hi_w]; dsimp only; first | (rw [if_pos (by assumption)]; done) | (rw [if_pos (by assumption)]; rfl) | (rw [if_neg (by assumption), show (10 : Nat) = jf by omega, ← hs]), hD9.2.2.1, hD9.2.2.2, rfl, rfl⟩
          ·
            refine v_il_n 84 zC dX4_list_83 2 rfl ?_
            refine v_il 86 zC dX4_list_84 0 rfl ?_
            refine v_ishr (v := ((nI (andn (DR (n, m, sh, 0, ki, op, fa, K, G, T) 24 ju) (fa ju))) >>> (nI jf))) 87 zC dX4_list_86 (sr_of (by omega)) ?_
            refine v_ic (v := (nI 1)) 88 zC dX4_list_87 (by decide +kernel) ?_
            refine v_iand (v := (bz (Nat.testBit (andn (DR (n, m, sh, 0, ki, op, fa, K, G, T) 24 ju) (fa ju)) jf))) 89 zC dX4_list_88 (tb_of _ (by omega)) ?_
            refine v_ifb_eq 109 92 zC dX4_list_89 (fun h_45 => ?_) (fun h_45 => ?_)
            ·
              have hv9 := h_45
              refine v_inc (v := (nI (jf + 1))) (lv2 := [(5, .int (nI (jf + 1))), (4, .int (mI B)), (3, .int (nI (andn (DR (n, m, sh, 0, ki, op, fa, K, G, T) 24 ju) (fa ju)))), (0, .ref x0), (1, .int (nI ju)), (2, .int (nI j_21))]) 112 zC dX4_list_109 (j := 0) rfl (nI_add _ 1) (by rw [hnE]; decide) rfl ?_
              refine v_goto 76 zC dX4_list_112 ?_
              refine v_lvs (lv2 := [(5, .int (nI (jf + 1))), (4, .int (mI B)), (3, .int (nI (andn (DR (n, m, sh, 0, ki, op, fa, K, G, T) 24 ju) (fa ju)))), (0, .ref x0), (1, .int (nI ju)), (2, .int (nI j_21))]) [0, 1, 2, 3, 4, 5] rfl ?_
              exact ih76 _ (by omega) B (jf + 1) (it_s hs (by first | exact lis_1 hu9 | exact lis_0 hv9)) (by first | omega | assumption | rfl | (simp only []; omega) | decide) (by first | exact hBl | exact mxo_lt hBl heard_25) rfl
            ·
              have hu9 := h_45
              refine v_il 94 zC dX4_list_92 1 rfl ?_
              refine v_al_n 95 zC dX4_list_94 3 rfl ?_
              refine v_gf 98 0 zC dX4_list_95 gf_X4_25 rfl rfl ?_
              refine v_il_n 99 zC dX4_list_98 4 rfl ?_
              refine v_il 101 zC dX4_list_99 0 rfl ?_
              refine v_cV (As := [.int (nI ju), .int (nI jf)]) (st := [.int (mI B)]) 104 8 [8, 11] zC dX4_list_101 hA (c_X1_heardBehind (ev_l E) (ev_D E) cI (b0 := b0) (b1 := b1) (b2 := b2) (b3 := b3) (P := n) (Q := m) (kn := X_36) (p := ju) (t := jf) (hP := (by first | omega | assumption | rfl | (simp only []; omega) | decide)) (hp := (by first | omega | assumption | rfl | (simp only []; omega) | decide)) (ht := (by first | omega | assumption | rfl | (simp only []; omega) | decide))) cf_X1_heardBehind lk_X4_189 rfl rfl rfl rfl rfl (by decide +kernel) (Nat.le_of_ble_eq_true rfl) (fun rv_46 wv_47 hp_48 hm_49 => ?_)
              clear hm_49
              rcases hp_48 with ⟨hf_50, rfl, rfl⟩ | ⟨v_51, hf_52, hv_53, rfl, rfl⟩
              ·
                show VV E 0 0 104 [(5, .int (nI jf)), (4, .int (mI B)), (3, .int (nI (andn (DR (n, m, sh, 0, ki, op, fa, K, G, T) 24 ju) (fa ju)))), (0, .ref x0), (1, .int (nI ju)), (2, .int (nI j_21))] [.int (-9), .int (mI B)] [(x0, .inr (4, [.ref a0, .ref xm, .ref xp, .int (bz pd), .ref b0, .ref g0, .ref s0, .ref w0, .int (nI rs), .ref y0])), (a0, .inr (2, [.int (nI n), .int (nI m), .int (nI sh), .int (nI 0), .ref a1, .ref a2, .ref a3, .ref a4, .ref a5, .ref a6])), (a1, .inl (cI, 7, .inl (nIf ki))), (a2, .inl (cI, 7, .inl (nIf op))), (a3, .inl (cI, 7, .inl (nIf fa))), (a4, .inl (cI, 6, .inl (nIf K))), (a5, .inl (cI, 6, .inl (nIf G))), (a6, .inl (cI, 6, .inl (nIf T))), (b0, .inr (1, [.int (nI n), .int (nI m), .ref b1, .ref b2, .ref b3])), (b1, .inl (cI, 6, .inl (nIf mg_35))), (b2, .inl (cI, 144, .inl (mIf Y_37))), (b3, .inl (cI, 175, .inl (nIf X_36))), (y0, .inl (cI, 7, .inl (nIf R)))]
                have hq9 : HEARD (n, m, sh, 0, ki, op, fa, K, G, T) ju jf = none := (dk_heard hD9 (by omega)).symm.trans hf_50
                rw [show (-9 : Int32) = mI (HEARD (n, m, sh, 0, ki, op, fa, K, G, T) ju jf) from by rw [hq9]; rfl]
                refine v_mmax (v := (mI (mxO B (HEARD (n, m, sh, 0, ki, op, fa, K, G, T) ju jf)))) 107 zC dX4_list_104 mm_x1 mm_x2 mm_x3 mm_x4 ⟨⟨Nat.le_of_ble_eq_true rfl, Nat.le_of_ble_eq_true rfl⟩, Nat.le_of_ble_eq_true rfl, Nat.le_of_ble_eq_true rfl⟩ (mx_o (fun v e => Nat.lt_trans (hBl v e) (by decide)) (fun v e => Nat.lt_trans (heard_25 v e) (by decide))) ?_
                refine v_is (lv2 := [(4, .int (mI (mxO B (HEARD (n, m, sh, 0, ki, op, fa, K, G, T) ju jf)))), (5, .int (nI jf)), (3, .int (nI (andn (DR (n, m, sh, 0, ki, op, fa, K, G, T) 24 ju) (fa ju)))), (0, .ref x0), (1, .int (nI ju)), (2, .int (nI j_21))]) 109 zC dX4_list_107 (by rw [hnE]; decide) rfl ?_
                refine v_inc (v := (nI (jf + 1))) (lv2 := [(5, .int (nI (jf + 1))), (4, .int (mI (mxO B (HEARD (n, m, sh, 0, ki, op, fa, K, G, T) ju jf)))), (3, .int (nI (andn (DR (n, m, sh, 0, ki, op, fa, K, G, T) 24 ju) (fa ju)))), (0, .ref x0), (1, .int (nI ju)), (2, .int (nI j_21))]) 112 zC dX4_list_109 (j := 1) rfl (nI_add _ 1) (by rw [hnE]; decide) rfl ?_
                refine v_goto 76 zC dX4_list_112 ?_
                refine v_lvs (lv2 := [(5, .int (nI (jf + 1))), (4, .int (mI (mxO B (HEARD (n, m, sh, 0, ki, op, fa, K, G, T) ju jf)))), (3, .int (nI (andn (DR (n, m, sh, 0, ki, op, fa, K, G, T) 24 ju) (fa ju)))), (0, .ref x0), (1, .int (nI ju)), (2, .int (nI j_21))]) [0, 1, 2, 3, 4, 5] rfl ?_
                exact ih76 _ (by omega) (mxO B (HEARD (n, m, sh, 0, ki, op, fa, K, G, T) ju jf)) (jf + 1) (it_s hs (by first | exact lis_1 hu9 | exact lis_0 hv9)) (by first | omega | assumption | rfl | (simp only []; omega) | decide) (by first | exact hBl | exact mxo_lt hBl heard_25) rfl
              ·
                show VV E 0 0 104 [(5, .int (nI jf)), (4, .int (mI B)), (3, .int (nI (andn (DR (n, m, sh, 0, ki, op, fa, K, G, T) 24 ju) (fa ju)))), (0, .ref x0), (1, .int (nI ju)), (2, .int (nI j_21))] [.int (nI v_51), .int (mI B)] [(x0, .inr (4, [.ref a0, .ref xm, .ref xp, .int (bz pd), .ref b0, .ref g0, .ref s0, .ref w0, .int (nI rs), .ref y0])), (a0, .inr (2, [.int (nI n), .int (nI m), .int (nI sh), .int (nI 0), .ref a1, .ref a2, .ref a3, .ref a4, .ref a5, .ref a6])), (a1, .inl (cI, 7, .inl (nIf ki))), (a2, .inl (cI, 7, .inl (nIf op))), (a3, .inl (cI, 7, .inl (nIf fa))), (a4, .inl (cI, 6, .inl (nIf K))), (a5, .inl (cI, 6, .inl (nIf G))), (a6, .inl (cI, 6, .inl (nIf T))), (b0, .inr (1, [.int (nI n), .int (nI m), .ref b1, .ref b2, .ref b3])), (b1, .inl (cI, 6, .inl (nIf mg_35))), (b2, .inl (cI, 144, .inl (mIf Y_37))), (b3, .inl (cI, 175, .inl (nIf X_36))), (y0, .inl (cI, 7, .inl (nIf R)))]
                have hq9 : HEARD (n, m, sh, 0, ki, op, fa, K, G, T) ju jf = some v_51 := (dk_heard hD9 (by omega)).symm.trans hf_52
                rw [show nI v_51 = mI (HEARD (n, m, sh, 0, ki, op, fa, K, G, T) ju jf) from by rw [hq9]; rfl]
                refine v_mmax (v := (mI (mxO B (HEARD (n, m, sh, 0, ki, op, fa, K, G, T) ju jf)))) 107 zC dX4_list_104 mm_x1 mm_x2 mm_x3 mm_x4 ⟨⟨Nat.le_of_ble_eq_true rfl, Nat.le_of_ble_eq_true rfl⟩, Nat.le_of_ble_eq_true rfl, Nat.le_of_ble_eq_true rfl⟩ (mx_o (fun v e => Nat.lt_trans (hBl v e) (by decide)) (fun v e => Nat.lt_trans (heard_25 v e) (by decide))) ?_
                refine v_is (lv2 := [(4, .int (mI (mxO B (HEARD (n, m, sh, 0, ki, op, fa, K, G, T) ju jf)))), (5, .int (nI jf)), (3, .int (nI (andn (DR (n, m, sh, 0, ki, op, fa, K, G, T) 24 ju) (fa ju)))), (0, .ref x0), (1, .int (nI ju)), (2, .int (nI j_21))]) 109 zC dX4_list_107 (by rw [hnE]; decide) rfl ?_
                refine v_inc (v := (nI (jf + 1))) (lv2 := [(5, .int (nI (jf + 1))), (4, .int (mI (mxO B (HEARD (n, m, sh, 0, ki, op, fa, K, G, T) ju jf)))), (3, .int (nI (andn (DR (n, m, sh, 0, ki, op, fa, K, G, T) 24 ju) (fa ju)))), (0, .ref x0), (1, .int (nI ju)), (2, .int (nI j_21))]) 112 zC dX4_list_109 (j := 1) rfl (nI_add _ 1) (by rw [hnE]; decide) rfl ?_
                refine v_goto 76 zC dX4_list_112 ?_
                refine v_lvs (lv2 := [(5, .int (nI (jf + 1))), (4, .int (mI (mxO B (HEARD (n, m, sh, 0, ki, op, fa, K, G, T) ju jf)))), (3, .int (nI (andn (DR (n, m, sh, 0, ki, op, fa, K, G, T) 24 ju) (fa ju)))), (0, .ref x0), (1, .int (nI ju)), (2, .int (nI j_21))]) [0, 1, 2, 3, 4, 5] rfl ?_
                exact ih76 _ (by omega) (mxO B (HEARD (n, m, sh, 0, ki, op, fa, K, G, T) ju jf)) (jf + 1) (it_s hs (by first | exact lis_1 hu9 | exact lis_0 hv9)) (by first | omega | assumption | rfl | (simp only []; omega) | decide) (by first | exact hBl | exact mxo_lt hBl heard_25) rfl
        refine v_lvs (lv2 := [(5, .int (nI 0)), (4, .int (mI none)), (3, .int (nI (andn (DR (n, m, sh, 0, ki, op, fa, K, G, T) 24 ju) (fa ju)))), (0, .ref x0), (1, .int (nI ju)), (2, .int (nI j_21))]) [0, 1, 2, 3, 4, 5] rfl ?_
        exact lp76 _ none 0 (by first | omega | assumption | rfl | (simp only []; omega) | decide) (by first | omega | assumption | rfl | (simp only []; omega) | decide) (fun v e => by cases e) rfl
      ·
        refine v_il_n 68 zC dX4_list_67 0 rfl ?_
        refine v_iret zC zT dX4_list_68  ?_
        first | exact ⟨P, Q, mf, kn, M, 1, _, by unfold q_list; rw [hi_u], hB, hM, rfl, rfl⟩ | exact ⟨P, Q, mf, kn, M, 2, _, by unfold q_list; rw [hi_u]; dsimp only; rw [hi_w], hB, hM, rfl, rfl⟩ | exact ⟨_, _, _, _, _, 0, _, by unfold q_list; rw [hi_u]; dsimp only; rw [hi_w]; dsimp only; first | (rw [if_pos (by assumption)]; done) | (rw [if_pos (by assumption)]; rfl) | (rw [if_neg (by assumption), show (10 : Nat) = jf by omega, ← hs]), hD9.2.2.1, hD9.2.2.2, rfl, rfl⟩
set_option maxRecDepth 100000 in
set_option maxHeartbeats 4000000 in
theorem c_X4_nextSeed (l : Launch) (D : va_G) (cI : ClassId) (z : Int32)  : CT l yX4_nextSeed cX4_nextSeed 1 (some .int) { frames := 0, cells := 0, slots := 0, locals := 0 } D cI [.int z] [] (fun zr zw => (zr = some (.int (nxS z)) ∧ zw = [])) := by
  refine CT_of RX4 rfl (by decide +kernel) (Nat.le_of_ble_eq_true rfl) (fun E hnE zC zT => ?_)
  have hA : ∀ q, (ev_s E).heap.size ≤ q → ev_A E q := fun q h => by rw [zT.2]; exact Or.inr h
  show VV E 0 0 0 [(0, .int z)] [] []
  refine v_il_n 1 zC dX4_nextSeed_0 0 rfl ?_
  refine v_ldcw (v := (nI 1103515245)) 4 zC dX4_nextSeed_1 kc_X4_284 ?_
  refine v_imul (v := (z * (nI 1103515245))) 5 zC dX4_nextSeed_4 rfl ?_
  refine v_sp (v := (nI 12345)) 8 zC dX4_nextSeed_5 (by decide +kernel) ?_
  refine v_iadd (v := ((z * (nI 1103515245)) + (nI 12345))) 9 zC dX4_nextSeed_8 rfl ?_
  refine v_iret zC zT dX4_nextSeed_9  ?_
  exact ⟨rfl, rfl⟩
set_option maxRecDepth 100000 in
set_option maxHeartbeats 4000000 in
theorem c_X4_drawnHour (l : Launch) (D : va_G) (cI : ClassId) (z : Int32)  : CT l yX4_drawnHour cX4_drawnHour 1 (some .int) { frames := 0, cells := 0, slots := 0, locals := 0 } D cI [.int z] [] (fun zr zw => (∃ d : Nat, (d < 24) ∧ (DH z d) ∧ zr = some (.int (nI d)) ∧ zw = [])) := by
  refine CT_of RX4 rfl (by decide +kernel) (Nat.le_of_ble_eq_true rfl) (fun E hnE zC zT => ?_)
  have hA : ∀ q, (ev_s E).heap.size ≤ q → ev_A E q := fun q h => by rw [zT.2]; exact Or.inr h
  show VV E 0 0 0 [(0, .int z)] [] []
  refine v_il_n 1 zC dX4_drawnHour_0 0 rfl ?_
  refine v_ldcw (v := (nI 2147483647)) 4 zC dX4_drawnHour_1 kc_X4_285 ?_
  refine v_iand (v := (nI (z.toBitVec.toNat % 2 ^ 31))) 5 zC dX4_drawnHour_4 (pk_and z 31 (by decide +kernel)) ?_
  refine v_ldcw (v := (nI 65536)) 8 zC dX4_drawnHour_5 kc_X4_286 ?_
  refine v_idiv (v := (nI ((z.toBitVec.toNat % 2 ^ 31) / 65536))) 9 zC dX4_drawnHour_8 (nI_ne0 (by omega) (by omega)) (pk_div (by omega) (by omega) (by omega)) ?_
  refine v_bp (v := (nI 24)) 11 zC dX4_drawnHour_9 (by decide +kernel) ?_
  refine v_irem (v := (nI (((z.toBitVec.toNat % 2 ^ 31) / 65536) % 24))) 12 zC dX4_drawnHour_11 (nI_ne0 (by omega) (by omega)) (pk_rem (by omega) (by omega) (by omega)) ?_
  refine v_iret zC zT dX4_drawnHour_12  ?_
  exact ⟨_, drH_lt z, rfl, rfl, rfl⟩
set_option maxRecDepth 100000 in
set_option maxHeartbeats 4000000 in
theorem c_X4_lots (l : Launch) (D : va_G) (cI : ClassId) (x0 xp g0 s0 w0 y0 : Nat) (pd : Bool) (rs : Nat) (b0 b1 b2 b3 : Nat) (P Q : Nat) (mf : Nat → Nat) (M : Nat → Option Nat) (kn : Nat → Nat) (a0 a1 a2 a3 a4 a5 a6 : Nat) (n m sh : Nat) (ki op fa K G T : Nat → Nat) (c0 c1 c2 c3 c4 c5 c6 : Nat) (n1 m1 sh1 aw1 : Nat) (ki1 op1 fa1 K1 G1 T1 : Nat → Nat) (R : Nat → Nat) (k z w : Int32) (hw : FW n m sh ki op fa K G T) (hw1 : FW n1 m1 sh1 ki1 op1 fa1 K1 G1 T1) (hB : ∀ z, kn z < 1024) (hM : ∀ z v, M z = some v → v < 7)  : CT l yX4_lots cX4_lots 11 (some .int) { frames := 5, cells := 0, slots := 0, locals := 120 } D cI [.ref x0, .int k, .int z, .int w] [(x0, .inr (4, [.ref a0, .ref c0, .ref xp, .int (bz pd), .ref b0, .ref g0, .ref s0, .ref w0, .int (nI rs), .ref y0])), (a0, .inr (2, [.int (nI n), .int (nI m), .int (nI sh), .int (nI 0), .ref a1, .ref a2, .ref a3, .ref a4, .ref a5, .ref a6])), (a1, .inl (cI, 7, .inl (nIf ki))), (a2, .inl (cI, 7, .inl (nIf op))), (a3, .inl (cI, 7, .inl (nIf fa))), (a4, .inl (cI, 6, .inl (nIf K))), (a5, .inl (cI, 6, .inl (nIf G))), (a6, .inl (cI, 6, .inl (nIf T))), (c0, .inr (2, [.int (nI n1), .int (nI m1), .int (nI sh1), .int (nI aw1), .ref c1, .ref c2, .ref c3, .ref c4, .ref c5, .ref c6])), (c1, .inl (cI, 7, .inl (nIf ki1))), (c2, .inl (cI, 7, .inl (nIf op1))), (c3, .inl (cI, 7, .inl (nIf fa1))), (c4, .inl (cI, 6, .inl (nIf K1))), (c5, .inl (cI, 6, .inl (nIf G1))), (c6, .inl (cI, 6, .inl (nIf T1))), (b0, .inr (1, [.int (nI P), .int (nI Q), .ref b1, .ref b2, .ref b3])), (b1, .inl (cI, 6, .inl (nIf mf))), (b2, .inl (cI, 144, .inl (mIf M))), (b3, .inl (cI, 175, .inl (nIf kn))), (y0, .inl (cI, 7, .inl (nIf R)))] (fun zr zw => (∃ P1 : Nat, ∃ Q1 : Nat, ∃ mg : Nat → Nat, ∃ X : Nat → Nat, ∃ Y : Nat → Option Nat, ∃ n3 : Nat, ∃ m3 : Nat, ∃ s3 : Nat, ∃ w3 : Nat, ∃ ki3 : Nat → Nat, ∃ op3 : Nat → Nat, ∃ fa3 : Nat → Nat, ∃ K3 : Nat → Nat, ∃ G3 : Nat → Nat, ∃ T3 : Nat → Nat, ∃ rc : Nat, ∃ rv : Int32, (q_lots (n, m, sh, 0, ki, op, fa, K, G, T) k z w = (rc, rv)) ∧ (FW n3 m3 s3 ki3 op3 fa3 K3 G3 T3) ∧ (∀ z, X z < 1024) ∧ (∀ z v, Y z = some v → v < 7) ∧ zr = some (.int rv) ∧ zw = [(x0, .inr (4, [.ref a0, .ref c0, .ref xp, .int (bz pd), .ref b0, .ref g0, .ref s0, .ref w0, .int (nI rs), .ref y0])), (a0, .inr (2, [.int (nI n), .int (nI m), .int (nI sh), .int (nI 0), .ref a1, .ref a2, .ref a3, .ref a4, .ref a5, .ref a6])), (a1, .inl (cI, 7, .inl (nIf ki))), (a2, .inl (cI, 7, .inl (nIf op))), (a3, .inl (cI, 7, .inl (nIf fa))), (a4, .inl (cI, 6, .inl (nIf K))), (a5, .inl (cI, 6, .inl (nIf G))), (a6, .inl (cI, 6, .inl (nIf T))), (c0, .inr (2, [.int (nI n3), .int (nI m3), .int (nI s3), .int (nI w3), .ref c1, .ref c2, .ref c3, .ref c4, .ref c5, .ref c6])), (c1, .inl (cI, 7, .inl (nIf ki3))), (c2, .inl (cI, 7, .inl (nIf op3))), (c3, .inl (cI, 7, .inl (nIf fa3))), (c4, .inl (cI, 6, .inl (nIf K3))), (c5, .inl (cI, 6, .inl (nIf G3))), (c6, .inl (cI, 6, .inl (nIf T3))), (b0, .inr (1, [.int (nI P1), .int (nI Q1), .ref b1, .ref b2, .ref b3])), (b1, .inl (cI, 6, .inl (nIf mg))), (b2, .inl (cI, 144, .inl (mIf Y))), (b3, .inl (cI, 175, .inl (nIf X))), (y0, .inl (cI, 7, .inl (nIf (rf R rc))))])) := by
  refine CT_of RX4 rfl (by decide +kernel) (Nat.le_of_ble_eq_true rfl) (fun E hnE zC zT => ?_)
  have hA : ∀ q, (ev_s E).heap.size ≤ q → ev_A E q := fun q h => by rw [zT.2]; exact Or.inr h
  obtain ⟨hn, hm, hsh, hki, hop, hfa, hK, hG, hT, vki, vop, vfa, vK, vG, vT⟩ := id hw
  have h2n : 2 ^ n ≤ 2 ^ 7 := Nat.pow_le_pow_right (by decide) hn
  show VV E 0 0 0 [(0, .ref x0), (1, .int k), (2, .int z), (3, .int w)] [] [(x0, .inr (4, [.ref a0, .ref c0, .ref xp, .int (bz pd), .ref b0, .ref g0, .ref s0, .ref w0, .int (nI rs), .ref y0])), (a0, .inr (2, [.int (nI n), .int (nI m), .int (nI sh), .int (nI 0), .ref a1, .ref a2, .ref a3, .ref a4, .ref a5, .ref a6])), (a1, .inl (cI, 7, .inl (nIf ki))), (a2, .inl (cI, 7, .inl (nIf op))), (a3, .inl (cI, 7, .inl (nIf fa))), (a4, .inl (cI, 6, .inl (nIf K))), (a5, .inl (cI, 6, .inl (nIf G))), (a6, .inl (cI, 6, .inl (nIf T))), (c0, .inr (2, [.int (nI n1), .int (nI m1), .int (nI sh1), .int (nI aw1), .ref c1, .ref c2, .ref c3, .ref c4, .ref c5, .ref c6])), (c1, .inl (cI, 7, .inl (nIf ki1))), (c2, .inl (cI, 7, .inl (nIf op1))), (c3, .inl (cI, 7, .inl (nIf fa1))), (c4, .inl (cI, 6, .inl (nIf K1))), (c5, .inl (cI, 6, .inl (nIf G1))), (c6, .inl (cI, 6, .inl (nIf T1))), (b0, .inr (1, [.int (nI P), .int (nI Q), .ref b1, .ref b2, .ref b3])), (b1, .inl (cI, 6, .inl (nIf mf))), (b2, .inl (cI, 144, .inl (mIf M))), (b3, .inl (cI, 175, .inl (nIf kn))), (y0, .inl (cI, 7, .inl (nIf R)))]
  refine v_il_n 1 zC dX4_lots_0 1 rfl ?_
  refine v_ic (v := (nI 1)) 2 zC dX4_lots_1 (by decide +kernel) ?_
  refine v_icmp_ge 12 5 zC dX4_lots_2 (fun h_1 => ?_) (fun h_1 => ?_)
  ·
    have hge : ¬ k < nI 1 := Int32.not_lt.mpr h_1
    refine v_il_n 13 zC dX4_lots_12 1 rfl ?_
    refine v_bp (v := (nI 20)) 15 zC dX4_lots_13 (by decide +kernel) ?_
    refine v_icmp_le 25 18 zC dX4_lots_15 (fun h_2 => ?_) (fun h_2 => ?_)
    ·
      have hle := Int32.not_lt.mpr h_2
      obtain ⟨jk, hk1, hk2, he_jk⟩ := ofR2 hge hle (by decide) (by decide)
      subst he_jk
      refine v_il_n 26 zC dX4_lots_25 3 rfl ?_
      refine v_ic (v := (nI 2)) 27 zC dX4_lots_26 (by decide +kernel) ?_
      refine v_cS (As := [.int w, .int (nI 2)]) (st := []) 30 [] zC dX4_lots_27 hA (c_X4_noWhat (ev_l E) (ev_D E) cI (p := w) (k := 2) (hk := (by first | omega | assumption | rfl | (simp only []; omega) | decide))) cf_X4_noWhat lk_X4_83 rfl rfl rfl (by decide +kernel) (Nat.le_of_ble_eq_true rfl) (fun rv_3 wv_4 hp_5 hm_6 => ?_)
      clear hm_6
      rcases hp_5 with ⟨hi_7, rfl, rfl⟩ | ⟨j_8, he_9, hi_10, hj_11, rfl, rfl⟩
      ·
        show VV E 0 0 30 [(0, .ref x0), (1, .int (nI jk)), (2, .int z), (3, .int w)] [.int (nI 1)] [(x0, .inr (4, [.ref a0, .ref c0, .ref xp, .int (bz pd), .ref b0, .ref g0, .ref s0, .ref w0, .int (nI rs), .ref y0])), (a0, .inr (2, [.int (nI n), .int (nI m), .int (nI sh), .int (nI 0), .ref a1, .ref a2, .ref a3, .ref a4, .ref a5, .ref a6])), (a1, .inl (cI, 7, .inl (nIf ki))), (a2, .inl (cI, 7, .inl (nIf op))), (a3, .inl (cI, 7, .inl (nIf fa))), (a4, .inl (cI, 6, .inl (nIf K))), (a5, .inl (cI, 6, .inl (nIf G))), (a6, .inl (cI, 6, .inl (nIf T))), (c0, .inr (2, [.int (nI n1), .int (nI m1), .int (nI sh1), .int (nI aw1), .ref c1, .ref c2, .ref c3, .ref c4, .ref c5, .ref c6])), (c1, .inl (cI, 7, .inl (nIf ki1))), (c2, .inl (cI, 7, .inl (nIf op1))), (c3, .inl (cI, 7, .inl (nIf fa1))), (c4, .inl (cI, 6, .inl (nIf K1))), (c5, .inl (cI, 6, .inl (nIf G1))), (c6, .inl (cI, 6, .inl (nIf T1))), (b0, .inr (1, [.int (nI P), .int (nI Q), .ref b1, .ref b2, .ref b3])), (b1, .inl (cI, 6, .inl (nIf mf))), (b2, .inl (cI, 144, .inl (mIf M))), (b3, .inl (cI, 175, .inl (nIf kn))), (y0, .inl (cI, 7, .inl (nIf R)))]
        have hi_w := hi_7
        refine v_if_eq 40 33 zC dX4_lots_30 (fun z => absurd z (by decide +kernel)) (fun _ => ?_)
        refine v_al_n 34 zC dX4_lots_33 0 rfl ?_
        refine v_bp (v := (-2)) 36 zC dX4_lots_34 (by decide +kernel) ?_
        refine v_cV (As := [.int (-2)]) (st := []) 39 0 [0, 19] zC dX4_lots_36 hA (c_X4_refuse (ev_l E) (ev_D E) cI (x0 := x0) (xn := a0) (xm := c0) (xp := xp) (b0 := b0) (g0 := g0) (s0 := s0) (w0 := w0) (y0 := y0) (pd := pd) (rs := rs) (R := R) (v := (-2)) (j := 2) (hv := (by first | omega | assumption | rfl | (simp only []; omega) | decide)) (h1 := (by first | omega | assumption | rfl | (simp only []; omega) | decide)) (h6 := (by first | omega | assumption | rfl | (simp only []; omega) | decide))) cf_X4_refuse lk_X4_50 rfl rfl rfl rfl rfl (by decide +kernel) (Nat.le_of_ble_eq_true rfl) (fun rv_13 wv_14 hp_15 hm_16 => ?_)
        clear hm_16
        obtain ⟨rfl, rfl⟩ := hp_15
        show VV E 0 0 39 [(0, .ref x0), (1, .int (nI jk)), (2, .int z), (3, .int w)] [.int (-2)] [(x0, .inr (4, [.ref a0, .ref c0, .ref xp, .int (bz pd), .ref b0, .ref g0, .ref s0, .ref w0, .int (nI rs), .ref y0])), (a0, .inr (2, [.int (nI n), .int (nI m), .int (nI sh), .int (nI 0), .ref a1, .ref a2, .ref a3, .ref a4, .ref a5, .ref a6])), (a1, .inl (cI, 7, .inl (nIf ki))), (a2, .inl (cI, 7, .inl (nIf op))), (a3, .inl (cI, 7, .inl (nIf fa))), (a4, .inl (cI, 6, .inl (nIf K))), (a5, .inl (cI, 6, .inl (nIf G))), (a6, .inl (cI, 6, .inl (nIf T))), (c0, .inr (2, [.int (nI n1), .int (nI m1), .int (nI sh1), .int (nI aw1), .ref c1, .ref c2, .ref c3, .ref c4, .ref c5, .ref c6])), (c1, .inl (cI, 7, .inl (nIf ki1))), (c2, .inl (cI, 7, .inl (nIf op1))), (c3, .inl (cI, 7, .inl (nIf fa1))), (c4, .inl (cI, 6, .inl (nIf K1))), (c5, .inl (cI, 6, .inl (nIf G1))), (c6, .inl (cI, 6, .inl (nIf T1))), (b0, .inr (1, [.int (nI P), .int (nI Q), .ref b1, .ref b2, .ref b3])), (b1, .inl (cI, 6, .inl (nIf mf))), (b2, .inl (cI, 144, .inl (mIf M))), (b3, .inl (cI, 175, .inl (nIf kn))), (y0, .inl (cI, 7, .inl (nIf (un R 2 (R 2 + 1)))))]
        refine v_iret zC zT dX4_lots_39  ?_
        first | exact ⟨_, _, _, _, _, _, _, _, _, _, _, _, _, _, _, 4, _, by unfold q_lots; rw [if_pos hlt9], hw1, (by first | exact hB9 | exact hD9.2.2.1 | exact hB), (by first | exact hM9 | exact hD9.2.2.2 | exact hM), rfl, rfl⟩ | exact ⟨_, _, _, _, _, _, _, _, _, _, _, _, _, _, _, 6, _, by unfold q_lots; rw [if_neg hge, if_pos hgt9], hw1, (by first | exact hB9 | exact hD9.2.2.1 | exact hB), (by first | exact hM9 | exact hD9.2.2.2 | exact hM), rfl, rfl⟩ | exact ⟨_, _, _, _, _, _, _, _, _, _, _, _, _, _, _, 2, _, by unfold q_lots; rw [if_neg hge, if_neg hle, hi_w], hw1, (by first | exact hB9 | exact hD9.2.2.1 | exact hB), (by first | exact hM9 | exact hD9.2.2.2 | exact hM), rfl, rfl⟩ | exact ⟨_, _, _, _, _, _, _, _, _, _, _, _, _, _, _, 0, _, by unfold q_lots; rw [if_neg hge, if_neg hle, hi_w]; dsimp only; rw [nI_clamp (show jk < 2 ^ 31 by omega)]; unfold LOT; rw [show jk = i by omega, show g_op (n, m, sh, 0, ki, op, fa, K, G, T) = op from rfl, ← hs]; first | rw [if_pos (by assumption)] | rw [if_neg (by assumption)], ⟨hn, hm, hsh, hki, hOb, hfa, hK, hG, hT, vki, hOv, vfa, vK, vG, vT⟩, (by first | exact hB9 | exact hD9.2.2.1 | exact hB), (by first | exact hM9 | exact hD9.2.2.2 | exact hM), rfl, rfl⟩
      ·
        show VV E 0 0 30 [(0, .ref x0), (1, .int (nI jk)), (2, .int z), (3, .int w)] [.int (nI 0)] [(x0, .inr (4, [.ref a0, .ref c0, .ref xp, .int (bz pd), .ref b0, .ref g0, .ref s0, .ref w0, .int (nI rs), .ref y0])), (a0, .inr (2, [.int (nI n), .int (nI m), .int (nI sh), .int (nI 0), .ref a1, .ref a2, .ref a3, .ref a4, .ref a5, .ref a6])), (a1, .inl (cI, 7, .inl (nIf ki))), (a2, .inl (cI, 7, .inl (nIf op))), (a3, .inl (cI, 7, .inl (nIf fa))), (a4, .inl (cI, 6, .inl (nIf K))), (a5, .inl (cI, 6, .inl (nIf G))), (a6, .inl (cI, 6, .inl (nIf T))), (c0, .inr (2, [.int (nI n1), .int (nI m1), .int (nI sh1), .int (nI aw1), .ref c1, .ref c2, .ref c3, .ref c4, .ref c5, .ref c6])), (c1, .inl (cI, 7, .inl (nIf ki1))), (c2, .inl (cI, 7, .inl (nIf op1))), (c3, .inl (cI, 7, .inl (nIf fa1))), (c4, .inl (cI, 6, .inl (nIf K1))), (c5, .inl (cI, 6, .inl (nIf G1))), (c6, .inl (cI, 6, .inl (nIf T1))), (b0, .inr (1, [.int (nI P), .int (nI Q), .ref b1, .ref b2, .ref b3])), (b1, .inl (cI, 6, .inl (nIf mf))), (b2, .inl (cI, 144, .inl (mIf M))), (b3, .inl (cI, 175, .inl (nIf kn))), (y0, .inl (cI, 7, .inl (nIf R)))]
        subst he_9
        have hi_w := hi_10
        refine v_if_eq 40 33 zC dX4_lots_30 (fun _ => ?_) (fun z => absurd (by decide +kernel) z)
        refine v_al_n 41 zC dX4_lots_40 0 rfl ?_
        refine v_gf 44 0 zC dX4_lots_41 gf_X4_16 rfl rfl ?_
        refine v_al_n 45 zC dX4_lots_44 0 rfl ?_
        refine v_gf 48 0 zC dX4_lots_45 gf_X4_12 rfl rfl ?_
        refine v_cV (As := [.ref a0]) (st := []) 51 8 [8, 9, 10, 11, 12, 13, 14, 1, 2, 3, 4, 5, 6, 7] zC dX4_lots_48 hA (c_X2_become (ev_l E) (ev_D E) cI (a0 := a0) (a1 := a1) (a2 := a2) (a3 := a3) (a4 := a4) (a5 := a5) (a6 := a6) (n := n) (m := m) (sh := sh) (aw := 0) (ki := ki) (op := op) (fa := fa) (K := K) (G := G) (T := T) (c0 := c0) (c1 := c1) (c2 := c2) (c3 := c3) (c4 := c4) (c5 := c5) (c6 := c6) (n1 := n1) (m1 := m1) (sh1 := sh1) (aw1 := aw1) (ki1 := ki1) (op1 := op1) (fa1 := fa1) (K1 := K1) (G1 := G1) (T1 := T1) (hw := hw) (hw1 := hw1)) cf_X2_become lk_X4_65 rfl rfl rfl rfl rfl (by decide +kernel) (Nat.le_of_ble_eq_true rfl) (fun rv_18 wv_19 hp_20 hm_21 => ?_)
        clear hm_21
        obtain ⟨rfl, rfl⟩ := hp_20
        show VV E 0 0 51 [(0, .ref x0), (1, .int (nI jk)), (2, .int z), (3, .int (nI j_8))] [] [(x0, .inr (4, [.ref a0, .ref c0, .ref xp, .int (bz pd), .ref b0, .ref g0, .ref s0, .ref w0, .int (nI rs), .ref y0])), (a0, .inr (2, [.int (nI n), .int (nI m), .int (nI sh), .int (nI 0), .ref a1, .ref a2, .ref a3, .ref a4, .ref a5, .ref a6])), (a1, .inl (cI, 7, .inl (nIf ki))), (a2, .inl (cI, 7, .inl (nIf op))), (a3, .inl (cI, 7, .inl (nIf fa))), (a4, .inl (cI, 6, .inl (nIf K))), (a5, .inl (cI, 6, .inl (nIf G))), (a6, .inl (cI, 6, .inl (nIf T))), (c0, .inr (2, [.int (nI n), .int (nI m), .int (nI sh), .int (nI 0), .ref c1, .ref c2, .ref c3, .ref c4, .ref c5, .ref c6])), (c1, .inl (cI, 7, .inl (nIf ki))), (c2, .inl (cI, 7, .inl (nIf op))), (c3, .inl (cI, 7, .inl (nIf fa))), (c4, .inl (cI, 6, .inl (nIf K))), (c5, .inl (cI, 6, .inl (nIf G))), (c6, .inl (cI, 6, .inl (nIf T))), (b0, .inr (1, [.int (nI P), .int (nI Q), .ref b1, .ref b2, .ref b3])), (b1, .inl (cI, 6, .inl (nIf mf))), (b2, .inl (cI, 144, .inl (mIf M))), (b3, .inl (cI, 175, .inl (nIf kn))), (y0, .inl (cI, 7, .inl (nIf R)))]
        refine v_il_n 52 zC dX4_lots_51 2 rfl ?_
        refine v_is (lv2 := [(4, .int z), (0, .ref x0), (1, .int (nI jk)), (2, .int z), (3, .int (nI j_8))]) 54 zC dX4_lots_52 (by rw [hnE]; decide) rfl ?_
        refine v_ic (v := (nI 0)) 55 zC dX4_lots_54 (by decide +kernel) ?_
        refine v_is (lv2 := [(5, .int (nI 0)), (4, .int z), (0, .ref x0), (1, .int (nI jk)), (2, .int z), (3, .int (nI j_8))]) 57 zC dX4_lots_55 (by rw [hnE]; decide) rfl ?_
        refine v_ic (v := (nI 0)) 58 zC dX4_lots_57 (by decide +kernel) ?_
        refine v_is (lv2 := [(6, .int (nI 0)), (5, .int (nI 0)), (4, .int z), (0, .ref x0), (1, .int (nI jk)), (2, .int z), (3, .int (nI j_8))]) 60 zC dX4_lots_58 (by rw [hnE]; decide) rfl ?_
        refine v_ic (v := (nI 0)) 61 zC dX4_lots_60 (by decide +kernel) ?_
        refine v_is (lv2 := [(7, .int (nI 0)), (6, .int (nI 0)), (5, .int (nI 0)), (4, .int z), (0, .ref x0), (1, .int (nI jk)), (2, .int z), (3, .int (nI j_8))]) 63 zC dX4_lots_61 (by rw [hnE]; decide) rfl ?_
        have lp63 : ∀ (mz : Nat) (P2 : Nat) (Q2 : Nat) (mg : Nat → Nat) (Y : Nat → Option Nat) (X : Nat → Nat) (sd : Int32) (O : Nat → Nat) (x : Nat) (y : Nat) (i : Nat), (∀ z, X z < 1024) → (∀ z v, Y z = some v → v < 7) → ((sd, O, x, y) = it (lotS (n, m, sh, 0, ki, op, fa, K, G, T)) (z, op, 0, 0) i) → (∀ z, O z < 2 ^ 24) → (VZ 7 O) → (i ≤ jk) → (x ≤ 70 * i) → (y ≤ i) → jk - i = mz → VV E 0 0 63 [(7, .int (nI i)), (6, .int (nI y)), (5, .int (nI x)), (4, .int sd), (0, .ref x0), (1, .int (nI jk)), (2, .int z), (3, .int (nI j_8))] [] [(x0, .inr (4, [.ref a0, .ref c0, .ref xp, .int (bz pd), .ref b0, .ref g0, .ref s0, .ref w0, .int (nI rs), .ref y0])), (a0, .inr (2, [.int (nI n), .int (nI m), .int (nI sh), .int (nI 0), .ref a1, .ref a2, .ref a3, .ref a4, .ref a5, .ref a6])), (a1, .inl (cI, 7, .inl (nIf ki))), (a2, .inl (cI, 7, .inl (nIf op))), (a3, .inl (cI, 7, .inl (nIf fa))), (a4, .inl (cI, 6, .inl (nIf K))), (a5, .inl (cI, 6, .inl (nIf G))), (a6, .inl (cI, 6, .inl (nIf T))), (c0, .inr (2, [.int (nI n), .int (nI m), .int (nI sh), .int (nI 0), .ref c1, .ref c2, .ref c3, .ref c4, .ref c5, .ref c6])), (c1, .inl (cI, 7, .inl (nIf ki))), (c2, .inl (cI, 7, .inl (nIf O))), (c3, .inl (cI, 7, .inl (nIf fa))), (c4, .inl (cI, 6, .inl (nIf K))), (c5, .inl (cI, 6, .inl (nIf G))), (c6, .inl (cI, 6, .inl (nIf T))), (b0, .inr (1, [.int (nI P2), .int (nI Q2), .ref b1, .ref b2, .ref b3])), (b1, .inl (cI, 6, .inl (nIf mg))), (b2, .inl (cI, 144, .inl (mIf Y))), (b3, .inl (cI, 175, .inl (nIf X))), (y0, .inl (cI, 7, .inl (nIf R)))] := by
          intro mz
          induction mz using Nat.strongRecOn with
          | _ mz ih63 =>
          intro P2 Q2 mg Y X sd O x y i hB9 hM9 hs hOb hOv hi hx hy hm63
          refine v_il 65 zC dX4_lots_63 0 rfl ?_
          refine v_il_n 66 zC dX4_lots_65 5 rfl ?_
          refine v_icmpn_ge 177 69 zC dX4_lots_66 (fun h_22 => ?_) (fun h_22 => ?_)
          ·
            refine v_il_n 178 zC dX4_lots_177 7 rfl ?_
            refine v_ifn_ne 186 181 zC dX4_lots_178 (fun h_23 => ?_) (fun h_23 => ?_)
            ·
              refine v_il 188 zC dX4_lots_186 1 rfl ?_
              refine v_iret zC zT dX4_lots_188  ?_
              first | exact ⟨_, _, _, _, _, _, _, _, _, _, _, _, _, _, _, 4, _, by unfold q_lots; rw [if_pos hlt9], hw1, (by first | exact hB9 | exact hD9.2.2.1 | exact hB), (by first | exact hM9 | exact hD9.2.2.2 | exact hM), rfl, rfl⟩ | exact ⟨_, _, _, _, _, _, _, _, _, _, _, _, _, _, _, 6, _, by unfold q_lots; rw [if_neg hge, if_pos hgt9], hw1, (by first | exact hB9 | exact hD9.2.2.1 | exact hB), (by first | exact hM9 | exact hD9.2.2.2 | exact hM), rfl, rfl⟩ | exact ⟨_, _, _, _, _, _, _, _, _, _, _, _, _, _, _, 2, _, by unfold q_lots; rw [if_neg hge, if_neg hle, hi_w], hw1, (by first | exact hB9 | exact hD9.2.2.1 | exact hB), (by first | exact hM9 | exact hD9.2.2.2 | exact hM), rfl, rfl⟩ | exact ⟨_, _, _, _, _, _, _, _, _, _, _, _, _, _, _, 0, _, by unfold q_lots; rw [if_neg hge, if_neg hle, hi_w]; dsimp only; rw [nI_clamp (show jk < 2 ^ 31 by omega)]; unfold LOT; rw [show jk = i by omega, show g_op (n, m, sh, 0, ki, op, fa, K, G, T) = op from rfl, ← hs]; first | rw [if_pos (by assumption)] | rw [if_neg (by assumption)], ⟨hn, hm, hsh, hki, hOb, hfa, hK, hG, hT, vki, hOv, vfa, vK, vG, vT⟩, (by first | exact hB9 | exact hD9.2.2.1 | exact hB), (by first | exact hM9 | exact hD9.2.2.2 | exact hM), rfl, rfl⟩
            ·
              refine v_il 183 zC dX4_lots_181 2 rfl ?_
              refine v_goto 188 zC dX4_lots_183 ?_
              refine v_iret zC zT dX4_lots_188  ?_
              first | exact ⟨_, _, _, _, _, _, _, _, _, _, _, _, _, _, _, 4, _, by unfold q_lots; rw [if_pos hlt9], hw1, (by first | exact hB9 | exact hD9.2.2.1 | exact hB), (by first | exact hM9 | exact hD9.2.2.2 | exact hM), rfl, rfl⟩ | exact ⟨_, _, _, _, _, _, _, _, _, _, _, _, _, _, _, 6, _, by unfold q_lots; rw [if_neg hge, if_pos hgt9], hw1, (by first | exact hB9 | exact hD9.2.2.1 | exact hB), (by first | exact hM9 | exact hD9.2.2.2 | exact hM), rfl, rfl⟩ | exact ⟨_, _, _, _, _, _, _, _, _, _, _, _, _, _, _, 2, _, by unfold q_lots; rw [if_neg hge, if_neg hle, hi_w], hw1, (by first | exact hB9 | exact hD9.2.2.1 | exact hB), (by first | exact hM9 | exact hD9.2.2.2 | exact hM), rfl, rfl⟩ | exact ⟨_, _, _, _, _, _, _, _, _, _, _, _, _, _, _, 0, _, by unfold q_lots; rw [if_neg hge, if_neg hle, hi_w]; dsimp only; rw [nI_clamp (show jk < 2 ^ 31 by omega)]; unfold LOT; rw [show jk = i by omega, show g_op (n, m, sh, 0, ki, op, fa, K, G, T) = op from rfl, ← hs]; first | rw [if_pos (by assumption)] | rw [if_neg (by assumption)], ⟨hn, hm, hsh, hki, hOb, hfa, hK, hG, hT, vki, hOv, vfa, vK, vG, vT⟩, (by first | exact hB9 | exact hD9.2.2.1 | exact hB), (by first | exact hM9 | exact hD9.2.2.2 | exact hM), rfl, rfl⟩
          ·
            refine v_ic (v := (nI 0)) 70 zC dX4_lots_69 (by decide +kernel) ?_
            refine v_is (lv2 := [(8, .int (nI 0)), (7, .int (nI i)), (6, .int (nI y)), (5, .int (nI x)), (4, .int sd), (0, .ref x0), (1, .int (nI jk)), (2, .int z), (3, .int (nI j_8))]) 72 zC dX4_lots_70 (by rw [hnE]; decide) rfl ?_
            have lp72 : ∀ (mz : Nat) (s2 : Int32) (O2 : Nat → Nat) (p : Nat), ((s2, O2) = it lotP (sd, O) p) → (∀ z, O2 z < 2 ^ 24) → (VZ 7 O2) → (p ≤ n) → n - p = mz → VV E 0 0 72 [(8, .int (nI p)), (7, .int (nI i)), (6, .int (nI y)), (5, .int (nI x)), (4, .int s2), (0, .ref x0), (1, .int (nI jk)), (2, .int z), (3, .int (nI j_8))] [] [(x0, .inr (4, [.ref a0, .ref c0, .ref xp, .int (bz pd), .ref b0, .ref g0, .ref s0, .ref w0, .int (nI rs), .ref y0])), (a0, .inr (2, [.int (nI n), .int (nI m), .int (nI sh), .int (nI 0), .ref a1, .ref a2, .ref a3, .ref a4, .ref a5, .ref a6])), (a1, .inl (cI, 7, .inl (nIf ki))), (a2, .inl (cI, 7, .inl (nIf op))), (a3, .inl (cI, 7, .inl (nIf fa))), (a4, .inl (cI, 6, .inl (nIf K))), (a5, .inl (cI, 6, .inl (nIf G))), (a6, .inl (cI, 6, .inl (nIf T))), (c0, .inr (2, [.int (nI n), .int (nI m), .int (nI sh), .int (nI 0), .ref c1, .ref c2, .ref c3, .ref c4, .ref c5, .ref c6])), (c1, .inl (cI, 7, .inl (nIf ki))), (c2, .inl (cI, 7, .inl (nIf O2))), (c3, .inl (cI, 7, .inl (nIf fa))), (c4, .inl (cI, 6, .inl (nIf K))), (c5, .inl (cI, 6, .inl (nIf G))), (c6, .inl (cI, 6, .inl (nIf T))), (b0, .inr (1, [.int (nI P2), .int (nI Q2), .ref b1, .ref b2, .ref b3])), (b1, .inl (cI, 6, .inl (nIf mg))), (b2, .inl (cI, 144, .inl (mIf Y))), (b3, .inl (cI, 175, .inl (nIf X))), (y0, .inl (cI, 7, .inl (nIf R)))] := by
              intro mz
              induction mz using Nat.strongRecOn with
              | _ mz ih72 =>
              intro s2 O2 p hp2 hO2b hO2v hp hm72
              refine v_il 74 zC dX4_lots_72 0 rfl ?_
              refine v_al_n 75 zC dX4_lots_74 5 rfl ?_
              refine v_gf 78 0 zC dX4_lots_75 gf_X4_12 rfl rfl ?_
              refine v_gf 81 1 zC dX4_lots_78 gf_X4_114 rfl rfl ?_
              refine v_icmpn_ge 145 84 zC dX4_lots_81 (fun h_24 => ?_) (fun h_24 => ?_)
              ·
                have hp9 : (s2, O2) = it lotP (sd, O) (g_n (n, m, sh, 0, ki, op, fa, K, G, T)) := by rw [show g_n (n, m, sh, 0, ki, op, fa, K, G, T) = p from (by show n = p; omega)]; exact hp2
                refine v_il 147 zC dX4_lots_145 3 rfl ?_
                refine v_al_n 148 zC dX4_lots_147 5 rfl ?_
                refine v_al_n 149 zC dX4_lots_148 5 rfl ?_
                refine v_gf 152 0 zC dX4_lots_149 gf_X4_16 rfl rfl ?_
                refine v_cV (As := [.ref c0]) (st := [.int (nI x)]) 155 0 [0, 8, 9, 10, 11, 12, 13, 14, 15, 16, 17, 18] zC dX4_lots_152 hA (c_X4_allOf (ev_l E) (ev_D E) cI (x0 := x0) (xn := a0) (xm := c0) (xp := xp) (g0 := g0) (s0 := s0) (w0 := w0) (y0 := y0) (pd := pd) (rs := rs) (b0 := b0) (b1 := b1) (b2 := b2) (b3 := b3) (P := P2) (Q := Q2) (mf := mg) (M := Y) (kn := X) (a0 := c0) (a1 := c1) (a2 := c2) (a3 := c3) (a4 := c4) (a5 := c5) (a6 := c6) (n := n) (m := m) (sh := sh) (aw := 0) (ki := ki) (op := O2) (fa := fa) (K := K) (G := G) (T := T) (hw := ⟨hn, hm, hsh, hki, hO2b, hfa, hK, hG, hT, vki, hO2v, vfa, vK, vG, vT⟩) (hB := hB9) (hM := hM9)) cf_X4_allOf lk_X4_198 rfl rfl rfl rfl rfl (by decide +kernel) (Nat.le_of_ble_eq_true rfl) (fun rv_25 wv_26 hp_27 hm_28 => ?_)
                clear hm_28
                obtain ⟨mg_29, X_30, Y_31, hD_32, rfl, rfl⟩ := hp_27
                show VV E 0 0 155 [(8, .int (nI p)), (7, .int (nI i)), (6, .int (nI y)), (5, .int (nI x)), (4, .int s2), (0, .ref x0), (1, .int (nI jk)), (2, .int z), (3, .int (nI j_8))] [.int (nI (ALL (n, m, sh, 0, ki, O2, fa, K, G, T))), .int (nI x)] [(x0, .inr (4, [.ref a0, .ref c0, .ref xp, .int (bz pd), .ref b0, .ref g0, .ref s0, .ref w0, .int (nI rs), .ref y0])), (a0, .inr (2, [.int (nI n), .int (nI m), .int (nI sh), .int (nI 0), .ref a1, .ref a2, .ref a3, .ref a4, .ref a5, .ref a6])), (a1, .inl (cI, 7, .inl (nIf ki))), (a2, .inl (cI, 7, .inl (nIf op))), (a3, .inl (cI, 7, .inl (nIf fa))), (a4, .inl (cI, 6, .inl (nIf K))), (a5, .inl (cI, 6, .inl (nIf G))), (a6, .inl (cI, 6, .inl (nIf T))), (c0, .inr (2, [.int (nI n), .int (nI m), .int (nI sh), .int (nI 0), .ref c1, .ref c2, .ref c3, .ref c4, .ref c5, .ref c6])), (c1, .inl (cI, 7, .inl (nIf ki))), (c2, .inl (cI, 7, .inl (nIf O2))), (c3, .inl (cI, 7, .inl (nIf fa))), (c4, .inl (cI, 6, .inl (nIf K))), (c5, .inl (cI, 6, .inl (nIf G))), (c6, .inl (cI, 6, .inl (nIf T))), (b0, .inr (1, [.int (nI n), .int (nI m), .ref b1, .ref b2, .ref b3])), (b1, .inl (cI, 6, .inl (nIf mg_29))), (b2, .inl (cI, 144, .inl (mIf Y_31))), (b3, .inl (cI, 175, .inl (nIf X_30))), (y0, .inl (cI, 7, .inl (nIf R)))]
                have hD9 := hD_32
                have hb9 := all_le (s := (n, m, sh, 0, ki, O2, fa, K, G, T)) hn (fun p => hD9.2.2.1 (24 * 7 + p)) hD9
                refine v_iadd (v := (nI (x + (ALL (n, m, sh, 0, ki, O2, fa, K, G, T))))) 156 zC dX4_lots_155 (nI_add _ _) ?_
                refine v_is (lv2 := [(5, .int (nI (x + (ALL (n, m, sh, 0, ki, O2, fa, K, G, T))))), (8, .int (nI p)), (7, .int (nI i)), (6, .int (nI y)), (4, .int s2), (0, .ref x0), (1, .int (nI jk)), (2, .int z), (3, .int (nI j_8))]) 158 zC dX4_lots_156 (by rw [hnE]; decide) rfl ?_
                refine v_al_n 159 zC dX4_lots_158 5 rfl ?_
                refine v_gf 162 0 zC dX4_lots_159 gf_X4_25 rfl rfl ?_
                refine v_cV (As := []) (st := []) 165 15 [15, 18] zC dX4_lots_162 hA (c_X1_knownToEach (ev_l E) (ev_D E) cI (b0 := b0) (b1 := b1) (b2 := b2) (b3 := b3) (P := n) (Q := m) (kn := X_30) (hP := (by first | omega | assumption | rfl | (simp only []; omega) | decide))) cf_X1_knownToEach lk_X4_269 rfl rfl rfl rfl rfl (by decide +kernel) (Nat.le_of_ble_eq_true rfl) (fun rv_33 wv_34 hp_35 hm_36 => ?_)
                clear hm_36
                obtain ⟨rfl, rfl⟩ := hp_35
                show VV E 0 0 165 [(5, .int (nI (x + (ALL (n, m, sh, 0, ki, O2, fa, K, G, T))))), (8, .int (nI p)), (7, .int (nI i)), (6, .int (nI y)), (4, .int s2), (0, .ref x0), (1, .int (nI jk)), (2, .int z), (3, .int (nI j_8))] [.int (nI (if n = 0 then 0 else ann (fun p => X_30 (24 * 7 + p)) n))] [(x0, .inr (4, [.ref a0, .ref c0, .ref xp, .int (bz pd), .ref b0, .ref g0, .ref s0, .ref w0, .int (nI rs), .ref y0])), (a0, .inr (2, [.int (nI n), .int (nI m), .int (nI sh), .int (nI 0), .ref a1, .ref a2, .ref a3, .ref a4, .ref a5, .ref a6])), (a1, .inl (cI, 7, .inl (nIf ki))), (a2, .inl (cI, 7, .inl (nIf op))), (a3, .inl (cI, 7, .inl (nIf fa))), (a4, .inl (cI, 6, .inl (nIf K))), (a5, .inl (cI, 6, .inl (nIf G))), (a6, .inl (cI, 6, .inl (nIf T))), (c0, .inr (2, [.int (nI n), .int (nI m), .int (nI sh), .int (nI 0), .ref c1, .ref c2, .ref c3, .ref c4, .ref c5, .ref c6])), (c1, .inl (cI, 7, .inl (nIf ki))), (c2, .inl (cI, 7, .inl (nIf O2))), (c3, .inl (cI, 7, .inl (nIf fa))), (c4, .inl (cI, 6, .inl (nIf K))), (c5, .inl (cI, 6, .inl (nIf G))), (c6, .inl (cI, 6, .inl (nIf T))), (b0, .inr (1, [.int (nI n), .int (nI m), .ref b1, .ref b2, .ref b3])), (b1, .inl (cI, 6, .inl (nIf mg_29))), (b2, .inl (cI, 144, .inl (mIf Y_31))), (b3, .inl (cI, 175, .inl (nIf X_30))), (y0, .inl (cI, 7, .inl (nIf R)))]
                rw [dk_com hD9 hn]
                have hc9 := com_le (n, m, sh, 0, ki, O2, fa, K, G, T)
                refine v_ifn_eq 171 168 zC dX4_lots_165 (fun h_37 => ?_) (fun h_37 => ?_)
                ·
                  have hv9 := h_37
                  refine v_inc (v := (nI (i + 1))) (lv2 := [(7, .int (nI (i + 1))), (5, .int (nI (x + (ALL (n, m, sh, 0, ki, O2, fa, K, G, T))))), (8, .int (nI p)), (6, .int (nI y)), (4, .int s2), (0, .ref x0), (1, .int (nI jk)), (2, .int z), (3, .int (nI j_8))]) 174 zC dX4_lots_171 (j := 2) rfl (nI_add _ 1) (by rw [hnE]; decide) rfl ?_
                  refine v_goto 63 zC dX4_lots_174 ?_
                  refine v_lvs (lv2 := [(7, .int (nI (i + 1))), (6, .int (nI y)), (5, .int (nI (x + (ALL (n, m, sh, 0, ki, O2, fa, K, G, T))))), (4, .int s2), (0, .ref x0), (1, .int (nI jk)), (2, .int z), (3, .int (nI j_8))]) [0, 3, 1, 4, 5, 6, 7, 8] rfl ?_
                  exact ih63 _ (by omega) n m mg_29 Y_31 X_30 s2 O2 (x + (ALL (n, m, sh, 0, ki, O2, fa, K, G, T))) y (i + 1) (by first | exact hD9.2.2.1 | exact hB9) (by first | exact hD9.2.2.2 | exact hM9) (it_s hs (by first | exact lot_1 hp9 hu9 | exact lot_0 hp9 hv9)) hO2b hO2v (by first | omega | assumption | rfl | (simp only []; omega) | decide) (by first | omega | assumption | rfl | (simp only []; omega) | decide) (by first | omega | assumption | rfl | (simp only []; omega) | decide) rfl
                ·
                  have hu9 := h_37
                  refine v_inc (v := (nI (y + 1))) (lv2 := [(6, .int (nI (y + 1))), (5, .int (nI (x + (ALL (n, m, sh, 0, ki, O2, fa, K, G, T))))), (8, .int (nI p)), (7, .int (nI i)), (4, .int s2), (0, .ref x0), (1, .int (nI jk)), (2, .int z), (3, .int (nI j_8))]) 171 zC dX4_lots_168 (j := 3) rfl (nI_add _ 1) (by rw [hnE]; decide) rfl ?_
                  refine v_inc (v := (nI (i + 1))) (lv2 := [(7, .int (nI (i + 1))), (6, .int (nI (y + 1))), (5, .int (nI (x + (ALL (n, m, sh, 0, ki, O2, fa, K, G, T))))), (8, .int (nI p)), (4, .int s2), (0, .ref x0), (1, .int (nI jk)), (2, .int z), (3, .int (nI j_8))]) 174 zC dX4_lots_171 (j := 3) rfl (nI_add _ 1) (by rw [hnE]; decide) rfl ?_
                  refine v_goto 63 zC dX4_lots_174 ?_
                  refine v_lvs (lv2 := [(7, .int (nI (i + 1))), (6, .int (nI (y + 1))), (5, .int (nI (x + (ALL (n, m, sh, 0, ki, O2, fa, K, G, T))))), (4, .int s2), (0, .ref x0), (1, .int (nI jk)), (2, .int z), (3, .int (nI j_8))]) [0, 1, 2, 4, 5, 6, 7, 8] rfl ?_
                  exact ih63 _ (by omega) n m mg_29 Y_31 X_30 s2 O2 (x + (ALL (n, m, sh, 0, ki, O2, fa, K, G, T))) (y + 1) (i + 1) (by first | exact hD9.2.2.1 | exact hB9) (by first | exact hD9.2.2.2 | exact hM9) (it_s hs (by first | exact lot_1 hp9 hu9 | exact lot_0 hp9 hv9)) hO2b hO2v (by first | omega | assumption | rfl | (simp only []; omega) | decide) (by first | omega | assumption | rfl | (simp only []; omega) | decide) (by first | omega | assumption | rfl | (simp only []; omega) | decide) rfl
              ·
                refine v_il 86 zC dX4_lots_84 4 rfl ?_
                refine v_cS (As := [.int s2]) (st := []) 89 [] zC dX4_lots_86 hA (c_X4_nextSeed (ev_l E) (ev_D E) cI (z := s2) ) cf_X4_nextSeed lk_X4_272 rfl rfl rfl (by decide +kernel) (Nat.le_of_ble_eq_true rfl) (fun rv_38 wv_39 hp_40 hm_41 => ?_)
                clear hm_41
                obtain ⟨rfl, rfl⟩ := hp_40
                show VV E 0 0 89 [(8, .int (nI p)), (7, .int (nI i)), (6, .int (nI y)), (5, .int (nI x)), (4, .int s2), (0, .ref x0), (1, .int (nI jk)), (2, .int z), (3, .int (nI j_8))] [.int (nxS s2)] [(x0, .inr (4, [.ref a0, .ref c0, .ref xp, .int (bz pd), .ref b0, .ref g0, .ref s0, .ref w0, .int (nI rs), .ref y0])), (a0, .inr (2, [.int (nI n), .int (nI m), .int (nI sh), .int (nI 0), .ref a1, .ref a2, .ref a3, .ref a4, .ref a5, .ref a6])), (a1, .inl (cI, 7, .inl (nIf ki))), (a2, .inl (cI, 7, .inl (nIf op))), (a3, .inl (cI, 7, .inl (nIf fa))), (a4, .inl (cI, 6, .inl (nIf K))), (a5, .inl (cI, 6, .inl (nIf G))), (a6, .inl (cI, 6, .inl (nIf T))), (c0, .inr (2, [.int (nI n), .int (nI m), .int (nI sh), .int (nI 0), .ref c1, .ref c2, .ref c3, .ref c4, .ref c5, .ref c6])), (c1, .inl (cI, 7, .inl (nIf ki))), (c2, .inl (cI, 7, .inl (nIf O2))), (c3, .inl (cI, 7, .inl (nIf fa))), (c4, .inl (cI, 6, .inl (nIf K))), (c5, .inl (cI, 6, .inl (nIf G))), (c6, .inl (cI, 6, .inl (nIf T))), (b0, .inr (1, [.int (nI P2), .int (nI Q2), .ref b1, .ref b2, .ref b3])), (b1, .inl (cI, 6, .inl (nIf mg))), (b2, .inl (cI, 144, .inl (mIf Y))), (b3, .inl (cI, 175, .inl (nIf X))), (y0, .inl (cI, 7, .inl (nIf R)))]
                refine v_is (lv2 := [(4, .int (nxS s2)), (8, .int (nI p)), (7, .int (nI i)), (6, .int (nI y)), (5, .int (nI x)), (0, .ref x0), (1, .int (nI jk)), (2, .int z), (3, .int (nI j_8))]) 91 zC dX4_lots_89 (by rw [hnE]; decide) rfl ?_
                refine v_il 93 zC dX4_lots_91 0 rfl ?_
                refine v_cS (As := [.int (nxS s2)]) (st := []) 96 [] zC dX4_lots_93 hA (c_X4_drawnHour (ev_l E) (ev_D E) cI (z := (nxS s2)) ) cf_X4_drawnHour lk_X4_275 rfl rfl rfl (by decide +kernel) (Nat.le_of_ble_eq_true rfl) (fun rv_42 wv_43 hp_44 hm_45 => ?_)
                clear hm_45
                obtain ⟨d_46, hd_47, hz_48, rfl, rfl⟩ := hp_44
                show VV E 0 0 96 [(4, .int (nxS s2)), (8, .int (nI p)), (7, .int (nI i)), (6, .int (nI y)), (5, .int (nI x)), (0, .ref x0), (1, .int (nI jk)), (2, .int z), (3, .int (nI j_8))] [.int (nI d_46)] [(x0, .inr (4, [.ref a0, .ref c0, .ref xp, .int (bz pd), .ref b0, .ref g0, .ref s0, .ref w0, .int (nI rs), .ref y0])), (a0, .inr (2, [.int (nI n), .int (nI m), .int (nI sh), .int (nI 0), .ref a1, .ref a2, .ref a3, .ref a4, .ref a5, .ref a6])), (a1, .inl (cI, 7, .inl (nIf ki))), (a2, .inl (cI, 7, .inl (nIf op))), (a3, .inl (cI, 7, .inl (nIf fa))), (a4, .inl (cI, 6, .inl (nIf K))), (a5, .inl (cI, 6, .inl (nIf G))), (a6, .inl (cI, 6, .inl (nIf T))), (c0, .inr (2, [.int (nI n), .int (nI m), .int (nI sh), .int (nI 0), .ref c1, .ref c2, .ref c3, .ref c4, .ref c5, .ref c6])), (c1, .inl (cI, 7, .inl (nIf ki))), (c2, .inl (cI, 7, .inl (nIf O2))), (c3, .inl (cI, 7, .inl (nIf fa))), (c4, .inl (cI, 6, .inl (nIf K))), (c5, .inl (cI, 6, .inl (nIf G))), (c6, .inl (cI, 6, .inl (nIf T))), (b0, .inr (1, [.int (nI P2), .int (nI Q2), .ref b1, .ref b2, .ref b3])), (b1, .inl (cI, 6, .inl (nIf mg))), (b2, .inl (cI, 144, .inl (mIf Y))), (b3, .inl (cI, 175, .inl (nIf X))), (y0, .inl (cI, 7, .inl (nIf R)))]
                have hz_d1 := hz_48
                have hl_d1 := hd_47
                obtain ⟨d1, he_d1⟩ : ∃ z, z = d_46 := ⟨_, rfl⟩
                subst he_d1
                refine v_is (lv2 := [(9, .int (nI d1)), (4, .int (nxS s2)), (8, .int (nI p)), (7, .int (nI i)), (6, .int (nI y)), (5, .int (nI x)), (0, .ref x0), (1, .int (nI jk)), (2, .int z), (3, .int (nI j_8))]) 98 zC dX4_lots_96 (by rw [hnE]; decide) rfl ?_
                refine v_il 100 zC dX4_lots_98 1 rfl ?_
                refine v_cS (As := [.int (nxS s2)]) (st := []) 103 [] zC dX4_lots_100 hA (c_X4_nextSeed (ev_l E) (ev_D E) cI (z := (nxS s2)) ) cf_X4_nextSeed lk_X4_272 rfl rfl rfl (by decide +kernel) (Nat.le_of_ble_eq_true rfl) (fun rv_49 wv_50 hp_51 hm_52 => ?_)
                clear hm_52
                obtain ⟨rfl, rfl⟩ := hp_51
                show VV E 0 0 103 [(9, .int (nI d1)), (4, .int (nxS s2)), (8, .int (nI p)), (7, .int (nI i)), (6, .int (nI y)), (5, .int (nI x)), (0, .ref x0), (1, .int (nI jk)), (2, .int z), (3, .int (nI j_8))] [.int (nxS (nxS s2))] [(x0, .inr (4, [.ref a0, .ref c0, .ref xp, .int (bz pd), .ref b0, .ref g0, .ref s0, .ref w0, .int (nI rs), .ref y0])), (a0, .inr (2, [.int (nI n), .int (nI m), .int (nI sh), .int (nI 0), .ref a1, .ref a2, .ref a3, .ref a4, .ref a5, .ref a6])), (a1, .inl (cI, 7, .inl (nIf ki))), (a2, .inl (cI, 7, .inl (nIf op))), (a3, .inl (cI, 7, .inl (nIf fa))), (a4, .inl (cI, 6, .inl (nIf K))), (a5, .inl (cI, 6, .inl (nIf G))), (a6, .inl (cI, 6, .inl (nIf T))), (c0, .inr (2, [.int (nI n), .int (nI m), .int (nI sh), .int (nI 0), .ref c1, .ref c2, .ref c3, .ref c4, .ref c5, .ref c6])), (c1, .inl (cI, 7, .inl (nIf ki))), (c2, .inl (cI, 7, .inl (nIf O2))), (c3, .inl (cI, 7, .inl (nIf fa))), (c4, .inl (cI, 6, .inl (nIf K))), (c5, .inl (cI, 6, .inl (nIf G))), (c6, .inl (cI, 6, .inl (nIf T))), (b0, .inr (1, [.int (nI P2), .int (nI Q2), .ref b1, .ref b2, .ref b3])), (b1, .inl (cI, 6, .inl (nIf mg))), (b2, .inl (cI, 144, .inl (mIf Y))), (b3, .inl (cI, 175, .inl (nIf X))), (y0, .inl (cI, 7, .inl (nIf R)))]
                refine v_is (lv2 := [(4, .int (nxS (nxS s2))), (9, .int (nI d1)), (8, .int (nI p)), (7, .int (nI i)), (6, .int (nI y)), (5, .int (nI x)), (0, .ref x0), (1, .int (nI jk)), (2, .int z), (3, .int (nI j_8))]) 105 zC dX4_lots_103 (by rw [hnE]; decide) rfl ?_
                refine v_il 107 zC dX4_lots_105 0 rfl ?_
                refine v_cS (As := [.int (nxS (nxS s2))]) (st := []) 110 [] zC dX4_lots_107 hA (c_X4_drawnHour (ev_l E) (ev_D E) cI (z := (nxS (nxS s2))) ) cf_X4_drawnHour lk_X4_275 rfl rfl rfl (by decide +kernel) (Nat.le_of_ble_eq_true rfl) (fun rv_53 wv_54 hp_55 hm_56 => ?_)
                clear hm_56
                obtain ⟨d_57, hd_58, hz_59, rfl, rfl⟩ := hp_55
                show VV E 0 0 110 [(4, .int (nxS (nxS s2))), (9, .int (nI d1)), (8, .int (nI p)), (7, .int (nI i)), (6, .int (nI y)), (5, .int (nI x)), (0, .ref x0), (1, .int (nI jk)), (2, .int z), (3, .int (nI j_8))] [.int (nI d_57)] [(x0, .inr (4, [.ref a0, .ref c0, .ref xp, .int (bz pd), .ref b0, .ref g0, .ref s0, .ref w0, .int (nI rs), .ref y0])), (a0, .inr (2, [.int (nI n), .int (nI m), .int (nI sh), .int (nI 0), .ref a1, .ref a2, .ref a3, .ref a4, .ref a5, .ref a6])), (a1, .inl (cI, 7, .inl (nIf ki))), (a2, .inl (cI, 7, .inl (nIf op))), (a3, .inl (cI, 7, .inl (nIf fa))), (a4, .inl (cI, 6, .inl (nIf K))), (a5, .inl (cI, 6, .inl (nIf G))), (a6, .inl (cI, 6, .inl (nIf T))), (c0, .inr (2, [.int (nI n), .int (nI m), .int (nI sh), .int (nI 0), .ref c1, .ref c2, .ref c3, .ref c4, .ref c5, .ref c6])), (c1, .inl (cI, 7, .inl (nIf ki))), (c2, .inl (cI, 7, .inl (nIf O2))), (c3, .inl (cI, 7, .inl (nIf fa))), (c4, .inl (cI, 6, .inl (nIf K))), (c5, .inl (cI, 6, .inl (nIf G))), (c6, .inl (cI, 6, .inl (nIf T))), (b0, .inr (1, [.int (nI P2), .int (nI Q2), .ref b1, .ref b2, .ref b3])), (b1, .inl (cI, 6, .inl (nIf mg))), (b2, .inl (cI, 144, .inl (mIf Y))), (b3, .inl (cI, 175, .inl (nIf X))), (y0, .inl (cI, 7, .inl (nIf R)))]
                have hz_d2 := hz_59
                have hl_d2 := hd_58
                obtain ⟨d2, he_d2⟩ : ∃ z, z = d_57 := ⟨_, rfl⟩
                subst he_d2
                refine v_is (lv2 := [(10, .int (nI d2)), (4, .int (nxS (nxS s2))), (9, .int (nI d1)), (8, .int (nI p)), (7, .int (nI i)), (6, .int (nI y)), (5, .int (nI x)), (0, .ref x0), (1, .int (nI jk)), (2, .int z), (3, .int (nI j_8))]) 112 zC dX4_lots_110 (by rw [hnE]; decide) rfl ?_
                refine v_al_n 113 zC dX4_lots_112 7 rfl ?_
                refine v_gf 116 0 zC dX4_lots_113 gf_X4_16 rfl rfl ?_
                refine v_gf 119 8 zC dX4_lots_116 gf_X4_90 rfl rfl ?_
                refine v_il 121 zC dX4_lots_119 3 rfl ?_
                refine v_il 123 zC dX4_lots_121 2 rfl ?_
                refine v_il 125 zC dX4_lots_123 0 rfl ?_
                refine v_mmin (v := (nI (min d1 d2))) 128 zC dX4_lots_125 mm_n1 mm_n2 mm_x3 mm_n4 ⟨⟨Nat.le_of_ble_eq_true rfl, Nat.le_of_ble_eq_true rfl⟩, Nat.le_of_ble_eq_true rfl, Nat.le_of_ble_eq_true rfl⟩ (mn_n (by omega) (by omega)) ?_
                refine v_il 130 zC dX4_lots_128 2 rfl ?_
                refine v_il 132 zC dX4_lots_130 0 rfl ?_
                refine v_mmax (v := (nI (max d1 d2))) 135 zC dX4_lots_132 mm_x1 mm_x2 mm_x3 mm_x4 ⟨⟨Nat.le_of_ble_eq_true rfl, Nat.le_of_ble_eq_true rfl⟩, Nat.le_of_ble_eq_true rfl, Nat.le_of_ble_eq_true rfl⟩ (mx_n (by omega) (by omega)) ?_
                refine v_cS (As := [.int (nI (min d1 d2)), .int (nI (max d1 d2))]) (st := [.int (nI p), .ref c2]) 138 [] zC dX4_lots_135 hA (c_X4_hoursFrom (ev_l E) (ev_D E) cI (f := (min d1 d2)) (e := (max d1 d2)) (hf := (by first | omega | assumption | rfl | (simp only []; omega) | decide)) (he := (by first | omega | assumption | rfl | (simp only []; omega) | decide))) cf_X4_hoursFrom lk_X4_281 rfl rfl rfl (by decide +kernel) (Nat.le_of_ble_eq_true rfl) (fun rv_60 wv_61 hp_62 hm_63 => ?_)
                clear hm_63
                obtain ⟨rfl, rfl⟩ := hp_62
                show VV E 0 0 138 [(10, .int (nI d2)), (4, .int (nxS (nxS s2))), (9, .int (nI d1)), (8, .int (nI p)), (7, .int (nI i)), (6, .int (nI y)), (5, .int (nI x)), (0, .ref x0), (1, .int (nI jk)), (2, .int z), (3, .int (nI j_8))] [.int (nI (HR (min d1 d2) (max d1 d2))), .int (nI p), .ref c2] [(x0, .inr (4, [.ref a0, .ref c0, .ref xp, .int (bz pd), .ref b0, .ref g0, .ref s0, .ref w0, .int (nI rs), .ref y0])), (a0, .inr (2, [.int (nI n), .int (nI m), .int (nI sh), .int (nI 0), .ref a1, .ref a2, .ref a3, .ref a4, .ref a5, .ref a6])), (a1, .inl (cI, 7, .inl (nIf ki))), (a2, .inl (cI, 7, .inl (nIf op))), (a3, .inl (cI, 7, .inl (nIf fa))), (a4, .inl (cI, 6, .inl (nIf K))), (a5, .inl (cI, 6, .inl (nIf G))), (a6, .inl (cI, 6, .inl (nIf T))), (c0, .inr (2, [.int (nI n), .int (nI m), .int (nI sh), .int (nI 0), .ref c1, .ref c2, .ref c3, .ref c4, .ref c5, .ref c6])), (c1, .inl (cI, 7, .inl (nIf ki))), (c2, .inl (cI, 7, .inl (nIf O2))), (c3, .inl (cI, 7, .inl (nIf fa))), (c4, .inl (cI, 6, .inl (nIf K))), (c5, .inl (cI, 6, .inl (nIf G))), (c6, .inl (cI, 6, .inl (nIf T))), (b0, .inr (1, [.int (nI P2), .int (nI Q2), .ref b1, .ref b2, .ref b3])), (b1, .inl (cI, 6, .inl (nIf mg))), (b2, .inl (cI, 144, .inl (mIf Y))), (b3, .inl (cI, 175, .inl (nIf X))), (y0, .inl (cI, 7, .inl (nIf R)))]
                refine v_iasn (ws2 := [(x0, .inr (4, [.ref a0, .ref c0, .ref xp, .int (bz pd), .ref b0, .ref g0, .ref s0, .ref w0, .int (nI rs), .ref y0])), (a0, .inr (2, [.int (nI n), .int (nI m), .int (nI sh), .int (nI 0), .ref a1, .ref a2, .ref a3, .ref a4, .ref a5, .ref a6])), (a1, .inl (cI, 7, .inl (nIf ki))), (a2, .inl (cI, 7, .inl (nIf op))), (a3, .inl (cI, 7, .inl (nIf fa))), (a4, .inl (cI, 6, .inl (nIf K))), (a5, .inl (cI, 6, .inl (nIf G))), (a6, .inl (cI, 6, .inl (nIf T))), (c0, .inr (2, [.int (nI n), .int (nI m), .int (nI sh), .int (nI 0), .ref c1, .ref c2, .ref c3, .ref c4, .ref c5, .ref c6])), (c1, .inl (cI, 7, .inl (nIf ki))), (c2, .inl (cI, 7, .inl (nIf (un O2 p (HR (min d1 d2) (max d1 d2)))))), (c3, .inl (cI, 7, .inl (nIf fa))), (c4, .inl (cI, 6, .inl (nIf K))), (c5, .inl (cI, 6, .inl (nIf G))), (c6, .inl (cI, 6, .inl (nIf T))), (b0, .inr (1, [.int (nI P2), .int (nI Q2), .ref b1, .ref b2, .ref b3])), (b1, .inl (cI, 6, .inl (nIf mg))), (b2, .inl (cI, 144, .inl (mIf Y))), (b3, .inl (cI, 175, .inl (nIf X))), (y0, .inl (cI, 7, .inl (nIf R)))]) 139 10 zC dX4_lots_138 rfl (by omega) (by rw [upd_nIf]; first | done | rfl) ?_
                refine v_inc (v := (nI (p + 1))) (lv2 := [(8, .int (nI (p + 1))), (10, .int (nI d2)), (4, .int (nxS (nxS s2))), (9, .int (nI d1)), (7, .int (nI i)), (6, .int (nI y)), (5, .int (nI x)), (0, .ref x0), (1, .int (nI jk)), (2, .int z), (3, .int (nI j_8))]) 142 zC dX4_lots_139 (j := 3) rfl (nI_add _ 1) (by rw [hnE]; decide) rfl ?_
                refine v_goto 72 zC dX4_lots_142 ?_
                refine v_lvs (lv2 := [(8, .int (nI (p + 1))), (7, .int (nI i)), (6, .int (nI y)), (5, .int (nI x)), (4, .int (nxS (nxS s2))), (0, .ref x0), (1, .int (nI jk)), (2, .int z), (3, .int (nI j_8))]) [0, 4, 5, 6, 2, 7, 8, 9, 10] rfl ?_
                exact ih72 _ (by omega) (nxS (nxS s2)) (un O2 p (HR (min d1 d2) (max d1 d2))) (p + 1) (lotp_s hp2 hz_d1 hz_d2) (un_b hO2b (hr_lt (by omega))) (un_v hO2v (by omega)) (by first | omega | assumption | rfl | (simp only []; omega) | decide) rfl
            refine v_lvs (lv2 := [(8, .int (nI 0)), (7, .int (nI i)), (6, .int (nI y)), (5, .int (nI x)), (4, .int sd), (0, .ref x0), (1, .int (nI jk)), (2, .int z), (3, .int (nI j_8))]) [0, 1, 2, 3, 4, 5, 6, 7, 8] rfl ?_
            exact lp72 _ sd O 0 (by first | omega | assumption | rfl | (simp only []; omega) | decide) hOb hOv (by first | omega | assumption | rfl | (simp only []; omega) | decide) rfl
        refine v_lvs (lv2 := [(7, .int (nI 0)), (6, .int (nI 0)), (5, .int (nI 0)), (4, .int z), (0, .ref x0), (1, .int (nI jk)), (2, .int z), (3, .int (nI j_8))]) [0, 1, 2, 3, 4, 5, 6, 7] rfl ?_
        exact lp63 _ P Q mf M kn z op 0 0 0 (by first | exact hD9.2.2.1 | exact hB) (by first | exact hD9.2.2.2 | exact hM) (by first | omega | assumption | rfl | (simp only []; omega) | decide) hop vop (by first | omega | assumption | rfl | (simp only []; omega) | decide) (Nat.zero_le _) (Nat.zero_le _) rfl
    ·
      have hgt9 : nI 20 < k := Int32.not_le.mp h_2
      refine v_al_n 19 zC dX4_lots_18 0 rfl ?_
      refine v_bp (v := (-6)) 21 zC dX4_lots_19 (by decide +kernel) ?_
      refine v_cV (As := [.int (-6)]) (st := []) 24 0 [0, 19] zC dX4_lots_21 hA (c_X4_refuse (ev_l E) (ev_D E) cI (x0 := x0) (xn := a0) (xm := c0) (xp := xp) (b0 := b0) (g0 := g0) (s0 := s0) (w0 := w0) (y0 := y0) (pd := pd) (rs := rs) (R := R) (v := (-6)) (j := 6) (hv := (by first | omega | assumption | rfl | (simp only []; omega) | decide)) (h1 := (by first | omega | assumption | rfl | (simp only []; omega) | decide)) (h6 := (by first | omega | assumption | rfl | (simp only []; omega) | decide))) cf_X4_refuse lk_X4_50 rfl rfl rfl rfl rfl (by decide +kernel) (Nat.le_of_ble_eq_true rfl) (fun rv_64 wv_65 hp_66 hm_67 => ?_)
      clear hm_67
      obtain ⟨rfl, rfl⟩ := hp_66
      show VV E 0 0 24 [(0, .ref x0), (1, .int k), (2, .int z), (3, .int w)] [.int (-6)] [(x0, .inr (4, [.ref a0, .ref c0, .ref xp, .int (bz pd), .ref b0, .ref g0, .ref s0, .ref w0, .int (nI rs), .ref y0])), (a0, .inr (2, [.int (nI n), .int (nI m), .int (nI sh), .int (nI 0), .ref a1, .ref a2, .ref a3, .ref a4, .ref a5, .ref a6])), (a1, .inl (cI, 7, .inl (nIf ki))), (a2, .inl (cI, 7, .inl (nIf op))), (a3, .inl (cI, 7, .inl (nIf fa))), (a4, .inl (cI, 6, .inl (nIf K))), (a5, .inl (cI, 6, .inl (nIf G))), (a6, .inl (cI, 6, .inl (nIf T))), (c0, .inr (2, [.int (nI n1), .int (nI m1), .int (nI sh1), .int (nI aw1), .ref c1, .ref c2, .ref c3, .ref c4, .ref c5, .ref c6])), (c1, .inl (cI, 7, .inl (nIf ki1))), (c2, .inl (cI, 7, .inl (nIf op1))), (c3, .inl (cI, 7, .inl (nIf fa1))), (c4, .inl (cI, 6, .inl (nIf K1))), (c5, .inl (cI, 6, .inl (nIf G1))), (c6, .inl (cI, 6, .inl (nIf T1))), (b0, .inr (1, [.int (nI P), .int (nI Q), .ref b1, .ref b2, .ref b3])), (b1, .inl (cI, 6, .inl (nIf mf))), (b2, .inl (cI, 144, .inl (mIf M))), (b3, .inl (cI, 175, .inl (nIf kn))), (y0, .inl (cI, 7, .inl (nIf (un R 6 (R 6 + 1)))))]
      refine v_iret zC zT dX4_lots_24  ?_
      first | exact ⟨_, _, _, _, _, _, _, _, _, _, _, _, _, _, _, 4, _, by unfold q_lots; rw [if_pos hlt9], hw1, (by first | exact hB9 | exact hD9.2.2.1 | exact hB), (by first | exact hM9 | exact hD9.2.2.2 | exact hM), rfl, rfl⟩ | exact ⟨_, _, _, _, _, _, _, _, _, _, _, _, _, _, _, 6, _, by unfold q_lots; rw [if_neg hge, if_pos hgt9], hw1, (by first | exact hB9 | exact hD9.2.2.1 | exact hB), (by first | exact hM9 | exact hD9.2.2.2 | exact hM), rfl, rfl⟩ | exact ⟨_, _, _, _, _, _, _, _, _, _, _, _, _, _, _, 2, _, by unfold q_lots; rw [if_neg hge, if_neg hle, hi_w], hw1, (by first | exact hB9 | exact hD9.2.2.1 | exact hB), (by first | exact hM9 | exact hD9.2.2.2 | exact hM), rfl, rfl⟩ | exact ⟨_, _, _, _, _, _, _, _, _, _, _, _, _, _, _, 0, _, by unfold q_lots; rw [if_neg hge, if_neg hle, hi_w]; dsimp only; rw [nI_clamp (show jk < 2 ^ 31 by omega)]; unfold LOT; rw [show jk = i by omega, show g_op (n, m, sh, 0, ki, op, fa, K, G, T) = op from rfl, ← hs]; first | rw [if_pos (by assumption)] | rw [if_neg (by assumption)], ⟨hn, hm, hsh, hki, hOb, hfa, hK, hG, hT, vki, hOv, vfa, vK, vG, vT⟩, (by first | exact hB9 | exact hD9.2.2.1 | exact hB), (by first | exact hM9 | exact hD9.2.2.2 | exact hM), rfl, rfl⟩
  ·
    have hlt9 : k < nI 1 := Int32.not_le.mp h_1
    refine v_al_n 6 zC dX4_lots_5 0 rfl ?_
    refine v_bp (v := (-4)) 8 zC dX4_lots_6 (by decide +kernel) ?_
    refine v_cV (As := [.int (-4)]) (st := []) 11 0 [0, 19] zC dX4_lots_8 hA (c_X4_refuse (ev_l E) (ev_D E) cI (x0 := x0) (xn := a0) (xm := c0) (xp := xp) (b0 := b0) (g0 := g0) (s0 := s0) (w0 := w0) (y0 := y0) (pd := pd) (rs := rs) (R := R) (v := (-4)) (j := 4) (hv := (by first | omega | assumption | rfl | (simp only []; omega) | decide)) (h1 := (by first | omega | assumption | rfl | (simp only []; omega) | decide)) (h6 := (by first | omega | assumption | rfl | (simp only []; omega) | decide))) cf_X4_refuse lk_X4_50 rfl rfl rfl rfl rfl (by decide +kernel) (Nat.le_of_ble_eq_true rfl) (fun rv_68 wv_69 hp_70 hm_71 => ?_)
    clear hm_71
    obtain ⟨rfl, rfl⟩ := hp_70
    show VV E 0 0 11 [(0, .ref x0), (1, .int k), (2, .int z), (3, .int w)] [.int (-4)] [(x0, .inr (4, [.ref a0, .ref c0, .ref xp, .int (bz pd), .ref b0, .ref g0, .ref s0, .ref w0, .int (nI rs), .ref y0])), (a0, .inr (2, [.int (nI n), .int (nI m), .int (nI sh), .int (nI 0), .ref a1, .ref a2, .ref a3, .ref a4, .ref a5, .ref a6])), (a1, .inl (cI, 7, .inl (nIf ki))), (a2, .inl (cI, 7, .inl (nIf op))), (a3, .inl (cI, 7, .inl (nIf fa))), (a4, .inl (cI, 6, .inl (nIf K))), (a5, .inl (cI, 6, .inl (nIf G))), (a6, .inl (cI, 6, .inl (nIf T))), (c0, .inr (2, [.int (nI n1), .int (nI m1), .int (nI sh1), .int (nI aw1), .ref c1, .ref c2, .ref c3, .ref c4, .ref c5, .ref c6])), (c1, .inl (cI, 7, .inl (nIf ki1))), (c2, .inl (cI, 7, .inl (nIf op1))), (c3, .inl (cI, 7, .inl (nIf fa1))), (c4, .inl (cI, 6, .inl (nIf K1))), (c5, .inl (cI, 6, .inl (nIf G1))), (c6, .inl (cI, 6, .inl (nIf T1))), (b0, .inr (1, [.int (nI P), .int (nI Q), .ref b1, .ref b2, .ref b3])), (b1, .inl (cI, 6, .inl (nIf mf))), (b2, .inl (cI, 144, .inl (mIf M))), (b3, .inl (cI, 175, .inl (nIf kn))), (y0, .inl (cI, 7, .inl (nIf (un R 4 (R 4 + 1)))))]
    refine v_iret zC zT dX4_lots_11  ?_
    first | exact ⟨_, _, _, _, _, _, _, _, _, _, _, _, _, _, _, 4, _, by unfold q_lots; rw [if_pos hlt9], hw1, (by first | exact hB9 | exact hD9.2.2.1 | exact hB), (by first | exact hM9 | exact hD9.2.2.2 | exact hM), rfl, rfl⟩ | exact ⟨_, _, _, _, _, _, _, _, _, _, _, _, _, _, _, 6, _, by unfold q_lots; rw [if_neg hge, if_pos hgt9], hw1, (by first | exact hB9 | exact hD9.2.2.1 | exact hB), (by first | exact hM9 | exact hD9.2.2.2 | exact hM), rfl, rfl⟩ | exact ⟨_, _, _, _, _, _, _, _, _, _, _, _, _, _, _, 2, _, by unfold q_lots; rw [if_neg hge, if_neg hle, hi_w], hw1, (by first | exact hB9 | exact hD9.2.2.1 | exact hB), (by first | exact hM9 | exact hD9.2.2.2 | exact hM), rfl, rfl⟩ | exact ⟨_, _, _, _, _, _, _, _, _, _, _, _, _, _, _, 0, _, by unfold q_lots; rw [if_neg hge, if_neg hle, hi_w]; dsimp only; rw [nI_clamp (show jk < 2 ^ 31 by omega)]; unfold LOT; rw [show jk = i by omega, show g_op (n, m, sh, 0, ki, op, fa, K, G, T) = op from rfl, ← hs]; first | rw [if_pos (by assumption)] | rw [if_neg (by assumption)], ⟨hn, hm, hsh, hki, hOb, hfa, hK, hG, hT, vki, hOv, vfa, vK, vG, vT⟩, (by first | exact hB9 | exact hD9.2.2.1 | exact hB), (by first | exact hM9 | exact hD9.2.2.2 | exact hM), rfl, rfl⟩
set_option maxRecDepth 100000 in
set_option maxHeartbeats 4000000 in
theorem c_X4_power (l : Launch) (D : va_G) (cI : ClassId) (b e : Nat) (hb : b ≤ 20) (he : e ≤ 7) : CT l yX4_power cX4_power 5 (some .long) { frames := 0, cells := 0, slots := 0, locals := 0 } D cI [.int (nI b), .int (nI e)] [] (fun zr zw => (zr = some (.long (lN (b ^ e))) ∧ zw = [])) := by
  refine CT_of RX4 rfl (by decide +kernel) (Nat.le_of_ble_eq_true rfl) (fun E hnE zC zT => ?_)
  have hA : ∀ q, (ev_s E).heap.size ≤ q → ev_A E q := fun q h => by rw [zT.2]; exact Or.inr h
  show VV E 0 0 0 [(0, .int (nI b)), (1, .int (nI e))] [] []
  refine v_lc (v := lN 1) 1 zC dX4_power_0 (by decide +kernel) ?_
  refine v_ls_n (lv2 := [(2, .long (lN 1)), (0, .int (nI b)), (1, .int (nI e))]) 2 zC dX4_power_1 (by rw [hnE]; decide) rfl ?_
  refine v_ic (v := (nI 0)) 3 zC dX4_power_2 (by decide +kernel) ?_
  refine v_is (lv2 := [(4, .int (nI 0)), (2, .long (lN 1)), (0, .int (nI b)), (1, .int (nI e))]) 5 zC dX4_power_3 (by rw [hnE]; decide) rfl ?_
  have lp5 : ∀ (mz : Nat) (x : Nat) (i : Nat), (x = b ^ i) → (i ≤ e) → e - i = mz → VV E 0 0 5 [(4, .int (nI i)), (2, .long (lN x)), (0, .int (nI b)), (1, .int (nI e))] [] [] := by
    intro mz
    induction mz using Nat.strongRecOn with
    | _ mz ih5 =>
    intro x i hx hi hm5
    refine v_il 7 zC dX4_power_5 0 rfl ?_
    refine v_il_n 8 zC dX4_power_7 3 rfl ?_
    refine v_icmpn_ge 29 11 zC dX4_power_8 (fun h_1 => ?_) (fun h_1 => ?_)
    ·
      refine v_ll_n 30 zC dX4_power_29 1 rfl ?_
      refine v_lret zC zT dX4_power_30  ?_
      exact ⟨sl (by rw [hx, show i = e by omega]), rfl⟩
    ·
      refine v_il 13 zC dX4_power_11 0 rfl ?_
      refine v_bp (v := (nI 7)) 15 zC dX4_power_13 (by decide +kernel) ?_
      refine v_icmpn_ge 29 18 zC dX4_power_15 (fun h_2 => False.elim (by omega)) (fun h_2 => ?_)
      refine v_ll_n 19 zC dX4_power_18 1 rfl ?_
      refine v_il_n 20 zC dX4_power_19 2 rfl ?_
      refine v_i2l (v := (lN b)) 21 zC dX4_power_20 (nI_l (by omega)) ?_
      refine v_lmul (v := (lN (x * b))) 22 zC dX4_power_21  (lN_mul _ _) ?_
      refine v_ls_n (lv2 := [(2, .long (lN (x * b))), (4, .int (nI i)), (0, .int (nI b)), (1, .int (nI e))]) 23 zC dX4_power_22 (by rw [hnE]; decide) rfl ?_
      refine v_inc (v := (nI (i + 1))) (lv2 := [(4, .int (nI (i + 1))), (2, .long (lN (x * b))), (0, .int (nI b)), (1, .int (nI e))]) 26 zC dX4_power_23 (j := 1) rfl (nI_add _ 1) (by rw [hnE]; decide) rfl ?_
      refine v_goto 5 zC dX4_power_26 ?_
      refine v_lvs (lv2 := [(4, .int (nI (i + 1))), (2, .long (lN (x * b))), (0, .int (nI b)), (1, .int (nI e))]) [0, 1, 2, 3] rfl ?_
      exact ih5 _ (by omega) (x * b) (i + 1) (by rw [hx]; exact (Nat.pow_succ ..).symm) (by first | omega | assumption | rfl | (simp only []; omega) | decide) rfl
  refine v_lvs (lv2 := [(4, .int (nI 0)), (2, .long (lN 1)), (0, .int (nI b)), (1, .int (nI e))]) [0, 1, 2, 3] rfl ?_
  exact lp5 _ 1 0 (by first | omega | assumption | rfl | (simp only []; omega) | decide) (by first | omega | assumption | rfl | (simp only []; omega) | decide) rfl
set_option maxRecDepth 100000 in
set_option maxHeartbeats 4000000 in
theorem c_X4_partOf (l : Launch) (D : va_G) (cI : ClassId) (a b k : Nat) (ha : a < 2 ^ 62) (hb : b < 2 ^ 62) (hk : k < 2) : CT l yX4_partOf cX4_partOf 12 (some .long) { frames := 0, cells := 0, slots := 0, locals := 0 } D cI [.long (lN a), .long (lN b), .int (nI k)] [] (fun zr zw => (zr = some (.long (lN (PTO a b k))) ∧ zw = [])) := by
  refine CT_of RX4 rfl (by decide +kernel) (Nat.le_of_ble_eq_true rfl) (fun E hnE zC zT => ?_)
  have hA : ∀ q, (ev_s E).heap.size ≤ q → ev_A E q := fun q h => by rw [zT.2]; exact Or.inr h
  show VV E 0 0 0 [(0, .long (lN a)), (2, .long (lN b)), (4, .int (nI k))] [] []
  refine v_ll_n 1 zC dX4_partOf_0 1 rfl ?_
  refine v_ls (lv2 := [(5, .long (lN b)), (0, .long (lN a)), (2, .long (lN b)), (4, .int (nI k))]) 3 zC dX4_partOf_1 (by rw [hnE]; decide) rfl ?_
  refine v_ll_n 4 zC dX4_partOf_3 1 rfl ?_
  refine v_ls (lv2 := [(7, .long (lN a)), (5, .long (lN b)), (0, .long (lN a)), (2, .long (lN b)), (4, .int (nI k))]) 6 zC dX4_partOf_4 (by rw [hnE]; decide) rfl ?_
  refine v_ic (v := (nI 0)) 7 zC dX4_partOf_6 (by decide +kernel) ?_
  refine v_is (lv2 := [(9, .int (nI 0)), (7, .long (lN a)), (5, .long (lN b)), (0, .long (lN a)), (2, .long (lN b)), (4, .int (nI k))]) 9 zC dX4_partOf_7 (by rw [hnE]; decide) rfl ?_
  have lp9 : ∀ (mz : Nat) (x : Nat) (y : Nat) (i : Nat), (Nat.gcd x y = Nat.gcd b a) → (y ≤ x ∨ (i = 0 ∧ x * y < 2 ^ 124)) → (x * y < 2 ^ (128 - i)) → (i ≤ 128) → (x < 2 ^ 62) → (y < 2 ^ 62) → 128 - i = mz → VV E 0 0 9 [(9, .int (nI i)), (7, .long (lN y)), (5, .long (lN x)), (0, .long (lN a)), (2, .long (lN b)), (4, .int (nI k))] [] [] := by
    intro mz
    induction mz using Nat.strongRecOn with
    | _ mz ih9 =>
    intro x y i hg hc hp hi hx hy hm9
    refine v_il 11 zC dX4_partOf_9 0 rfl ?_
    refine v_sp (v := (nI 128)) 14 zC dX4_partOf_11 (by decide +kernel) ?_
    refine v_icmpn_ge 45 17 zC dX4_partOf_14 (fun h_1 => ?_) (fun h_1 => ?_)
    ·
      have hz9 : y = 0 := gd_2 hp (by omega) hc
      have hxg : x = Nat.gcd b a := by rw [← hg, hz9, Nat.gcd_zero_right]
      refine v_ll_n 46 zC dX4_partOf_45 3 rfl ?_
      refine v_lc (v := lN 0) 47 zC dX4_partOf_46 (by decide +kernel) ?_
      refine v_lcmp 48 zC dX4_partOf_47 ?_
      refine v_ifl_eq 58 51 zC dX4_partOf_48 (fun h_2 => ?_) (fun h_2 => ?_)
      ·
        have hae : a = 0 := (pk_lEQ (by omega) (show 0 < 2 ^ 63 by decide)).mp h_2
        refine v_il 60 zC dX4_partOf_58 5 rfl ?_
        refine v_i2l (v := (lN k)) 61 zC dX4_partOf_60 (nI_l (by omega)) ?_
        refine v_lret zC zT dX4_partOf_61  ?_
        first | exact ⟨sl (pto_0 hae).symm, rfl⟩ | exact ⟨sl (pto_1 hae (by assumption) hxg).symm, rfl⟩ | exact ⟨sl (pto_2 hae (by assumption) hxg).symm, rfl⟩
      ·
        have hae : a ≠ 0 := fun z => h_2 (by rw [z])
        have hx0 : 0 < x := by rw [hxg]; exact Nat.gcd_pos_of_pos_right _ (Nat.pos_of_ne_zero hae)
        refine v_ll 53 zC dX4_partOf_51 2 rfl ?_
        refine v_lc (v := lN 0) 54 zC dX4_partOf_53 (by decide +kernel) ?_
        refine v_lcmp 55 zC dX4_partOf_54 ?_
        refine v_ifl_gt 62 58 zC dX4_partOf_55 (fun h_3 => ?_) (fun h_3 => False.elim (by exact h_3 ((pk_lLT (show 0 < 2 ^ 63 by decide) (by omega)).mpr hx0)))
        refine v_il 64 zC dX4_partOf_62 5 rfl ?_
        refine v_ifn_ne 74 67 zC dX4_partOf_64 (fun h_4 => ?_) (fun h_4 => ?_)
        ·
          refine v_ll_n 75 zC dX4_partOf_74 4 rfl ?_
          refine v_ll 77 zC dX4_partOf_75 2 rfl ?_
          refine v_ldiv (v := (lN (b / x))) 78 zC dX4_partOf_77 (lN_ne0 hx0 (by omega)) (pk_lDiv (by omega) hx0 (by omega)) ?_
          refine v_lret zC zT dX4_partOf_78  ?_
          first | exact ⟨sl (pto_0 hae).symm, rfl⟩ | exact ⟨sl (pto_1 hae (by assumption) hxg).symm, rfl⟩ | exact ⟨sl (pto_2 hae (by assumption) hxg).symm, rfl⟩
        ·
          refine v_ll_n 68 zC dX4_partOf_67 3 rfl ?_
          refine v_ll 70 zC dX4_partOf_68 2 rfl ?_
          refine v_ldiv (v := (lN (a / x))) 71 zC dX4_partOf_70 (lN_ne0 hx0 (by omega)) (pk_lDiv (by omega) hx0 (by omega)) ?_
          refine v_goto 78 zC dX4_partOf_71 ?_
          refine v_lret zC zT dX4_partOf_78  ?_
          first | exact ⟨sl (pto_0 hae).symm, rfl⟩ | exact ⟨sl (pto_1 hae (by assumption) hxg).symm, rfl⟩ | exact ⟨sl (pto_2 hae (by assumption) hxg).symm, rfl⟩
    ·
      refine v_ll 19 zC dX4_partOf_17 1 rfl ?_
      refine v_lc (v := lN 0) 20 zC dX4_partOf_19 (by decide +kernel) ?_
      refine v_lcmp 21 zC dX4_partOf_20 ?_
      refine v_ifl_le 45 24 zC dX4_partOf_21 (fun h_5 => ?_) (fun h_5 => ?_)
      ·
        have hz9 : y = 0 := Nat.le_zero.mp ((pk_lLE (by omega) (show 0 < 2 ^ 63 by decide)).mp h_5)
        have hxg : x = Nat.gcd b a := by rw [← hg, hz9, Nat.gcd_zero_right]
        refine v_ll_n 46 zC dX4_partOf_45 3 rfl ?_
        refine v_lc (v := lN 0) 47 zC dX4_partOf_46 (by decide +kernel) ?_
        refine v_lcmp 48 zC dX4_partOf_47 ?_
        refine v_ifl_eq 58 51 zC dX4_partOf_48 (fun h_6 => ?_) (fun h_6 => ?_)
        ·
          have hae : a = 0 := (pk_lEQ (by omega) (show 0 < 2 ^ 63 by decide)).mp h_6
          refine v_il 60 zC dX4_partOf_58 5 rfl ?_
          refine v_i2l (v := (lN k)) 61 zC dX4_partOf_60 (nI_l (by omega)) ?_
          refine v_lret zC zT dX4_partOf_61  ?_
          first | exact ⟨sl (pto_0 hae).symm, rfl⟩ | exact ⟨sl (pto_1 hae (by assumption) hxg).symm, rfl⟩ | exact ⟨sl (pto_2 hae (by assumption) hxg).symm, rfl⟩
        ·
          have hae : a ≠ 0 := fun z => h_6 (by rw [z])
          have hx0 : 0 < x := by rw [hxg]; exact Nat.gcd_pos_of_pos_right _ (Nat.pos_of_ne_zero hae)
          refine v_ll 53 zC dX4_partOf_51 2 rfl ?_
          refine v_lc (v := lN 0) 54 zC dX4_partOf_53 (by decide +kernel) ?_
          refine v_lcmp 55 zC dX4_partOf_54 ?_
          refine v_ifl_gt 62 58 zC dX4_partOf_55 (fun h_7 => ?_) (fun h_7 => False.elim (by exact h_7 ((pk_lLT (show 0 < 2 ^ 63 by decide) (by omega)).mpr hx0)))
          refine v_il 64 zC dX4_partOf_62 5 rfl ?_
          refine v_ifn_ne 74 67 zC dX4_partOf_64 (fun h_8 => ?_) (fun h_8 => ?_)
          ·
            refine v_ll_n 75 zC dX4_partOf_74 4 rfl ?_
            refine v_ll 77 zC dX4_partOf_75 2 rfl ?_
            refine v_ldiv (v := (lN (b / x))) 78 zC dX4_partOf_77 (lN_ne0 hx0 (by omega)) (pk_lDiv (by omega) hx0 (by omega)) ?_
            refine v_lret zC zT dX4_partOf_78  ?_
            first | exact ⟨sl (pto_0 hae).symm, rfl⟩ | exact ⟨sl (pto_1 hae (by assumption) hxg).symm, rfl⟩ | exact ⟨sl (pto_2 hae (by assumption) hxg).symm, rfl⟩
          ·
            refine v_ll_n 68 zC dX4_partOf_67 3 rfl ?_
            refine v_ll 70 zC dX4_partOf_68 2 rfl ?_
            refine v_ldiv (v := (lN (a / x))) 71 zC dX4_partOf_70 (lN_ne0 hx0 (by omega)) (pk_lDiv (by omega) hx0 (by omega)) ?_
            refine v_goto 78 zC dX4_partOf_71 ?_
            refine v_lret zC zT dX4_partOf_78  ?_
            first | exact ⟨sl (pto_0 hae).symm, rfl⟩ | exact ⟨sl (pto_1 hae (by assumption) hxg).symm, rfl⟩ | exact ⟨sl (pto_2 hae (by assumption) hxg).symm, rfl⟩
      ·
        have hy0 : 0 < y := Nat.pos_of_ne_zero (fun z => h_5 (by rw [z]; exact Int64.le_refl _))
        refine v_ll 26 zC dX4_partOf_24 2 rfl ?_
        refine v_ll 28 zC dX4_partOf_26 1 rfl ?_
        refine v_lrem (v := (lN (x % y))) 29 zC dX4_partOf_28 (lN_ne0 hy0 (by omega)) (pk_lRem (by omega) hy0 (by omega)) ?_
        refine v_ls (lv2 := [(10, .long (lN (x % y))), (9, .int (nI i)), (7, .long (lN y)), (5, .long (lN x)), (0, .long (lN a)), (2, .long (lN b)), (4, .int (nI k))]) 31 zC dX4_partOf_29 (by rw [hnE]; decide) rfl ?_
        refine v_ll 33 zC dX4_partOf_31 2 rfl ?_
        refine v_ls (lv2 := [(5, .long (lN y)), (10, .long (lN (x % y))), (9, .int (nI i)), (7, .long (lN y)), (0, .long (lN a)), (2, .long (lN b)), (4, .int (nI k))]) 35 zC dX4_partOf_33 (by rw [hnE]; decide) rfl ?_
        refine v_ll 37 zC dX4_partOf_35 1 rfl ?_
        refine v_ls (lv2 := [(7, .long (lN (x % y))), (5, .long (lN y)), (10, .long (lN (x % y))), (9, .int (nI i)), (0, .long (lN a)), (2, .long (lN b)), (4, .int (nI k))]) 39 zC dX4_partOf_37 (by rw [hnE]; decide) rfl ?_
        refine v_inc (v := (nI (i + 1))) (lv2 := [(9, .int (nI (i + 1))), (7, .long (lN (x % y))), (5, .long (lN y)), (10, .long (lN (x % y))), (0, .long (lN a)), (2, .long (lN b)), (4, .int (nI k))]) 42 zC dX4_partOf_39 (j := 3) rfl (nI_add _ 1) (by rw [hnE]; decide) rfl ?_
        refine v_goto 9 zC dX4_partOf_42 ?_
        refine v_lvs (lv2 := [(9, .int (nI (i + 1))), (7, .long (lN (x % y))), (5, .long (lN y)), (0, .long (lN a)), (2, .long (lN b)), (4, .int (nI k))]) [0, 1, 2, 4, 5, 6] rfl ?_
        exact ih9 _ (by omega) y (x % y) (i + 1) (gd_g hg) (Or.inl (Nat.le_of_lt (Nat.mod_lt _ hy0))) (gd_1 hp hy0 (by omega) hc) (by first | omega | assumption | rfl | (simp only []; omega) | decide) hy (Nat.lt_trans (Nat.mod_lt _ hy0) hy) rfl
  refine v_lvs (lv2 := [(9, .int (nI 0)), (7, .long (lN a)), (5, .long (lN b)), (0, .long (lN a)), (2, .long (lN b)), (4, .int (nI k))]) [0, 1, 2, 3, 4, 5] rfl ?_
  exact lp9 _ b a 0 rfl (Or.inr ⟨rfl, gd_0 ha hb⟩) (Nat.lt_trans (gd_0 ha hb) (Nat.pow_lt_pow_right (by decide) (by decide))) (by first | omega | assumption | rfl | (simp only []; omega) | decide) hb ha rfl
set_option maxRecDepth 100000 in
set_option maxHeartbeats 4000000 in
theorem c_X4_share (l : Launch) (D : va_G) (cI : ClassId) (x0 xm xp g0 s0 w0 y0 : Nat) (pd : Bool) (rs : Nat) (b0 b1 b2 b3 : Nat) (P Q : Nat) (mf : Nat → Nat) (M : Nat → Option Nat) (kn : Nat → Nat) (a0 a1 a2 a3 a4 a5 a6 : Nat) (n m sh : Nat) (ki op fa K G T : Nat → Nat) (R : Nat → Nat) (d w : Int32) (hw : FW n m sh ki op fa K G T) (hB : ∀ z, kn z < 1024) (hM : ∀ z v, M z = some v → v < 7) : CT l yX4_share cX4_share 5 (some .long) { frames := 4, cells := 0, slots := 0, locals := 99 } D cI [.ref x0, .int d, .int w] [(x0, .inr (4, [.ref a0, .ref xm, .ref xp, .int (bz pd), .ref b0, .ref g0, .ref s0, .ref w0, .int (nI rs), .ref y0])), (a0, .inr (2, [.int (nI n), .int (nI m), .int (nI sh), .int (nI 0), .ref a1, .ref a2, .ref a3, .ref a4, .ref a5, .ref a6])), (a1, .inl (cI, 7, .inl (nIf ki))), (a2, .inl (cI, 7, .inl (nIf op))), (a3, .inl (cI, 7, .inl (nIf fa))), (a4, .inl (cI, 6, .inl (nIf K))), (a5, .inl (cI, 6, .inl (nIf G))), (a6, .inl (cI, 6, .inl (nIf T))), (b0, .inr (1, [.int (nI P), .int (nI Q), .ref b1, .ref b2, .ref b3])), (b1, .inl (cI, 6, .inl (nIf mf))), (b2, .inl (cI, 144, .inl (mIf M))), (b3, .inl (cI, 175, .inl (nIf kn))), (y0, .inl (cI, 7, .inl (nIf R)))] (fun zr zw => (∃ P1 : Nat, ∃ Q1 : Nat, ∃ mg : Nat → Nat, ∃ X : Nat → Nat, ∃ Y : Nat → Option Nat, ∃ rc : Nat, ∃ rv : Int64, (q_share (n, m, sh, 0, ki, op, fa, K, G, T) d w = (rc, rv)) ∧ (∀ z, X z < 1024) ∧ (∀ z v, Y z = some v → v < 7) ∧ zr = some (.long rv) ∧ zw = [(x0, .inr (4, [.ref a0, .ref xm, .ref xp, .int (bz pd), .ref b0, .ref g0, .ref s0, .ref w0, .int (nI rs), .ref y0])), (a0, .inr (2, [.int (nI n), .int (nI m), .int (nI sh), .int (nI 0), .ref a1, .ref a2, .ref a3, .ref a4, .ref a5, .ref a6])), (a1, .inl (cI, 7, .inl (nIf ki))), (a2, .inl (cI, 7, .inl (nIf op))), (a3, .inl (cI, 7, .inl (nIf fa))), (a4, .inl (cI, 6, .inl (nIf K))), (a5, .inl (cI, 6, .inl (nIf G))), (a6, .inl (cI, 6, .inl (nIf T))), (b0, .inr (1, [.int (nI P1), .int (nI Q1), .ref b1, .ref b2, .ref b3])), (b1, .inl (cI, 6, .inl (nIf mg))), (b2, .inl (cI, 144, .inl (mIf Y))), (b3, .inl (cI, 175, .inl (nIf X))), (y0, .inl (cI, 7, .inl (nIf (rf R rc))))])) := by
  refine CT_of RX4 rfl (by decide +kernel) (Nat.le_of_ble_eq_true rfl) (fun E hnE zC zT => ?_)
  have hA : ∀ q, (ev_s E).heap.size ≤ q → ev_A E q := fun q h => by rw [zT.2]; exact Or.inr h
  obtain ⟨hn, hm, hsh, hki, hop, hfa, hK, hG, hT, vki, vop, vfa, vK, vG, vT⟩ := id hw
  show VV E 0 0 0 [(0, .ref x0), (1, .int d), (2, .int w)] [] [(x0, .inr (4, [.ref a0, .ref xm, .ref xp, .int (bz pd), .ref b0, .ref g0, .ref s0, .ref w0, .int (nI rs), .ref y0])), (a0, .inr (2, [.int (nI n), .int (nI m), .int (nI sh), .int (nI 0), .ref a1, .ref a2, .ref a3, .ref a4, .ref a5, .ref a6])), (a1, .inl (cI, 7, .inl (nIf ki))), (a2, .inl (cI, 7, .inl (nIf op))), (a3, .inl (cI, 7, .inl (nIf fa))), (a4, .inl (cI, 6, .inl (nIf K))), (a5, .inl (cI, 6, .inl (nIf G))), (a6, .inl (cI, 6, .inl (nIf T))), (b0, .inr (1, [.int (nI P), .int (nI Q), .ref b1, .ref b2, .ref b3])), (b1, .inl (cI, 6, .inl (nIf mf))), (b2, .inl (cI, 144, .inl (mIf M))), (b3, .inl (cI, 175, .inl (nIf kn))), (y0, .inl (cI, 7, .inl (nIf R)))]
  refine v_al_n 1 zC dX4_share_0 0 rfl ?_
  refine v_il_n 2 zC dX4_share_1 1 rfl ?_
  refine v_cV (As := [.int d]) (st := []) 5 0 [0, 1] zC dX4_share_2 hA (c_X4_noDead (ev_l E) (ev_D E) cI (x0 := x0) (xm := xm) (xp := xp) (b0 := b0) (g0 := g0) (s0 := s0) (w0 := w0) (y0 := y0) (pd := pd) (rs := rs) (a0 := a0) (a1 := a1) (a2 := a2) (a3 := a3) (a4 := a4) (a5 := a5) (a6 := a6) (n := n) (m := m) (sh := sh) (p := d) (hm := (by first | omega | assumption | rfl | (simp only []; omega) | decide))) cf_X4_noDead lk_X4_99 rfl rfl rfl rfl rfl (by decide +kernel) (Nat.le_of_ble_eq_true rfl) (fun rv_1 wv_2 hp_3 hm_4 => ?_)
  clear hm_4
  rcases hp_3 with ⟨hi_5, rfl, rfl⟩ | ⟨j_6, he_7, hi_8, hj_9, rfl, rfl⟩
  ·
    show VV E 0 0 5 [(0, .ref x0), (1, .int d), (2, .int w)] [.int (nI 1)] [(x0, .inr (4, [.ref a0, .ref xm, .ref xp, .int (bz pd), .ref b0, .ref g0, .ref s0, .ref w0, .int (nI rs), .ref y0])), (a0, .inr (2, [.int (nI n), .int (nI m), .int (nI sh), .int (nI 0), .ref a1, .ref a2, .ref a3, .ref a4, .ref a5, .ref a6])), (a1, .inl (cI, 7, .inl (nIf ki))), (a2, .inl (cI, 7, .inl (nIf op))), (a3, .inl (cI, 7, .inl (nIf fa))), (a4, .inl (cI, 6, .inl (nIf K))), (a5, .inl (cI, 6, .inl (nIf G))), (a6, .inl (cI, 6, .inl (nIf T))), (b0, .inr (1, [.int (nI P), .int (nI Q), .ref b1, .ref b2, .ref b3])), (b1, .inl (cI, 6, .inl (nIf mf))), (b2, .inl (cI, 144, .inl (mIf M))), (b3, .inl (cI, 175, .inl (nIf kn))), (y0, .inl (cI, 7, .inl (nIf R)))]
    have hn_d := hi_5
    refine v_if_eq 14 8 zC dX4_share_5 (fun z => absurd z (by decide +kernel)) (fun _ => ?_)
    refine v_al_n 9 zC dX4_share_8 0 rfl ?_
    refine v_ic (v := (-1)) 10 zC dX4_share_9 (by decide +kernel) ?_
    refine v_cV (As := [.int (-1)]) (st := []) 13 0 [0, 12] zC dX4_share_10 hA (c_X4_refuseLong (ev_l E) (ev_D E) cI (x0 := x0) (xn := a0) (xm := xm) (xp := xp) (b0 := b0) (g0 := g0) (s0 := s0) (w0 := w0) (y0 := y0) (pd := pd) (rs := rs) (R := R) (v := (-1)) (j := 1) (hv := (by first | omega | assumption | rfl | (simp only []; omega) | decide)) (h1 := (by first | omega | assumption | rfl | (simp only []; omega) | decide)) (h6 := (by first | omega | assumption | rfl | (simp only []; omega) | decide))) cf_X4_refuseLong lk_X4_239 rfl rfl rfl rfl rfl (by decide +kernel) (Nat.le_of_ble_eq_true rfl) (fun rv_11 wv_12 hp_13 hm_14 => ?_)
    clear hm_14
    obtain ⟨rfl, rfl⟩ := hp_13
    show VV E 0 0 13 [(0, .ref x0), (1, .int d), (2, .int w)] [.long (lN 4000000000000000000 - Int32.toInt64 (-1))] [(x0, .inr (4, [.ref a0, .ref xm, .ref xp, .int (bz pd), .ref b0, .ref g0, .ref s0, .ref w0, .int (nI rs), .ref y0])), (a0, .inr (2, [.int (nI n), .int (nI m), .int (nI sh), .int (nI 0), .ref a1, .ref a2, .ref a3, .ref a4, .ref a5, .ref a6])), (a1, .inl (cI, 7, .inl (nIf ki))), (a2, .inl (cI, 7, .inl (nIf op))), (a3, .inl (cI, 7, .inl (nIf fa))), (a4, .inl (cI, 6, .inl (nIf K))), (a5, .inl (cI, 6, .inl (nIf G))), (a6, .inl (cI, 6, .inl (nIf T))), (b0, .inr (1, [.int (nI P), .int (nI Q), .ref b1, .ref b2, .ref b3])), (b1, .inl (cI, 6, .inl (nIf mf))), (b2, .inl (cI, 144, .inl (mIf M))), (b3, .inl (cI, 175, .inl (nIf kn))), (y0, .inl (cI, 7, .inl (nIf (un R 1 (R 1 + 1)))))]
    refine v_lret zC zT dX4_share_13  ?_
    first | (have g9 := hn_d; exact ⟨P, Q, mf, kn, M, 1, RLF (-1), by unfold q_share; rw [hn_d], hB, hM, rfl, rfl⟩) | (have g9 := hn_w; exact ⟨P, Q, mf, kn, M, 2, RLF (-2), by unfold q_share; rw [hi_d]; dsimp only; rw [hn_w], hB, hM, rfl, rfl⟩) | exact ⟨_, _, _, _, _, 0, _, by unfold q_share; rw [hi_d]; dsimp only; rw [hi_w]; dsimp only; rw [← hxe], hD9.2.2.1, hD9.2.2.2, rfl, rfl⟩
  ·
    show VV E 0 0 5 [(0, .ref x0), (1, .int d), (2, .int w)] [.int (nI 0)] [(x0, .inr (4, [.ref a0, .ref xm, .ref xp, .int (bz pd), .ref b0, .ref g0, .ref s0, .ref w0, .int (nI rs), .ref y0])), (a0, .inr (2, [.int (nI n), .int (nI m), .int (nI sh), .int (nI 0), .ref a1, .ref a2, .ref a3, .ref a4, .ref a5, .ref a6])), (a1, .inl (cI, 7, .inl (nIf ki))), (a2, .inl (cI, 7, .inl (nIf op))), (a3, .inl (cI, 7, .inl (nIf fa))), (a4, .inl (cI, 6, .inl (nIf K))), (a5, .inl (cI, 6, .inl (nIf G))), (a6, .inl (cI, 6, .inl (nIf T))), (b0, .inr (1, [.int (nI P), .int (nI Q), .ref b1, .ref b2, .ref b3])), (b1, .inl (cI, 6, .inl (nIf mf))), (b2, .inl (cI, 144, .inl (mIf M))), (b3, .inl (cI, 175, .inl (nIf kn))), (y0, .inl (cI, 7, .inl (nIf R)))]
    subst he_7
    have hi_d := hi_8
    obtain ⟨jd, hx_jd⟩ : ∃ z, z = j_6 := ⟨_, rfl⟩
    subst hx_jd
    refine v_if_eq 14 8 zC dX4_share_5 (fun _ => ?_) (fun z => absurd (by decide +kernel) z)
    refine v_il_n 15 zC dX4_share_14 2 rfl ?_
    refine v_ic (v := (nI 2)) 16 zC dX4_share_15 (by decide +kernel) ?_
    refine v_cS (As := [.int w, .int (nI 2)]) (st := []) 19 [] zC dX4_share_16 hA (c_X4_noWhat (ev_l E) (ev_D E) cI (p := w) (k := 2) (hk := (by first | omega | assumption | rfl | (simp only []; omega) | decide))) cf_X4_noWhat lk_X4_83 rfl rfl rfl (by decide +kernel) (Nat.le_of_ble_eq_true rfl) (fun rv_16 wv_17 hp_18 hm_19 => ?_)
    clear hm_19
    rcases hp_18 with ⟨hi_20, rfl, rfl⟩ | ⟨j_21, he_22, hi_23, hj_24, rfl, rfl⟩
    ·
      show VV E 0 0 19 [(0, .ref x0), (1, .int (nI jd)), (2, .int w)] [.int (nI 1)] [(x0, .inr (4, [.ref a0, .ref xm, .ref xp, .int (bz pd), .ref b0, .ref g0, .ref s0, .ref w0, .int (nI rs), .ref y0])), (a0, .inr (2, [.int (nI n), .int (nI m), .int (nI sh), .int (nI 0), .ref a1, .ref a2, .ref a3, .ref a4, .ref a5, .ref a6])), (a1, .inl (cI, 7, .inl (nIf ki))), (a2, .inl (cI, 7, .inl (nIf op))), (a3, .inl (cI, 7, .inl (nIf fa))), (a4, .inl (cI, 6, .inl (nIf K))), (a5, .inl (cI, 6, .inl (nIf G))), (a6, .inl (cI, 6, .inl (nIf T))), (b0, .inr (1, [.int (nI P), .int (nI Q), .ref b1, .ref b2, .ref b3])), (b1, .inl (cI, 6, .inl (nIf mf))), (b2, .inl (cI, 144, .inl (mIf M))), (b3, .inl (cI, 175, .inl (nIf kn))), (y0, .inl (cI, 7, .inl (nIf R)))]
      have hn_w := hi_20
      refine v_if_eq 29 22 zC dX4_share_19 (fun z => absurd z (by decide +kernel)) (fun _ => ?_)
      refine v_al_n 23 zC dX4_share_22 0 rfl ?_
      refine v_bp (v := (-2)) 25 zC dX4_share_23 (by decide +kernel) ?_
      refine v_cV (As := [.int (-2)]) (st := []) 28 0 [0, 12] zC dX4_share_25 hA (c_X4_refuseLong (ev_l E) (ev_D E) cI (x0 := x0) (xn := a0) (xm := xm) (xp := xp) (b0 := b0) (g0 := g0) (s0 := s0) (w0 := w0) (y0 := y0) (pd := pd) (rs := rs) (R := R) (v := (-2)) (j := 2) (hv := (by first | omega | assumption | rfl | (simp only []; omega) | decide)) (h1 := (by first | omega | assumption | rfl | (simp only []; omega) | decide)) (h6 := (by first | omega | assumption | rfl | (simp only []; omega) | decide))) cf_X4_refuseLong lk_X4_239 rfl rfl rfl rfl rfl (by decide +kernel) (Nat.le_of_ble_eq_true rfl) (fun rv_26 wv_27 hp_28 hm_29 => ?_)
      clear hm_29
      obtain ⟨rfl, rfl⟩ := hp_28
      show VV E 0 0 28 [(0, .ref x0), (1, .int (nI jd)), (2, .int w)] [.long (lN 4000000000000000000 - Int32.toInt64 (-2))] [(x0, .inr (4, [.ref a0, .ref xm, .ref xp, .int (bz pd), .ref b0, .ref g0, .ref s0, .ref w0, .int (nI rs), .ref y0])), (a0, .inr (2, [.int (nI n), .int (nI m), .int (nI sh), .int (nI 0), .ref a1, .ref a2, .ref a3, .ref a4, .ref a5, .ref a6])), (a1, .inl (cI, 7, .inl (nIf ki))), (a2, .inl (cI, 7, .inl (nIf op))), (a3, .inl (cI, 7, .inl (nIf fa))), (a4, .inl (cI, 6, .inl (nIf K))), (a5, .inl (cI, 6, .inl (nIf G))), (a6, .inl (cI, 6, .inl (nIf T))), (b0, .inr (1, [.int (nI P), .int (nI Q), .ref b1, .ref b2, .ref b3])), (b1, .inl (cI, 6, .inl (nIf mf))), (b2, .inl (cI, 144, .inl (mIf M))), (b3, .inl (cI, 175, .inl (nIf kn))), (y0, .inl (cI, 7, .inl (nIf (un R 2 (R 2 + 1)))))]
      refine v_lret zC zT dX4_share_28  ?_
      first | (have g9 := hn_d; exact ⟨P, Q, mf, kn, M, 1, RLF (-1), by unfold q_share; rw [hn_d], hB, hM, rfl, rfl⟩) | (have g9 := hn_w; exact ⟨P, Q, mf, kn, M, 2, RLF (-2), by unfold q_share; rw [hi_d]; dsimp only; rw [hn_w], hB, hM, rfl, rfl⟩) | exact ⟨_, _, _, _, _, 0, _, by unfold q_share; rw [hi_d]; dsimp only; rw [hi_w]; dsimp only; rw [← hxe], hD9.2.2.1, hD9.2.2.2, rfl, rfl⟩
    ·
      show VV E 0 0 19 [(0, .ref x0), (1, .int (nI jd)), (2, .int w)] [.int (nI 0)] [(x0, .inr (4, [.ref a0, .ref xm, .ref xp, .int (bz pd), .ref b0, .ref g0, .ref s0, .ref w0, .int (nI rs), .ref y0])), (a0, .inr (2, [.int (nI n), .int (nI m), .int (nI sh), .int (nI 0), .ref a1, .ref a2, .ref a3, .ref a4, .ref a5, .ref a6])), (a1, .inl (cI, 7, .inl (nIf ki))), (a2, .inl (cI, 7, .inl (nIf op))), (a3, .inl (cI, 7, .inl (nIf fa))), (a4, .inl (cI, 6, .inl (nIf K))), (a5, .inl (cI, 6, .inl (nIf G))), (a6, .inl (cI, 6, .inl (nIf T))), (b0, .inr (1, [.int (nI P), .int (nI Q), .ref b1, .ref b2, .ref b3])), (b1, .inl (cI, 6, .inl (nIf mf))), (b2, .inl (cI, 144, .inl (mIf M))), (b3, .inl (cI, 175, .inl (nIf kn))), (y0, .inl (cI, 7, .inl (nIf R)))]
      subst he_22
      have hi_w := hi_23
      obtain ⟨jw, hx_jw⟩ : ∃ z, z = j_21 := ⟨_, rfl⟩
      subst hx_jw
      refine v_if_eq 29 22 zC dX4_share_19 (fun _ => ?_) (fun z => absurd (by decide +kernel) z)
      refine v_al_n 30 zC dX4_share_29 0 rfl ?_
      refine v_gf 33 0 zC dX4_share_30 gf_X4_25 rfl rfl ?_
      refine v_al_n 34 zC dX4_share_33 0 rfl ?_
      refine v_gf 37 0 zC dX4_share_34 gf_X4_12 rfl rfl ?_
      refine v_cV (As := [.ref a0]) (st := []) 40 8 [8, 9, 10, 11, 1, 2, 3, 4, 5, 6, 7] zC dX4_share_37 hA (c_X1_live (ev_l E) (ev_D E) cI (b0 := b0) (b1 := b1) (b2 := b2) (b3 := b3) (P := P) (Q := Q) (mf := mf) (M := M) (kn := kn) (a0 := a0) (a1 := a1) (a2 := a2) (a3 := a3) (a4 := a4) (a5 := a5) (a6 := a6) (n := n) (m := m) (sh := sh) (aw := 0) (ki := ki) (op := op) (fa := fa) (K := K) (G := G) (T := T) (hn := (by first | omega | assumption | rfl | (simp only []; omega) | decide)) (hm := (by first | omega | assumption | rfl | (simp only []; omega) | decide)) (hK := (by first | omega | assumption | rfl | (simp only []; omega) | decide)) (hG := (by first | omega | assumption | rfl | (simp only []; omega) | decide)) (hT := (by first | omega | assumption | rfl | (simp only []; omega) | decide)) (hA2 := (by first | omega | assumption | rfl | (simp only []; omega) | decide)) (hB := (by first | omega | assumption | rfl | (simp only []; omega) | decide)) (hM := (by first | omega | assumption | rfl | (simp only []; omega) | decide))) cf_X1_live lk_X4_158 rfl rfl rfl rfl rfl (by decide +kernel) (Nat.le_of_ble_eq_true rfl) (fun rv_31 wv_32 hp_33 hm_34 => ?_)
      clear hm_34
      obtain ⟨mg_35, X_36, Y_37, hD_38, rfl, rfl⟩ := hp_33
      show VV E 0 0 40 [(0, .ref x0), (1, .int (nI jd)), (2, .int (nI jw))] [] [(x0, .inr (4, [.ref a0, .ref xm, .ref xp, .int (bz pd), .ref b0, .ref g0, .ref s0, .ref w0, .int (nI rs), .ref y0])), (a0, .inr (2, [.int (nI n), .int (nI m), .int (nI sh), .int (nI 0), .ref a1, .ref a2, .ref a3, .ref a4, .ref a5, .ref a6])), (a1, .inl (cI, 7, .inl (nIf ki))), (a2, .inl (cI, 7, .inl (nIf op))), (a3, .inl (cI, 7, .inl (nIf fa))), (a4, .inl (cI, 6, .inl (nIf K))), (a5, .inl (cI, 6, .inl (nIf G))), (a6, .inl (cI, 6, .inl (nIf T))), (b0, .inr (1, [.int (nI n), .int (nI m), .ref b1, .ref b2, .ref b3])), (b1, .inl (cI, 6, .inl (nIf mg_35))), (b2, .inl (cI, 144, .inl (mIf Y_37))), (b3, .inl (cI, 175, .inl (nIf X_36))), (y0, .inl (cI, 7, .inl (nIf R)))]
      have hD9 := hD_38
      refine v_ic (v := (nI 0)) 41 zC dX4_share_40 (by decide +kernel) ?_
      refine v_is_n (lv2 := [(3, .int (nI 0)), (0, .ref x0), (1, .int (nI jd)), (2, .int (nI jw))]) 42 zC dX4_share_41 (by rw [hnE]; decide) rfl ?_
      refine v_ic (v := (nI 0)) 43 zC dX4_share_42 (by decide +kernel) ?_
      refine v_is (lv2 := [(4, .int (nI 0)), (3, .int (nI 0)), (0, .ref x0), (1, .int (nI jd)), (2, .int (nI jw))]) 45 zC dX4_share_43 (by rw [hnE]; decide) rfl ?_
      have lp45 : ∀ (mz : Nat) (x : Nat) (d : Nat), (x = sm (fun d => SPOKE (n, m, sh, 0, ki, op, fa, K, G, T) d) d) → (d ≤ m) → (x ≤ 24 * d) → m - d = mz → VV E 0 0 45 [(4, .int (nI d)), (3, .int (nI x)), (0, .ref x0), (1, .int (nI jd)), (2, .int (nI jw))] [] [(x0, .inr (4, [.ref a0, .ref xm, .ref xp, .int (bz pd), .ref b0, .ref g0, .ref s0, .ref w0, .int (nI rs), .ref y0])), (a0, .inr (2, [.int (nI n), .int (nI m), .int (nI sh), .int (nI 0), .ref a1, .ref a2, .ref a3, .ref a4, .ref a5, .ref a6])), (a1, .inl (cI, 7, .inl (nIf ki))), (a2, .inl (cI, 7, .inl (nIf op))), (a3, .inl (cI, 7, .inl (nIf fa))), (a4, .inl (cI, 6, .inl (nIf K))), (a5, .inl (cI, 6, .inl (nIf G))), (a6, .inl (cI, 6, .inl (nIf T))), (b0, .inr (1, [.int (nI n), .int (nI m), .ref b1, .ref b2, .ref b3])), (b1, .inl (cI, 6, .inl (nIf mg_35))), (b2, .inl (cI, 144, .inl (mIf Y_37))), (b3, .inl (cI, 175, .inl (nIf X_36))), (y0, .inl (cI, 7, .inl (nIf R)))] := by
        intro mz
        induction mz using Nat.strongRecOn with
        | _ mz ih45 =>
        intro x d hx hd hxl hm45
        refine v_il 47 zC dX4_share_45 0 rfl ?_
        refine v_al_n 48 zC dX4_share_47 2 rfl ?_
        refine v_gf 51 0 zC dX4_share_48 gf_X4_12 rfl rfl ?_
        refine v_gf 54 1 zC dX4_share_51 gf_X4_121 rfl rfl ?_
        refine v_icmpn_ge 75 57 zC dX4_share_54 (fun h_39 => ?_) (fun h_39 => ?_)
        ·
          have hxe : x = SPKS (n, m, sh, 0, ki, op, fa, K, G, T) := by rw [hx, show d = m by omega]; rfl
          refine v_al_n 76 zC dX4_share_75 2 rfl ?_
          refine v_gf 79 0 zC dX4_share_76 gf_X4_25 rfl rfl ?_
          refine v_il_n 80 zC dX4_share_79 3 rfl ?_
          refine v_cV (As := [.int (nI jd)]) (st := []) 83 8 [8, 10] zC dX4_share_80 hA (c_X1_timesOf (ev_l E) (ev_D E) cI (b0 := b0) (b1 := b1) (b2 := b2) (b3 := b3) (P := n) (Q := m) (M := Y_37) (d := jd) (hQ := (by first | omega | assumption | rfl | (simp only []; omega) | decide)) (hd := (by first | omega | assumption | rfl | (simp only []; omega) | decide)) (hM := hD9.2.2.2)) cf_X1_timesOf lk_X4_192 rfl rfl rfl rfl rfl (by decide +kernel) (Nat.le_of_ble_eq_true rfl) (fun rv_40 wv_41 hp_42 hm_43 => ?_)
          clear hm_43
          obtain ⟨rfl, rfl⟩ := hp_42
          show VV E 0 0 83 [(4, .int (nI d)), (3, .int (nI x)), (0, .ref x0), (1, .int (nI jd)), (2, .int (nI jw))] [.int (nI (ctn (fun z => (Y_37 (z * 6 + jd)).isSome) 24))] [(x0, .inr (4, [.ref a0, .ref xm, .ref xp, .int (bz pd), .ref b0, .ref g0, .ref s0, .ref w0, .int (nI rs), .ref y0])), (a0, .inr (2, [.int (nI n), .int (nI m), .int (nI sh), .int (nI 0), .ref a1, .ref a2, .ref a3, .ref a4, .ref a5, .ref a6])), (a1, .inl (cI, 7, .inl (nIf ki))), (a2, .inl (cI, 7, .inl (nIf op))), (a3, .inl (cI, 7, .inl (nIf fa))), (a4, .inl (cI, 6, .inl (nIf K))), (a5, .inl (cI, 6, .inl (nIf G))), (a6, .inl (cI, 6, .inl (nIf T))), (b0, .inr (1, [.int (nI n), .int (nI m), .ref b1, .ref b2, .ref b3])), (b1, .inl (cI, 6, .inl (nIf mg_35))), (b2, .inl (cI, 144, .inl (mIf Y_37))), (b3, .inl (cI, 175, .inl (nIf X_36))), (y0, .inl (cI, 7, .inl (nIf R)))]
          rw [dk_spoke hD9 (by omega)]
          have hc8 : SPOKE (n, m, sh, 0, ki, op, fa, K, G, T) jd ≤ 24 := spo_le
          refine v_i2l (v := (lN (SPOKE (n, m, sh, 0, ki, op, fa, K, G, T) jd))) 84 zC dX4_share_83 (nI_l (by omega)) ?_
          refine v_il_n 85 zC dX4_share_84 1 rfl ?_
          refine v_i2l (v := (lN x)) 86 zC dX4_share_85 (nI_l (by omega)) ?_
          refine v_il_n 87 zC dX4_share_86 4 rfl ?_
          refine v_cS (As := [.long (lN (SPOKE (n, m, sh, 0, ki, op, fa, K, G, T) jd)), .long (lN x), .int (nI jw)]) (st := []) 90 [] zC dX4_share_87 hA (c_X4_partOf (ev_l E) (ev_D E) cI (a := (SPOKE (n, m, sh, 0, ki, op, fa, K, G, T) jd)) (b := x) (k := jw) (ha := (by first | omega | assumption | rfl | (simp only []; omega) | decide)) (hb := (by first | omega | assumption | rfl | (simp only []; omega) | decide)) (hk := (by first | omega | assumption | rfl | (simp only []; omega) | decide))) cf_X4_partOf lk_X4_247 rfl rfl rfl (by decide +kernel) (Nat.le_of_ble_eq_true rfl) (fun rv_44 wv_45 hp_46 hm_47 => ?_)
          clear hm_47
          obtain ⟨rfl, rfl⟩ := hp_46
          show VV E 0 0 90 [(4, .int (nI d)), (3, .int (nI x)), (0, .ref x0), (1, .int (nI jd)), (2, .int (nI jw))] [.long (lN (PTO (SPOKE (n, m, sh, 0, ki, op, fa, K, G, T) jd) x jw))] [(x0, .inr (4, [.ref a0, .ref xm, .ref xp, .int (bz pd), .ref b0, .ref g0, .ref s0, .ref w0, .int (nI rs), .ref y0])), (a0, .inr (2, [.int (nI n), .int (nI m), .int (nI sh), .int (nI 0), .ref a1, .ref a2, .ref a3, .ref a4, .ref a5, .ref a6])), (a1, .inl (cI, 7, .inl (nIf ki))), (a2, .inl (cI, 7, .inl (nIf op))), (a3, .inl (cI, 7, .inl (nIf fa))), (a4, .inl (cI, 6, .inl (nIf K))), (a5, .inl (cI, 6, .inl (nIf G))), (a6, .inl (cI, 6, .inl (nIf T))), (b0, .inr (1, [.int (nI n), .int (nI m), .ref b1, .ref b2, .ref b3])), (b1, .inl (cI, 6, .inl (nIf mg_35))), (b2, .inl (cI, 144, .inl (mIf Y_37))), (b3, .inl (cI, 175, .inl (nIf X_36))), (y0, .inl (cI, 7, .inl (nIf R)))]
          refine v_lret zC zT dX4_share_90  ?_
          first | (have g9 := hn_d; exact ⟨P, Q, mf, kn, M, 1, RLF (-1), by unfold q_share; rw [hn_d], hB, hM, rfl, rfl⟩) | (have g9 := hn_w; exact ⟨P, Q, mf, kn, M, 2, RLF (-2), by unfold q_share; rw [hi_d]; dsimp only; rw [hn_w], hB, hM, rfl, rfl⟩) | exact ⟨_, _, _, _, _, 0, _, by unfold q_share; rw [hi_d]; dsimp only; rw [hi_w]; dsimp only; rw [← hxe], hD9.2.2.1, hD9.2.2.2, rfl, rfl⟩
        ·
          refine v_il_n 58 zC dX4_share_57 1 rfl ?_
          refine v_al_n 59 zC dX4_share_58 2 rfl ?_
          refine v_gf 62 0 zC dX4_share_59 gf_X4_25 rfl rfl ?_
          refine v_il 64 zC dX4_share_62 0 rfl ?_
          refine v_cV (As := [.int (nI d)]) (st := [.int (nI x)]) 67 8 [8, 10] zC dX4_share_64 hA (c_X1_timesOf (ev_l E) (ev_D E) cI (b0 := b0) (b1 := b1) (b2 := b2) (b3 := b3) (P := n) (Q := m) (M := Y_37) (d := d) (hQ := (by first | omega | assumption | rfl | (simp only []; omega) | decide)) (hd := (by first | omega | assumption | rfl | (simp only []; omega) | decide)) (hM := hD9.2.2.2)) cf_X1_timesOf lk_X4_192 rfl rfl rfl rfl rfl (by decide +kernel) (Nat.le_of_ble_eq_true rfl) (fun rv_48 wv_49 hp_50 hm_51 => ?_)
          clear hm_51
          obtain ⟨rfl, rfl⟩ := hp_50
          show VV E 0 0 67 [(4, .int (nI d)), (3, .int (nI x)), (0, .ref x0), (1, .int (nI jd)), (2, .int (nI jw))] [.int (nI (ctn (fun z => (Y_37 (z * 6 + d)).isSome) 24)), .int (nI x)] [(x0, .inr (4, [.ref a0, .ref xm, .ref xp, .int (bz pd), .ref b0, .ref g0, .ref s0, .ref w0, .int (nI rs), .ref y0])), (a0, .inr (2, [.int (nI n), .int (nI m), .int (nI sh), .int (nI 0), .ref a1, .ref a2, .ref a3, .ref a4, .ref a5, .ref a6])), (a1, .inl (cI, 7, .inl (nIf ki))), (a2, .inl (cI, 7, .inl (nIf op))), (a3, .inl (cI, 7, .inl (nIf fa))), (a4, .inl (cI, 6, .inl (nIf K))), (a5, .inl (cI, 6, .inl (nIf G))), (a6, .inl (cI, 6, .inl (nIf T))), (b0, .inr (1, [.int (nI n), .int (nI m), .ref b1, .ref b2, .ref b3])), (b1, .inl (cI, 6, .inl (nIf mg_35))), (b2, .inl (cI, 144, .inl (mIf Y_37))), (b3, .inl (cI, 175, .inl (nIf X_36))), (y0, .inl (cI, 7, .inl (nIf R)))]
          rw [dk_spoke hD9 (by omega)]
          have hc9 : SPOKE (n, m, sh, 0, ki, op, fa, K, G, T) d ≤ 24 := spo_le
          refine v_iadd (v := (nI (x + (SPOKE (n, m, sh, 0, ki, op, fa, K, G, T) d)))) 68 zC dX4_share_67 (nI_add _ _) ?_
          refine v_is_n (lv2 := [(3, .int (nI (x + (SPOKE (n, m, sh, 0, ki, op, fa, K, G, T) d)))), (4, .int (nI d)), (0, .ref x0), (1, .int (nI jd)), (2, .int (nI jw))]) 69 zC dX4_share_68 (by rw [hnE]; decide) rfl ?_
          refine v_inc (v := (nI (d + 1))) (lv2 := [(4, .int (nI (d + 1))), (3, .int (nI (x + (SPOKE (n, m, sh, 0, ki, op, fa, K, G, T) d)))), (0, .ref x0), (1, .int (nI jd)), (2, .int (nI jw))]) 72 zC dX4_share_69 (j := 1) rfl (nI_add _ 1) (by rw [hnE]; decide) rfl ?_
          refine v_goto 45 zC dX4_share_72 ?_
          refine v_lvs (lv2 := [(4, .int (nI (d + 1))), (3, .int (nI (x + (SPOKE (n, m, sh, 0, ki, op, fa, K, G, T) d)))), (0, .ref x0), (1, .int (nI jd)), (2, .int (nI jw))]) [0, 1, 2, 3, 4] rfl ?_
          exact ih45 _ (by omega) (x + (SPOKE (n, m, sh, 0, ki, op, fa, K, G, T) d)) (d + 1) (by rw [hx]; rfl) (by first | omega | assumption | rfl | (simp only []; omega) | decide) (by first | omega | assumption | rfl | (simp only []; omega) | decide) rfl
      refine v_lvs (lv2 := [(4, .int (nI 0)), (3, .int (nI 0)), (0, .ref x0), (1, .int (nI jd)), (2, .int (nI jw))]) [0, 1, 2, 3, 4] rfl ?_
      exact lp45 _ 0 0 (by first | omega | assumption | rfl | (simp only []; omega) | decide) (by first | omega | assumption | rfl | (simp only []; omega) | decide) (by first | omega | assumption | rfl | (simp only []; omega) | decide) rfl
set_option maxRecDepth 100000 in
set_option maxHeartbeats 4000000 in
theorem c_X4_colds (l : Launch) (D : va_G) (cI : ClassId) (x0 xp g0 s0 w0 y0 : Nat) (pd : Bool) (rs : Nat) (b0 b1 b2 b3 : Nat) (P Q : Nat) (mf : Nat → Nat) (M : Nat → Option Nat) (kn : Nat → Nat) (a0 a1 a2 a3 a4 a5 a6 : Nat) (n m sh : Nat) (ki op fa K G T : Nat → Nat) (c0 c1 c2 c3 c4 c5 c6 : Nat) (n1 m1 sh1 aw1 : Nat) (ki1 op1 fa1 K1 G1 T1 : Nat → Nat) (R : Nat → Nat) (p f t w : Int32) (hw : FW n m sh ki op fa K G T) (hw1 : FW n1 m1 sh1 ki1 op1 fa1 K1 G1 T1) (hB : ∀ z, kn z < 1024) (hM : ∀ z v, M z = some v → v < 7)  : CT l yX4_colds cX4_colds 9 (some .long) { frames := 4, cells := 0, slots := 0, locals := 99 } D cI [.ref x0, .int p, .int f, .int t, .int w] [(x0, .inr (4, [.ref a0, .ref c0, .ref xp, .int (bz pd), .ref b0, .ref g0, .ref s0, .ref w0, .int (nI rs), .ref y0])), (a0, .inr (2, [.int (nI n), .int (nI m), .int (nI sh), .int (nI 0), .ref a1, .ref a2, .ref a3, .ref a4, .ref a5, .ref a6])), (a1, .inl (cI, 7, .inl (nIf ki))), (a2, .inl (cI, 7, .inl (nIf op))), (a3, .inl (cI, 7, .inl (nIf fa))), (a4, .inl (cI, 6, .inl (nIf K))), (a5, .inl (cI, 6, .inl (nIf G))), (a6, .inl (cI, 6, .inl (nIf T))), (c0, .inr (2, [.int (nI n1), .int (nI m1), .int (nI sh1), .int (nI aw1), .ref c1, .ref c2, .ref c3, .ref c4, .ref c5, .ref c6])), (c1, .inl (cI, 7, .inl (nIf ki1))), (c2, .inl (cI, 7, .inl (nIf op1))), (c3, .inl (cI, 7, .inl (nIf fa1))), (c4, .inl (cI, 6, .inl (nIf K1))), (c5, .inl (cI, 6, .inl (nIf G1))), (c6, .inl (cI, 6, .inl (nIf T1))), (b0, .inr (1, [.int (nI P), .int (nI Q), .ref b1, .ref b2, .ref b3])), (b1, .inl (cI, 6, .inl (nIf mf))), (b2, .inl (cI, 144, .inl (mIf M))), (b3, .inl (cI, 175, .inl (nIf kn))), (y0, .inl (cI, 7, .inl (nIf R)))] (fun zr zw => (∃ P1 : Nat, ∃ Q1 : Nat, ∃ mg : Nat → Nat, ∃ X : Nat → Nat, ∃ Y : Nat → Option Nat, ∃ n3 : Nat, ∃ m3 : Nat, ∃ s3 : Nat, ∃ w3 : Nat, ∃ ki3 : Nat → Nat, ∃ op3 : Nat → Nat, ∃ fa3 : Nat → Nat, ∃ K3 : Nat → Nat, ∃ G3 : Nat → Nat, ∃ T3 : Nat → Nat, ∃ rc : Nat, ∃ rv : Int64, (q_colds (n, m, sh, 0, ki, op, fa, K, G, T) p f t w = (rc, rv)) ∧ (FW n3 m3 s3 ki3 op3 fa3 K3 G3 T3) ∧ (∀ z, X z < 1024) ∧ (∀ z v, Y z = some v → v < 7) ∧ zr = some (.long rv) ∧ zw = [(x0, .inr (4, [.ref a0, .ref c0, .ref xp, .int (bz pd), .ref b0, .ref g0, .ref s0, .ref w0, .int (nI rs), .ref y0])), (a0, .inr (2, [.int (nI n), .int (nI m), .int (nI sh), .int (nI 0), .ref a1, .ref a2, .ref a3, .ref a4, .ref a5, .ref a6])), (a1, .inl (cI, 7, .inl (nIf ki))), (a2, .inl (cI, 7, .inl (nIf op))), (a3, .inl (cI, 7, .inl (nIf fa))), (a4, .inl (cI, 6, .inl (nIf K))), (a5, .inl (cI, 6, .inl (nIf G))), (a6, .inl (cI, 6, .inl (nIf T))), (c0, .inr (2, [.int (nI n3), .int (nI m3), .int (nI s3), .int (nI w3), .ref c1, .ref c2, .ref c3, .ref c4, .ref c5, .ref c6])), (c1, .inl (cI, 7, .inl (nIf ki3))), (c2, .inl (cI, 7, .inl (nIf op3))), (c3, .inl (cI, 7, .inl (nIf fa3))), (c4, .inl (cI, 6, .inl (nIf K3))), (c5, .inl (cI, 6, .inl (nIf G3))), (c6, .inl (cI, 6, .inl (nIf T3))), (b0, .inr (1, [.int (nI P1), .int (nI Q1), .ref b1, .ref b2, .ref b3])), (b1, .inl (cI, 6, .inl (nIf mg))), (b2, .inl (cI, 144, .inl (mIf Y))), (b3, .inl (cI, 175, .inl (nIf X))), (y0, .inl (cI, 7, .inl (nIf (rf R rc))))])) := by
  refine CT_of RX4 rfl (by decide +kernel) (Nat.le_of_ble_eq_true rfl) (fun E hnE zC zT => ?_)
  have hA : ∀ q, (ev_s E).heap.size ≤ q → ev_A E q := fun q h => by rw [zT.2]; exact Or.inr h
  obtain ⟨hn, hm, hsh, hki, hop, hfa, hK, hG, hT, vki, vop, vfa, vK, vG, vT⟩ := id hw
  have h2n : 2 ^ n ≤ 2 ^ 7 := Nat.pow_le_pow_right (by decide) hn
  have hps9 : pcn sh ≤ n := pcn_k n sh hsh
  show VV E 0 0 0 [(0, .ref x0), (1, .int p), (2, .int f), (3, .int t), (4, .int w)] [] [(x0, .inr (4, [.ref a0, .ref c0, .ref xp, .int (bz pd), .ref b0, .ref g0, .ref s0, .ref w0, .int (nI rs), .ref y0])), (a0, .inr (2, [.int (nI n), .int (nI m), .int (nI sh), .int (nI 0), .ref a1, .ref a2, .ref a3, .ref a4, .ref a5, .ref a6])), (a1, .inl (cI, 7, .inl (nIf ki))), (a2, .inl (cI, 7, .inl (nIf op))), (a3, .inl (cI, 7, .inl (nIf fa))), (a4, .inl (cI, 6, .inl (nIf K))), (a5, .inl (cI, 6, .inl (nIf G))), (a6, .inl (cI, 6, .inl (nIf T))), (c0, .inr (2, [.int (nI n1), .int (nI m1), .int (nI sh1), .int (nI aw1), .ref c1, .ref c2, .ref c3, .ref c4, .ref c5, .ref c6])), (c1, .inl (cI, 7, .inl (nIf ki1))), (c2, .inl (cI, 7, .inl (nIf op1))), (c3, .inl (cI, 7, .inl (nIf fa1))), (c4, .inl (cI, 6, .inl (nIf K1))), (c5, .inl (cI, 6, .inl (nIf G1))), (c6, .inl (cI, 6, .inl (nIf T1))), (b0, .inr (1, [.int (nI P), .int (nI Q), .ref b1, .ref b2, .ref b3])), (b1, .inl (cI, 6, .inl (nIf mf))), (b2, .inl (cI, 144, .inl (mIf M))), (b3, .inl (cI, 175, .inl (nIf kn))), (y0, .inl (cI, 7, .inl (nIf R)))]
  refine v_al_n 1 zC dX4_colds_0 0 rfl ?_
  refine v_il_n 2 zC dX4_colds_1 1 rfl ?_
  refine v_cV (As := [.int p]) (st := []) 5 0 [0, 1] zC dX4_colds_2 hA (c_X4_noPerson (ev_l E) (ev_D E) cI (x0 := x0) (xm := c0) (xp := xp) (b0 := b0) (g0 := g0) (s0 := s0) (w0 := w0) (y0 := y0) (pd := pd) (rs := rs) (a0 := a0) (a1 := a1) (a2 := a2) (a3 := a3) (a4 := a4) (a5 := a5) (a6 := a6) (n := n) (m := m) (sh := sh) (p := p) (hn := (by first | omega | assumption | rfl | (simp only []; omega) | decide))) cf_X4_noPerson lk_X4_79 rfl rfl rfl rfl rfl (by decide +kernel) (Nat.le_of_ble_eq_true rfl) (fun rv_1 wv_2 hp_3 hm_4 => ?_)
  clear hm_4
  rcases hp_3 with ⟨hi_5, rfl, rfl⟩ | ⟨j_6, he_7, hi_8, hj_9, rfl, rfl⟩
  ·
    show VV E 0 0 5 [(0, .ref x0), (1, .int p), (2, .int f), (3, .int t), (4, .int w)] [.int (nI 1)] [(x0, .inr (4, [.ref a0, .ref c0, .ref xp, .int (bz pd), .ref b0, .ref g0, .ref s0, .ref w0, .int (nI rs), .ref y0])), (a0, .inr (2, [.int (nI n), .int (nI m), .int (nI sh), .int (nI 0), .ref a1, .ref a2, .ref a3, .ref a4, .ref a5, .ref a6])), (a1, .inl (cI, 7, .inl (nIf ki))), (a2, .inl (cI, 7, .inl (nIf op))), (a3, .inl (cI, 7, .inl (nIf fa))), (a4, .inl (cI, 6, .inl (nIf K))), (a5, .inl (cI, 6, .inl (nIf G))), (a6, .inl (cI, 6, .inl (nIf T))), (c0, .inr (2, [.int (nI n1), .int (nI m1), .int (nI sh1), .int (nI aw1), .ref c1, .ref c2, .ref c3, .ref c4, .ref c5, .ref c6])), (c1, .inl (cI, 7, .inl (nIf ki1))), (c2, .inl (cI, 7, .inl (nIf op1))), (c3, .inl (cI, 7, .inl (nIf fa1))), (c4, .inl (cI, 6, .inl (nIf K1))), (c5, .inl (cI, 6, .inl (nIf G1))), (c6, .inl (cI, 6, .inl (nIf T1))), (b0, .inr (1, [.int (nI P), .int (nI Q), .ref b1, .ref b2, .ref b3])), (b1, .inl (cI, 6, .inl (nIf mf))), (b2, .inl (cI, 144, .inl (mIf M))), (b3, .inl (cI, 175, .inl (nIf kn))), (y0, .inl (cI, 7, .inl (nIf R)))]
    have hn_p := hi_5
    refine v_if_ne 15 8 zC dX4_colds_5 (fun _ => ?_) (fun z => absurd z (by decide +kernel))
    refine v_al_n 16 zC dX4_colds_15 0 rfl ?_
    refine v_ic (v := (-1)) 17 zC dX4_colds_16 (by decide +kernel) ?_
    refine v_cV (As := [.int (-1)]) (st := []) 20 0 [0, 19] zC dX4_colds_17 hA (c_X4_refuseLong (ev_l E) (ev_D E) cI (x0 := x0) (xn := a0) (xm := c0) (xp := xp) (b0 := b0) (g0 := g0) (s0 := s0) (w0 := w0) (y0 := y0) (pd := pd) (rs := rs) (R := R) (v := (-1)) (j := 1) (hv := (by first | omega | assumption | rfl | (simp only []; omega) | decide)) (h1 := (by first | omega | assumption | rfl | (simp only []; omega) | decide)) (h6 := (by first | omega | assumption | rfl | (simp only []; omega) | decide))) cf_X4_refuseLong lk_X4_239 rfl rfl rfl rfl rfl (by decide +kernel) (Nat.le_of_ble_eq_true rfl) (fun rv_11 wv_12 hp_13 hm_14 => ?_)
    clear hm_14
    obtain ⟨rfl, rfl⟩ := hp_13
    show VV E 0 0 20 [(0, .ref x0), (1, .int p), (2, .int f), (3, .int t), (4, .int w)] [.long (lN 4000000000000000000 - Int32.toInt64 (-1))] [(x0, .inr (4, [.ref a0, .ref c0, .ref xp, .int (bz pd), .ref b0, .ref g0, .ref s0, .ref w0, .int (nI rs), .ref y0])), (a0, .inr (2, [.int (nI n), .int (nI m), .int (nI sh), .int (nI 0), .ref a1, .ref a2, .ref a3, .ref a4, .ref a5, .ref a6])), (a1, .inl (cI, 7, .inl (nIf ki))), (a2, .inl (cI, 7, .inl (nIf op))), (a3, .inl (cI, 7, .inl (nIf fa))), (a4, .inl (cI, 6, .inl (nIf K))), (a5, .inl (cI, 6, .inl (nIf G))), (a6, .inl (cI, 6, .inl (nIf T))), (c0, .inr (2, [.int (nI n1), .int (nI m1), .int (nI sh1), .int (nI aw1), .ref c1, .ref c2, .ref c3, .ref c4, .ref c5, .ref c6])), (c1, .inl (cI, 7, .inl (nIf ki1))), (c2, .inl (cI, 7, .inl (nIf op1))), (c3, .inl (cI, 7, .inl (nIf fa1))), (c4, .inl (cI, 6, .inl (nIf K1))), (c5, .inl (cI, 6, .inl (nIf G1))), (c6, .inl (cI, 6, .inl (nIf T1))), (b0, .inr (1, [.int (nI P), .int (nI Q), .ref b1, .ref b2, .ref b3])), (b1, .inl (cI, 6, .inl (nIf mf))), (b2, .inl (cI, 144, .inl (mIf M))), (b3, .inl (cI, 175, .inl (nIf kn))), (y0, .inl (cI, 7, .inl (nIf (un R 1 (R 1 + 1)))))]
    refine v_lret zC zT dX4_colds_20  ?_
    first | (have g9 := hn_p; exact ⟨_, _, _, _, _, _, _, _, _, _, _, _, _, _, _, 1, RLF (-1), by unfold q_colds; rw [hn_p], hw1, (by first | exact hB9 | exact hD9.2.2.1 | exact hB), (by first | exact hM9 | exact hD9.2.2.2 | exact hM), rfl, rfl⟩) | (have g9 := hn_f; exact ⟨_, _, _, _, _, _, _, _, _, _, _, _, _, _, _, 1, RLF (-1), by unfold q_colds; rw [hi_p]; dsimp only; rw [hn_f], hw1, (by first | exact hB9 | exact hD9.2.2.1 | exact hB), (by first | exact hM9 | exact hD9.2.2.2 | exact hM), rfl, rfl⟩) | (have g9 := hlt9; exact ⟨_, _, _, _, _, _, _, _, _, _, _, _, _, _, _, 4, RLF (-4), by unfold q_colds; rw [hi_p]; dsimp only; rw [hi_f]; dsimp only; rw [if_pos hlt9], hw1, (by first | exact hB9 | exact hD9.2.2.1 | exact hB), (by first | exact hM9 | exact hD9.2.2.2 | exact hM), rfl, rfl⟩) | (have g9 := hgt9; exact ⟨_, _, _, _, _, _, _, _, _, _, _, _, _, _, _, 6, RLF (-6), by unfold q_colds; rw [hi_p]; dsimp only; rw [hi_f]; dsimp only; rw [if_neg hge, if_pos hgt9], hw1, (by first | exact hB9 | exact hD9.2.2.1 | exact hB), (by first | exact hM9 | exact hD9.2.2.2 | exact hM), rfl, rfl⟩) | (have g9 := hn_w; exact ⟨_, _, _, _, _, _, _, _, _, _, _, _, _, _, _, 2, RLF (-2), by unfold q_colds; rw [hi_p]; dsimp only; rw [hi_f]; dsimp only; rw [if_neg hge, if_neg hle, hn_w], hw1, (by first | exact hB9 | exact hD9.2.2.1 | exact hB), (by first | exact hM9 | exact hD9.2.2.2 | exact hM), rfl, rfl⟩) | exact ⟨_, _, _, _, _, _, _, _, _, _, _, _, _, _, _, 0, _, by unfold q_colds; rw [hi_p]; dsimp only; rw [hi_f]; dsimp only; rw [if_neg hge, if_neg hle, hi_w]; dsimp only; rw [nI_clamp (show jt < 2 ^ 31 by omega)]; unfold COLA; rw [show 2 ^ g_n (n, m, sh, 0, ki, op, fa, K, G, T) = z from (by show 2 ^ n = z; omega), ← hs], ⟨hn, hm, hs1, hki, hop, hfa, hK, hG, hT, vki, vop, vfa, vK, vG, vT⟩, hB9, hM9, rfl, rfl⟩
  ·
    show VV E 0 0 5 [(0, .ref x0), (1, .int p), (2, .int f), (3, .int t), (4, .int w)] [.int (nI 0)] [(x0, .inr (4, [.ref a0, .ref c0, .ref xp, .int (bz pd), .ref b0, .ref g0, .ref s0, .ref w0, .int (nI rs), .ref y0])), (a0, .inr (2, [.int (nI n), .int (nI m), .int (nI sh), .int (nI 0), .ref a1, .ref a2, .ref a3, .ref a4, .ref a5, .ref a6])), (a1, .inl (cI, 7, .inl (nIf ki))), (a2, .inl (cI, 7, .inl (nIf op))), (a3, .inl (cI, 7, .inl (nIf fa))), (a4, .inl (cI, 6, .inl (nIf K))), (a5, .inl (cI, 6, .inl (nIf G))), (a6, .inl (cI, 6, .inl (nIf T))), (c0, .inr (2, [.int (nI n1), .int (nI m1), .int (nI sh1), .int (nI aw1), .ref c1, .ref c2, .ref c3, .ref c4, .ref c5, .ref c6])), (c1, .inl (cI, 7, .inl (nIf ki1))), (c2, .inl (cI, 7, .inl (nIf op1))), (c3, .inl (cI, 7, .inl (nIf fa1))), (c4, .inl (cI, 6, .inl (nIf K1))), (c5, .inl (cI, 6, .inl (nIf G1))), (c6, .inl (cI, 6, .inl (nIf T1))), (b0, .inr (1, [.int (nI P), .int (nI Q), .ref b1, .ref b2, .ref b3])), (b1, .inl (cI, 6, .inl (nIf mf))), (b2, .inl (cI, 144, .inl (mIf M))), (b3, .inl (cI, 175, .inl (nIf kn))), (y0, .inl (cI, 7, .inl (nIf R)))]
    subst he_7
    have hi_p := hi_8
    obtain ⟨jp, hx_jp⟩ : ∃ z, z = j_6 := ⟨_, rfl⟩
    subst hx_jp
    refine v_if_ne 15 8 zC dX4_colds_5 (fun z => absurd (by decide +kernel) z) (fun _ => ?_)
    refine v_il_n 9 zC dX4_colds_8 2 rfl ?_
    refine v_cS (As := [.int f]) (st := []) 12 [] zC dX4_colds_9 hA (c_X4_noFact (ev_l E) (ev_D E) cI (p := f) ) cf_X4_noFact lk_X4_146 rfl rfl rfl (by decide +kernel) (Nat.le_of_ble_eq_true rfl) (fun rv_16 wv_17 hp_18 hm_19 => ?_)
    clear hm_19
    rcases hp_18 with ⟨hi_20, rfl, rfl⟩ | ⟨j_21, he_22, hi_23, hj_24, rfl, rfl⟩
    ·
      show VV E 0 0 12 [(0, .ref x0), (1, .int (nI jp)), (2, .int f), (3, .int t), (4, .int w)] [.int (nI 1)] [(x0, .inr (4, [.ref a0, .ref c0, .ref xp, .int (bz pd), .ref b0, .ref g0, .ref s0, .ref w0, .int (nI rs), .ref y0])), (a0, .inr (2, [.int (nI n), .int (nI m), .int (nI sh), .int (nI 0), .ref a1, .ref a2, .ref a3, .ref a4, .ref a5, .ref a6])), (a1, .inl (cI, 7, .inl (nIf ki))), (a2, .inl (cI, 7, .inl (nIf op))), (a3, .inl (cI, 7, .inl (nIf fa))), (a4, .inl (cI, 6, .inl (nIf K))), (a5, .inl (cI, 6, .inl (nIf G))), (a6, .inl (cI, 6, .inl (nIf T))), (c0, .inr (2, [.int (nI n1), .int (nI m1), .int (nI sh1), .int (nI aw1), .ref c1, .ref c2, .ref c3, .ref c4, .ref c5, .ref c6])), (c1, .inl (cI, 7, .inl (nIf ki1))), (c2, .inl (cI, 7, .inl (nIf op1))), (c3, .inl (cI, 7, .inl (nIf fa1))), (c4, .inl (cI, 6, .inl (nIf K1))), (c5, .inl (cI, 6, .inl (nIf G1))), (c6, .inl (cI, 6, .inl (nIf T1))), (b0, .inr (1, [.int (nI P), .int (nI Q), .ref b1, .ref b2, .ref b3])), (b1, .inl (cI, 6, .inl (nIf mf))), (b2, .inl (cI, 144, .inl (mIf M))), (b3, .inl (cI, 175, .inl (nIf kn))), (y0, .inl (cI, 7, .inl (nIf R)))]
      have hn_f := hi_20
      refine v_if_eq 21 15 zC dX4_colds_12 (fun z => absurd z (by decide +kernel)) (fun _ => ?_)
      refine v_al_n 16 zC dX4_colds_15 0 rfl ?_
      refine v_ic (v := (-1)) 17 zC dX4_colds_16 (by decide +kernel) ?_
      refine v_cV (As := [.int (-1)]) (st := []) 20 0 [0, 19] zC dX4_colds_17 hA (c_X4_refuseLong (ev_l E) (ev_D E) cI (x0 := x0) (xn := a0) (xm := c0) (xp := xp) (b0 := b0) (g0 := g0) (s0 := s0) (w0 := w0) (y0 := y0) (pd := pd) (rs := rs) (R := R) (v := (-1)) (j := 1) (hv := (by first | omega | assumption | rfl | (simp only []; omega) | decide)) (h1 := (by first | omega | assumption | rfl | (simp only []; omega) | decide)) (h6 := (by first | omega | assumption | rfl | (simp only []; omega) | decide))) cf_X4_refuseLong lk_X4_239 rfl rfl rfl rfl rfl (by decide +kernel) (Nat.le_of_ble_eq_true rfl) (fun rv_26 wv_27 hp_28 hm_29 => ?_)
      clear hm_29
      obtain ⟨rfl, rfl⟩ := hp_28
      show VV E 0 0 20 [(0, .ref x0), (1, .int (nI jp)), (2, .int f), (3, .int t), (4, .int w)] [.long (lN 4000000000000000000 - Int32.toInt64 (-1))] [(x0, .inr (4, [.ref a0, .ref c0, .ref xp, .int (bz pd), .ref b0, .ref g0, .ref s0, .ref w0, .int (nI rs), .ref y0])), (a0, .inr (2, [.int (nI n), .int (nI m), .int (nI sh), .int (nI 0), .ref a1, .ref a2, .ref a3, .ref a4, .ref a5, .ref a6])), (a1, .inl (cI, 7, .inl (nIf ki))), (a2, .inl (cI, 7, .inl (nIf op))), (a3, .inl (cI, 7, .inl (nIf fa))), (a4, .inl (cI, 6, .inl (nIf K))), (a5, .inl (cI, 6, .inl (nIf G))), (a6, .inl (cI, 6, .inl (nIf T))), (c0, .inr (2, [.int (nI n1), .int (nI m1), .int (nI sh1), .int (nI aw1), .ref c1, .ref c2, .ref c3, .ref c4, .ref c5, .ref c6])), (c1, .inl (cI, 7, .inl (nIf ki1))), (c2, .inl (cI, 7, .inl (nIf op1))), (c3, .inl (cI, 7, .inl (nIf fa1))), (c4, .inl (cI, 6, .inl (nIf K1))), (c5, .inl (cI, 6, .inl (nIf G1))), (c6, .inl (cI, 6, .inl (nIf T1))), (b0, .inr (1, [.int (nI P), .int (nI Q), .ref b1, .ref b2, .ref b3])), (b1, .inl (cI, 6, .inl (nIf mf))), (b2, .inl (cI, 144, .inl (mIf M))), (b3, .inl (cI, 175, .inl (nIf kn))), (y0, .inl (cI, 7, .inl (nIf (un R 1 (R 1 + 1)))))]
      refine v_lret zC zT dX4_colds_20  ?_
      first | (have g9 := hn_p; exact ⟨_, _, _, _, _, _, _, _, _, _, _, _, _, _, _, 1, RLF (-1), by unfold q_colds; rw [hn_p], hw1, (by first | exact hB9 | exact hD9.2.2.1 | exact hB), (by first | exact hM9 | exact hD9.2.2.2 | exact hM), rfl, rfl⟩) | (have g9 := hn_f; exact ⟨_, _, _, _, _, _, _, _, _, _, _, _, _, _, _, 1, RLF (-1), by unfold q_colds; rw [hi_p]; dsimp only; rw [hn_f], hw1, (by first | exact hB9 | exact hD9.2.2.1 | exact hB), (by first | exact hM9 | exact hD9.2.2.2 | exact hM), rfl, rfl⟩) | (have g9 := hlt9; exact ⟨_, _, _, _, _, _, _, _, _, _, _, _, _, _, _, 4, RLF (-4), by unfold q_colds; rw [hi_p]; dsimp only; rw [hi_f]; dsimp only; rw [if_pos hlt9], hw1, (by first | exact hB9 | exact hD9.2.2.1 | exact hB), (by first | exact hM9 | exact hD9.2.2.2 | exact hM), rfl, rfl⟩) | (have g9 := hgt9; exact ⟨_, _, _, _, _, _, _, _, _, _, _, _, _, _, _, 6, RLF (-6), by unfold q_colds; rw [hi_p]; dsimp only; rw [hi_f]; dsimp only; rw [if_neg hge, if_pos hgt9], hw1, (by first | exact hB9 | exact hD9.2.2.1 | exact hB), (by first | exact hM9 | exact hD9.2.2.2 | exact hM), rfl, rfl⟩) | (have g9 := hn_w; exact ⟨_, _, _, _, _, _, _, _, _, _, _, _, _, _, _, 2, RLF (-2), by unfold q_colds; rw [hi_p]; dsimp only; rw [hi_f]; dsimp only; rw [if_neg hge, if_neg hle, hn_w], hw1, (by first | exact hB9 | exact hD9.2.2.1 | exact hB), (by first | exact hM9 | exact hD9.2.2.2 | exact hM), rfl, rfl⟩) | exact ⟨_, _, _, _, _, _, _, _, _, _, _, _, _, _, _, 0, _, by unfold q_colds; rw [hi_p]; dsimp only; rw [hi_f]; dsimp only; rw [if_neg hge, if_neg hle, hi_w]; dsimp only; rw [nI_clamp (show jt < 2 ^ 31 by omega)]; unfold COLA; rw [show 2 ^ g_n (n, m, sh, 0, ki, op, fa, K, G, T) = z from (by show 2 ^ n = z; omega), ← hs], ⟨hn, hm, hs1, hki, hop, hfa, hK, hG, hT, vki, vop, vfa, vK, vG, vT⟩, hB9, hM9, rfl, rfl⟩
    ·
      show VV E 0 0 12 [(0, .ref x0), (1, .int (nI jp)), (2, .int f), (3, .int t), (4, .int w)] [.int (nI 0)] [(x0, .inr (4, [.ref a0, .ref c0, .ref xp, .int (bz pd), .ref b0, .ref g0, .ref s0, .ref w0, .int (nI rs), .ref y0])), (a0, .inr (2, [.int (nI n), .int (nI m), .int (nI sh), .int (nI 0), .ref a1, .ref a2, .ref a3, .ref a4, .ref a5, .ref a6])), (a1, .inl (cI, 7, .inl (nIf ki))), (a2, .inl (cI, 7, .inl (nIf op))), (a3, .inl (cI, 7, .inl (nIf fa))), (a4, .inl (cI, 6, .inl (nIf K))), (a5, .inl (cI, 6, .inl (nIf G))), (a6, .inl (cI, 6, .inl (nIf T))), (c0, .inr (2, [.int (nI n1), .int (nI m1), .int (nI sh1), .int (nI aw1), .ref c1, .ref c2, .ref c3, .ref c4, .ref c5, .ref c6])), (c1, .inl (cI, 7, .inl (nIf ki1))), (c2, .inl (cI, 7, .inl (nIf op1))), (c3, .inl (cI, 7, .inl (nIf fa1))), (c4, .inl (cI, 6, .inl (nIf K1))), (c5, .inl (cI, 6, .inl (nIf G1))), (c6, .inl (cI, 6, .inl (nIf T1))), (b0, .inr (1, [.int (nI P), .int (nI Q), .ref b1, .ref b2, .ref b3])), (b1, .inl (cI, 6, .inl (nIf mf))), (b2, .inl (cI, 144, .inl (mIf M))), (b3, .inl (cI, 175, .inl (nIf kn))), (y0, .inl (cI, 7, .inl (nIf R)))]
      subst he_22
      have hi_f := hi_23
      obtain ⟨jf, hx_jf⟩ : ∃ z, z = j_21 := ⟨_, rfl⟩
      subst hx_jf
      refine v_if_eq 21 15 zC dX4_colds_12 (fun _ => ?_) (fun z => absurd (by decide +kernel) z)
      refine v_il_n 22 zC dX4_colds_21 3 rfl ?_
      refine v_ic (v := (nI 2)) 23 zC dX4_colds_22 (by decide +kernel) ?_
      refine v_icmp_ge 33 26 zC dX4_colds_23 (fun h_31 => ?_) (fun h_31 => ?_)
      ·
        have hge : ¬ t < nI 2 := Int32.not_lt.mpr h_31
        refine v_il_n 34 zC dX4_colds_33 3 rfl ?_
        refine v_bp (v := (nI 20)) 36 zC dX4_colds_34 (by decide +kernel) ?_
        refine v_icmp_le 46 39 zC dX4_colds_36 (fun h_32 => ?_) (fun h_32 => ?_)
        ·
          have hle := Int32.not_lt.mpr h_32
          obtain ⟨jt, hk1, hk2, he_jt⟩ := ofR2 hge hle (by decide) (by decide)
          subst he_jt
          refine v_il 48 zC dX4_colds_46 4 rfl ?_
          refine v_ic (v := (nI 2)) 49 zC dX4_colds_48 (by decide +kernel) ?_
          refine v_cS (As := [.int w, .int (nI 2)]) (st := []) 52 [] zC dX4_colds_49 hA (c_X4_noWhat (ev_l E) (ev_D E) cI (p := w) (k := 2) (hk := (by first | omega | assumption | rfl | (simp only []; omega) | decide))) cf_X4_noWhat lk_X4_83 rfl rfl rfl (by decide +kernel) (Nat.le_of_ble_eq_true rfl) (fun rv_33 wv_34 hp_35 hm_36 => ?_)
          clear hm_36
          rcases hp_35 with ⟨hi_37, rfl, rfl⟩ | ⟨j_38, he_39, hi_40, hj_41, rfl, rfl⟩
          ·
            show VV E 0 0 52 [(0, .ref x0), (1, .int (nI jp)), (2, .int (nI jf)), (3, .int (nI jt)), (4, .int w)] [.int (nI 1)] [(x0, .inr (4, [.ref a0, .ref c0, .ref xp, .int (bz pd), .ref b0, .ref g0, .ref s0, .ref w0, .int (nI rs), .ref y0])), (a0, .inr (2, [.int (nI n), .int (nI m), .int (nI sh), .int (nI 0), .ref a1, .ref a2, .ref a3, .ref a4, .ref a5, .ref a6])), (a1, .inl (cI, 7, .inl (nIf ki))), (a2, .inl (cI, 7, .inl (nIf op))), (a3, .inl (cI, 7, .inl (nIf fa))), (a4, .inl (cI, 6, .inl (nIf K))), (a5, .inl (cI, 6, .inl (nIf G))), (a6, .inl (cI, 6, .inl (nIf T))), (c0, .inr (2, [.int (nI n1), .int (nI m1), .int (nI sh1), .int (nI aw1), .ref c1, .ref c2, .ref c3, .ref c4, .ref c5, .ref c6])), (c1, .inl (cI, 7, .inl (nIf ki1))), (c2, .inl (cI, 7, .inl (nIf op1))), (c3, .inl (cI, 7, .inl (nIf fa1))), (c4, .inl (cI, 6, .inl (nIf K1))), (c5, .inl (cI, 6, .inl (nIf G1))), (c6, .inl (cI, 6, .inl (nIf T1))), (b0, .inr (1, [.int (nI P), .int (nI Q), .ref b1, .ref b2, .ref b3])), (b1, .inl (cI, 6, .inl (nIf mf))), (b2, .inl (cI, 144, .inl (mIf M))), (b3, .inl (cI, 175, .inl (nIf kn))), (y0, .inl (cI, 7, .inl (nIf R)))]
            have hn_w := hi_37
            refine v_if_eq 62 55 zC dX4_colds_52 (fun z => absurd z (by decide +kernel)) (fun _ => ?_)
            refine v_al_n 56 zC dX4_colds_55 0 rfl ?_
            refine v_bp (v := (-2)) 58 zC dX4_colds_56 (by decide +kernel) ?_
            refine v_cV (As := [.int (-2)]) (st := []) 61 0 [0, 19] zC dX4_colds_58 hA (c_X4_refuseLong (ev_l E) (ev_D E) cI (x0 := x0) (xn := a0) (xm := c0) (xp := xp) (b0 := b0) (g0 := g0) (s0 := s0) (w0 := w0) (y0 := y0) (pd := pd) (rs := rs) (R := R) (v := (-2)) (j := 2) (hv := (by first | omega | assumption | rfl | (simp only []; omega) | decide)) (h1 := (by first | omega | assumption | rfl | (simp only []; omega) | decide)) (h6 := (by first | omega | assumption | rfl | (simp only []; omega) | decide))) cf_X4_refuseLong lk_X4_239 rfl rfl rfl rfl rfl (by decide +kernel) (Nat.le_of_ble_eq_true rfl) (fun rv_43 wv_44 hp_45 hm_46 => ?_)
            clear hm_46
            obtain ⟨rfl, rfl⟩ := hp_45
            show VV E 0 0 61 [(0, .ref x0), (1, .int (nI jp)), (2, .int (nI jf)), (3, .int (nI jt)), (4, .int w)] [.long (lN 4000000000000000000 - Int32.toInt64 (-2))] [(x0, .inr (4, [.ref a0, .ref c0, .ref xp, .int (bz pd), .ref b0, .ref g0, .ref s0, .ref w0, .int (nI rs), .ref y0])), (a0, .inr (2, [.int (nI n), .int (nI m), .int (nI sh), .int (nI 0), .ref a1, .ref a2, .ref a3, .ref a4, .ref a5, .ref a6])), (a1, .inl (cI, 7, .inl (nIf ki))), (a2, .inl (cI, 7, .inl (nIf op))), (a3, .inl (cI, 7, .inl (nIf fa))), (a4, .inl (cI, 6, .inl (nIf K))), (a5, .inl (cI, 6, .inl (nIf G))), (a6, .inl (cI, 6, .inl (nIf T))), (c0, .inr (2, [.int (nI n1), .int (nI m1), .int (nI sh1), .int (nI aw1), .ref c1, .ref c2, .ref c3, .ref c4, .ref c5, .ref c6])), (c1, .inl (cI, 7, .inl (nIf ki1))), (c2, .inl (cI, 7, .inl (nIf op1))), (c3, .inl (cI, 7, .inl (nIf fa1))), (c4, .inl (cI, 6, .inl (nIf K1))), (c5, .inl (cI, 6, .inl (nIf G1))), (c6, .inl (cI, 6, .inl (nIf T1))), (b0, .inr (1, [.int (nI P), .int (nI Q), .ref b1, .ref b2, .ref b3])), (b1, .inl (cI, 6, .inl (nIf mf))), (b2, .inl (cI, 144, .inl (mIf M))), (b3, .inl (cI, 175, .inl (nIf kn))), (y0, .inl (cI, 7, .inl (nIf (un R 2 (R 2 + 1)))))]
            refine v_lret zC zT dX4_colds_61  ?_
            first | (have g9 := hn_p; exact ⟨_, _, _, _, _, _, _, _, _, _, _, _, _, _, _, 1, RLF (-1), by unfold q_colds; rw [hn_p], hw1, (by first | exact hB9 | exact hD9.2.2.1 | exact hB), (by first | exact hM9 | exact hD9.2.2.2 | exact hM), rfl, rfl⟩) | (have g9 := hn_f; exact ⟨_, _, _, _, _, _, _, _, _, _, _, _, _, _, _, 1, RLF (-1), by unfold q_colds; rw [hi_p]; dsimp only; rw [hn_f], hw1, (by first | exact hB9 | exact hD9.2.2.1 | exact hB), (by first | exact hM9 | exact hD9.2.2.2 | exact hM), rfl, rfl⟩) | (have g9 := hlt9; exact ⟨_, _, _, _, _, _, _, _, _, _, _, _, _, _, _, 4, RLF (-4), by unfold q_colds; rw [hi_p]; dsimp only; rw [hi_f]; dsimp only; rw [if_pos hlt9], hw1, (by first | exact hB9 | exact hD9.2.2.1 | exact hB), (by first | exact hM9 | exact hD9.2.2.2 | exact hM), rfl, rfl⟩) | (have g9 := hgt9; exact ⟨_, _, _, _, _, _, _, _, _, _, _, _, _, _, _, 6, RLF (-6), by unfold q_colds; rw [hi_p]; dsimp only; rw [hi_f]; dsimp only; rw [if_neg hge, if_pos hgt9], hw1, (by first | exact hB9 | exact hD9.2.2.1 | exact hB), (by first | exact hM9 | exact hD9.2.2.2 | exact hM), rfl, rfl⟩) | (have g9 := hn_w; exact ⟨_, _, _, _, _, _, _, _, _, _, _, _, _, _, _, 2, RLF (-2), by unfold q_colds; rw [hi_p]; dsimp only; rw [hi_f]; dsimp only; rw [if_neg hge, if_neg hle, hn_w], hw1, (by first | exact hB9 | exact hD9.2.2.1 | exact hB), (by first | exact hM9 | exact hD9.2.2.2 | exact hM), rfl, rfl⟩) | exact ⟨_, _, _, _, _, _, _, _, _, _, _, _, _, _, _, 0, _, by unfold q_colds; rw [hi_p]; dsimp only; rw [hi_f]; dsimp only; rw [if_neg hge, if_neg hle, hi_w]; dsimp only; rw [nI_clamp (show jt < 2 ^ 31 by omega)]; unfold COLA; rw [show 2 ^ g_n (n, m, sh, 0, ki, op, fa, K, G, T) = z from (by show 2 ^ n = z; omega), ← hs], ⟨hn, hm, hs1, hki, hop, hfa, hK, hG, hT, vki, vop, vfa, vK, vG, vT⟩, hB9, hM9, rfl, rfl⟩
          ·
            show VV E 0 0 52 [(0, .ref x0), (1, .int (nI jp)), (2, .int (nI jf)), (3, .int (nI jt)), (4, .int w)] [.int (nI 0)] [(x0, .inr (4, [.ref a0, .ref c0, .ref xp, .int (bz pd), .ref b0, .ref g0, .ref s0, .ref w0, .int (nI rs), .ref y0])), (a0, .inr (2, [.int (nI n), .int (nI m), .int (nI sh), .int (nI 0), .ref a1, .ref a2, .ref a3, .ref a4, .ref a5, .ref a6])), (a1, .inl (cI, 7, .inl (nIf ki))), (a2, .inl (cI, 7, .inl (nIf op))), (a3, .inl (cI, 7, .inl (nIf fa))), (a4, .inl (cI, 6, .inl (nIf K))), (a5, .inl (cI, 6, .inl (nIf G))), (a6, .inl (cI, 6, .inl (nIf T))), (c0, .inr (2, [.int (nI n1), .int (nI m1), .int (nI sh1), .int (nI aw1), .ref c1, .ref c2, .ref c3, .ref c4, .ref c5, .ref c6])), (c1, .inl (cI, 7, .inl (nIf ki1))), (c2, .inl (cI, 7, .inl (nIf op1))), (c3, .inl (cI, 7, .inl (nIf fa1))), (c4, .inl (cI, 6, .inl (nIf K1))), (c5, .inl (cI, 6, .inl (nIf G1))), (c6, .inl (cI, 6, .inl (nIf T1))), (b0, .inr (1, [.int (nI P), .int (nI Q), .ref b1, .ref b2, .ref b3])), (b1, .inl (cI, 6, .inl (nIf mf))), (b2, .inl (cI, 144, .inl (mIf M))), (b3, .inl (cI, 175, .inl (nIf kn))), (y0, .inl (cI, 7, .inl (nIf R)))]
            subst he_39
            have hi_w := hi_40
            obtain ⟨jw, hx_jw⟩ : ∃ z, z = j_38 := ⟨_, rfl⟩
            subst hx_jw
            refine v_if_eq 62 55 zC dX4_colds_52 (fun _ => ?_) (fun z => absurd (by decide +kernel) z)
            refine v_al_n 63 zC dX4_colds_62 0 rfl ?_
            refine v_gf 66 0 zC dX4_colds_63 gf_X4_16 rfl rfl ?_
            refine v_al_n 67 zC dX4_colds_66 0 rfl ?_
            refine v_gf 70 0 zC dX4_colds_67 gf_X4_12 rfl rfl ?_
            refine v_cV (As := [.ref a0]) (st := []) 73 8 [8, 9, 10, 11, 12, 13, 14, 1, 2, 3, 4, 5, 6, 7] zC dX4_colds_70 hA (c_X2_become (ev_l E) (ev_D E) cI (a0 := a0) (a1 := a1) (a2 := a2) (a3 := a3) (a4 := a4) (a5 := a5) (a6 := a6) (n := n) (m := m) (sh := sh) (aw := 0) (ki := ki) (op := op) (fa := fa) (K := K) (G := G) (T := T) (c0 := c0) (c1 := c1) (c2 := c2) (c3 := c3) (c4 := c4) (c5 := c5) (c6 := c6) (n1 := n1) (m1 := m1) (sh1 := sh1) (aw1 := aw1) (ki1 := ki1) (op1 := op1) (fa1 := fa1) (K1 := K1) (G1 := G1) (T1 := T1) (hw := hw) (hw1 := hw1)) cf_X2_become lk_X4_65 rfl rfl rfl rfl rfl (by decide +kernel) (Nat.le_of_ble_eq_true rfl) (fun rv_48 wv_49 hp_50 hm_51 => ?_)
            clear hm_51
            obtain ⟨rfl, rfl⟩ := hp_50
            show VV E 0 0 73 [(0, .ref x0), (1, .int (nI jp)), (2, .int (nI jf)), (3, .int (nI jt)), (4, .int (nI jw))] [] [(x0, .inr (4, [.ref a0, .ref c0, .ref xp, .int (bz pd), .ref b0, .ref g0, .ref s0, .ref w0, .int (nI rs), .ref y0])), (a0, .inr (2, [.int (nI n), .int (nI m), .int (nI sh), .int (nI 0), .ref a1, .ref a2, .ref a3, .ref a4, .ref a5, .ref a6])), (a1, .inl (cI, 7, .inl (nIf ki))), (a2, .inl (cI, 7, .inl (nIf op))), (a3, .inl (cI, 7, .inl (nIf fa))), (a4, .inl (cI, 6, .inl (nIf K))), (a5, .inl (cI, 6, .inl (nIf G))), (a6, .inl (cI, 6, .inl (nIf T))), (c0, .inr (2, [.int (nI n), .int (nI m), .int (nI sh), .int (nI 0), .ref c1, .ref c2, .ref c3, .ref c4, .ref c5, .ref c6])), (c1, .inl (cI, 7, .inl (nIf ki))), (c2, .inl (cI, 7, .inl (nIf op))), (c3, .inl (cI, 7, .inl (nIf fa))), (c4, .inl (cI, 6, .inl (nIf K))), (c5, .inl (cI, 6, .inl (nIf G))), (c6, .inl (cI, 6, .inl (nIf T))), (b0, .inr (1, [.int (nI P), .int (nI Q), .ref b1, .ref b2, .ref b3])), (b1, .inl (cI, 6, .inl (nIf mf))), (b2, .inl (cI, 144, .inl (mIf M))), (b3, .inl (cI, 175, .inl (nIf kn))), (y0, .inl (cI, 7, .inl (nIf R)))]
            refine v_al_n 74 zC dX4_colds_73 0 rfl ?_
            refine v_gf 77 0 zC dX4_colds_74 gf_X4_12 rfl rfl ?_
            refine v_gf 80 1 zC dX4_colds_77 gf_X4_114 rfl rfl ?_
            refine v_al_n 81 zC dX4_colds_80 0 rfl ?_
            refine v_gf 84 0 zC dX4_colds_81 gf_X4_12 rfl rfl ?_
            refine v_gf 87 1 zC dX4_colds_84 gf_X4_205 rfl rfl ?_
            refine v_cS (As := [.int (nI sh)]) (st := [.int (nI n)]) 90 [] zC dX4_colds_87 hA (c_J6_bitCount_0f7a4 (ev_l E) (ev_D E) cI (x := sh) (hx := (by omega))) cf_J6_bitCount_0f7a4 lk_X4_178 rfl rfl rfl (by decide +kernel) (Nat.le_of_ble_eq_true rfl) (fun rv_52 wv_53 hp_54 hm_55 => ?_)
            clear hm_55
            obtain ⟨rfl, rfl⟩ := hp_54
            show VV E 0 0 90 [(0, .ref x0), (1, .int (nI jp)), (2, .int (nI jf)), (3, .int (nI jt)), (4, .int (nI jw))] [.int (nI (pcn sh)), .int (nI n)] [(x0, .inr (4, [.ref a0, .ref c0, .ref xp, .int (bz pd), .ref b0, .ref g0, .ref s0, .ref w0, .int (nI rs), .ref y0])), (a0, .inr (2, [.int (nI n), .int (nI m), .int (nI sh), .int (nI 0), .ref a1, .ref a2, .ref a3, .ref a4, .ref a5, .ref a6])), (a1, .inl (cI, 7, .inl (nIf ki))), (a2, .inl (cI, 7, .inl (nIf op))), (a3, .inl (cI, 7, .inl (nIf fa))), (a4, .inl (cI, 6, .inl (nIf K))), (a5, .inl (cI, 6, .inl (nIf G))), (a6, .inl (cI, 6, .inl (nIf T))), (c0, .inr (2, [.int (nI n), .int (nI m), .int (nI sh), .int (nI 0), .ref c1, .ref c2, .ref c3, .ref c4, .ref c5, .ref c6])), (c1, .inl (cI, 7, .inl (nIf ki))), (c2, .inl (cI, 7, .inl (nIf op))), (c3, .inl (cI, 7, .inl (nIf fa))), (c4, .inl (cI, 6, .inl (nIf K))), (c5, .inl (cI, 6, .inl (nIf G))), (c6, .inl (cI, 6, .inl (nIf T))), (b0, .inr (1, [.int (nI P), .int (nI Q), .ref b1, .ref b2, .ref b3])), (b1, .inl (cI, 6, .inl (nIf mf))), (b2, .inl (cI, 144, .inl (mIf M))), (b3, .inl (cI, 175, .inl (nIf kn))), (y0, .inl (cI, 7, .inl (nIf R)))]
            refine v_isub (v := (nI (n - (pcn sh)))) 91 zC dX4_colds_90 (pk_sub (by first | omega | exact Nat.one_le_two_pow)) ?_
            refine v_is (lv2 := [(5, .int (nI (n - (pcn sh)))), (0, .ref x0), (1, .int (nI jp)), (2, .int (nI jf)), (3, .int (nI jt)), (4, .int (nI jw))]) 93 zC dX4_colds_91 (by rw [hnE]; decide) rfl ?_
            refine v_lc (v := lN 0) 94 zC dX4_colds_93 (by decide +kernel) ?_
            refine v_ls (lv2 := [(6, .long (lN 0)), (5, .int (nI (n - (pcn sh)))), (0, .ref x0), (1, .int (nI jp)), (2, .int (nI jf)), (3, .int (nI jt)), (4, .int (nI jw))]) 96 zC dX4_colds_94 (by rw [hnE]; decide) rfl ?_
            refine v_ic (v := (nI 0)) 97 zC dX4_colds_96 (by decide +kernel) ?_
            refine v_is (lv2 := [(8, .int (nI 0)), (6, .long (lN 0)), (5, .int (nI (n - (pcn sh)))), (0, .ref x0), (1, .int (nI jp)), (2, .int (nI jf)), (3, .int (nI jt)), (4, .int (nI jw))]) 99 zC dX4_colds_97 (by rw [hnE]; decide) rfl ?_
            have lp99 : ∀ (mz : Nat) (P2 : Nat) (Q2 : Nat) (mg : Nat → Nat) (Y : Nat → Option Nat) (X : Nat → Nat) (s1 : Nat) (x : Nat) (z : Nat), (∀ z, X z < 1024) → (∀ z v, Y z = some v → v < 7) → (s1 < 2 ^ n) → (x = it (colS (n, m, sh, 0, ki, op, fa, K, G, T) jp jf jt) 0 z) → (z ≤ 2 ^ n) → (x ≤ z * 1280000000) → 2 ^ n - z = mz → VV E 0 0 99 [(8, .int (nI z)), (6, .long (lN x)), (5, .int (nI (n - (pcn sh)))), (0, .ref x0), (1, .int (nI jp)), (2, .int (nI jf)), (3, .int (nI jt)), (4, .int (nI jw))] [] [(x0, .inr (4, [.ref a0, .ref c0, .ref xp, .int (bz pd), .ref b0, .ref g0, .ref s0, .ref w0, .int (nI rs), .ref y0])), (a0, .inr (2, [.int (nI n), .int (nI m), .int (nI sh), .int (nI 0), .ref a1, .ref a2, .ref a3, .ref a4, .ref a5, .ref a6])), (a1, .inl (cI, 7, .inl (nIf ki))), (a2, .inl (cI, 7, .inl (nIf op))), (a3, .inl (cI, 7, .inl (nIf fa))), (a4, .inl (cI, 6, .inl (nIf K))), (a5, .inl (cI, 6, .inl (nIf G))), (a6, .inl (cI, 6, .inl (nIf T))), (c0, .inr (2, [.int (nI n), .int (nI m), .int (nI s1), .int (nI 0), .ref c1, .ref c2, .ref c3, .ref c4, .ref c5, .ref c6])), (c1, .inl (cI, 7, .inl (nIf ki))), (c2, .inl (cI, 7, .inl (nIf op))), (c3, .inl (cI, 7, .inl (nIf fa))), (c4, .inl (cI, 6, .inl (nIf K))), (c5, .inl (cI, 6, .inl (nIf G))), (c6, .inl (cI, 6, .inl (nIf T))), (b0, .inr (1, [.int (nI P2), .int (nI Q2), .ref b1, .ref b2, .ref b3])), (b1, .inl (cI, 6, .inl (nIf mg))), (b2, .inl (cI, 144, .inl (mIf Y))), (b3, .inl (cI, 175, .inl (nIf X))), (y0, .inl (cI, 7, .inl (nIf R)))] := by
              intro mz
              induction mz using Nat.strongRecOn with
              | _ mz ih99 =>
              intro P2 Q2 mg Y X s1 x z hB9 hM9 hs1 hs hz hxl hm99
              refine v_il 101 zC dX4_colds_99 0 rfl ?_
              refine v_ic (v := (nI 1)) 102 zC dX4_colds_101 (by decide +kernel) ?_
              refine v_al_n 103 zC dX4_colds_102 3 rfl ?_
              refine v_gf 106 0 zC dX4_colds_103 gf_X4_12 rfl rfl ?_
              refine v_gf 109 1 zC dX4_colds_106 gf_X4_114 rfl rfl ?_
              refine v_ishl (v := (nI (2 ^ n))) 110 zC dX4_colds_109 (b1n (by omega)) ?_
              refine v_icmpn_ge 194 113 zC dX4_colds_110 (fun h_56 => ?_) (fun h_56 => ?_)
              ·
                refine v_ll 196 zC dX4_colds_194 1 rfl ?_
                refine v_il_n 197 zC dX4_colds_196 6 rfl ?_
                refine v_il 199 zC dX4_colds_197 2 rfl ?_
                refine v_cS (As := [.int (nI jt), .int (nI (n - (pcn sh)))]) (st := [.long (lN x)]) 202 [] zC dX4_colds_199 hA (c_X4_power (ev_l E) (ev_D E) cI (b := jt) (e := (n - (pcn sh))) (hb := (by first | omega | assumption | rfl | (simp only []; omega) | decide)) (he := (by first | omega | assumption | rfl | (simp only []; omega) | decide))) cf_X4_power lk_X4_243 rfl rfl rfl (by decide +kernel) (Nat.le_of_ble_eq_true rfl) (fun rv_57 wv_58 hp_59 hm_60 => ?_)
                clear hm_60
                obtain ⟨rfl, rfl⟩ := hp_59
                show VV E 0 0 202 [(8, .int (nI z)), (6, .long (lN x)), (5, .int (nI (n - (pcn sh)))), (0, .ref x0), (1, .int (nI jp)), (2, .int (nI jf)), (3, .int (nI jt)), (4, .int (nI jw))] [.long (lN (jt ^ (n - (pcn sh)))), .long (lN x)] [(x0, .inr (4, [.ref a0, .ref c0, .ref xp, .int (bz pd), .ref b0, .ref g0, .ref s0, .ref w0, .int (nI rs), .ref y0])), (a0, .inr (2, [.int (nI n), .int (nI m), .int (nI sh), .int (nI 0), .ref a1, .ref a2, .ref a3, .ref a4, .ref a5, .ref a6])), (a1, .inl (cI, 7, .inl (nIf ki))), (a2, .inl (cI, 7, .inl (nIf op))), (a3, .inl (cI, 7, .inl (nIf fa))), (a4, .inl (cI, 6, .inl (nIf K))), (a5, .inl (cI, 6, .inl (nIf G))), (a6, .inl (cI, 6, .inl (nIf T))), (c0, .inr (2, [.int (nI n), .int (nI m), .int (nI s1), .int (nI 0), .ref c1, .ref c2, .ref c3, .ref c4, .ref c5, .ref c6])), (c1, .inl (cI, 7, .inl (nIf ki))), (c2, .inl (cI, 7, .inl (nIf op))), (c3, .inl (cI, 7, .inl (nIf fa))), (c4, .inl (cI, 6, .inl (nIf K))), (c5, .inl (cI, 6, .inl (nIf G))), (c6, .inl (cI, 6, .inl (nIf T))), (b0, .inr (1, [.int (nI P2), .int (nI Q2), .ref b1, .ref b2, .ref b3])), (b1, .inl (cI, 6, .inl (nIf mg))), (b2, .inl (cI, 144, .inl (mIf Y))), (b3, .inl (cI, 175, .inl (nIf X))), (y0, .inl (cI, 7, .inl (nIf R)))]
                refine v_il 204 zC dX4_colds_202 7 rfl ?_
                have hpw8 : jt ^ (n - pcn sh) ≤ 1280000000 := pw_le (by omega) (by omega)
                refine v_cS (As := [.long (lN x), .long (lN (jt ^ (n - (pcn sh)))), .int (nI jw)]) (st := []) 207 [] zC dX4_colds_204 hA (c_X4_partOf (ev_l E) (ev_D E) cI (a := x) (b := (jt ^ (n - (pcn sh)))) (k := jw) (ha := (by first | omega | assumption | rfl | (simp only []; omega) | decide)) (hb := (by first | omega | assumption | rfl | (simp only []; omega) | decide)) (hk := (by first | omega | assumption | rfl | (simp only []; omega) | decide))) cf_X4_partOf lk_X4_247 rfl rfl rfl (by decide +kernel) (Nat.le_of_ble_eq_true rfl) (fun rv_61 wv_62 hp_63 hm_64 => ?_)
                clear hm_64
                obtain ⟨rfl, rfl⟩ := hp_63
                show VV E 0 0 207 [(8, .int (nI z)), (6, .long (lN x)), (5, .int (nI (n - (pcn sh)))), (0, .ref x0), (1, .int (nI jp)), (2, .int (nI jf)), (3, .int (nI jt)), (4, .int (nI jw))] [.long (lN (PTO x (jt ^ (n - (pcn sh))) jw))] [(x0, .inr (4, [.ref a0, .ref c0, .ref xp, .int (bz pd), .ref b0, .ref g0, .ref s0, .ref w0, .int (nI rs), .ref y0])), (a0, .inr (2, [.int (nI n), .int (nI m), .int (nI sh), .int (nI 0), .ref a1, .ref a2, .ref a3, .ref a4, .ref a5, .ref a6])), (a1, .inl (cI, 7, .inl (nIf ki))), (a2, .inl (cI, 7, .inl (nIf op))), (a3, .inl (cI, 7, .inl (nIf fa))), (a4, .inl (cI, 6, .inl (nIf K))), (a5, .inl (cI, 6, .inl (nIf G))), (a6, .inl (cI, 6, .inl (nIf T))), (c0, .inr (2, [.int (nI n), .int (nI m), .int (nI s1), .int (nI 0), .ref c1, .ref c2, .ref c3, .ref c4, .ref c5, .ref c6])), (c1, .inl (cI, 7, .inl (nIf ki))), (c2, .inl (cI, 7, .inl (nIf op))), (c3, .inl (cI, 7, .inl (nIf fa))), (c4, .inl (cI, 6, .inl (nIf K))), (c5, .inl (cI, 6, .inl (nIf G))), (c6, .inl (cI, 6, .inl (nIf T))), (b0, .inr (1, [.int (nI P2), .int (nI Q2), .ref b1, .ref b2, .ref b3])), (b1, .inl (cI, 6, .inl (nIf mg))), (b2, .inl (cI, 144, .inl (mIf Y))), (b3, .inl (cI, 175, .inl (nIf X))), (y0, .inl (cI, 7, .inl (nIf R)))]
                refine v_lret zC zT dX4_colds_207  ?_
                first | (have g9 := hn_p; exact ⟨_, _, _, _, _, _, _, _, _, _, _, _, _, _, _, 1, RLF (-1), by unfold q_colds; rw [hn_p], hw1, (by first | exact hB9 | exact hD9.2.2.1 | exact hB), (by first | exact hM9 | exact hD9.2.2.2 | exact hM), rfl, rfl⟩) | (have g9 := hn_f; exact ⟨_, _, _, _, _, _, _, _, _, _, _, _, _, _, _, 1, RLF (-1), by unfold q_colds; rw [hi_p]; dsimp only; rw [hn_f], hw1, (by first | exact hB9 | exact hD9.2.2.1 | exact hB), (by first | exact hM9 | exact hD9.2.2.2 | exact hM), rfl, rfl⟩) | (have g9 := hlt9; exact ⟨_, _, _, _, _, _, _, _, _, _, _, _, _, _, _, 4, RLF (-4), by unfold q_colds; rw [hi_p]; dsimp only; rw [hi_f]; dsimp only; rw [if_pos hlt9], hw1, (by first | exact hB9 | exact hD9.2.2.1 | exact hB), (by first | exact hM9 | exact hD9.2.2.2 | exact hM), rfl, rfl⟩) | (have g9 := hgt9; exact ⟨_, _, _, _, _, _, _, _, _, _, _, _, _, _, _, 6, RLF (-6), by unfold q_colds; rw [hi_p]; dsimp only; rw [hi_f]; dsimp only; rw [if_neg hge, if_pos hgt9], hw1, (by first | exact hB9 | exact hD9.2.2.1 | exact hB), (by first | exact hM9 | exact hD9.2.2.2 | exact hM), rfl, rfl⟩) | (have g9 := hn_w; exact ⟨_, _, _, _, _, _, _, _, _, _, _, _, _, _, _, 2, RLF (-2), by unfold q_colds; rw [hi_p]; dsimp only; rw [hi_f]; dsimp only; rw [if_neg hge, if_neg hle, hn_w], hw1, (by first | exact hB9 | exact hD9.2.2.1 | exact hB), (by first | exact hM9 | exact hD9.2.2.2 | exact hM), rfl, rfl⟩) | exact ⟨_, _, _, _, _, _, _, _, _, _, _, _, _, _, _, 0, _, by unfold q_colds; rw [hi_p]; dsimp only; rw [hi_f]; dsimp only; rw [if_neg hge, if_neg hle, hi_w]; dsimp only; rw [nI_clamp (show jt < 2 ^ 31 by omega)]; unfold COLA; rw [show 2 ^ g_n (n, m, sh, 0, ki, op, fa, K, G, T) = z from (by show 2 ^ n = z; omega), ← hs], ⟨hn, hm, hs1, hki, hop, hfa, hK, hG, hT, vki, vop, vfa, vK, vG, vT⟩, hB9, hM9, rfl, rfl⟩
              ·
                refine v_il 115 zC dX4_colds_113 0 rfl ?_
                refine v_al_n 116 zC dX4_colds_115 3 rfl ?_
                refine v_gf 119 0 zC dX4_colds_116 gf_X4_12 rfl rfl ?_
                refine v_gf 122 1 zC dX4_colds_119 gf_X4_205 rfl rfl ?_
                refine v_iand (v := (nI (z &&& sh))) 123 zC dX4_colds_122 (fa_and _ _) ?_
                have hzl9 : z &&& sh < 2 ^ n := and_ltl (by omega)
                refine v_ifn_ne 188 126 zC dX4_colds_123 (fun h_65 => ?_) (fun h_65 => ?_)
                ·
                  have hv9 := h_65
                  refine v_inc (v := (nI (z + 1))) (lv2 := [(8, .int (nI (z + 1))), (6, .long (lN x)), (5, .int (nI (n - (pcn sh)))), (0, .ref x0), (1, .int (nI jp)), (2, .int (nI jf)), (3, .int (nI jt)), (4, .int (nI jw))]) 191 zC dX4_colds_188 (j := 0) rfl (nI_add _ 1) (by rw [hnE]; decide) rfl ?_
                  refine v_goto 99 zC dX4_colds_191 ?_
                  refine v_lvs (lv2 := [(8, .int (nI (z + 1))), (6, .long (lN x)), (5, .int (nI (n - (pcn sh)))), (0, .ref x0), (1, .int (nI jp)), (2, .int (nI jf)), (3, .int (nI jt)), (4, .int (nI jw))]) [0, 1, 2, 3, 4, 5, 6, 7] rfl ?_
                  exact ih99 _ (by omega) P2 Q2 mg Y X s1 x (z + 1) (by first | exact hD9.2.2.1 | exact hB9) (by first | exact hD9.2.2.2 | exact hM9) (by first | exact hs1 | exact Nat.or_lt_two_pow hsh (by omega)) (it_s hs (by first | exact col_1 hu9 hw9 | exact col_2 hv9 | exact col_3 hx9)) (by first | omega | assumption | rfl | (simp only []; omega) | decide) (by rw [Nat.succ_mul]; first | exact Nat.add_le_add hxl hpw9 | exact Nat.le_trans hxl (Nat.le_add_right _ _)) rfl
                ·
                  have hu9 := h_65
                  refine v_al_n 127 zC dX4_colds_126 3 rfl ?_
                  refine v_gf 130 0 zC dX4_colds_127 gf_X4_16 rfl rfl ?_
                  refine v_al_n 131 zC dX4_colds_130 3 rfl ?_
                  refine v_gf 134 0 zC dX4_colds_131 gf_X4_12 rfl rfl ?_
                  refine v_gf 137 1 zC dX4_colds_134 gf_X4_205 rfl rfl ?_
                  refine v_il 139 zC dX4_colds_137 0 rfl ?_
                  refine v_ior (v := (nI (sh ||| z))) 140 zC dX4_colds_139 (fa_or _ _) ?_
                  refine v_pf (ws2 := [(x0, .inr (4, [.ref a0, .ref c0, .ref xp, .int (bz pd), .ref b0, .ref g0, .ref s0, .ref w0, .int (nI rs), .ref y0])), (a0, .inr (2, [.int (nI n), .int (nI m), .int (nI sh), .int (nI 0), .ref a1, .ref a2, .ref a3, .ref a4, .ref a5, .ref a6])), (a1, .inl (cI, 7, .inl (nIf ki))), (a2, .inl (cI, 7, .inl (nIf op))), (a3, .inl (cI, 7, .inl (nIf fa))), (a4, .inl (cI, 6, .inl (nIf K))), (a5, .inl (cI, 6, .inl (nIf G))), (a6, .inl (cI, 6, .inl (nIf T))), (c0, .inr (2, [.int (nI n), .int (nI m), .int (nI (sh ||| z)), .int (nI 0), .ref c1, .ref c2, .ref c3, .ref c4, .ref c5, .ref c6])), (c1, .inl (cI, 7, .inl (nIf ki))), (c2, .inl (cI, 7, .inl (nIf op))), (c3, .inl (cI, 7, .inl (nIf fa))), (c4, .inl (cI, 6, .inl (nIf K))), (c5, .inl (cI, 6, .inl (nIf G))), (c6, .inl (cI, 6, .inl (nIf T))), (b0, .inr (1, [.int (nI P2), .int (nI Q2), .ref b1, .ref b2, .ref b3])), (b1, .inl (cI, 6, .inl (nIf mg))), (b2, .inl (cI, 144, .inl (mIf Y))), (b3, .inl (cI, 175, .inl (nIf X))), (y0, .inl (cI, 7, .inl (nIf R)))]) 143 8 zC dX4_colds_140 pf_X4_205 rfl (Nat.le_of_ble_eq_true rfl) rfl rfl rfl ?_
                  refine v_al_n 144 zC dX4_colds_143 3 rfl ?_
                  refine v_gf 147 0 zC dX4_colds_144 gf_X4_25 rfl rfl ?_
                  refine v_al_n 148 zC dX4_colds_147 3 rfl ?_
                  refine v_gf 151 0 zC dX4_colds_148 gf_X4_16 rfl rfl ?_
                  refine v_cV (As := [.ref c0]) (st := []) 154 15 [15, 16, 17, 18, 8, 9, 10, 11, 12, 13, 14] zC dX4_colds_151 hA (c_X1_live (ev_l E) (ev_D E) cI (b0 := b0) (b1 := b1) (b2 := b2) (b3 := b3) (P := P2) (Q := Q2) (mf := mg) (M := Y) (kn := X) (a0 := c0) (a1 := c1) (a2 := c2) (a3 := c3) (a4 := c4) (a5 := c5) (a6 := c6) (n := n) (m := m) (sh := (sh ||| z)) (aw := 0) (ki := ki) (op := op) (fa := fa) (K := K) (G := G) (T := T) (hn := hn) (hm := hm) (hK := hK) (hG := hG) (hT := hT) (hA2 := hfa) (hB := hB9) (hM := hM9)) cf_X1_live lk_X4_158 rfl rfl rfl rfl rfl (by decide +kernel) (Nat.le_of_ble_eq_true rfl) (fun rv_66 wv_67 hp_68 hm_69 => ?_)
                  clear hm_69
                  obtain ⟨mg_70, X_71, Y_72, hD_73, rfl, rfl⟩ := hp_68
                  show VV E 0 0 154 [(8, .int (nI z)), (6, .long (lN x)), (5, .int (nI (n - (pcn sh)))), (0, .ref x0), (1, .int (nI jp)), (2, .int (nI jf)), (3, .int (nI jt)), (4, .int (nI jw))] [] [(x0, .inr (4, [.ref a0, .ref c0, .ref xp, .int (bz pd), .ref b0, .ref g0, .ref s0, .ref w0, .int (nI rs), .ref y0])), (a0, .inr (2, [.int (nI n), .int (nI m), .int (nI sh), .int (nI 0), .ref a1, .ref a2, .ref a3, .ref a4, .ref a5, .ref a6])), (a1, .inl (cI, 7, .inl (nIf ki))), (a2, .inl (cI, 7, .inl (nIf op))), (a3, .inl (cI, 7, .inl (nIf fa))), (a4, .inl (cI, 6, .inl (nIf K))), (a5, .inl (cI, 6, .inl (nIf G))), (a6, .inl (cI, 6, .inl (nIf T))), (c0, .inr (2, [.int (nI n), .int (nI m), .int (nI (sh ||| z)), .int (nI 0), .ref c1, .ref c2, .ref c3, .ref c4, .ref c5, .ref c6])), (c1, .inl (cI, 7, .inl (nIf ki))), (c2, .inl (cI, 7, .inl (nIf op))), (c3, .inl (cI, 7, .inl (nIf fa))), (c4, .inl (cI, 6, .inl (nIf K))), (c5, .inl (cI, 6, .inl (nIf G))), (c6, .inl (cI, 6, .inl (nIf T))), (b0, .inr (1, [.int (nI n), .int (nI m), .ref b1, .ref b2, .ref b3])), (b1, .inl (cI, 6, .inl (nIf mg_70))), (b2, .inl (cI, 144, .inl (mIf Y_72))), (b3, .inl (cI, 175, .inl (nIf X_71))), (y0, .inl (cI, 7, .inl (nIf R)))]
                  have hD9 := hD_73
                  refine v_al_n 155 zC dX4_colds_154 3 rfl ?_
                  refine v_gf 158 0 zC dX4_colds_155 gf_X4_25 rfl rfl ?_
                  refine v_il_n 159 zC dX4_colds_158 5 rfl ?_
                  refine v_cV (As := [.int (nI jf)]) (st := []) 162 15 [15, 18] zC dX4_colds_159 hA (c_X1_knowers (ev_l E) (ev_D E) cI (b0 := b0) (b1 := b1) (b2 := b2) (b3 := b3) (P := n) (Q := m) (kn := X_71) (t := jf) (hP := (by first | omega | assumption | rfl | (simp only []; omega) | decide)) (ht := (by first | omega | assumption | rfl | (simp only []; omega) | decide))) cf_X1_knowers lk_X4_195 rfl rfl rfl rfl rfl (by decide +kernel) (Nat.le_of_ble_eq_true rfl) (fun rv_74 wv_75 hp_76 hm_77 => ?_)
                  clear hm_77
                  obtain ⟨rfl, rfl⟩ := hp_76
                  show VV E 0 0 162 [(8, .int (nI z)), (6, .long (lN x)), (5, .int (nI (n - (pcn sh)))), (0, .ref x0), (1, .int (nI jp)), (2, .int (nI jf)), (3, .int (nI jt)), (4, .int (nI jw))] [.int (nI (mkn (fun p => Nat.testBit (X_71 (24 * 7 + p)) jf) n))] [(x0, .inr (4, [.ref a0, .ref c0, .ref xp, .int (bz pd), .ref b0, .ref g0, .ref s0, .ref w0, .int (nI rs), .ref y0])), (a0, .inr (2, [.int (nI n), .int (nI m), .int (nI sh), .int (nI 0), .ref a1, .ref a2, .ref a3, .ref a4, .ref a5, .ref a6])), (a1, .inl (cI, 7, .inl (nIf ki))), (a2, .inl (cI, 7, .inl (nIf op))), (a3, .inl (cI, 7, .inl (nIf fa))), (a4, .inl (cI, 6, .inl (nIf K))), (a5, .inl (cI, 6, .inl (nIf G))), (a6, .inl (cI, 6, .inl (nIf T))), (c0, .inr (2, [.int (nI n), .int (nI m), .int (nI (sh ||| z)), .int (nI 0), .ref c1, .ref c2, .ref c3, .ref c4, .ref c5, .ref c6])), (c1, .inl (cI, 7, .inl (nIf ki))), (c2, .inl (cI, 7, .inl (nIf op))), (c3, .inl (cI, 7, .inl (nIf fa))), (c4, .inl (cI, 6, .inl (nIf K))), (c5, .inl (cI, 6, .inl (nIf G))), (c6, .inl (cI, 6, .inl (nIf T))), (b0, .inr (1, [.int (nI n), .int (nI m), .ref b1, .ref b2, .ref b3])), (b1, .inl (cI, 6, .inl (nIf mg_70))), (b2, .inl (cI, 144, .inl (mIf Y_72))), (b3, .inl (cI, 175, .inl (nIf X_71))), (y0, .inl (cI, 7, .inl (nIf R)))]
                  refine v_il_n 163 zC dX4_colds_162 4 rfl ?_
                  refine v_ishr (v := ((nI (mkn (fun p => Nat.testBit (X_71 (24 * 7 + p)) jf) n)) >>> (nI jp))) 164 zC dX4_colds_163 (sr_of (by omega)) ?_
                  refine v_ic (v := (nI 1)) 165 zC dX4_colds_164 (by decide +kernel) ?_
                  refine v_iand (v := (bz (Nat.testBit (mkn (fun p => Nat.testBit (X_71 (24 * 7 + p)) jf) n) jp))) 166 zC dX4_colds_165 (tb_of _ (by omega)) ?_
                  refine v_ifb_eq 188 169 zC dX4_colds_166 (fun h_78 => ?_) (fun h_78 => ?_)
                  ·
                    rw [dk_knw hD9 hn] at h_78
                    have hx9 := h_78
                    refine v_inc (v := (nI (z + 1))) (lv2 := [(8, .int (nI (z + 1))), (6, .long (lN x)), (5, .int (nI (n - (pcn sh)))), (0, .ref x0), (1, .int (nI jp)), (2, .int (nI jf)), (3, .int (nI jt)), (4, .int (nI jw))]) 191 zC dX4_colds_188 (j := 0) rfl (nI_add _ 1) (by rw [hnE]; decide) rfl ?_
                    refine v_goto 99 zC dX4_colds_191 ?_
                    refine v_lvs (lv2 := [(8, .int (nI (z + 1))), (6, .long (lN x)), (5, .int (nI (n - (pcn sh)))), (0, .ref x0), (1, .int (nI jp)), (2, .int (nI jf)), (3, .int (nI jt)), (4, .int (nI jw))]) [0, 1, 2, 3, 4, 5, 6, 7] rfl ?_
                    exact ih99 _ (by omega) n m mg_70 Y_72 X_71 (sh ||| z) x (z + 1) (by first | exact hD9.2.2.1 | exact hB9) (by first | exact hD9.2.2.2 | exact hM9) (by first | exact hs1 | exact Nat.or_lt_two_pow hsh (by omega)) (it_s hs (by first | exact col_1 hu9 hw9 | exact col_2 hv9 | exact col_3 hx9)) (by first | omega | assumption | rfl | (simp only []; omega) | decide) (by rw [Nat.succ_mul]; first | exact Nat.add_le_add hxl hpw9 | exact Nat.le_trans hxl (Nat.le_add_right _ _)) rfl
                  ·
                    rw [dk_knw hD9 hn] at h_78
                    have hw9 := h_78
                    refine v_ll 171 zC dX4_colds_169 1 rfl ?_
                    refine v_il_n 172 zC dX4_colds_171 6 rfl ?_
                    refine v_ic (v := (nI 1)) 173 zC dX4_colds_172 (by decide +kernel) ?_
                    have hpz9 : pcn z + pcn sh ≤ n := pcn_dj (by omega) hsh hu9
                    have hpw9 : (jt - 1) ^ (n - pcn sh - pcn z) ≤ 1280000000 := pw_le (by omega) (by omega)
                    refine v_isub (v := (nI (jt - 1))) 174 zC dX4_colds_173 (pk_sub (by first | omega | exact Nat.one_le_two_pow)) ?_
                    refine v_il 176 zC dX4_colds_174 2 rfl ?_
                    refine v_il 178 zC dX4_colds_176 0 rfl ?_
                    refine v_cS (As := [.int (nI z)]) (st := [.int (nI (n - (pcn sh))), .int (nI (jt - 1)), .long (lN x)]) 181 [] zC dX4_colds_178 hA (c_J6_bitCount_0f7a4 (ev_l E) (ev_D E) cI (x := z) (hx := (by first | omega | assumption | rfl | (simp only []; omega) | decide))) cf_J6_bitCount_0f7a4 lk_X4_178 rfl rfl rfl (by decide +kernel) (Nat.le_of_ble_eq_true rfl) (fun rv_79 wv_80 hp_81 hm_82 => ?_)
                    clear hm_82
                    obtain ⟨rfl, rfl⟩ := hp_81
                    show VV E 0 0 181 [(8, .int (nI z)), (6, .long (lN x)), (5, .int (nI (n - (pcn sh)))), (0, .ref x0), (1, .int (nI jp)), (2, .int (nI jf)), (3, .int (nI jt)), (4, .int (nI jw))] [.int (nI (pcn z)), .int (nI (n - (pcn sh))), .int (nI (jt - 1)), .long (lN x)] [(x0, .inr (4, [.ref a0, .ref c0, .ref xp, .int (bz pd), .ref b0, .ref g0, .ref s0, .ref w0, .int (nI rs), .ref y0])), (a0, .inr (2, [.int (nI n), .int (nI m), .int (nI sh), .int (nI 0), .ref a1, .ref a2, .ref a3, .ref a4, .ref a5, .ref a6])), (a1, .inl (cI, 7, .inl (nIf ki))), (a2, .inl (cI, 7, .inl (nIf op))), (a3, .inl (cI, 7, .inl (nIf fa))), (a4, .inl (cI, 6, .inl (nIf K))), (a5, .inl (cI, 6, .inl (nIf G))), (a6, .inl (cI, 6, .inl (nIf T))), (c0, .inr (2, [.int (nI n), .int (nI m), .int (nI (sh ||| z)), .int (nI 0), .ref c1, .ref c2, .ref c3, .ref c4, .ref c5, .ref c6])), (c1, .inl (cI, 7, .inl (nIf ki))), (c2, .inl (cI, 7, .inl (nIf op))), (c3, .inl (cI, 7, .inl (nIf fa))), (c4, .inl (cI, 6, .inl (nIf K))), (c5, .inl (cI, 6, .inl (nIf G))), (c6, .inl (cI, 6, .inl (nIf T))), (b0, .inr (1, [.int (nI n), .int (nI m), .ref b1, .ref b2, .ref b3])), (b1, .inl (cI, 6, .inl (nIf mg_70))), (b2, .inl (cI, 144, .inl (mIf Y_72))), (b3, .inl (cI, 175, .inl (nIf X_71))), (y0, .inl (cI, 7, .inl (nIf R)))]
                    refine v_isub (v := (nI ((n - (pcn sh)) - (pcn z)))) 182 zC dX4_colds_181 (pk_sub (by first | omega | exact Nat.one_le_two_pow)) ?_
                    refine v_cS (As := [.int (nI (jt - 1)), .int (nI ((n - (pcn sh)) - (pcn z)))]) (st := [.long (lN x)]) 185 [] zC dX4_colds_182 hA (c_X4_power (ev_l E) (ev_D E) cI (b := (jt - 1)) (e := ((n - (pcn sh)) - (pcn z))) (hb := (by first | omega | assumption | rfl | (simp only []; omega) | decide)) (he := (by first | omega | assumption | rfl | (simp only []; omega) | decide))) cf_X4_power lk_X4_243 rfl rfl rfl (by decide +kernel) (Nat.le_of_ble_eq_true rfl) (fun rv_83 wv_84 hp_85 hm_86 => ?_)
                    clear hm_86
                    obtain ⟨rfl, rfl⟩ := hp_85
                    show VV E 0 0 185 [(8, .int (nI z)), (6, .long (lN x)), (5, .int (nI (n - (pcn sh)))), (0, .ref x0), (1, .int (nI jp)), (2, .int (nI jf)), (3, .int (nI jt)), (4, .int (nI jw))] [.long (lN ((jt - 1) ^ ((n - (pcn sh)) - (pcn z)))), .long (lN x)] [(x0, .inr (4, [.ref a0, .ref c0, .ref xp, .int (bz pd), .ref b0, .ref g0, .ref s0, .ref w0, .int (nI rs), .ref y0])), (a0, .inr (2, [.int (nI n), .int (nI m), .int (nI sh), .int (nI 0), .ref a1, .ref a2, .ref a3, .ref a4, .ref a5, .ref a6])), (a1, .inl (cI, 7, .inl (nIf ki))), (a2, .inl (cI, 7, .inl (nIf op))), (a3, .inl (cI, 7, .inl (nIf fa))), (a4, .inl (cI, 6, .inl (nIf K))), (a5, .inl (cI, 6, .inl (nIf G))), (a6, .inl (cI, 6, .inl (nIf T))), (c0, .inr (2, [.int (nI n), .int (nI m), .int (nI (sh ||| z)), .int (nI 0), .ref c1, .ref c2, .ref c3, .ref c4, .ref c5, .ref c6])), (c1, .inl (cI, 7, .inl (nIf ki))), (c2, .inl (cI, 7, .inl (nIf op))), (c3, .inl (cI, 7, .inl (nIf fa))), (c4, .inl (cI, 6, .inl (nIf K))), (c5, .inl (cI, 6, .inl (nIf G))), (c6, .inl (cI, 6, .inl (nIf T))), (b0, .inr (1, [.int (nI n), .int (nI m), .ref b1, .ref b2, .ref b3])), (b1, .inl (cI, 6, .inl (nIf mg_70))), (b2, .inl (cI, 144, .inl (mIf Y_72))), (b3, .inl (cI, 175, .inl (nIf X_71))), (y0, .inl (cI, 7, .inl (nIf R)))]
                    refine v_ladd (v := (lN (x + (jt - 1) ^ (n - pcn sh - pcn z)))) 186 zC dX4_colds_185  (lN_add _ _) ?_
                    refine v_ls (lv2 := [(6, .long (lN (x + (jt - 1) ^ (n - pcn sh - pcn z)))), (8, .int (nI z)), (5, .int (nI (n - (pcn sh)))), (0, .ref x0), (1, .int (nI jp)), (2, .int (nI jf)), (3, .int (nI jt)), (4, .int (nI jw))]) 188 zC dX4_colds_186 (by rw [hnE]; decide) rfl ?_
                    refine v_inc (v := (nI (z + 1))) (lv2 := [(8, .int (nI (z + 1))), (6, .long (lN (x + (jt - 1) ^ (n - pcn sh - pcn z)))), (5, .int (nI (n - (pcn sh)))), (0, .ref x0), (1, .int (nI jp)), (2, .int (nI jf)), (3, .int (nI jt)), (4, .int (nI jw))]) 191 zC dX4_colds_188 (j := 1) rfl (nI_add _ 1) (by rw [hnE]; decide) rfl ?_
                    refine v_goto 99 zC dX4_colds_191 ?_
                    refine v_lvs (lv2 := [(8, .int (nI (z + 1))), (6, .long (lN (x + (jt - 1) ^ (n - pcn sh - pcn z)))), (5, .int (nI (n - (pcn sh)))), (0, .ref x0), (1, .int (nI jp)), (2, .int (nI jf)), (3, .int (nI jt)), (4, .int (nI jw))]) [0, 1, 2, 3, 4, 5, 6, 7] rfl ?_
                    exact ih99 _ (by omega) n m mg_70 Y_72 X_71 (sh ||| z) (x + (jt - 1) ^ (n - pcn sh - pcn z)) (z + 1) (by first | exact hD9.2.2.1 | exact hB9) (by first | exact hD9.2.2.2 | exact hM9) (by first | exact hs1 | exact Nat.or_lt_two_pow hsh (by omega)) (it_s hs (by first | exact col_1 hu9 hw9 | exact col_2 hv9 | exact col_3 hx9)) (by first | omega | assumption | rfl | (simp only []; omega) | decide) (by rw [Nat.succ_mul]; first | exact Nat.add_le_add hxl hpw9 | exact Nat.le_trans hxl (Nat.le_add_right _ _)) rfl
            refine v_lvs (lv2 := [(8, .int (nI 0)), (6, .long (lN 0)), (5, .int (nI (n - (pcn sh)))), (0, .ref x0), (1, .int (nI jp)), (2, .int (nI jf)), (3, .int (nI jt)), (4, .int (nI jw))]) [0, 1, 2, 3, 4, 5, 6, 7] rfl ?_
            exact lp99 _ P Q mf M kn sh 0 0 (by first | exact hD9.2.2.1 | exact hB) (by first | exact hD9.2.2.2 | exact hM) hsh (by first | omega | assumption | rfl | (simp only []; omega) | decide) (by first | omega | assumption | rfl | (simp only []; omega) | decide) (by first | omega | assumption | rfl | (simp only []; omega) | decide) rfl
        ·
          have hgt9 : nI 20 < t := Int32.not_le.mp h_32
          refine v_al_n 40 zC dX4_colds_39 0 rfl ?_
          refine v_bp (v := (-6)) 42 zC dX4_colds_40 (by decide +kernel) ?_
          refine v_cV (As := [.int (-6)]) (st := []) 45 0 [0, 19] zC dX4_colds_42 hA (c_X4_refuseLong (ev_l E) (ev_D E) cI (x0 := x0) (xn := a0) (xm := c0) (xp := xp) (b0 := b0) (g0 := g0) (s0 := s0) (w0 := w0) (y0 := y0) (pd := pd) (rs := rs) (R := R) (v := (-6)) (j := 6) (hv := (by first | omega | assumption | rfl | (simp only []; omega) | decide)) (h1 := (by first | omega | assumption | rfl | (simp only []; omega) | decide)) (h6 := (by first | omega | assumption | rfl | (simp only []; omega) | decide))) cf_X4_refuseLong lk_X4_239 rfl rfl rfl rfl rfl (by decide +kernel) (Nat.le_of_ble_eq_true rfl) (fun rv_87 wv_88 hp_89 hm_90 => ?_)
          clear hm_90
          obtain ⟨rfl, rfl⟩ := hp_89
          show VV E 0 0 45 [(0, .ref x0), (1, .int (nI jp)), (2, .int (nI jf)), (3, .int t), (4, .int w)] [.long (lN 4000000000000000000 - Int32.toInt64 (-6))] [(x0, .inr (4, [.ref a0, .ref c0, .ref xp, .int (bz pd), .ref b0, .ref g0, .ref s0, .ref w0, .int (nI rs), .ref y0])), (a0, .inr (2, [.int (nI n), .int (nI m), .int (nI sh), .int (nI 0), .ref a1, .ref a2, .ref a3, .ref a4, .ref a5, .ref a6])), (a1, .inl (cI, 7, .inl (nIf ki))), (a2, .inl (cI, 7, .inl (nIf op))), (a3, .inl (cI, 7, .inl (nIf fa))), (a4, .inl (cI, 6, .inl (nIf K))), (a5, .inl (cI, 6, .inl (nIf G))), (a6, .inl (cI, 6, .inl (nIf T))), (c0, .inr (2, [.int (nI n1), .int (nI m1), .int (nI sh1), .int (nI aw1), .ref c1, .ref c2, .ref c3, .ref c4, .ref c5, .ref c6])), (c1, .inl (cI, 7, .inl (nIf ki1))), (c2, .inl (cI, 7, .inl (nIf op1))), (c3, .inl (cI, 7, .inl (nIf fa1))), (c4, .inl (cI, 6, .inl (nIf K1))), (c5, .inl (cI, 6, .inl (nIf G1))), (c6, .inl (cI, 6, .inl (nIf T1))), (b0, .inr (1, [.int (nI P), .int (nI Q), .ref b1, .ref b2, .ref b3])), (b1, .inl (cI, 6, .inl (nIf mf))), (b2, .inl (cI, 144, .inl (mIf M))), (b3, .inl (cI, 175, .inl (nIf kn))), (y0, .inl (cI, 7, .inl (nIf (un R 6 (R 6 + 1)))))]
          refine v_lret zC zT dX4_colds_45  ?_
          first | (have g9 := hn_p; exact ⟨_, _, _, _, _, _, _, _, _, _, _, _, _, _, _, 1, RLF (-1), by unfold q_colds; rw [hn_p], hw1, (by first | exact hB9 | exact hD9.2.2.1 | exact hB), (by first | exact hM9 | exact hD9.2.2.2 | exact hM), rfl, rfl⟩) | (have g9 := hn_f; exact ⟨_, _, _, _, _, _, _, _, _, _, _, _, _, _, _, 1, RLF (-1), by unfold q_colds; rw [hi_p]; dsimp only; rw [hn_f], hw1, (by first | exact hB9 | exact hD9.2.2.1 | exact hB), (by first | exact hM9 | exact hD9.2.2.2 | exact hM), rfl, rfl⟩) | (have g9 := hlt9; exact ⟨_, _, _, _, _, _, _, _, _, _, _, _, _, _, _, 4, RLF (-4), by unfold q_colds; rw [hi_p]; dsimp only; rw [hi_f]; dsimp only; rw [if_pos hlt9], hw1, (by first | exact hB9 | exact hD9.2.2.1 | exact hB), (by first | exact hM9 | exact hD9.2.2.2 | exact hM), rfl, rfl⟩) | (have g9 := hgt9; exact ⟨_, _, _, _, _, _, _, _, _, _, _, _, _, _, _, 6, RLF (-6), by unfold q_colds; rw [hi_p]; dsimp only; rw [hi_f]; dsimp only; rw [if_neg hge, if_pos hgt9], hw1, (by first | exact hB9 | exact hD9.2.2.1 | exact hB), (by first | exact hM9 | exact hD9.2.2.2 | exact hM), rfl, rfl⟩) | (have g9 := hn_w; exact ⟨_, _, _, _, _, _, _, _, _, _, _, _, _, _, _, 2, RLF (-2), by unfold q_colds; rw [hi_p]; dsimp only; rw [hi_f]; dsimp only; rw [if_neg hge, if_neg hle, hn_w], hw1, (by first | exact hB9 | exact hD9.2.2.1 | exact hB), (by first | exact hM9 | exact hD9.2.2.2 | exact hM), rfl, rfl⟩) | exact ⟨_, _, _, _, _, _, _, _, _, _, _, _, _, _, _, 0, _, by unfold q_colds; rw [hi_p]; dsimp only; rw [hi_f]; dsimp only; rw [if_neg hge, if_neg hle, hi_w]; dsimp only; rw [nI_clamp (show jt < 2 ^ 31 by omega)]; unfold COLA; rw [show 2 ^ g_n (n, m, sh, 0, ki, op, fa, K, G, T) = z from (by show 2 ^ n = z; omega), ← hs], ⟨hn, hm, hs1, hki, hop, hfa, hK, hG, hT, vki, vop, vfa, vK, vG, vT⟩, hB9, hM9, rfl, rfl⟩
      ·
        have hlt9 : t < nI 2 := Int32.not_le.mp h_31
        refine v_al_n 27 zC dX4_colds_26 0 rfl ?_
        refine v_bp (v := (-4)) 29 zC dX4_colds_27 (by decide +kernel) ?_
        refine v_cV (As := [.int (-4)]) (st := []) 32 0 [0, 19] zC dX4_colds_29 hA (c_X4_refuseLong (ev_l E) (ev_D E) cI (x0 := x0) (xn := a0) (xm := c0) (xp := xp) (b0 := b0) (g0 := g0) (s0 := s0) (w0 := w0) (y0 := y0) (pd := pd) (rs := rs) (R := R) (v := (-4)) (j := 4) (hv := (by first | omega | assumption | rfl | (simp only []; omega) | decide)) (h1 := (by first | omega | assumption | rfl | (simp only []; omega) | decide)) (h6 := (by first | omega | assumption | rfl | (simp only []; omega) | decide))) cf_X4_refuseLong lk_X4_239 rfl rfl rfl rfl rfl (by decide +kernel) (Nat.le_of_ble_eq_true rfl) (fun rv_91 wv_92 hp_93 hm_94 => ?_)
        clear hm_94
        obtain ⟨rfl, rfl⟩ := hp_93
        show VV E 0 0 32 [(0, .ref x0), (1, .int (nI jp)), (2, .int (nI jf)), (3, .int t), (4, .int w)] [.long (lN 4000000000000000000 - Int32.toInt64 (-4))] [(x0, .inr (4, [.ref a0, .ref c0, .ref xp, .int (bz pd), .ref b0, .ref g0, .ref s0, .ref w0, .int (nI rs), .ref y0])), (a0, .inr (2, [.int (nI n), .int (nI m), .int (nI sh), .int (nI 0), .ref a1, .ref a2, .ref a3, .ref a4, .ref a5, .ref a6])), (a1, .inl (cI, 7, .inl (nIf ki))), (a2, .inl (cI, 7, .inl (nIf op))), (a3, .inl (cI, 7, .inl (nIf fa))), (a4, .inl (cI, 6, .inl (nIf K))), (a5, .inl (cI, 6, .inl (nIf G))), (a6, .inl (cI, 6, .inl (nIf T))), (c0, .inr (2, [.int (nI n1), .int (nI m1), .int (nI sh1), .int (nI aw1), .ref c1, .ref c2, .ref c3, .ref c4, .ref c5, .ref c6])), (c1, .inl (cI, 7, .inl (nIf ki1))), (c2, .inl (cI, 7, .inl (nIf op1))), (c3, .inl (cI, 7, .inl (nIf fa1))), (c4, .inl (cI, 6, .inl (nIf K1))), (c5, .inl (cI, 6, .inl (nIf G1))), (c6, .inl (cI, 6, .inl (nIf T1))), (b0, .inr (1, [.int (nI P), .int (nI Q), .ref b1, .ref b2, .ref b3])), (b1, .inl (cI, 6, .inl (nIf mf))), (b2, .inl (cI, 144, .inl (mIf M))), (b3, .inl (cI, 175, .inl (nIf kn))), (y0, .inl (cI, 7, .inl (nIf (un R 4 (R 4 + 1)))))]
        refine v_lret zC zT dX4_colds_32  ?_
        first | (have g9 := hn_p; exact ⟨_, _, _, _, _, _, _, _, _, _, _, _, _, _, _, 1, RLF (-1), by unfold q_colds; rw [hn_p], hw1, (by first | exact hB9 | exact hD9.2.2.1 | exact hB), (by first | exact hM9 | exact hD9.2.2.2 | exact hM), rfl, rfl⟩) | (have g9 := hn_f; exact ⟨_, _, _, _, _, _, _, _, _, _, _, _, _, _, _, 1, RLF (-1), by unfold q_colds; rw [hi_p]; dsimp only; rw [hn_f], hw1, (by first | exact hB9 | exact hD9.2.2.1 | exact hB), (by first | exact hM9 | exact hD9.2.2.2 | exact hM), rfl, rfl⟩) | (have g9 := hlt9; exact ⟨_, _, _, _, _, _, _, _, _, _, _, _, _, _, _, 4, RLF (-4), by unfold q_colds; rw [hi_p]; dsimp only; rw [hi_f]; dsimp only; rw [if_pos hlt9], hw1, (by first | exact hB9 | exact hD9.2.2.1 | exact hB), (by first | exact hM9 | exact hD9.2.2.2 | exact hM), rfl, rfl⟩) | (have g9 := hgt9; exact ⟨_, _, _, _, _, _, _, _, _, _, _, _, _, _, _, 6, RLF (-6), by unfold q_colds; rw [hi_p]; dsimp only; rw [hi_f]; dsimp only; rw [if_neg hge, if_pos hgt9], hw1, (by first | exact hB9 | exact hD9.2.2.1 | exact hB), (by first | exact hM9 | exact hD9.2.2.2 | exact hM), rfl, rfl⟩) | (have g9 := hn_w; exact ⟨_, _, _, _, _, _, _, _, _, _, _, _, _, _, _, 2, RLF (-2), by unfold q_colds; rw [hi_p]; dsimp only; rw [hi_f]; dsimp only; rw [if_neg hge, if_neg hle, hn_w], hw1, (by first | exact hB9 | exact hD9.2.2.1 | exact hB), (by first | exact hM9 | exact hD9.2.2.2 | exact hM), rfl, rfl⟩) | exact ⟨_, _, _, _, _, _, _, _, _, _, _, _, _, _, _, 0, _, by unfold q_colds; rw [hi_p]; dsimp only; rw [hi_f]; dsimp only; rw [if_neg hge, if_neg hle, hi_w]; dsimp only; rw [nI_clamp (show jt < 2 ^ 31 by omega)]; unfold COLA; rw [show 2 ^ g_n (n, m, sh, 0, ki, op, fa, K, G, T) = z from (by show 2 ^ n = z; omega), ← hs], ⟨hn, hm, hs1, hki, hop, hfa, hK, hG, hT, vki, vop, vfa, vK, vG, vT⟩, hB9, hM9, rfl, rfl⟩
