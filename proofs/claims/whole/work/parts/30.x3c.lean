/-! a family told in letters -/
/-- where the statement at a place breaks -/
def SC (ls : Nat) (sg : Nat → Nat) (at_ : Nat) : Option Nat := match DB (sg at_) with
  | none => some at_
  | some v => match fs (fun i => !(DIG ls sg (at_ + 1 + i))) v with
    | some i => some (at_ + 1 + i)
    | none => if at_ + 1 + v < ls ∧ sg (at_ + 1 + v) = 59 then none else some (at_ + 1 + v)
def NXT (sg : Nat → Nat) (at_ : Nat) : Nat := at_ + (DB (sg at_)).getD 0 + 2
def BR (ls : Nat) (sg : Nat → Nat) : Nat → Nat → Option Nat
  | 0, _ => none
  | f + 1, a => if a < ls then (match SC ls sg a with
    | some b => some b
    | none => BR ls sg f (NXT sg a)) else none
def BRK (ls : Nat) (sg : Nat → Nat) : Option Nat := if ls = 0 then some 0 else BR ls sg ls 0
theorem br_e {ls f a : Nat} {sg : Nat → Nat} (h : ls ≤ a) : BR ls sg f a = none := by
  cases f with
  | zero => rfl
  | succ f => exact if_neg (Nat.not_lt.mpr h)
theorem br_b {ls f a b : Nat} {sg : Nat → Nat} (h : a < ls) (hf : ls ≤ a + f) (e : SC ls sg a = some b) : BR ls sg f a = some b := by
  cases f with
  | zero => omega
  | succ f =>
    unfold BR
    rw [if_pos h, e]
theorem br_n {ls f a : Nat} {sg : Nat → Nat} (h : a < ls) (hf : ls ≤ a + f) (e : SC ls sg a = none) : BR ls sg f a = BR ls sg (f - 1) (NXT sg a) := by
  cases f with
  | zero => omega
  | succ f =>
    show (if a < ls then _ else _) = _
    rw [if_pos h, e]
    rfl
theorem sc_0 {ls a : Nat} {sg : Nat → Nat} (h : DB (sg a) = none) : SC ls sg a = some a := by
  unfold SC
  rw [h]
theorem sc_1 {ls a v i : Nat} {sg : Nat → Nat} (h : DB (sg a) = some v) (hq : fs (fun i => !(DIG ls sg (a + 1 + i))) i = none) (hi : i < v) (hd : DIG ls sg (a + 1 + i) = false) : SC ls sg a = some (a + 1 + i) := by
  unfold SC
  rw [h]
  dsimp only
  rw [fs_m (show i + 1 ≤ v by omega) (fs_1 hq (by rw [hd]; rfl))]
theorem sc_2 {ls a v : Nat} {sg : Nat → Nat} (h : DB (sg a) = some v) (hq : fs (fun i => !(DIG ls sg (a + 1 + i))) v = none) (hd : ¬ (a + 1 + v < ls ∧ sg (a + 1 + v) = 59)) : SC ls sg a = some (a + 1 + v) := by
  unfold SC
  rw [h]
  dsimp only
  rw [hq]
  exact if_neg hd
theorem sc_3 {ls a v : Nat} {sg : Nat → Nat} (h : DB (sg a) = some v) (hq : fs (fun i => !(DIG ls sg (a + 1 + i))) v = none) (hd : a + 1 + v < ls ∧ sg (a + 1 + v) = 59) : SC ls sg a = none := by
  unfold SC
  rw [h]
  dsimp only
  rw [hq]
  exact if_pos hd
theorem sc_2i {ls a v i : Nat} {sg : Nat → Nat} (h : DB (sg a) = some v) (e : v = i) (hq : fs (fun i => !(DIG ls sg (a + 1 + i))) i = none) (hd : ¬ (a + 1 + i < ls ∧ sg (a + 1 + i) = 59)) : SC ls sg a = some (a + 1 + i) := by
  subst e
  exact sc_2 h hq hd
theorem sc_3i {ls a v i : Nat} {sg : Nat → Nat} (h : DB (sg a) = some v) (e : v = i) (hq : fs (fun i => !(DIG ls sg (a + 1 + i))) i = none) (hd : a + 1 + i < ls ∧ sg (a + 1 + i) = 59) : SC ls sg a = none := by
  subst e
  exact sc_3 h hq hd
theorem sc_ok {ls a : Nat} {sg : Nat → Nat} (h : SC ls sg a = none) : ∃ v, DB (sg a) = some v ∧ (∀ i, i < v → DIG ls sg (a + 1 + i) = true) ∧ a + 1 + v < ls ∧ sg (a + 1 + v) = 59 := by
  cases e : DB (sg a) with
  | none => rw [sc_0 e] at h; cases h
  | some v =>
    cases q : fs (fun i => !(DIG ls sg (a + 1 + i))) v with
    | some i =>
      unfold SC at h
      rw [e] at h
      dsimp only at h
      rw [q] at h
      cases h
    | none =>
      by_cases c : a + 1 + v < ls ∧ sg (a + 1 + v) = 59
      · refine ⟨v, rfl, fun i hi => ?_, c⟩
        have h2 := fs_no q hi
        cases d : DIG ls sg (a + 1 + i) with
        | true => rfl
        | false => rw [d] at h2; cases h2
      · rw [sc_2 e q c] at h; cases h
theorem nxt_v {sg : Nat → Nat} {a v : Nat} (h : DB (sg a) = some v) : NXT sg a = a + v + 2 := by
  unfold NXT
  rw [h]
  rfl
theorem dig_d {ls i : Nat} {sg : Nat → Nat} (h : DIG ls sg i = true) : i < ls ∧ 48 ≤ sg i ∧ sg i ≤ 57 := of_decide_eq_true h
/-- a digit told -/
def DGT (sg : Nat → Nat) (i : Nat) : Nat := sg i - 48
def PAR (sg : Nat → Nat) (i : Nat) : Nat := 10 * (sg i - 48) + (sg (i + 1) - 48)
/-- the statement at a place told to a family: nothing if it is not as it must be -/
def TS (sg : Nat → Nat) (a : Nat) (s : SG) : Option SG :=
  if sg a = 112 then (if 63 < PAR sg (a + 1) ∨ g_n s = 7 then none else some (g_n s + 1, g_m s, g_sh s, g_aw s, un (g_ki s) (g_n s) (PAR sg (a + 1)), un (g_op s) (g_n s) 0, un (g_fa s) (g_n s) 0, g_K s, g_G s, g_T s))
  else if sg a = 100 then (if 5 < DGT sg (a + 1) ∨ g_m s = 6 then none else some (g_n s, g_m s + 1, g_sh s, g_aw s, g_ki s, g_op s, g_fa s, un (g_K s) (g_m s) (DGT sg (a + 1)), un (g_G s) (g_m s) (DGT sg (a + 2)), un (g_T s) (g_m s) (DGT sg (a + 3))))
  else if sg a = 111 ∨ sg a = 99 then (if g_n s ≤ DGT sg (a + 1) ∨ PAR sg (a + 4) < PAR sg (a + 2) ∨ 24 ≤ PAR sg (a + 4) then none else some (wop s (un (g_op s) (DGT sg (a + 1)) (if sg a = 111 then (g_op s (DGT sg (a + 1))) ||| HR (PAR sg (a + 2)) (PAR sg (a + 4)) else andn (g_op s (DGT sg (a + 1))) (HR (PAR sg (a + 2)) (PAR sg (a + 4)))))))
  else if sg a = 115 then (if g_n s ≤ DGT sg (a + 1) then none else some (wsh s (g_sh s ^^^ 2 ^ DGT sg (a + 1))))
  else (if g_n s ≤ DGT sg (a + 1) then none else some (wfa s (un (g_fa s) (DGT sg (a + 1)) (g_fa s (DGT sg (a + 1)) ||| 2 ^ DGT sg (a + 2)))))
/-- all statements from a place on: the place of the first that is not as it must be, or the family and how many -/
def TELL (ls : Nat) (sg : Nat → Nat) : Nat → Nat → Nat → SG → Option SG × Nat
  | 0, _, c, s => (some s, c)
  | f + 1, a, c, s => if a < ls then (match TS sg a s with
    | none => (none, a)
    | some s2 => TELL ls sg f (NXT sg a) (c + 1) s2) else (some s, c)
theorem tell_e {ls f a c : Nat} {sg : Nat → Nat} {s : SG} (h : ls ≤ a) : TELL ls sg f a c s = (some s, c) := by
  cases f with
  | zero => rfl
  | succ f => exact if_neg (Nat.not_lt.mpr h)
theorem tell_b {ls f a c : Nat} {sg : Nat → Nat} {s : SG} (h : a < ls) (hf : ls ≤ a + f) (e : TS sg a s = none) : TELL ls sg f a c s = (none, a) := by
  cases f with
  | zero => omega
  | succ f =>
    unfold TELL
    rw [if_pos h, e]
theorem tell_s {ls f a c : Nat} {sg : Nat → Nat} {s s2 : SG} (h : a < ls) (hf : ls ≤ a + f) (e : TS sg a s = some s2) : TELL ls sg f a c s = TELL ls sg (f - 1) (NXT sg a) (c + 1) s2 := by
  cases f with
  | zero => omega
  | succ f =>
    show (if a < ls then _ else _) = _
    rw [if_pos h, e]
    rfl
def FWs (s : SG) : Prop := FW (g_n s) (g_m s) (g_sh s) (g_ki s) (g_op s) (g_fa s) (g_K s) (g_G s) (g_T s)
theorem db_six {x v : Nat} (h : DB x = some v) : (x = 115 ∧ v = 1) ∨ (x = 112 ∧ v = 2) ∨ (x = 107 ∧ v = 2) ∨ (x = 100 ∧ v = 3) ∨ (x = 111 ∧ v = 5) ∨ (x = 99 ∧ v = 5) := by
  unfold DB at h
  split at h
  · cases h; omega
  · split at h
    · cases h; omega
    · split at h
      · cases h; omega
      · split at h
        · cases h; omega
        · cases h
section TSV
variable {sg : Nat → Nat} {a n m sh aw : Nat} {ki op fa K G T : Nat → Nat}
theorem ts_p0 (he : sg a = 112) (h : 63 < 10 * (sg (a + 1) - 48) + (sg (a + 1 + 1) - 48) ∨ n = 7) : TS sg a (n, m, sh, aw, ki, op, fa, K, G, T) = none := by
  unfold TS
  rw [if_pos he]
  exact if_pos h
theorem ts_p1 (he : sg a = 112) (h1 : 10 * (sg (a + 1) - 48) + (sg (a + 1 + 1) - 48) < 64) (h2 : n < 7) : TS sg a (n, m, sh, aw, ki, op, fa, K, G, T) = some (n + 1, m, sh, aw, un ki n (10 * (sg (a + 1) - 48) + (sg (a + 1 + 1) - 48)), un op n 0, un fa n 0, K, G, T) := by
  unfold TS
  rw [if_pos he]
  refine if_neg (fun z => ?_)
  rcases z with z | z
  · have z2 : 63 < 10 * (sg (a + 1) - 48) + (sg (a + 1 + 1) - 48) := z
    omega
  · have z2 : n = 7 := z
    omega
theorem ts_d0 (he : sg a = 100) (h9 : sg (a + 2) ≤ 57) (h8 : sg (a + 3) ≤ 57) (h : 5 < sg (a + 1) - 48 ∨ 9 < sg (a + 2) - 48 ∨ 9 < sg (a + 3) - 48 ∨ m = 6) : TS sg a (n, m, sh, aw, ki, op, fa, K, G, T) = none := by
  unfold TS
  rw [if_neg (by omega), if_pos he]
  refine if_pos ?_
  show 5 < sg (a + 1) - 48 ∨ m = 6
  omega
theorem ts_d1 (he : sg a = 100) (h1 : sg (a + 1) - 48 < 6) (h2 : m < 6) : TS sg a (n, m, sh, aw, ki, op, fa, K, G, T) = some (n, m + 1, sh, aw, ki, op, fa, un K m (sg (a + 1) - 48), un G m (sg (a + 2) - 48), un T m (sg (a + 3) - 48)) := by
  unfold TS
  rw [if_neg (by omega), if_pos he]
  refine if_neg (fun z => ?_)
  have z2 : 5 < sg (a + 1) - 48 ∨ m = 6 := z
  omega
theorem ts_o0 (he : sg a = 111 ∨ sg a = 99) (h : n ≤ sg (a + 1) - 48 ∨ 10 * (sg (a + 4) - 48) + (sg (a + 4 + 1) - 48) < 10 * (sg (a + 2) - 48) + (sg (a + 2 + 1) - 48) ∨ 24 ≤ 10 * (sg (a + 4) - 48) + (sg (a + 4 + 1) - 48)) : TS sg a (n, m, sh, aw, ki, op, fa, K, G, T) = none := by
  unfold TS
  rw [if_neg (by omega), if_neg (by omega), if_pos he]
  exact if_pos h
theorem ts_o1 (he : sg a = 111) (h1 : sg (a + 1) - 48 < n) (h2 : 10 * (sg (a + 2) - 48) + (sg (a + 2 + 1) - 48) ≤ 10 * (sg (a + 4) - 48) + (sg (a + 4 + 1) - 48)) (h3 : 10 * (sg (a + 4) - 48) + (sg (a + 4 + 1) - 48) < 24) : TS sg a (n, m, sh, aw, ki, op, fa, K, G, T) = some (n, m, sh, aw, ki, un op (sg (a + 1) - 48) (if true = true then (op (sg (a + 1) - 48)) ||| HR (10 * (sg (a + 2) - 48) + (sg (a + 2 + 1) - 48)) (10 * (sg (a + 4) - 48) + (sg (a + 4 + 1) - 48)) else andn (op (sg (a + 1) - 48)) (HR (10 * (sg (a + 2) - 48) + (sg (a + 2 + 1) - 48)) (10 * (sg (a + 4) - 48) + (sg (a + 4 + 1) - 48)))), fa, K, G, T) := by
  unfold TS
  rw [if_neg (by omega), if_neg (by omega), if_pos (Or.inl he), if_neg (fun z => ?_)]
  · rw [if_pos he, if_pos rfl]
    rfl
  · have z2 : n ≤ sg (a + 1) - 48 ∨ 10 * (sg (a + 4) - 48) + (sg (a + 4 + 1) - 48) < 10 * (sg (a + 2) - 48) + (sg (a + 2 + 1) - 48) ∨ 24 ≤ 10 * (sg (a + 4) - 48) + (sg (a + 4 + 1) - 48) := z
    omega
theorem ts_c1 (he : sg a = 99) (h1 : sg (a + 1) - 48 < n) (h2 : 10 * (sg (a + 2) - 48) + (sg (a + 2 + 1) - 48) ≤ 10 * (sg (a + 4) - 48) + (sg (a + 4 + 1) - 48)) (h3 : 10 * (sg (a + 4) - 48) + (sg (a + 4 + 1) - 48) < 24) : TS sg a (n, m, sh, aw, ki, op, fa, K, G, T) = some (n, m, sh, aw, ki, un op (sg (a + 1) - 48) (if false = true then (op (sg (a + 1) - 48)) ||| HR (10 * (sg (a + 2) - 48) + (sg (a + 2 + 1) - 48)) (10 * (sg (a + 4) - 48) + (sg (a + 4 + 1) - 48)) else andn (op (sg (a + 1) - 48)) (HR (10 * (sg (a + 2) - 48) + (sg (a + 2 + 1) - 48)) (10 * (sg (a + 4) - 48) + (sg (a + 4 + 1) - 48)))), fa, K, G, T) := by
  unfold TS
  rw [if_neg (by omega), if_neg (by omega), if_pos (Or.inr he), if_neg (fun z => ?_)]
  · rw [if_neg (by omega), if_neg (by decide)]
    rfl
  · have z2 : n ≤ sg (a + 1) - 48 ∨ 10 * (sg (a + 4) - 48) + (sg (a + 4 + 1) - 48) < 10 * (sg (a + 2) - 48) + (sg (a + 2 + 1) - 48) ∨ 24 ≤ 10 * (sg (a + 4) - 48) + (sg (a + 4 + 1) - 48) := z
    omega
theorem ts_s0 (he : sg a = 115) (h : n ≤ sg (a + 1) - 48) : TS sg a (n, m, sh, aw, ki, op, fa, K, G, T) = none := by
  unfold TS
  rw [if_neg (by omega), if_neg (by omega), if_neg (by omega), if_pos he]
  exact if_pos h
theorem ts_s1 (he : sg a = 115) (h : sg (a + 1) - 48 < n) : TS sg a (n, m, sh, aw, ki, op, fa, K, G, T) = some (n, m, sh ^^^ 2 ^ (sg (a + 1) - 48), aw, ki, op, fa, K, G, T) := by
  unfold TS
  rw [if_neg (by omega), if_neg (by omega), if_neg (by omega), if_pos he]
  exact if_neg (Nat.not_le.mpr h)
theorem ts_k0 (he : sg a = 107) (h : n ≤ sg (a + 1) - 48) : TS sg a (n, m, sh, aw, ki, op, fa, K, G, T) = none := by
  unfold TS
  rw [if_neg (by omega), if_neg (by omega), if_neg (by omega), if_neg (by omega)]
  exact if_pos h
theorem ts_k1 (he : sg a = 107) (h : sg (a + 1) - 48 < n) : TS sg a (n, m, sh, aw, ki, op, fa, K, G, T) = some (n, m, sh, aw, ki, op, un fa (sg (a + 1) - 48) (fa (sg (a + 1) - 48) ||| 2 ^ (sg (a + 2) - 48)), K, G, T) := by
  unfold TS
  rw [if_neg (by omega), if_neg (by omega), if_neg (by omega), if_neg (by omega)]
  exact if_neg (Nat.not_le.mpr h)
end TSV
theorem opv_lt {v f e : Nat} {o : Bool} (hv : v < 2 ^ 24) (he : e < 24) : (if o = true then v ||| HR f e else andn v (HR f e)) < 2 ^ 24 := by
  split
  · exact Nat.or_lt_two_pow hv (hr_lt he)
  · exact andn_lt hv
theorem brk_s {ls f a : Nat} {sg : Nat → Nat} {x : Option Nat} (h0 : ls ≠ 0) (hb : BR ls sg f a = BR ls sg ls 0) (e : BR ls sg f a = x) : BRK ls sg = x := by
  unfold BRK
  rw [if_neg h0, ← hb, e]
theorem br_sc {ls f a : Nat} {sg : Nat → Nat} (h : a < ls) (hf : ls ≤ a + f) (e : BR ls sg f a = none) : SC ls sg a = none ∧ BR ls sg (f - 1) (NXT sg a) = none := by
  cases q : SC ls sg a with
  | some b => rw [br_b h hf q] at e; cases e
  | none => exact ⟨rfl, by rw [← br_n h hf q]; exact e⟩
theorem brk_n {ls : Nat} {sg : Nat → Nat} (e : BRK ls sg = none) : 0 < ls ∧ BR ls sg ls 0 = none := by
  unfold BRK at e
  by_cases h : ls = 0
  · rw [if_pos h] at e; cases e
  · rw [if_neg h] at e
    exact ⟨by omega, e⟩
def q_person (s : SG) (p w : Int32) : Nat × Int32 := match IX (g_n s) p with
  | none => (1, -1)
  | some j => match IX 4 w with
    | none => (2, -2)
    | some k => (0, nI (if k = 0 then g_ki s j else if k = 1 then g_op s j else if k = 2 then (if Nat.testBit (g_sh s) j = true then 1 else 0) else g_fa s j))
def q_dead (s : SG) (d w : Int32) : Nat × Int32 := match IX (g_m s) d with
  | none => (1, -1)
  | some j => match IX 3 w with
    | none => (2, -2)
    | some k => (0, nI (if k = 0 then g_K s j else if k = 1 then g_G s j else g_T s j))
theorem db_pos {x v : Nat} (h : DB x = some v) : 1 ≤ v := by
  rcases db_six h with h | h | h | h | h | h <;> omega

set_option maxRecDepth 100000 in
set_option maxHeartbeats 4000000 in
theorem c_X3_brokenAt (l : Launch) (D : va_G) (cI : ClassId) (s0 s1 ls : Nat) (sg : Nat → Nat) (hl : ls ≤ 96) (hsg : ∀ z, sg z < 256) : CT l yX3_brokenAt cX3_brokenAt 4 (some .int) { frames := 2, cells := 0, slots := 0, locals := 42 } D cI [.ref s0] [(s0, .inr (3, [.int (nI ls), .ref s1])), (s1, .inl (cI, 96, .inl (nIf sg)))] (fun zr zw => ((BRK ls sg = none) ∧ zr = some (.int (-1)) ∧ zw = [(s0, .inr (3, [.int (nI ls), .ref s1])), (s1, .inl (cI, 96, .inl (nIf sg)))]) ∨ (∃ b : Nat, (BRK ls sg = some b) ∧ (b ≤ 96) ∧ zr = some (.int (nI b)) ∧ zw = [(s0, .inr (3, [.int (nI ls), .ref s1])), (s1, .inl (cI, 96, .inl (nIf sg)))])) := by
  refine CT_of RX3 rfl (by decide +kernel) (Nat.le_of_ble_eq_true rfl) (fun E hnE zC zT => ?_)
  have hA : ∀ q, (ev_s E).heap.size ≤ q → ev_A E q := fun q h => by rw [zT.2]; exact Or.inr h
  show VV E 0 0 0 [(0, .ref s0)] [] [(s0, .inr (3, [.int (nI ls), .ref s1])), (s1, .inl (cI, 96, .inl (nIf sg)))]
  refine v_al_n 1 zC dX3_brokenAt_0 0 rfl ?_
  refine v_gf 4 0 zC dX3_brokenAt_1 gf_X3_15 rfl rfl ?_
  refine v_ifn_ne 9 7 zC dX3_brokenAt_4 (fun h_1 => ?_) (fun h_1 => ?_)
  ·
    have h0z := h_1
    refine v_ic (v := (nI 0)) 10 zC dX3_brokenAt_9 (by decide +kernel) ?_
    refine v_is_n (lv2 := [(1, .int (nI 0)), (0, .ref s0)]) 11 zC dX3_brokenAt_10 (by rw [hnE]; decide) rfl ?_
    have lp11 : ∀ (mz : Nat) (a : Nat) (f : Nat), (a ≤ ls) → (ls ≤ a + f) → (BR ls sg f a = BR ls sg ls 0) → (ls ≠ 0) → ls - a = mz → VV E 0 0 11 [(1, .int (nI a)), (0, .ref s0)] [] [(s0, .inr (3, [.int (nI ls), .ref s1])), (s1, .inl (cI, 96, .inl (nIf sg)))] := by
      intro mz
      induction mz using Nat.strongRecOn with
      | _ mz ih11 =>
      intro a f ha hf hb h0 hm11
      refine v_il_n 12 zC dX3_brokenAt_11 0 rfl ?_
      refine v_al_n 13 zC dX3_brokenAt_12 1 rfl ?_
      refine v_gf 16 0 zC dX3_brokenAt_13 gf_X3_15 rfl rfl ?_
      refine v_icmpn_ge 82 19 zC dX3_brokenAt_16 (fun h_2 => ?_) (fun h_2 => ?_)
      ·
        have hend9 := h_2
        refine v_ic (v := (-1)) 83 zC dX3_brokenAt_82 (by decide +kernel) ?_
        refine v_iret zC zT dX3_brokenAt_83  ?_
        first | (have g9 := hz0; exact Or.inr ⟨0, by unfold BRK; rw [if_pos hz0], by omega, rfl, rfl⟩) | (have g9 := hend9; exact Or.inl ⟨brk_s h0 hb (br_e (by omega)), rfl, rfl⟩) | (have g9 := hdn9; exact Or.inr ⟨_, brk_s h0 hb (br_b ha9 hf (sc_0 hdn9)), by omega, rfl, rfl⟩) | (have g9 := hgf9; exact Or.inr ⟨_, brk_s h0 hb (br_b ha9 hf (sc_1 hd9 hq1 (by omega) hgf9)), by omega, rfl, rfl⟩) | (have g9 := hln9; exact Or.inr ⟨_, brk_s h0 hb (br_b ha9 hf (sc_2i hd9 (by omega) hq1 (fun z => by omega))), by omega, rfl, rfl⟩) | exact Or.inr ⟨_, brk_s h0 hb (br_b ha9 hf (sc_2i hd9 (by omega) hq1 (fun z => he59 z.2))), by omega, rfl, rfl⟩
      ·
        have ha9 := h_2
        have hga := hsg a
        refine v_al_n 20 zC dX3_brokenAt_19 1 rfl ?_
        refine v_al_n 21 zC dX3_brokenAt_20 1 rfl ?_
        refine v_il_n 22 zC dX3_brokenAt_21 0 rfl ?_
        refine v_cV (As := [.int (nI a)]) (st := [.ref s0]) 25 0 [0, 1] zC dX3_brokenAt_22 hA (c_X3_sign (ev_l E) (ev_D E) cI (s0 := s0) (s1 := s1) (ls := ls) (sg := sg) (i := a) (hl := (by first | omega | assumption | rfl | (simp only []; omega) | decide)) (hi := (by first | omega | assumption | rfl | (simp only []; omega) | decide))) cf_X3_sign lk_X3_19 rfl rfl rfl rfl rfl (by decide +kernel) (Nat.le_of_ble_eq_true rfl) (fun rv_3 wv_4 hp_5 hm_6 => ?_)
        clear hm_6
        rcases hp_5 with ⟨hq_7, rfl, rfl⟩ | ⟨hq_8, rfl, rfl⟩
        ·
          show VV E 0 0 25 [(1, .int (nI a)), (0, .ref s0)] [.int (-1), .ref s0] [(s0, .inr (3, [.int (nI ls), .ref s1])), (s1, .inl (cI, 96, .inl (nIf sg)))]
          exfalso; omega
        ·
          show VV E 0 0 25 [(1, .int (nI a)), (0, .ref s0)] [.int (nI (sg a)), .ref s0] [(s0, .inr (3, [.int (nI ls), .ref s1])), (s1, .inl (cI, 96, .inl (nIf sg)))]
          refine v_cV (As := [.int (nI (sg a))]) (st := []) 28 0 [] zC dX3_brokenAt_25 hA (c_X3_digitsBehind (ev_l E) (ev_D E) cI (s0 := s0) (x := (sg a)) (hx := (by first | omega | assumption | rfl | (simp only []; omega) | decide))) cf_X3_digitsBehind lk_X3_23 rfl rfl rfl rfl rfl (by decide +kernel) (Nat.le_of_ble_eq_true rfl) (fun rv_9 wv_10 hp_11 hm_12 => ?_)
          clear hm_12
          rcases hp_11 with ⟨hq_13, rfl, rfl⟩ | ⟨v_14, hq_15, hv_16, rfl, rfl⟩
          ·
            show VV E 0 0 28 [(1, .int (nI a)), (0, .ref s0)] [.int (-1)] [(s0, .inr (3, [.int (nI ls), .ref s1])), (s1, .inl (cI, 96, .inl (nIf sg)))]
            have hdn9 := hq_13
            refine v_is_n (lv2 := [(2, .int (-1)), (1, .int (nI a)), (0, .ref s0)]) 29 zC dX3_brokenAt_28 (by rw [hnE]; decide) rfl ?_
            refine v_il_n 30 zC dX3_brokenAt_29 0 rfl ?_
            refine v_if_ge 35 33 zC dX3_brokenAt_30 (fun z => absurd z (by decide +kernel)) (fun _ => ?_)
            refine v_il_n 34 zC dX3_brokenAt_33 1 rfl ?_
            refine v_iret zC zT dX3_brokenAt_34  ?_
            first | (have g9 := hz0; exact Or.inr ⟨0, by unfold BRK; rw [if_pos hz0], by omega, rfl, rfl⟩) | (have g9 := hend9; exact Or.inl ⟨brk_s h0 hb (br_e (by omega)), rfl, rfl⟩) | (have g9 := hdn9; exact Or.inr ⟨_, brk_s h0 hb (br_b ha9 hf (sc_0 hdn9)), by omega, rfl, rfl⟩) | (have g9 := hgf9; exact Or.inr ⟨_, brk_s h0 hb (br_b ha9 hf (sc_1 hd9 hq1 (by omega) hgf9)), by omega, rfl, rfl⟩) | (have g9 := hln9; exact Or.inr ⟨_, brk_s h0 hb (br_b ha9 hf (sc_2i hd9 (by omega) hq1 (fun z => by omega))), by omega, rfl, rfl⟩) | exact Or.inr ⟨_, brk_s h0 hb (br_b ha9 hf (sc_2i hd9 (by omega) hq1 (fun z => he59 z.2))), by omega, rfl, rfl⟩
          ·
            show VV E 0 0 28 [(1, .int (nI a)), (0, .ref s0)] [.int (nI v_14)] [(s0, .inr (3, [.int (nI ls), .ref s1])), (s1, .inl (cI, 96, .inl (nIf sg)))]
            obtain ⟨v_9, he_v⟩ : ∃ z, z = v_14 := ⟨_, rfl⟩
            subst he_v
            have hd9 := hq_15
            have hv5 := hv_16
            refine v_is_n (lv2 := [(2, .int (nI v_9)), (1, .int (nI a)), (0, .ref s0)]) 29 zC dX3_brokenAt_28 (by rw [hnE]; decide) rfl ?_
            refine v_il_n 30 zC dX3_brokenAt_29 0 rfl ?_
            refine v_ifn_ge 35 33 zC dX3_brokenAt_30 (fun _ => ?_) (fun z => absurd z (Nat.not_lt_zero _))
            refine v_inc (v := (nI (a + 1))) (lv2 := [(1, .int (nI (a + 1))), (2, .int (nI v_9)), (0, .ref s0)]) 38 zC dX3_brokenAt_35 (j := 1) rfl (nI_add _ 1) (by rw [hnE]; decide) rfl ?_
            refine v_ic (v := (nI 0)) 39 zC dX3_brokenAt_38 (by decide +kernel) ?_
            refine v_is_n (lv2 := [(3, .int (nI 0)), (1, .int (nI (a + 1))), (2, .int (nI v_9)), (0, .ref s0)]) 40 zC dX3_brokenAt_39 (by rw [hnE]; decide) rfl ?_
            have lp40 : ∀ (mz : Nat) (i : Nat), (fs (fun i => !(DIG ls sg (a + 1 + i))) i = none) → (i ≤ v_9) → (a + 1 + i ≤ ls) → v_9 - i = mz → VV E 0 0 40 [(3, .int (nI i)), (1, .int (nI (a + 1 + i))), (2, .int (nI v_9)), (0, .ref s0)] [] [(s0, .inr (3, [.int (nI ls), .ref s1])), (s1, .inl (cI, 96, .inl (nIf sg)))] := by
              intro mz
              induction mz using Nat.strongRecOn with
              | _ mz ih40 =>
              intro i hq1 hi hil hm40
              refine v_il_n 41 zC dX3_brokenAt_40 0 rfl ?_
              refine v_il_n 42 zC dX3_brokenAt_41 2 rfl ?_
              refine v_icmpn_ge 64 45 zC dX3_brokenAt_42 (fun h_19 => ?_) (fun h_19 => ?_)
              ·
                refine v_al_n 65 zC dX3_brokenAt_64 3 rfl ?_
                refine v_il_n 66 zC dX3_brokenAt_65 1 rfl ?_
                refine v_cV (As := [.int (nI (a + 1 + i))]) (st := []) 69 0 [0, 1] zC dX3_brokenAt_66 hA (c_X3_sign (ev_l E) (ev_D E) cI (s0 := s0) (s1 := s1) (ls := ls) (sg := sg) (i := (a + 1 + i)) (hl := (by first | omega | assumption | rfl | (simp only []; omega) | decide)) (hi := (by first | omega | assumption | rfl | (simp only []; omega) | decide))) cf_X3_sign lk_X3_19 rfl rfl rfl rfl rfl (by decide +kernel) (Nat.le_of_ble_eq_true rfl) (fun rv_20 wv_21 hp_22 hm_23 => ?_)
                clear hm_23
                rcases hp_22 with ⟨hq_24, rfl, rfl⟩ | ⟨hq_25, rfl, rfl⟩
                ·
                  show VV E 0 0 69 [(3, .int (nI i)), (1, .int (nI (a + 1 + i))), (2, .int (nI v_9)), (0, .ref s0)] [.int (-1)] [(s0, .inr (3, [.int (nI ls), .ref s1])), (s1, .inl (cI, 96, .inl (nIf sg)))]
                  have hln9 := hq_24
                  refine v_bp (v := (nI 59)) 71 zC dX3_brokenAt_69 (by decide +kernel) ?_
                  refine v_icmp_eq 76 74 zC dX3_brokenAt_71 (fun z => absurd z (by decide +kernel)) (fun _ => ?_)
                  refine v_il_n 75 zC dX3_brokenAt_74 1 rfl ?_
                  refine v_iret zC zT dX3_brokenAt_75  ?_
                  first | (have g9 := hz0; exact Or.inr ⟨0, by unfold BRK; rw [if_pos hz0], by omega, rfl, rfl⟩) | (have g9 := hend9; exact Or.inl ⟨brk_s h0 hb (br_e (by omega)), rfl, rfl⟩) | (have g9 := hdn9; exact Or.inr ⟨_, brk_s h0 hb (br_b ha9 hf (sc_0 hdn9)), by omega, rfl, rfl⟩) | (have g9 := hgf9; exact Or.inr ⟨_, brk_s h0 hb (br_b ha9 hf (sc_1 hd9 hq1 (by omega) hgf9)), by omega, rfl, rfl⟩) | (have g9 := hln9; exact Or.inr ⟨_, brk_s h0 hb (br_b ha9 hf (sc_2i hd9 (by omega) hq1 (fun z => by omega))), by omega, rfl, rfl⟩) | exact Or.inr ⟨_, brk_s h0 hb (br_b ha9 hf (sc_2i hd9 (by omega) hq1 (fun z => he59 z.2))), by omega, rfl, rfl⟩
                ·
                  show VV E 0 0 69 [(3, .int (nI i)), (1, .int (nI (a + 1 + i))), (2, .int (nI v_9)), (0, .ref s0)] [.int (nI (sg (a + 1 + i)))] [(s0, .inr (3, [.int (nI ls), .ref s1])), (s1, .inl (cI, 96, .inl (nIf sg)))]
                  have hl9 := hq_25
                  have hgi := hsg (a + 1 + i)
                  refine v_bp (v := (nI 59)) 71 zC dX3_brokenAt_69 (by decide +kernel) ?_
                  refine v_icmpn_eq 76 74 zC dX3_brokenAt_71 (fun h_27 => ?_) (fun h_27 => ?_)
                  ·
                    have he59 := h_27
                    refine v_inc (v := (nI ((a + 1 + i) + 1))) (lv2 := [(1, .int (nI ((a + 1 + i) + 1))), (3, .int (nI i)), (2, .int (nI v_9)), (0, .ref s0)]) 79 zC dX3_brokenAt_76 (j := 1) rfl (nI_add _ 1) (by rw [hnE]; decide) rfl ?_
                    refine v_goto 11 zC dX3_brokenAt_79 ?_
                    refine v_lvs (lv2 := [(1, .int (nI ((a + 1 + i) + 1))), (0, .ref s0)]) [0, 3] rfl ?_
                    exact ih11 _ (by omega) ((a + 1 + i) + 1) (f - 1) (by omega) (by omega) (by rw [← hb, br_n ha9 hf (sc_3i hd9 (by omega) hq1 ⟨hl9, he59⟩), nxt_v hd9, show v_9 = i by omega, show a + i + 2 = a + 1 + i + 1 by omega]) h0 rfl
                  ·
                    have he59 := h_27
                    refine v_il_n 75 zC dX3_brokenAt_74 1 rfl ?_
                    refine v_iret zC zT dX3_brokenAt_75  ?_
                    first | (have g9 := hz0; exact Or.inr ⟨0, by unfold BRK; rw [if_pos hz0], by omega, rfl, rfl⟩) | (have g9 := hend9; exact Or.inl ⟨brk_s h0 hb (br_e (by omega)), rfl, rfl⟩) | (have g9 := hdn9; exact Or.inr ⟨_, brk_s h0 hb (br_b ha9 hf (sc_0 hdn9)), by omega, rfl, rfl⟩) | (have g9 := hgf9; exact Or.inr ⟨_, brk_s h0 hb (br_b ha9 hf (sc_1 hd9 hq1 (by omega) hgf9)), by omega, rfl, rfl⟩) | (have g9 := hln9; exact Or.inr ⟨_, brk_s h0 hb (br_b ha9 hf (sc_2i hd9 (by omega) hq1 (fun z => by omega))), by omega, rfl, rfl⟩) | exact Or.inr ⟨_, brk_s h0 hb (br_b ha9 hf (sc_2i hd9 (by omega) hq1 (fun z => he59 z.2))), by omega, rfl, rfl⟩
              ·
                refine v_al_n 46 zC dX3_brokenAt_45 3 rfl ?_
                refine v_il_n 47 zC dX3_brokenAt_46 1 rfl ?_
                refine v_cV (As := [.int (nI (a + 1 + i))]) (st := []) 50 0 [0, 1] zC dX3_brokenAt_47 hA (c_X3_isDigit (ev_l E) (ev_D E) cI (s0 := s0) (s1 := s1) (ls := ls) (sg := sg) (i := (a + 1 + i)) (hl := (by first | omega | assumption | rfl | (simp only []; omega) | decide)) (hi := (by first | omega | assumption | rfl | (simp only []; omega) | decide)) (hsg := (by first | omega | assumption | rfl | (simp only []; omega) | decide))) cf_X3_isDigit lk_X3_26 rfl rfl rfl rfl rfl (by decide +kernel) (Nat.le_of_ble_eq_true rfl) (fun rv_28 wv_29 hp_30 hm_31 => ?_)
                clear hm_31
                obtain ⟨rfl, rfl⟩ := hp_30
                show VV E 0 0 50 [(3, .int (nI i)), (1, .int (nI (a + 1 + i))), (2, .int (nI v_9)), (0, .ref s0)] [.int (bz (DIG ls sg (a + 1 + i)))] [(s0, .inr (3, [.int (nI ls), .ref s1])), (s1, .inl (cI, 96, .inl (nIf sg)))]
                refine v_ifb_ne 55 53 zC dX3_brokenAt_50 (fun h_32 => ?_) (fun h_32 => ?_)
                ·
                  have hg9 := h_32
                  refine v_inc (v := (nI ((a + 1 + i) + 1))) (lv2 := [(1, .int (nI ((a + 1 + i) + 1))), (3, .int (nI i)), (2, .int (nI v_9)), (0, .ref s0)]) 58 zC dX3_brokenAt_55 (j := 1) rfl (nI_add _ 1) (by rw [hnE]; decide) rfl ?_
                  refine v_inc (v := (nI (i + 1))) (lv2 := [(3, .int (nI (i + 1))), (1, .int (nI ((a + 1 + i) + 1))), (2, .int (nI v_9)), (0, .ref s0)]) 61 zC dX3_brokenAt_58 (j := 1) rfl (nI_add _ 1) (by rw [hnE]; decide) rfl ?_
                  refine v_goto 40 zC dX3_brokenAt_61 ?_
                  refine v_lvs (lv2 := [(3, .int (nI (i + 1))), (1, .int (nI (a + 1 + (i + 1)))), (2, .int (nI v_9)), (0, .ref s0)]) [0, 1, 2, 3] rfl ?_
                  exact ih40 _ (by omega) (i + 1) (fs_0 hq1 (by rw [hg9]; rfl)) (by first | omega | assumption | rfl | (simp only []; omega) | decide) (by have := (dig_d hg9).1; omega) rfl
                ·
                  have hgf9 := h_32
                  refine v_il_n 54 zC dX3_brokenAt_53 1 rfl ?_
                  refine v_iret zC zT dX3_brokenAt_54  ?_
                  first | (have g9 := hz0; exact Or.inr ⟨0, by unfold BRK; rw [if_pos hz0], by omega, rfl, rfl⟩) | (have g9 := hend9; exact Or.inl ⟨brk_s h0 hb (br_e (by omega)), rfl, rfl⟩) | (have g9 := hdn9; exact Or.inr ⟨_, brk_s h0 hb (br_b ha9 hf (sc_0 hdn9)), by omega, rfl, rfl⟩) | (have g9 := hgf9; exact Or.inr ⟨_, brk_s h0 hb (br_b ha9 hf (sc_1 hd9 hq1 (by omega) hgf9)), by omega, rfl, rfl⟩) | (have g9 := hln9; exact Or.inr ⟨_, brk_s h0 hb (br_b ha9 hf (sc_2i hd9 (by omega) hq1 (fun z => by omega))), by omega, rfl, rfl⟩) | exact Or.inr ⟨_, brk_s h0 hb (br_b ha9 hf (sc_2i hd9 (by omega) hq1 (fun z => he59 z.2))), by omega, rfl, rfl⟩
            refine v_lvs (lv2 := [(3, .int (nI 0)), (1, .int (nI (a + 1 + 0))), (2, .int (nI v_9)), (0, .ref s0)]) [0, 1, 2, 3] rfl ?_
            exact lp40 _ 0 rfl (by first | omega | assumption | rfl | (simp only []; omega) | decide) (by first | omega | assumption | rfl | (simp only []; omega) | decide) rfl
    refine v_lvs (lv2 := [(1, .int (nI 0)), (0, .ref s0)]) [0, 1] rfl ?_
    exact lp11 _ 0 ls (Nat.zero_le _) (by omega) rfl h0z rfl
  ·
    have hz0 := h_1
    refine v_ic (v := (nI 0)) 8 zC dX3_brokenAt_7 (by decide +kernel) ?_
    refine v_iret zC zT dX3_brokenAt_8  ?_
    first | (have g9 := hz0; exact Or.inr ⟨0, by unfold BRK; rw [if_pos hz0], by omega, rfl, rfl⟩) | (have g9 := hend9; exact Or.inl ⟨brk_s h0 hb (br_e (by omega)), rfl, rfl⟩) | (have g9 := hdn9; exact Or.inr ⟨_, brk_s h0 hb (br_b ha9 hf (sc_0 hdn9)), by omega, rfl, rfl⟩) | (have g9 := hgf9; exact Or.inr ⟨_, brk_s h0 hb (br_b ha9 hf (sc_1 hd9 hq1 (by omega) hgf9)), by omega, rfl, rfl⟩) | (have g9 := hln9; exact Or.inr ⟨_, brk_s h0 hb (br_b ha9 hf (sc_2i hd9 (by omega) hq1 (fun z => by omega))), by omega, rfl, rfl⟩) | exact Or.inr ⟨_, brk_s h0 hb (br_b ha9 hf (sc_2i hd9 (by omega) hq1 (fun z => he59 z.2))), by omega, rfl, rfl⟩
set_option maxRecDepth 100000 in
set_option maxHeartbeats 4000000 in
theorem c_X3_tellStatement (l : Launch) (D : va_G) (cI : ClassId) (s0 s1 ls : Nat) (sg : Nat → Nat) (i : Nat) (a0 a1 a2 a3 a4 a5 a6 : Nat) (n m sh aw : Nat) (ki op fa K G T : Nat → Nat) (hl : ls ≤ 96) (hi : i < ls) (hsg : ∀ z, sg z < 256) (hs : SC ls sg i = none) (hw : FW n m sh ki op fa K G T) : CT l yX3_tellStatement cX3_tellStatement 3 (some .boolean) { frames := 3, cells := 0, slots := 0, locals := 63 } D cI [.ref s0, .int (nI i), .ref a0] [(s0, .inr (3, [.int (nI ls), .ref s1])), (s1, .inl (cI, 96, .inl (nIf sg))), (a0, .inr (2, [.int (nI n), .int (nI m), .int (nI sh), .int (nI aw), .ref a1, .ref a2, .ref a3, .ref a4, .ref a5, .ref a6])), (a1, .inl (cI, 7, .inl (nIf ki))), (a2, .inl (cI, 7, .inl (nIf op))), (a3, .inl (cI, 7, .inl (nIf fa))), (a4, .inl (cI, 6, .inl (nIf K))), (a5, .inl (cI, 6, .inl (nIf G))), (a6, .inl (cI, 6, .inl (nIf T)))] (fun zr zw => ((TS sg i (n, m, sh, aw, ki, op, fa, K, G, T) = none) ∧ zr = some (.int (nI 0)) ∧ zw = [(s0, .inr (3, [.int (nI ls), .ref s1])), (s1, .inl (cI, 96, .inl (nIf sg))), (a0, .inr (2, [.int (nI n), .int (nI m), .int (nI sh), .int (nI aw), .ref a1, .ref a2, .ref a3, .ref a4, .ref a5, .ref a6])), (a1, .inl (cI, 7, .inl (nIf ki))), (a2, .inl (cI, 7, .inl (nIf op))), (a3, .inl (cI, 7, .inl (nIf fa))), (a4, .inl (cI, 6, .inl (nIf K))), (a5, .inl (cI, 6, .inl (nIf G))), (a6, .inl (cI, 6, .inl (nIf T)))]) ∨ (∃ n2 : Nat, ∃ m2 : Nat, ∃ sh2 : Nat, ∃ ki2 : Nat → Nat, ∃ op2 : Nat → Nat, ∃ fa2 : Nat → Nat, ∃ K2 : Nat → Nat, ∃ G2 : Nat → Nat, ∃ T2 : Nat → Nat, (TS sg i (n, m, sh, aw, ki, op, fa, K, G, T) = some (n2, m2, sh2, aw, ki2, op2, fa2, K2, G2, T2)) ∧ (FW n2 m2 sh2 ki2 op2 fa2 K2 G2 T2) ∧ zr = some (.int (nI 1)) ∧ zw = [(s0, .inr (3, [.int (nI ls), .ref s1])), (s1, .inl (cI, 96, .inl (nIf sg))), (a0, .inr (2, [.int (nI n2), .int (nI m2), .int (nI sh2), .int (nI aw), .ref a1, .ref a2, .ref a3, .ref a4, .ref a5, .ref a6])), (a1, .inl (cI, 7, .inl (nIf ki2))), (a2, .inl (cI, 7, .inl (nIf op2))), (a3, .inl (cI, 7, .inl (nIf fa2))), (a4, .inl (cI, 6, .inl (nIf K2))), (a5, .inl (cI, 6, .inl (nIf G2))), (a6, .inl (cI, 6, .inl (nIf T2)))])) := by
  refine CT_of RX3 rfl (by decide +kernel) (Nat.le_of_ble_eq_true rfl) (fun E hnE zC zT => ?_)
  have hA : ∀ q, (ev_s E).heap.size ≤ q → ev_A E q := fun q h => by rw [zT.2]; exact Or.inr h
  obtain ⟨hn, hm, hsh, hki, hop, hfa, hK, hG, hT, vki, vop, vfa, vK, vG, vT⟩ := id hw
  have hgi := hsg i
  show VV E 0 0 0 [(0, .ref s0), (1, .int (nI i)), (2, .ref a0)] [] [(s0, .inr (3, [.int (nI ls), .ref s1])), (s1, .inl (cI, 96, .inl (nIf sg))), (a0, .inr (2, [.int (nI n), .int (nI m), .int (nI sh), .int (nI aw), .ref a1, .ref a2, .ref a3, .ref a4, .ref a5, .ref a6])), (a1, .inl (cI, 7, .inl (nIf ki))), (a2, .inl (cI, 7, .inl (nIf op))), (a3, .inl (cI, 7, .inl (nIf fa))), (a4, .inl (cI, 6, .inl (nIf K))), (a5, .inl (cI, 6, .inl (nIf G))), (a6, .inl (cI, 6, .inl (nIf T)))]
  refine v_al_n 1 zC dX3_tellStatement_0 0 rfl ?_
  refine v_il_n 2 zC dX3_tellStatement_1 1 rfl ?_
  refine v_cV (As := [.int (nI i)]) (st := []) 5 0 [0, 1] zC dX3_tellStatement_2 hA (c_X3_sign (ev_l E) (ev_D E) cI (s0 := s0) (s1 := s1) (ls := ls) (sg := sg) (i := i) (hl := (by first | omega | assumption | rfl | (simp only []; omega) | decide)) (hi := (by first | omega | assumption | rfl | (simp only []; omega) | decide))) cf_X3_sign lk_X3_19 rfl rfl rfl rfl rfl (by decide +kernel) (Nat.le_of_ble_eq_true rfl) (fun rv_1 wv_2 hp_3 hm_4 => ?_)
  clear hm_4
  rcases hp_3 with ⟨hq_5, rfl, rfl⟩ | ⟨hq_6, rfl, rfl⟩
  ·
    show VV E 0 0 5 [(0, .ref s0), (1, .int (nI i)), (2, .ref a0)] [.int (-1)] [(s0, .inr (3, [.int (nI ls), .ref s1])), (s1, .inl (cI, 96, .inl (nIf sg))), (a0, .inr (2, [.int (nI n), .int (nI m), .int (nI sh), .int (nI aw), .ref a1, .ref a2, .ref a3, .ref a4, .ref a5, .ref a6])), (a1, .inl (cI, 7, .inl (nIf ki))), (a2, .inl (cI, 7, .inl (nIf op))), (a3, .inl (cI, 7, .inl (nIf fa))), (a4, .inl (cI, 6, .inl (nIf K))), (a5, .inl (cI, 6, .inl (nIf G))), (a6, .inl (cI, 6, .inl (nIf T)))]
    exfalso; omega
  ·
    show VV E 0 0 5 [(0, .ref s0), (1, .int (nI i)), (2, .ref a0)] [.int (nI (sg i))] [(s0, .inr (3, [.int (nI ls), .ref s1])), (s1, .inl (cI, 96, .inl (nIf sg))), (a0, .inr (2, [.int (nI n), .int (nI m), .int (nI sh), .int (nI aw), .ref a1, .ref a2, .ref a3, .ref a4, .ref a5, .ref a6])), (a1, .inl (cI, 7, .inl (nIf ki))), (a2, .inl (cI, 7, .inl (nIf op))), (a3, .inl (cI, 7, .inl (nIf fa))), (a4, .inl (cI, 6, .inl (nIf K))), (a5, .inl (cI, 6, .inl (nIf G))), (a6, .inl (cI, 6, .inl (nIf T)))]
    obtain ⟨v, hv, hdg, hl9, h59⟩ := sc_ok hs
    rcases db_six hv with ⟨hs9, he9⟩ | ⟨hs9, he9⟩ | ⟨hs9, he9⟩ | ⟨hs9, he9⟩ | ⟨hs9, he9⟩ | ⟨hs9, he9⟩
    ·
      subst he9
      have d0 : (i + 1) < ls ∧ 48 ≤ sg (i + 1) ∧ sg (i + 1) ≤ 57 := dig_d (hdg 0 (by omega))
      rw [hs9]
      refine v_tsw (off := 175) 180 zC dX3_tellStatement_5 (Or.inl (by decide +kernel)) ?_
      refine v_al_n 181 zC dX3_tellStatement_180 2 rfl ?_
      refine v_al_n 182 zC dX3_tellStatement_181 0 rfl ?_
      refine v_il_n 183 zC dX3_tellStatement_182 1 rfl ?_
      refine v_ic (v := (nI 1)) 184 zC dX3_tellStatement_183 (by decide +kernel) ?_
      refine v_iadd (v := (nI (i + 1))) 185 zC dX3_tellStatement_184 (nI_add _ _) ?_
      refine v_cV (As := [.int (nI (i + 1))]) (st := [.ref a0]) 188 0 [0, 1] zC dX3_tellStatement_185 hA (c_X3_digit (ev_l E) (ev_D E) cI (s0 := s0) (s1 := s1) (ls := ls) (sg := sg) (i := (i + 1)) (hl := (by first | omega | assumption | rfl | (simp only []; omega) | decide)) (hi := (by first | omega | assumption | rfl | (simp only []; omega) | decide)) (hsg := (by first | omega | assumption | rfl | (simp only []; omega) | decide)) (h48 := (by first | omega | assumption | rfl | (simp only []; omega) | decide))) cf_X3_digit lk_X3_30 rfl rfl rfl rfl rfl (by decide +kernel) (Nat.le_of_ble_eq_true rfl) (fun rv_7 wv_8 hp_9 hm_10 => ?_)
      clear hm_10
      obtain ⟨rfl, rfl⟩ := hp_9
      show VV E 0 0 188 [(0, .ref s0), (1, .int (nI i)), (2, .ref a0)] [.int (nI (sg (i + 1) - 48)), .ref a0] [(s0, .inr (3, [.int (nI ls), .ref s1])), (s1, .inl (cI, 96, .inl (nIf sg))), (a0, .inr (2, [.int (nI n), .int (nI m), .int (nI sh), .int (nI aw), .ref a1, .ref a2, .ref a3, .ref a4, .ref a5, .ref a6])), (a1, .inl (cI, 7, .inl (nIf ki))), (a2, .inl (cI, 7, .inl (nIf op))), (a3, .inl (cI, 7, .inl (nIf fa))), (a4, .inl (cI, 6, .inl (nIf K))), (a5, .inl (cI, 6, .inl (nIf G))), (a6, .inl (cI, 6, .inl (nIf T)))]
      refine v_cV (As := [.int (nI (sg (i + 1) - 48))]) (st := []) 191 2 [2] zC dX3_tellStatement_188 hA (c_X2_turnShut (ev_l E) (ev_D E) cI (a0 := a0) (a1 := a1) (a2 := a2) (a3 := a3) (a4 := a4) (a5 := a5) (a6 := a6) (n := n) (m := m) (sh := sh) (aw := aw) (p := (sg (i + 1) - 48)) (hn := (by first | omega | assumption | rfl | (simp only []; omega) | decide)) (hp := (by first | omega | assumption | rfl | (simp only []; omega) | decide))) cf_X2_turnShut lk_X3_49 rfl rfl rfl rfl rfl (by decide +kernel) (Nat.le_of_ble_eq_true rfl) (fun rv_11 wv_12 hp_13 hm_14 => ?_)
      clear hm_14
      rcases hp_13 with ⟨hq_15, rfl, rfl⟩ | ⟨hp_16, rfl, rfl⟩
      ·
        show VV E 0 0 191 [(0, .ref s0), (1, .int (nI i)), (2, .ref a0)] [.int (nI 0)] [(s0, .inr (3, [.int (nI ls), .ref s1])), (s1, .inl (cI, 96, .inl (nIf sg))), (a0, .inr (2, [.int (nI n), .int (nI m), .int (nI sh), .int (nI aw), .ref a1, .ref a2, .ref a3, .ref a4, .ref a5, .ref a6])), (a1, .inl (cI, 7, .inl (nIf ki))), (a2, .inl (cI, 7, .inl (nIf op))), (a3, .inl (cI, 7, .inl (nIf fa))), (a4, .inl (cI, 6, .inl (nIf K))), (a5, .inl (cI, 6, .inl (nIf G))), (a6, .inl (cI, 6, .inl (nIf T)))]
        refine v_zret zC zT dX3_tellStatement_191 (by decide +kernel) ?_
        first | exact Or.inl ⟨ts_p0 hs9 (by assumption), rfl, rfl⟩ | exact Or.inl ⟨ts_d0 hs9 d1.2.2 d2.2.2 (by assumption), rfl, rfl⟩ | exact Or.inl ⟨ts_o0 (Or.inl hs9) (by assumption), rfl, rfl⟩ | exact Or.inl ⟨ts_o0 (Or.inr hs9) (by assumption), rfl, rfl⟩ | exact Or.inl ⟨ts_s0 hs9 (by assumption), rfl, rfl⟩ | exact Or.inl ⟨ts_k0 hs9 (by assumption), rfl, rfl⟩ | exact Or.inr ⟨_, _, _, _, _, _, _, _, _, ts_p1 hs9 (by assumption) (by assumption), ⟨by omega, hm, Nat.lt_of_lt_of_le hsh (Nat.pow_le_pow_right (by decide) (by omega)), un_b hki (by omega), un_b hop (by decide), un_b hfa (by decide), hK, hG, hT, un_v vki (by omega), un_v vop (by omega), un_v vfa (by omega), vK, vG, vT⟩, rfl, rfl⟩ | exact Or.inr ⟨_, _, _, _, _, _, _, _, _, ts_d1 hs9 (by assumption) (by assumption), ⟨hn, by omega, hsh, hki, hop, hfa, un_b hK (by omega), un_b hG (by omega), un_b hT (by omega), vki, vop, vfa, un_v vK (by omega), un_v vG (by omega), un_v vT (by omega)⟩, rfl, rfl⟩ | exact Or.inr ⟨_, _, _, _, _, _, _, _, _, ts_o1 hs9 (by assumption) (by assumption) (by assumption), ⟨hn, hm, hsh, hki, un_b hop (opv_lt (hop _) (by assumption)), hfa, hK, hG, hT, vki, un_v vop (by omega), vfa, vK, vG, vT⟩, rfl, rfl⟩ | exact Or.inr ⟨_, _, _, _, _, _, _, _, _, ts_c1 hs9 (by assumption) (by assumption) (by assumption), ⟨hn, hm, hsh, hki, un_b hop (opv_lt (hop _) (by assumption)), hfa, hK, hG, hT, vki, un_v vop (by omega), vfa, vK, vG, vT⟩, rfl, rfl⟩ | exact Or.inr ⟨_, _, _, _, _, _, _, _, _, ts_s1 hs9 (by assumption), ⟨hn, hm, Nat.xor_lt_two_pow hsh (pow_lt2 (by assumption)), hki, hop, hfa, hK, hG, hT, vki, vop, vfa, vK, vG, vT⟩, rfl, rfl⟩ | exact Or.inr ⟨_, _, _, _, _, _, _, _, _, ts_k1 hs9 (by assumption), ⟨hn, hm, hsh, hki, hop, un_b hfa (Nat.or_lt_two_pow (n := 10) (hfa _) (pow_lt2 (by omega))), hK, hG, hT, vki, vop, un_v vfa (by omega), vK, vG, vT⟩, rfl, rfl⟩
      ·
        show VV E 0 0 191 [(0, .ref s0), (1, .int (nI i)), (2, .ref a0)] [.int (nI 1)] [(s0, .inr (3, [.int (nI ls), .ref s1])), (s1, .inl (cI, 96, .inl (nIf sg))), (a0, .inr (2, [.int (nI n), .int (nI m), .int (nI (sh ^^^ 2 ^ (sg (i + 1) - 48))), .int (nI aw), .ref a1, .ref a2, .ref a3, .ref a4, .ref a5, .ref a6])), (a1, .inl (cI, 7, .inl (nIf ki))), (a2, .inl (cI, 7, .inl (nIf op))), (a3, .inl (cI, 7, .inl (nIf fa))), (a4, .inl (cI, 6, .inl (nIf K))), (a5, .inl (cI, 6, .inl (nIf G))), (a6, .inl (cI, 6, .inl (nIf T)))]
        refine v_zret zC zT dX3_tellStatement_191 (by decide +kernel) ?_
        first | exact Or.inl ⟨ts_p0 hs9 (by assumption), rfl, rfl⟩ | exact Or.inl ⟨ts_d0 hs9 d1.2.2 d2.2.2 (by assumption), rfl, rfl⟩ | exact Or.inl ⟨ts_o0 (Or.inl hs9) (by assumption), rfl, rfl⟩ | exact Or.inl ⟨ts_o0 (Or.inr hs9) (by assumption), rfl, rfl⟩ | exact Or.inl ⟨ts_s0 hs9 (by assumption), rfl, rfl⟩ | exact Or.inl ⟨ts_k0 hs9 (by assumption), rfl, rfl⟩ | exact Or.inr ⟨_, _, _, _, _, _, _, _, _, ts_p1 hs9 (by assumption) (by assumption), ⟨by omega, hm, Nat.lt_of_lt_of_le hsh (Nat.pow_le_pow_right (by decide) (by omega)), un_b hki (by omega), un_b hop (by decide), un_b hfa (by decide), hK, hG, hT, un_v vki (by omega), un_v vop (by omega), un_v vfa (by omega), vK, vG, vT⟩, rfl, rfl⟩ | exact Or.inr ⟨_, _, _, _, _, _, _, _, _, ts_d1 hs9 (by assumption) (by assumption), ⟨hn, by omega, hsh, hki, hop, hfa, un_b hK (by omega), un_b hG (by omega), un_b hT (by omega), vki, vop, vfa, un_v vK (by omega), un_v vG (by omega), un_v vT (by omega)⟩, rfl, rfl⟩ | exact Or.inr ⟨_, _, _, _, _, _, _, _, _, ts_o1 hs9 (by assumption) (by assumption) (by assumption), ⟨hn, hm, hsh, hki, un_b hop (opv_lt (hop _) (by assumption)), hfa, hK, hG, hT, vki, un_v vop (by omega), vfa, vK, vG, vT⟩, rfl, rfl⟩ | exact Or.inr ⟨_, _, _, _, _, _, _, _, _, ts_c1 hs9 (by assumption) (by assumption) (by assumption), ⟨hn, hm, hsh, hki, un_b hop (opv_lt (hop _) (by assumption)), hfa, hK, hG, hT, vki, un_v vop (by omega), vfa, vK, vG, vT⟩, rfl, rfl⟩ | exact Or.inr ⟨_, _, _, _, _, _, _, _, _, ts_s1 hs9 (by assumption), ⟨hn, hm, Nat.xor_lt_two_pow hsh (pow_lt2 (by assumption)), hki, hop, hfa, hK, hG, hT, vki, vop, vfa, vK, vG, vT⟩, rfl, rfl⟩ | exact Or.inr ⟨_, _, _, _, _, _, _, _, _, ts_k1 hs9 (by assumption), ⟨hn, hm, hsh, hki, hop, un_b hfa (Nat.or_lt_two_pow (n := 10) (hfa _) (pow_lt2 (by omega))), hK, hG, hT, vki, vop, un_v vfa (by omega), vK, vG, vT⟩, rfl, rfl⟩
    ·
      subst he9
      have d0 : (i + 1) < ls ∧ 48 ≤ sg (i + 1) ∧ sg (i + 1) ≤ 57 := dig_d (hdg 0 (by omega))
      have d1 : (i + 2) < ls ∧ 48 ≤ sg (i + 2) ∧ sg (i + 2) ≤ 57 := dig_d (hdg 1 (by omega))
      have e1 : (i + 1 + 1) < ls ∧ 48 ≤ sg (i + 1 + 1) ∧ sg (i + 1 + 1) ≤ 57 := d1
      rw [hs9]
      refine v_tsw (off := 83) 88 zC dX3_tellStatement_5 (Or.inl (by decide +kernel)) ?_
      refine v_al_n 89 zC dX3_tellStatement_88 2 rfl ?_
      refine v_al_n 90 zC dX3_tellStatement_89 0 rfl ?_
      refine v_il_n 91 zC dX3_tellStatement_90 1 rfl ?_
      refine v_ic (v := (nI 1)) 92 zC dX3_tellStatement_91 (by decide +kernel) ?_
      refine v_iadd (v := (nI (i + 1))) 93 zC dX3_tellStatement_92 (nI_add _ _) ?_
      refine v_cV (As := [.int (nI (i + 1))]) (st := [.ref a0]) 96 0 [0, 1] zC dX3_tellStatement_93 hA (c_X3_pair (ev_l E) (ev_D E) cI (s0 := s0) (s1 := s1) (ls := ls) (sg := sg) (i := (i + 1)) (hl := (by first | omega | assumption | rfl | (simp only []; omega) | decide)) (hi := (by first | omega | assumption | rfl | (simp only []; omega) | decide)) (hsg := (by first | omega | assumption | rfl | (simp only []; omega) | decide)) (h48 := (by first | omega | assumption | rfl | (simp only []; omega) | decide)) (h49 := (by first | omega | assumption | rfl | (simp only []; omega) | decide))) cf_X3_pair lk_X3_33 rfl rfl rfl rfl rfl (by decide +kernel) (Nat.le_of_ble_eq_true rfl) (fun rv_17 wv_18 hp_19 hm_20 => ?_)
      clear hm_20
      obtain ⟨rfl, rfl⟩ := hp_19
      show VV E 0 0 96 [(0, .ref s0), (1, .int (nI i)), (2, .ref a0)] [.int (nI (10 * (sg (i + 1) - 48) + (sg ((i + 1) + 1) - 48))), .ref a0] [(s0, .inr (3, [.int (nI ls), .ref s1])), (s1, .inl (cI, 96, .inl (nIf sg))), (a0, .inr (2, [.int (nI n), .int (nI m), .int (nI sh), .int (nI aw), .ref a1, .ref a2, .ref a3, .ref a4, .ref a5, .ref a6])), (a1, .inl (cI, 7, .inl (nIf ki))), (a2, .inl (cI, 7, .inl (nIf op))), (a3, .inl (cI, 7, .inl (nIf fa))), (a4, .inl (cI, 6, .inl (nIf K))), (a5, .inl (cI, 6, .inl (nIf G))), (a6, .inl (cI, 6, .inl (nIf T)))]
      refine v_cV (As := [.int (nI (10 * (sg (i + 1) - 48) + (sg ((i + 1) + 1) - 48)))]) (st := []) 99 2 [2, 3, 4, 5] zC dX3_tellStatement_96 hA (c_X2_addPerson (ev_l E) (ev_D E) cI (a0 := a0) (a1 := a1) (a2 := a2) (a3 := a3) (a4 := a4) (a5 := a5) (a6 := a6) (n := n) (m := m) (sh := sh) (aw := aw) (ki := ki) (op := op) (fa := fa) (k := (10 * (sg (i + 1) - 48) + (sg ((i + 1) + 1) - 48))) (hn := (by first | omega | assumption | rfl | (simp only []; omega) | decide)) (hsh := (by first | omega | assumption | rfl | (simp only []; omega) | decide)) (hk := (by first | omega | assumption | rfl | (simp only []; omega) | decide))) cf_X2_addPerson lk_X3_36 rfl rfl rfl rfl rfl (by decide +kernel) (Nat.le_of_ble_eq_true rfl) (fun rv_21 wv_22 hp_23 hm_24 => ?_)
      clear hm_24
      rcases hp_23 with ⟨hq_25, rfl, rfl⟩ | ⟨hk_26, hn_27, rfl, rfl⟩
      ·
        show VV E 0 0 99 [(0, .ref s0), (1, .int (nI i)), (2, .ref a0)] [.int (nI 0)] [(s0, .inr (3, [.int (nI ls), .ref s1])), (s1, .inl (cI, 96, .inl (nIf sg))), (a0, .inr (2, [.int (nI n), .int (nI m), .int (nI sh), .int (nI aw), .ref a1, .ref a2, .ref a3, .ref a4, .ref a5, .ref a6])), (a1, .inl (cI, 7, .inl (nIf ki))), (a2, .inl (cI, 7, .inl (nIf op))), (a3, .inl (cI, 7, .inl (nIf fa))), (a4, .inl (cI, 6, .inl (nIf K))), (a5, .inl (cI, 6, .inl (nIf G))), (a6, .inl (cI, 6, .inl (nIf T)))]
        refine v_zret zC zT dX3_tellStatement_99 (by decide +kernel) ?_
        first | exact Or.inl ⟨ts_p0 hs9 (by assumption), rfl, rfl⟩ | exact Or.inl ⟨ts_d0 hs9 d1.2.2 d2.2.2 (by assumption), rfl, rfl⟩ | exact Or.inl ⟨ts_o0 (Or.inl hs9) (by assumption), rfl, rfl⟩ | exact Or.inl ⟨ts_o0 (Or.inr hs9) (by assumption), rfl, rfl⟩ | exact Or.inl ⟨ts_s0 hs9 (by assumption), rfl, rfl⟩ | exact Or.inl ⟨ts_k0 hs9 (by assumption), rfl, rfl⟩ | exact Or.inr ⟨_, _, _, _, _, _, _, _, _, ts_p1 hs9 (by assumption) (by assumption), ⟨by omega, hm, Nat.lt_of_lt_of_le hsh (Nat.pow_le_pow_right (by decide) (by omega)), un_b hki (by omega), un_b hop (by decide), un_b hfa (by decide), hK, hG, hT, un_v vki (by omega), un_v vop (by omega), un_v vfa (by omega), vK, vG, vT⟩, rfl, rfl⟩ | exact Or.inr ⟨_, _, _, _, _, _, _, _, _, ts_d1 hs9 (by assumption) (by assumption), ⟨hn, by omega, hsh, hki, hop, hfa, un_b hK (by omega), un_b hG (by omega), un_b hT (by omega), vki, vop, vfa, un_v vK (by omega), un_v vG (by omega), un_v vT (by omega)⟩, rfl, rfl⟩ | exact Or.inr ⟨_, _, _, _, _, _, _, _, _, ts_o1 hs9 (by assumption) (by assumption) (by assumption), ⟨hn, hm, hsh, hki, un_b hop (opv_lt (hop _) (by assumption)), hfa, hK, hG, hT, vki, un_v vop (by omega), vfa, vK, vG, vT⟩, rfl, rfl⟩ | exact Or.inr ⟨_, _, _, _, _, _, _, _, _, ts_c1 hs9 (by assumption) (by assumption) (by assumption), ⟨hn, hm, hsh, hki, un_b hop (opv_lt (hop _) (by assumption)), hfa, hK, hG, hT, vki, un_v vop (by omega), vfa, vK, vG, vT⟩, rfl, rfl⟩ | exact Or.inr ⟨_, _, _, _, _, _, _, _, _, ts_s1 hs9 (by assumption), ⟨hn, hm, Nat.xor_lt_two_pow hsh (pow_lt2 (by assumption)), hki, hop, hfa, hK, hG, hT, vki, vop, vfa, vK, vG, vT⟩, rfl, rfl⟩ | exact Or.inr ⟨_, _, _, _, _, _, _, _, _, ts_k1 hs9 (by assumption), ⟨hn, hm, hsh, hki, hop, un_b hfa (Nat.or_lt_two_pow (n := 10) (hfa _) (pow_lt2 (by omega))), hK, hG, hT, vki, vop, un_v vfa (by omega), vK, vG, vT⟩, rfl, rfl⟩
      ·
        show VV E 0 0 99 [(0, .ref s0), (1, .int (nI i)), (2, .ref a0)] [.int (nI 1)] [(s0, .inr (3, [.int (nI ls), .ref s1])), (s1, .inl (cI, 96, .inl (nIf sg))), (a0, .inr (2, [.int (nI (n + 1)), .int (nI m), .int (nI sh), .int (nI aw), .ref a1, .ref a2, .ref a3, .ref a4, .ref a5, .ref a6])), (a1, .inl (cI, 7, .inl (nIf (un ki n (10 * (sg (i + 1) - 48) + (sg ((i + 1) + 1) - 48)))))), (a2, .inl (cI, 7, .inl (nIf (un op n 0)))), (a3, .inl (cI, 7, .inl (nIf (un fa n 0)))), (a4, .inl (cI, 6, .inl (nIf K))), (a5, .inl (cI, 6, .inl (nIf G))), (a6, .inl (cI, 6, .inl (nIf T)))]
        refine v_zret zC zT dX3_tellStatement_99 (by decide +kernel) ?_
        first | exact Or.inl ⟨ts_p0 hs9 (by assumption), rfl, rfl⟩ | exact Or.inl ⟨ts_d0 hs9 d1.2.2 d2.2.2 (by assumption), rfl, rfl⟩ | exact Or.inl ⟨ts_o0 (Or.inl hs9) (by assumption), rfl, rfl⟩ | exact Or.inl ⟨ts_o0 (Or.inr hs9) (by assumption), rfl, rfl⟩ | exact Or.inl ⟨ts_s0 hs9 (by assumption), rfl, rfl⟩ | exact Or.inl ⟨ts_k0 hs9 (by assumption), rfl, rfl⟩ | exact Or.inr ⟨_, _, _, _, _, _, _, _, _, ts_p1 hs9 (by assumption) (by assumption), ⟨by omega, hm, Nat.lt_of_lt_of_le hsh (Nat.pow_le_pow_right (by decide) (by omega)), un_b hki (by omega), un_b hop (by decide), un_b hfa (by decide), hK, hG, hT, un_v vki (by omega), un_v vop (by omega), un_v vfa (by omega), vK, vG, vT⟩, rfl, rfl⟩ | exact Or.inr ⟨_, _, _, _, _, _, _, _, _, ts_d1 hs9 (by assumption) (by assumption), ⟨hn, by omega, hsh, hki, hop, hfa, un_b hK (by omega), un_b hG (by omega), un_b hT (by omega), vki, vop, vfa, un_v vK (by omega), un_v vG (by omega), un_v vT (by omega)⟩, rfl, rfl⟩ | exact Or.inr ⟨_, _, _, _, _, _, _, _, _, ts_o1 hs9 (by assumption) (by assumption) (by assumption), ⟨hn, hm, hsh, hki, un_b hop (opv_lt (hop _) (by assumption)), hfa, hK, hG, hT, vki, un_v vop (by omega), vfa, vK, vG, vT⟩, rfl, rfl⟩ | exact Or.inr ⟨_, _, _, _, _, _, _, _, _, ts_c1 hs9 (by assumption) (by assumption) (by assumption), ⟨hn, hm, hsh, hki, un_b hop (opv_lt (hop _) (by assumption)), hfa, hK, hG, hT, vki, un_v vop (by omega), vfa, vK, vG, vT⟩, rfl, rfl⟩ | exact Or.inr ⟨_, _, _, _, _, _, _, _, _, ts_s1 hs9 (by assumption), ⟨hn, hm, Nat.xor_lt_two_pow hsh (pow_lt2 (by assumption)), hki, hop, hfa, hK, hG, hT, vki, vop, vfa, vK, vG, vT⟩, rfl, rfl⟩ | exact Or.inr ⟨_, _, _, _, _, _, _, _, _, ts_k1 hs9 (by assumption), ⟨hn, hm, hsh, hki, hop, un_b hfa (Nat.or_lt_two_pow (n := 10) (hfa _) (pow_lt2 (by omega))), hK, hG, hT, vki, vop, un_v vfa (by omega), vK, vG, vT⟩, rfl, rfl⟩
    ·
      subst he9
      have d0 : (i + 1) < ls ∧ 48 ≤ sg (i + 1) ∧ sg (i + 1) ≤ 57 := dig_d (hdg 0 (by omega))
      have d1 : (i + 2) < ls ∧ 48 ≤ sg (i + 2) ∧ sg (i + 2) ≤ 57 := dig_d (hdg 1 (by omega))
      rw [hs9]
      refine v_tsw (off := 187) 192 zC dX3_tellStatement_5 (Or.inl (by decide +kernel)) ?_
      refine v_al_n 193 zC dX3_tellStatement_192 2 rfl ?_
      refine v_al_n 194 zC dX3_tellStatement_193 0 rfl ?_
      refine v_il_n 195 zC dX3_tellStatement_194 1 rfl ?_
      refine v_ic (v := (nI 1)) 196 zC dX3_tellStatement_195 (by decide +kernel) ?_
      refine v_iadd (v := (nI (i + 1))) 197 zC dX3_tellStatement_196 (nI_add _ _) ?_
      refine v_cV (As := [.int (nI (i + 1))]) (st := [.ref a0]) 200 0 [0, 1] zC dX3_tellStatement_197 hA (c_X3_digit (ev_l E) (ev_D E) cI (s0 := s0) (s1 := s1) (ls := ls) (sg := sg) (i := (i + 1)) (hl := (by first | omega | assumption | rfl | (simp only []; omega) | decide)) (hi := (by first | omega | assumption | rfl | (simp only []; omega) | decide)) (hsg := (by first | omega | assumption | rfl | (simp only []; omega) | decide)) (h48 := (by first | omega | assumption | rfl | (simp only []; omega) | decide))) cf_X3_digit lk_X3_30 rfl rfl rfl rfl rfl (by decide +kernel) (Nat.le_of_ble_eq_true rfl) (fun rv_28 wv_29 hp_30 hm_31 => ?_)
      clear hm_31
      obtain ⟨rfl, rfl⟩ := hp_30
      show VV E 0 0 200 [(0, .ref s0), (1, .int (nI i)), (2, .ref a0)] [.int (nI (sg (i + 1) - 48)), .ref a0] [(s0, .inr (3, [.int (nI ls), .ref s1])), (s1, .inl (cI, 96, .inl (nIf sg))), (a0, .inr (2, [.int (nI n), .int (nI m), .int (nI sh), .int (nI aw), .ref a1, .ref a2, .ref a3, .ref a4, .ref a5, .ref a6])), (a1, .inl (cI, 7, .inl (nIf ki))), (a2, .inl (cI, 7, .inl (nIf op))), (a3, .inl (cI, 7, .inl (nIf fa))), (a4, .inl (cI, 6, .inl (nIf K))), (a5, .inl (cI, 6, .inl (nIf G))), (a6, .inl (cI, 6, .inl (nIf T)))]
      refine v_al_n 201 zC dX3_tellStatement_200 0 rfl ?_
      refine v_il_n 202 zC dX3_tellStatement_201 1 rfl ?_
      refine v_ic (v := (nI 2)) 203 zC dX3_tellStatement_202 (by decide +kernel) ?_
      refine v_iadd (v := (nI (i + 2))) 204 zC dX3_tellStatement_203 (nI_add _ _) ?_
      refine v_cV (As := [.int (nI (i + 2))]) (st := [.int (nI (sg (i + 1) - 48)), .ref a0]) 207 0 [0, 1] zC dX3_tellStatement_204 hA (c_X3_digit (ev_l E) (ev_D E) cI (s0 := s0) (s1 := s1) (ls := ls) (sg := sg) (i := (i + 2)) (hl := (by first | omega | assumption | rfl | (simp only []; omega) | decide)) (hi := (by first | omega | assumption | rfl | (simp only []; omega) | decide)) (hsg := (by first | omega | assumption | rfl | (simp only []; omega) | decide)) (h48 := (by first | omega | assumption | rfl | (simp only []; omega) | decide))) cf_X3_digit lk_X3_30 rfl rfl rfl rfl rfl (by decide +kernel) (Nat.le_of_ble_eq_true rfl) (fun rv_32 wv_33 hp_34 hm_35 => ?_)
      clear hm_35
      obtain ⟨rfl, rfl⟩ := hp_34
      show VV E 0 0 207 [(0, .ref s0), (1, .int (nI i)), (2, .ref a0)] [.int (nI (sg (i + 2) - 48)), .int (nI (sg (i + 1) - 48)), .ref a0] [(s0, .inr (3, [.int (nI ls), .ref s1])), (s1, .inl (cI, 96, .inl (nIf sg))), (a0, .inr (2, [.int (nI n), .int (nI m), .int (nI sh), .int (nI aw), .ref a1, .ref a2, .ref a3, .ref a4, .ref a5, .ref a6])), (a1, .inl (cI, 7, .inl (nIf ki))), (a2, .inl (cI, 7, .inl (nIf op))), (a3, .inl (cI, 7, .inl (nIf fa))), (a4, .inl (cI, 6, .inl (nIf K))), (a5, .inl (cI, 6, .inl (nIf G))), (a6, .inl (cI, 6, .inl (nIf T)))]
      refine v_cV (As := [.int (nI (sg (i + 1) - 48)), .int (nI (sg (i + 2) - 48))]) (st := []) 210 2 [2, 5] zC dX3_tellStatement_207 hA (c_X2_teach (ev_l E) (ev_D E) cI (a0 := a0) (a1 := a1) (a2 := a2) (a3 := a3) (a4 := a4) (a5 := a5) (a6 := a6) (n := n) (m := m) (sh := sh) (aw := aw) (fa := fa) (p := (sg (i + 1) - 48)) (f := (sg (i + 2) - 48)) (hn := (by first | omega | assumption | rfl | (simp only []; omega) | decide)) (hp := (by first | omega | assumption | rfl | (simp only []; omega) | decide)) (hf := (by first | omega | assumption | rfl | (simp only []; omega) | decide))) cf_X2_teach lk_X3_52 rfl rfl rfl rfl rfl (by decide +kernel) (Nat.le_of_ble_eq_true rfl) (fun rv_36 wv_37 hp_38 hm_39 => ?_)
      clear hm_39
      rcases hp_38 with ⟨hq_40, rfl, rfl⟩ | ⟨hp_41, rfl, rfl⟩
      ·
        show VV E 0 0 210 [(0, .ref s0), (1, .int (nI i)), (2, .ref a0)] [.int (nI 0)] [(s0, .inr (3, [.int (nI ls), .ref s1])), (s1, .inl (cI, 96, .inl (nIf sg))), (a0, .inr (2, [.int (nI n), .int (nI m), .int (nI sh), .int (nI aw), .ref a1, .ref a2, .ref a3, .ref a4, .ref a5, .ref a6])), (a1, .inl (cI, 7, .inl (nIf ki))), (a2, .inl (cI, 7, .inl (nIf op))), (a3, .inl (cI, 7, .inl (nIf fa))), (a4, .inl (cI, 6, .inl (nIf K))), (a5, .inl (cI, 6, .inl (nIf G))), (a6, .inl (cI, 6, .inl (nIf T)))]
        refine v_zret zC zT dX3_tellStatement_210 (by decide +kernel) ?_
        first | exact Or.inl ⟨ts_p0 hs9 (by assumption), rfl, rfl⟩ | exact Or.inl ⟨ts_d0 hs9 d1.2.2 d2.2.2 (by assumption), rfl, rfl⟩ | exact Or.inl ⟨ts_o0 (Or.inl hs9) (by assumption), rfl, rfl⟩ | exact Or.inl ⟨ts_o0 (Or.inr hs9) (by assumption), rfl, rfl⟩ | exact Or.inl ⟨ts_s0 hs9 (by assumption), rfl, rfl⟩ | exact Or.inl ⟨ts_k0 hs9 (by assumption), rfl, rfl⟩ | exact Or.inr ⟨_, _, _, _, _, _, _, _, _, ts_p1 hs9 (by assumption) (by assumption), ⟨by omega, hm, Nat.lt_of_lt_of_le hsh (Nat.pow_le_pow_right (by decide) (by omega)), un_b hki (by omega), un_b hop (by decide), un_b hfa (by decide), hK, hG, hT, un_v vki (by omega), un_v vop (by omega), un_v vfa (by omega), vK, vG, vT⟩, rfl, rfl⟩ | exact Or.inr ⟨_, _, _, _, _, _, _, _, _, ts_d1 hs9 (by assumption) (by assumption), ⟨hn, by omega, hsh, hki, hop, hfa, un_b hK (by omega), un_b hG (by omega), un_b hT (by omega), vki, vop, vfa, un_v vK (by omega), un_v vG (by omega), un_v vT (by omega)⟩, rfl, rfl⟩ | exact Or.inr ⟨_, _, _, _, _, _, _, _, _, ts_o1 hs9 (by assumption) (by assumption) (by assumption), ⟨hn, hm, hsh, hki, un_b hop (opv_lt (hop _) (by assumption)), hfa, hK, hG, hT, vki, un_v vop (by omega), vfa, vK, vG, vT⟩, rfl, rfl⟩ | exact Or.inr ⟨_, _, _, _, _, _, _, _, _, ts_c1 hs9 (by assumption) (by assumption) (by assumption), ⟨hn, hm, hsh, hki, un_b hop (opv_lt (hop _) (by assumption)), hfa, hK, hG, hT, vki, un_v vop (by omega), vfa, vK, vG, vT⟩, rfl, rfl⟩ | exact Or.inr ⟨_, _, _, _, _, _, _, _, _, ts_s1 hs9 (by assumption), ⟨hn, hm, Nat.xor_lt_two_pow hsh (pow_lt2 (by assumption)), hki, hop, hfa, hK, hG, hT, vki, vop, vfa, vK, vG, vT⟩, rfl, rfl⟩ | exact Or.inr ⟨_, _, _, _, _, _, _, _, _, ts_k1 hs9 (by assumption), ⟨hn, hm, hsh, hki, hop, un_b hfa (Nat.or_lt_two_pow (n := 10) (hfa _) (pow_lt2 (by omega))), hK, hG, hT, vki, vop, un_v vfa (by omega), vK, vG, vT⟩, rfl, rfl⟩
      ·
        show VV E 0 0 210 [(0, .ref s0), (1, .int (nI i)), (2, .ref a0)] [.int (nI 1)] [(s0, .inr (3, [.int (nI ls), .ref s1])), (s1, .inl (cI, 96, .inl (nIf sg))), (a0, .inr (2, [.int (nI n), .int (nI m), .int (nI sh), .int (nI aw), .ref a1, .ref a2, .ref a3, .ref a4, .ref a5, .ref a6])), (a1, .inl (cI, 7, .inl (nIf ki))), (a2, .inl (cI, 7, .inl (nIf op))), (a3, .inl (cI, 7, .inl (nIf (un fa (sg (i + 1) - 48) (fa (sg (i + 1) - 48) ||| 2 ^ (sg (i + 2) - 48)))))), (a4, .inl (cI, 6, .inl (nIf K))), (a5, .inl (cI, 6, .inl (nIf G))), (a6, .inl (cI, 6, .inl (nIf T)))]
        refine v_zret zC zT dX3_tellStatement_210 (by decide +kernel) ?_
        first | exact Or.inl ⟨ts_p0 hs9 (by assumption), rfl, rfl⟩ | exact Or.inl ⟨ts_d0 hs9 d1.2.2 d2.2.2 (by assumption), rfl, rfl⟩ | exact Or.inl ⟨ts_o0 (Or.inl hs9) (by assumption), rfl, rfl⟩ | exact Or.inl ⟨ts_o0 (Or.inr hs9) (by assumption), rfl, rfl⟩ | exact Or.inl ⟨ts_s0 hs9 (by assumption), rfl, rfl⟩ | exact Or.inl ⟨ts_k0 hs9 (by assumption), rfl, rfl⟩ | exact Or.inr ⟨_, _, _, _, _, _, _, _, _, ts_p1 hs9 (by assumption) (by assumption), ⟨by omega, hm, Nat.lt_of_lt_of_le hsh (Nat.pow_le_pow_right (by decide) (by omega)), un_b hki (by omega), un_b hop (by decide), un_b hfa (by decide), hK, hG, hT, un_v vki (by omega), un_v vop (by omega), un_v vfa (by omega), vK, vG, vT⟩, rfl, rfl⟩ | exact Or.inr ⟨_, _, _, _, _, _, _, _, _, ts_d1 hs9 (by assumption) (by assumption), ⟨hn, by omega, hsh, hki, hop, hfa, un_b hK (by omega), un_b hG (by omega), un_b hT (by omega), vki, vop, vfa, un_v vK (by omega), un_v vG (by omega), un_v vT (by omega)⟩, rfl, rfl⟩ | exact Or.inr ⟨_, _, _, _, _, _, _, _, _, ts_o1 hs9 (by assumption) (by assumption) (by assumption), ⟨hn, hm, hsh, hki, un_b hop (opv_lt (hop _) (by assumption)), hfa, hK, hG, hT, vki, un_v vop (by omega), vfa, vK, vG, vT⟩, rfl, rfl⟩ | exact Or.inr ⟨_, _, _, _, _, _, _, _, _, ts_c1 hs9 (by assumption) (by assumption) (by assumption), ⟨hn, hm, hsh, hki, un_b hop (opv_lt (hop _) (by assumption)), hfa, hK, hG, hT, vki, un_v vop (by omega), vfa, vK, vG, vT⟩, rfl, rfl⟩ | exact Or.inr ⟨_, _, _, _, _, _, _, _, _, ts_s1 hs9 (by assumption), ⟨hn, hm, Nat.xor_lt_two_pow hsh (pow_lt2 (by assumption)), hki, hop, hfa, hK, hG, hT, vki, vop, vfa, vK, vG, vT⟩, rfl, rfl⟩ | exact Or.inr ⟨_, _, _, _, _, _, _, _, _, ts_k1 hs9 (by assumption), ⟨hn, hm, hsh, hki, hop, un_b hfa (Nat.or_lt_two_pow (n := 10) (hfa _) (pow_lt2 (by omega))), hK, hG, hT, vki, vop, un_v vfa (by omega), vK, vG, vT⟩, rfl, rfl⟩
    ·
      subst he9
      have d0 : (i + 1) < ls ∧ 48 ≤ sg (i + 1) ∧ sg (i + 1) ≤ 57 := dig_d (hdg 0 (by omega))
      have d1 : (i + 2) < ls ∧ 48 ≤ sg (i + 2) ∧ sg (i + 2) ≤ 57 := dig_d (hdg 1 (by omega))
      have d2 : (i + 3) < ls ∧ 48 ≤ sg (i + 3) ∧ sg (i + 3) ≤ 57 := dig_d (hdg 2 (by omega))
      rw [hs9]
      refine v_tsw (off := 95) 100 zC dX3_tellStatement_5 (Or.inl (by decide +kernel)) ?_
      refine v_al_n 101 zC dX3_tellStatement_100 2 rfl ?_
      refine v_al_n 102 zC dX3_tellStatement_101 0 rfl ?_
      refine v_il_n 103 zC dX3_tellStatement_102 1 rfl ?_
      refine v_ic (v := (nI 1)) 104 zC dX3_tellStatement_103 (by decide +kernel) ?_
      refine v_iadd (v := (nI (i + 1))) 105 zC dX3_tellStatement_104 (nI_add _ _) ?_
      refine v_cV (As := [.int (nI (i + 1))]) (st := [.ref a0]) 108 0 [0, 1] zC dX3_tellStatement_105 hA (c_X3_digit (ev_l E) (ev_D E) cI (s0 := s0) (s1 := s1) (ls := ls) (sg := sg) (i := (i + 1)) (hl := (by first | omega | assumption | rfl | (simp only []; omega) | decide)) (hi := (by first | omega | assumption | rfl | (simp only []; omega) | decide)) (hsg := (by first | omega | assumption | rfl | (simp only []; omega) | decide)) (h48 := (by first | omega | assumption | rfl | (simp only []; omega) | decide))) cf_X3_digit lk_X3_30 rfl rfl rfl rfl rfl (by decide +kernel) (Nat.le_of_ble_eq_true rfl) (fun rv_42 wv_43 hp_44 hm_45 => ?_)
      clear hm_45
      obtain ⟨rfl, rfl⟩ := hp_44
      show VV E 0 0 108 [(0, .ref s0), (1, .int (nI i)), (2, .ref a0)] [.int (nI (sg (i + 1) - 48)), .ref a0] [(s0, .inr (3, [.int (nI ls), .ref s1])), (s1, .inl (cI, 96, .inl (nIf sg))), (a0, .inr (2, [.int (nI n), .int (nI m), .int (nI sh), .int (nI aw), .ref a1, .ref a2, .ref a3, .ref a4, .ref a5, .ref a6])), (a1, .inl (cI, 7, .inl (nIf ki))), (a2, .inl (cI, 7, .inl (nIf op))), (a3, .inl (cI, 7, .inl (nIf fa))), (a4, .inl (cI, 6, .inl (nIf K))), (a5, .inl (cI, 6, .inl (nIf G))), (a6, .inl (cI, 6, .inl (nIf T)))]
      refine v_al_n 109 zC dX3_tellStatement_108 0 rfl ?_
      refine v_il_n 110 zC dX3_tellStatement_109 1 rfl ?_
      refine v_ic (v := (nI 2)) 111 zC dX3_tellStatement_110 (by decide +kernel) ?_
      refine v_iadd (v := (nI (i + 2))) 112 zC dX3_tellStatement_111 (nI_add _ _) ?_
      refine v_cV (As := [.int (nI (i + 2))]) (st := [.int (nI (sg (i + 1) - 48)), .ref a0]) 115 0 [0, 1] zC dX3_tellStatement_112 hA (c_X3_digit (ev_l E) (ev_D E) cI (s0 := s0) (s1 := s1) (ls := ls) (sg := sg) (i := (i + 2)) (hl := (by first | omega | assumption | rfl | (simp only []; omega) | decide)) (hi := (by first | omega | assumption | rfl | (simp only []; omega) | decide)) (hsg := (by first | omega | assumption | rfl | (simp only []; omega) | decide)) (h48 := (by first | omega | assumption | rfl | (simp only []; omega) | decide))) cf_X3_digit lk_X3_30 rfl rfl rfl rfl rfl (by decide +kernel) (Nat.le_of_ble_eq_true rfl) (fun rv_46 wv_47 hp_48 hm_49 => ?_)
      clear hm_49
      obtain ⟨rfl, rfl⟩ := hp_48
      show VV E 0 0 115 [(0, .ref s0), (1, .int (nI i)), (2, .ref a0)] [.int (nI (sg (i + 2) - 48)), .int (nI (sg (i + 1) - 48)), .ref a0] [(s0, .inr (3, [.int (nI ls), .ref s1])), (s1, .inl (cI, 96, .inl (nIf sg))), (a0, .inr (2, [.int (nI n), .int (nI m), .int (nI sh), .int (nI aw), .ref a1, .ref a2, .ref a3, .ref a4, .ref a5, .ref a6])), (a1, .inl (cI, 7, .inl (nIf ki))), (a2, .inl (cI, 7, .inl (nIf op))), (a3, .inl (cI, 7, .inl (nIf fa))), (a4, .inl (cI, 6, .inl (nIf K))), (a5, .inl (cI, 6, .inl (nIf G))), (a6, .inl (cI, 6, .inl (nIf T)))]
      refine v_al_n 116 zC dX3_tellStatement_115 0 rfl ?_
      refine v_il_n 117 zC dX3_tellStatement_116 1 rfl ?_
      refine v_ic (v := (nI 3)) 118 zC dX3_tellStatement_117 (by decide +kernel) ?_
      refine v_iadd (v := (nI (i + 3))) 119 zC dX3_tellStatement_118 (nI_add _ _) ?_
      refine v_cV (As := [.int (nI (i + 3))]) (st := [.int (nI (sg (i + 2) - 48)), .int (nI (sg (i + 1) - 48)), .ref a0]) 122 0 [0, 1] zC dX3_tellStatement_119 hA (c_X3_digit (ev_l E) (ev_D E) cI (s0 := s0) (s1 := s1) (ls := ls) (sg := sg) (i := (i + 3)) (hl := (by first | omega | assumption | rfl | (simp only []; omega) | decide)) (hi := (by first | omega | assumption | rfl | (simp only []; omega) | decide)) (hsg := (by first | omega | assumption | rfl | (simp only []; omega) | decide)) (h48 := (by first | omega | assumption | rfl | (simp only []; omega) | decide))) cf_X3_digit lk_X3_30 rfl rfl rfl rfl rfl (by decide +kernel) (Nat.le_of_ble_eq_true rfl) (fun rv_50 wv_51 hp_52 hm_53 => ?_)
      clear hm_53
      obtain ⟨rfl, rfl⟩ := hp_52
      show VV E 0 0 122 [(0, .ref s0), (1, .int (nI i)), (2, .ref a0)] [.int (nI (sg (i + 3) - 48)), .int (nI (sg (i + 2) - 48)), .int (nI (sg (i + 1) - 48)), .ref a0] [(s0, .inr (3, [.int (nI ls), .ref s1])), (s1, .inl (cI, 96, .inl (nIf sg))), (a0, .inr (2, [.int (nI n), .int (nI m), .int (nI sh), .int (nI aw), .ref a1, .ref a2, .ref a3, .ref a4, .ref a5, .ref a6])), (a1, .inl (cI, 7, .inl (nIf ki))), (a2, .inl (cI, 7, .inl (nIf op))), (a3, .inl (cI, 7, .inl (nIf fa))), (a4, .inl (cI, 6, .inl (nIf K))), (a5, .inl (cI, 6, .inl (nIf G))), (a6, .inl (cI, 6, .inl (nIf T)))]
      refine v_cV (As := [.int (nI (sg (i + 1) - 48)), .int (nI (sg (i + 2) - 48)), .int (nI (sg (i + 3) - 48))]) (st := []) 125 2 [2, 6, 7, 8] zC dX3_tellStatement_122 hA (c_X2_addDead (ev_l E) (ev_D E) cI (a0 := a0) (a1 := a1) (a2 := a2) (a3 := a3) (a4 := a4) (a5 := a5) (a6 := a6) (n := n) (m := m) (sh := sh) (aw := aw) (K := K) (G := G) (T := T) (k := (sg (i + 1) - 48)) (g := (sg (i + 2) - 48)) (t := (sg (i + 3) - 48)) (hm := (by first | omega | assumption | rfl | (simp only []; omega) | decide)) (hk := (by first | omega | assumption | rfl | (simp only []; omega) | decide)) (hg := (by first | omega | assumption | rfl | (simp only []; omega) | decide)) (ht := (by first | omega | assumption | rfl | (simp only []; omega) | decide))) cf_X2_addDead lk_X3_41 rfl rfl rfl rfl rfl (by decide +kernel) (Nat.le_of_ble_eq_true rfl) (fun rv_54 wv_55 hp_56 hm_57 => ?_)
      clear hm_57
      rcases hp_56 with ⟨hq_58, rfl, rfl⟩ | ⟨hk_59, hg_60, ht_61, hm_62, rfl, rfl⟩
      ·
        show VV E 0 0 125 [(0, .ref s0), (1, .int (nI i)), (2, .ref a0)] [.int (nI 0)] [(s0, .inr (3, [.int (nI ls), .ref s1])), (s1, .inl (cI, 96, .inl (nIf sg))), (a0, .inr (2, [.int (nI n), .int (nI m), .int (nI sh), .int (nI aw), .ref a1, .ref a2, .ref a3, .ref a4, .ref a5, .ref a6])), (a1, .inl (cI, 7, .inl (nIf ki))), (a2, .inl (cI, 7, .inl (nIf op))), (a3, .inl (cI, 7, .inl (nIf fa))), (a4, .inl (cI, 6, .inl (nIf K))), (a5, .inl (cI, 6, .inl (nIf G))), (a6, .inl (cI, 6, .inl (nIf T)))]
        refine v_zret zC zT dX3_tellStatement_125 (by decide +kernel) ?_
        first | exact Or.inl ⟨ts_p0 hs9 (by assumption), rfl, rfl⟩ | exact Or.inl ⟨ts_d0 hs9 d1.2.2 d2.2.2 (by assumption), rfl, rfl⟩ | exact Or.inl ⟨ts_o0 (Or.inl hs9) (by assumption), rfl, rfl⟩ | exact Or.inl ⟨ts_o0 (Or.inr hs9) (by assumption), rfl, rfl⟩ | exact Or.inl ⟨ts_s0 hs9 (by assumption), rfl, rfl⟩ | exact Or.inl ⟨ts_k0 hs9 (by assumption), rfl, rfl⟩ | exact Or.inr ⟨_, _, _, _, _, _, _, _, _, ts_p1 hs9 (by assumption) (by assumption), ⟨by omega, hm, Nat.lt_of_lt_of_le hsh (Nat.pow_le_pow_right (by decide) (by omega)), un_b hki (by omega), un_b hop (by decide), un_b hfa (by decide), hK, hG, hT, un_v vki (by omega), un_v vop (by omega), un_v vfa (by omega), vK, vG, vT⟩, rfl, rfl⟩ | exact Or.inr ⟨_, _, _, _, _, _, _, _, _, ts_d1 hs9 (by assumption) (by assumption), ⟨hn, by omega, hsh, hki, hop, hfa, un_b hK (by omega), un_b hG (by omega), un_b hT (by omega), vki, vop, vfa, un_v vK (by omega), un_v vG (by omega), un_v vT (by omega)⟩, rfl, rfl⟩ | exact Or.inr ⟨_, _, _, _, _, _, _, _, _, ts_o1 hs9 (by assumption) (by assumption) (by assumption), ⟨hn, hm, hsh, hki, un_b hop (opv_lt (hop _) (by assumption)), hfa, hK, hG, hT, vki, un_v vop (by omega), vfa, vK, vG, vT⟩, rfl, rfl⟩ | exact Or.inr ⟨_, _, _, _, _, _, _, _, _, ts_c1 hs9 (by assumption) (by assumption) (by assumption), ⟨hn, hm, hsh, hki, un_b hop (opv_lt (hop _) (by assumption)), hfa, hK, hG, hT, vki, un_v vop (by omega), vfa, vK, vG, vT⟩, rfl, rfl⟩ | exact Or.inr ⟨_, _, _, _, _, _, _, _, _, ts_s1 hs9 (by assumption), ⟨hn, hm, Nat.xor_lt_two_pow hsh (pow_lt2 (by assumption)), hki, hop, hfa, hK, hG, hT, vki, vop, vfa, vK, vG, vT⟩, rfl, rfl⟩ | exact Or.inr ⟨_, _, _, _, _, _, _, _, _, ts_k1 hs9 (by assumption), ⟨hn, hm, hsh, hki, hop, un_b hfa (Nat.or_lt_two_pow (n := 10) (hfa _) (pow_lt2 (by omega))), hK, hG, hT, vki, vop, un_v vfa (by omega), vK, vG, vT⟩, rfl, rfl⟩
      ·
        show VV E 0 0 125 [(0, .ref s0), (1, .int (nI i)), (2, .ref a0)] [.int (nI 1)] [(s0, .inr (3, [.int (nI ls), .ref s1])), (s1, .inl (cI, 96, .inl (nIf sg))), (a0, .inr (2, [.int (nI n), .int (nI (m + 1)), .int (nI sh), .int (nI aw), .ref a1, .ref a2, .ref a3, .ref a4, .ref a5, .ref a6])), (a1, .inl (cI, 7, .inl (nIf ki))), (a2, .inl (cI, 7, .inl (nIf op))), (a3, .inl (cI, 7, .inl (nIf fa))), (a4, .inl (cI, 6, .inl (nIf (un K m (sg (i + 1) - 48))))), (a5, .inl (cI, 6, .inl (nIf (un G m (sg (i + 2) - 48))))), (a6, .inl (cI, 6, .inl (nIf (un T m (sg (i + 3) - 48)))))]
        refine v_zret zC zT dX3_tellStatement_125 (by decide +kernel) ?_
        first | exact Or.inl ⟨ts_p0 hs9 (by assumption), rfl, rfl⟩ | exact Or.inl ⟨ts_d0 hs9 d1.2.2 d2.2.2 (by assumption), rfl, rfl⟩ | exact Or.inl ⟨ts_o0 (Or.inl hs9) (by assumption), rfl, rfl⟩ | exact Or.inl ⟨ts_o0 (Or.inr hs9) (by assumption), rfl, rfl⟩ | exact Or.inl ⟨ts_s0 hs9 (by assumption), rfl, rfl⟩ | exact Or.inl ⟨ts_k0 hs9 (by assumption), rfl, rfl⟩ | exact Or.inr ⟨_, _, _, _, _, _, _, _, _, ts_p1 hs9 (by assumption) (by assumption), ⟨by omega, hm, Nat.lt_of_lt_of_le hsh (Nat.pow_le_pow_right (by decide) (by omega)), un_b hki (by omega), un_b hop (by decide), un_b hfa (by decide), hK, hG, hT, un_v vki (by omega), un_v vop (by omega), un_v vfa (by omega), vK, vG, vT⟩, rfl, rfl⟩ | exact Or.inr ⟨_, _, _, _, _, _, _, _, _, ts_d1 hs9 (by assumption) (by assumption), ⟨hn, by omega, hsh, hki, hop, hfa, un_b hK (by omega), un_b hG (by omega), un_b hT (by omega), vki, vop, vfa, un_v vK (by omega), un_v vG (by omega), un_v vT (by omega)⟩, rfl, rfl⟩ | exact Or.inr ⟨_, _, _, _, _, _, _, _, _, ts_o1 hs9 (by assumption) (by assumption) (by assumption), ⟨hn, hm, hsh, hki, un_b hop (opv_lt (hop _) (by assumption)), hfa, hK, hG, hT, vki, un_v vop (by omega), vfa, vK, vG, vT⟩, rfl, rfl⟩ | exact Or.inr ⟨_, _, _, _, _, _, _, _, _, ts_c1 hs9 (by assumption) (by assumption) (by assumption), ⟨hn, hm, hsh, hki, un_b hop (opv_lt (hop _) (by assumption)), hfa, hK, hG, hT, vki, un_v vop (by omega), vfa, vK, vG, vT⟩, rfl, rfl⟩ | exact Or.inr ⟨_, _, _, _, _, _, _, _, _, ts_s1 hs9 (by assumption), ⟨hn, hm, Nat.xor_lt_two_pow hsh (pow_lt2 (by assumption)), hki, hop, hfa, hK, hG, hT, vki, vop, vfa, vK, vG, vT⟩, rfl, rfl⟩ | exact Or.inr ⟨_, _, _, _, _, _, _, _, _, ts_k1 hs9 (by assumption), ⟨hn, hm, hsh, hki, hop, un_b hfa (Nat.or_lt_two_pow (n := 10) (hfa _) (pow_lt2 (by omega))), hK, hG, hT, vki, vop, un_v vfa (by omega), vK, vG, vT⟩, rfl, rfl⟩
    ·
      subst he9
      have d0 : (i + 1) < ls ∧ 48 ≤ sg (i + 1) ∧ sg (i + 1) ≤ 57 := dig_d (hdg 0 (by omega))
      have d1 : (i + 2) < ls ∧ 48 ≤ sg (i + 2) ∧ sg (i + 2) ≤ 57 := dig_d (hdg 1 (by omega))
      have d2 : (i + 3) < ls ∧ 48 ≤ sg (i + 3) ∧ sg (i + 3) ≤ 57 := dig_d (hdg 2 (by omega))
      have d3 : (i + 4) < ls ∧ 48 ≤ sg (i + 4) ∧ sg (i + 4) ≤ 57 := dig_d (hdg 3 (by omega))
      have d4 : (i + 4 + 1) < ls ∧ 48 ≤ sg (i + 4 + 1) ∧ sg (i + 4 + 1) ≤ 57 := dig_d (hdg 4 (by omega))
      have e2 : (i + 2 + 1) < ls ∧ 48 ≤ sg (i + 2 + 1) ∧ sg (i + 2 + 1) ≤ 57 := d2
      rw [hs9]
      refine v_tsw (off := 121) 126 zC dX3_tellStatement_5 (Or.inl (by decide +kernel)) ?_
      refine v_al_n 127 zC dX3_tellStatement_126 2 rfl ?_
      refine v_al_n 128 zC dX3_tellStatement_127 0 rfl ?_
      refine v_il_n 129 zC dX3_tellStatement_128 1 rfl ?_
      refine v_ic (v := (nI 1)) 130 zC dX3_tellStatement_129 (by decide +kernel) ?_
      refine v_iadd (v := (nI (i + 1))) 131 zC dX3_tellStatement_130 (nI_add _ _) ?_
      refine v_cV (As := [.int (nI (i + 1))]) (st := [.ref a0]) 134 0 [0, 1] zC dX3_tellStatement_131 hA (c_X3_digit (ev_l E) (ev_D E) cI (s0 := s0) (s1 := s1) (ls := ls) (sg := sg) (i := (i + 1)) (hl := (by first | omega | assumption | rfl | (simp only []; omega) | decide)) (hi := (by first | omega | assumption | rfl | (simp only []; omega) | decide)) (hsg := (by first | omega | assumption | rfl | (simp only []; omega) | decide)) (h48 := (by first | omega | assumption | rfl | (simp only []; omega) | decide))) cf_X3_digit lk_X3_30 rfl rfl rfl rfl rfl (by decide +kernel) (Nat.le_of_ble_eq_true rfl) (fun rv_63 wv_64 hp_65 hm_66 => ?_)
      clear hm_66
      obtain ⟨rfl, rfl⟩ := hp_65
      show VV E 0 0 134 [(0, .ref s0), (1, .int (nI i)), (2, .ref a0)] [.int (nI (sg (i + 1) - 48)), .ref a0] [(s0, .inr (3, [.int (nI ls), .ref s1])), (s1, .inl (cI, 96, .inl (nIf sg))), (a0, .inr (2, [.int (nI n), .int (nI m), .int (nI sh), .int (nI aw), .ref a1, .ref a2, .ref a3, .ref a4, .ref a5, .ref a6])), (a1, .inl (cI, 7, .inl (nIf ki))), (a2, .inl (cI, 7, .inl (nIf op))), (a3, .inl (cI, 7, .inl (nIf fa))), (a4, .inl (cI, 6, .inl (nIf K))), (a5, .inl (cI, 6, .inl (nIf G))), (a6, .inl (cI, 6, .inl (nIf T)))]
      refine v_al_n 135 zC dX3_tellStatement_134 0 rfl ?_
      refine v_il_n 136 zC dX3_tellStatement_135 1 rfl ?_
      refine v_ic (v := (nI 2)) 137 zC dX3_tellStatement_136 (by decide +kernel) ?_
      refine v_iadd (v := (nI (i + 2))) 138 zC dX3_tellStatement_137 (nI_add _ _) ?_
      refine v_cV (As := [.int (nI (i + 2))]) (st := [.int (nI (sg (i + 1) - 48)), .ref a0]) 141 0 [0, 1] zC dX3_tellStatement_138 hA (c_X3_pair (ev_l E) (ev_D E) cI (s0 := s0) (s1 := s1) (ls := ls) (sg := sg) (i := (i + 2)) (hl := (by first | omega | assumption | rfl | (simp only []; omega) | decide)) (hi := (by first | omega | assumption | rfl | (simp only []; omega) | decide)) (hsg := (by first | omega | assumption | rfl | (simp only []; omega) | decide)) (h48 := (by first | omega | assumption | rfl | (simp only []; omega) | decide)) (h49 := (by first | omega | assumption | rfl | (simp only []; omega) | decide))) cf_X3_pair lk_X3_33 rfl rfl rfl rfl rfl (by decide +kernel) (Nat.le_of_ble_eq_true rfl) (fun rv_67 wv_68 hp_69 hm_70 => ?_)
      clear hm_70
      obtain ⟨rfl, rfl⟩ := hp_69
      show VV E 0 0 141 [(0, .ref s0), (1, .int (nI i)), (2, .ref a0)] [.int (nI (10 * (sg (i + 2) - 48) + (sg ((i + 2) + 1) - 48))), .int (nI (sg (i + 1) - 48)), .ref a0] [(s0, .inr (3, [.int (nI ls), .ref s1])), (s1, .inl (cI, 96, .inl (nIf sg))), (a0, .inr (2, [.int (nI n), .int (nI m), .int (nI sh), .int (nI aw), .ref a1, .ref a2, .ref a3, .ref a4, .ref a5, .ref a6])), (a1, .inl (cI, 7, .inl (nIf ki))), (a2, .inl (cI, 7, .inl (nIf op))), (a3, .inl (cI, 7, .inl (nIf fa))), (a4, .inl (cI, 6, .inl (nIf K))), (a5, .inl (cI, 6, .inl (nIf G))), (a6, .inl (cI, 6, .inl (nIf T)))]
      refine v_al_n 142 zC dX3_tellStatement_141 0 rfl ?_
      refine v_il_n 143 zC dX3_tellStatement_142 1 rfl ?_
      refine v_ic (v := (nI 4)) 144 zC dX3_tellStatement_143 (by decide +kernel) ?_
      refine v_iadd (v := (nI (i + 4))) 145 zC dX3_tellStatement_144 (nI_add _ _) ?_
      refine v_cV (As := [.int (nI (i + 4))]) (st := [.int (nI (10 * (sg (i + 2) - 48) + (sg ((i + 2) + 1) - 48))), .int (nI (sg (i + 1) - 48)), .ref a0]) 148 0 [0, 1] zC dX3_tellStatement_145 hA (c_X3_pair (ev_l E) (ev_D E) cI (s0 := s0) (s1 := s1) (ls := ls) (sg := sg) (i := (i + 4)) (hl := (by first | omega | assumption | rfl | (simp only []; omega) | decide)) (hi := (by first | omega | assumption | rfl | (simp only []; omega) | decide)) (hsg := (by first | omega | assumption | rfl | (simp only []; omega) | decide)) (h48 := (by first | omega | assumption | rfl | (simp only []; omega) | decide)) (h49 := (by first | omega | assumption | rfl | (simp only []; omega) | decide))) cf_X3_pair lk_X3_33 rfl rfl rfl rfl rfl (by decide +kernel) (Nat.le_of_ble_eq_true rfl) (fun rv_71 wv_72 hp_73 hm_74 => ?_)
      clear hm_74
      obtain ⟨rfl, rfl⟩ := hp_73
      show VV E 0 0 148 [(0, .ref s0), (1, .int (nI i)), (2, .ref a0)] [.int (nI (10 * (sg (i + 4) - 48) + (sg ((i + 4) + 1) - 48))), .int (nI (10 * (sg (i + 2) - 48) + (sg ((i + 2) + 1) - 48))), .int (nI (sg (i + 1) - 48)), .ref a0] [(s0, .inr (3, [.int (nI ls), .ref s1])), (s1, .inl (cI, 96, .inl (nIf sg))), (a0, .inr (2, [.int (nI n), .int (nI m), .int (nI sh), .int (nI aw), .ref a1, .ref a2, .ref a3, .ref a4, .ref a5, .ref a6])), (a1, .inl (cI, 7, .inl (nIf ki))), (a2, .inl (cI, 7, .inl (nIf op))), (a3, .inl (cI, 7, .inl (nIf fa))), (a4, .inl (cI, 6, .inl (nIf K))), (a5, .inl (cI, 6, .inl (nIf G))), (a6, .inl (cI, 6, .inl (nIf T)))]
      refine v_ic (v := (nI 1)) 149 zC dX3_tellStatement_148 (by decide +kernel) ?_
      refine v_cV (As := [.int (nI (sg (i + 1) - 48)), .int (nI (10 * (sg (i + 2) - 48) + (sg ((i + 2) + 1) - 48))), .int (nI (10 * (sg (i + 4) - 48) + (sg ((i + 4) + 1) - 48))), .int (nI 1)]) (st := []) 152 2 [2, 4] zC dX3_tellStatement_149 hA (c_X2_openFrom (ev_l E) (ev_D E) cI (a0 := a0) (a1 := a1) (a2 := a2) (a3 := a3) (a4 := a4) (a5 := a5) (a6 := a6) (n := n) (m := m) (sh := sh) (aw := aw) (op := op) (p := (sg (i + 1) - 48)) (f := (10 * (sg (i + 2) - 48) + (sg ((i + 2) + 1) - 48))) (e := (10 * (sg (i + 4) - 48) + (sg ((i + 4) + 1) - 48))) (o := true) (hn := (by first | omega | assumption | rfl | (simp only []; omega) | decide)) (hp := (by first | omega | assumption | rfl | (simp only []; omega) | decide)) (hf := (by first | omega | assumption | rfl | (simp only []; omega) | decide)) (he := (by first | omega | assumption | rfl | (simp only []; omega) | decide))) cf_X2_openFrom lk_X3_45 rfl rfl rfl rfl rfl (by decide +kernel) (Nat.le_of_ble_eq_true rfl) (fun rv_75 wv_76 hp_77 hm_78 => ?_)
      clear hm_78
      rcases hp_77 with ⟨hq_79, rfl, rfl⟩ | ⟨hp_80, hf_81, he_82, rfl, rfl⟩
      ·
        show VV E 0 0 152 [(0, .ref s0), (1, .int (nI i)), (2, .ref a0)] [.int (nI 0)] [(s0, .inr (3, [.int (nI ls), .ref s1])), (s1, .inl (cI, 96, .inl (nIf sg))), (a0, .inr (2, [.int (nI n), .int (nI m), .int (nI sh), .int (nI aw), .ref a1, .ref a2, .ref a3, .ref a4, .ref a5, .ref a6])), (a1, .inl (cI, 7, .inl (nIf ki))), (a2, .inl (cI, 7, .inl (nIf op))), (a3, .inl (cI, 7, .inl (nIf fa))), (a4, .inl (cI, 6, .inl (nIf K))), (a5, .inl (cI, 6, .inl (nIf G))), (a6, .inl (cI, 6, .inl (nIf T)))]
        refine v_zret zC zT dX3_tellStatement_152 (by decide +kernel) ?_
        first | exact Or.inl ⟨ts_p0 hs9 (by assumption), rfl, rfl⟩ | exact Or.inl ⟨ts_d0 hs9 d1.2.2 d2.2.2 (by assumption), rfl, rfl⟩ | exact Or.inl ⟨ts_o0 (Or.inl hs9) (by assumption), rfl, rfl⟩ | exact Or.inl ⟨ts_o0 (Or.inr hs9) (by assumption), rfl, rfl⟩ | exact Or.inl ⟨ts_s0 hs9 (by assumption), rfl, rfl⟩ | exact Or.inl ⟨ts_k0 hs9 (by assumption), rfl, rfl⟩ | exact Or.inr ⟨_, _, _, _, _, _, _, _, _, ts_p1 hs9 (by assumption) (by assumption), ⟨by omega, hm, Nat.lt_of_lt_of_le hsh (Nat.pow_le_pow_right (by decide) (by omega)), un_b hki (by omega), un_b hop (by decide), un_b hfa (by decide), hK, hG, hT, un_v vki (by omega), un_v vop (by omega), un_v vfa (by omega), vK, vG, vT⟩, rfl, rfl⟩ | exact Or.inr ⟨_, _, _, _, _, _, _, _, _, ts_d1 hs9 (by assumption) (by assumption), ⟨hn, by omega, hsh, hki, hop, hfa, un_b hK (by omega), un_b hG (by omega), un_b hT (by omega), vki, vop, vfa, un_v vK (by omega), un_v vG (by omega), un_v vT (by omega)⟩, rfl, rfl⟩ | exact Or.inr ⟨_, _, _, _, _, _, _, _, _, ts_o1 hs9 (by assumption) (by assumption) (by assumption), ⟨hn, hm, hsh, hki, un_b hop (opv_lt (hop _) (by assumption)), hfa, hK, hG, hT, vki, un_v vop (by omega), vfa, vK, vG, vT⟩, rfl, rfl⟩ | exact Or.inr ⟨_, _, _, _, _, _, _, _, _, ts_c1 hs9 (by assumption) (by assumption) (by assumption), ⟨hn, hm, hsh, hki, un_b hop (opv_lt (hop _) (by assumption)), hfa, hK, hG, hT, vki, un_v vop (by omega), vfa, vK, vG, vT⟩, rfl, rfl⟩ | exact Or.inr ⟨_, _, _, _, _, _, _, _, _, ts_s1 hs9 (by assumption), ⟨hn, hm, Nat.xor_lt_two_pow hsh (pow_lt2 (by assumption)), hki, hop, hfa, hK, hG, hT, vki, vop, vfa, vK, vG, vT⟩, rfl, rfl⟩ | exact Or.inr ⟨_, _, _, _, _, _, _, _, _, ts_k1 hs9 (by assumption), ⟨hn, hm, hsh, hki, hop, un_b hfa (Nat.or_lt_two_pow (n := 10) (hfa _) (pow_lt2 (by omega))), hK, hG, hT, vki, vop, un_v vfa (by omega), vK, vG, vT⟩, rfl, rfl⟩
      ·
        show VV E 0 0 152 [(0, .ref s0), (1, .int (nI i)), (2, .ref a0)] [.int (nI 1)] [(s0, .inr (3, [.int (nI ls), .ref s1])), (s1, .inl (cI, 96, .inl (nIf sg))), (a0, .inr (2, [.int (nI n), .int (nI m), .int (nI sh), .int (nI aw), .ref a1, .ref a2, .ref a3, .ref a4, .ref a5, .ref a6])), (a1, .inl (cI, 7, .inl (nIf ki))), (a2, .inl (cI, 7, .inl (nIf (un op (sg (i + 1) - 48) (if true = true then (op (sg (i + 1) - 48)) ||| HR (10 * (sg (i + 2) - 48) + (sg ((i + 2) + 1) - 48)) (10 * (sg (i + 4) - 48) + (sg ((i + 4) + 1) - 48)) else andn (op (sg (i + 1) - 48)) (HR (10 * (sg (i + 2) - 48) + (sg ((i + 2) + 1) - 48)) (10 * (sg (i + 4) - 48) + (sg ((i + 4) + 1) - 48)))))))), (a3, .inl (cI, 7, .inl (nIf fa))), (a4, .inl (cI, 6, .inl (nIf K))), (a5, .inl (cI, 6, .inl (nIf G))), (a6, .inl (cI, 6, .inl (nIf T)))]
        refine v_zret zC zT dX3_tellStatement_152 (by decide +kernel) ?_
        first | exact Or.inl ⟨ts_p0 hs9 (by assumption), rfl, rfl⟩ | exact Or.inl ⟨ts_d0 hs9 d1.2.2 d2.2.2 (by assumption), rfl, rfl⟩ | exact Or.inl ⟨ts_o0 (Or.inl hs9) (by assumption), rfl, rfl⟩ | exact Or.inl ⟨ts_o0 (Or.inr hs9) (by assumption), rfl, rfl⟩ | exact Or.inl ⟨ts_s0 hs9 (by assumption), rfl, rfl⟩ | exact Or.inl ⟨ts_k0 hs9 (by assumption), rfl, rfl⟩ | exact Or.inr ⟨_, _, _, _, _, _, _, _, _, ts_p1 hs9 (by assumption) (by assumption), ⟨by omega, hm, Nat.lt_of_lt_of_le hsh (Nat.pow_le_pow_right (by decide) (by omega)), un_b hki (by omega), un_b hop (by decide), un_b hfa (by decide), hK, hG, hT, un_v vki (by omega), un_v vop (by omega), un_v vfa (by omega), vK, vG, vT⟩, rfl, rfl⟩ | exact Or.inr ⟨_, _, _, _, _, _, _, _, _, ts_d1 hs9 (by assumption) (by assumption), ⟨hn, by omega, hsh, hki, hop, hfa, un_b hK (by omega), un_b hG (by omega), un_b hT (by omega), vki, vop, vfa, un_v vK (by omega), un_v vG (by omega), un_v vT (by omega)⟩, rfl, rfl⟩ | exact Or.inr ⟨_, _, _, _, _, _, _, _, _, ts_o1 hs9 (by assumption) (by assumption) (by assumption), ⟨hn, hm, hsh, hki, un_b hop (opv_lt (hop _) (by assumption)), hfa, hK, hG, hT, vki, un_v vop (by omega), vfa, vK, vG, vT⟩, rfl, rfl⟩ | exact Or.inr ⟨_, _, _, _, _, _, _, _, _, ts_c1 hs9 (by assumption) (by assumption) (by assumption), ⟨hn, hm, hsh, hki, un_b hop (opv_lt (hop _) (by assumption)), hfa, hK, hG, hT, vki, un_v vop (by omega), vfa, vK, vG, vT⟩, rfl, rfl⟩ | exact Or.inr ⟨_, _, _, _, _, _, _, _, _, ts_s1 hs9 (by assumption), ⟨hn, hm, Nat.xor_lt_two_pow hsh (pow_lt2 (by assumption)), hki, hop, hfa, hK, hG, hT, vki, vop, vfa, vK, vG, vT⟩, rfl, rfl⟩ | exact Or.inr ⟨_, _, _, _, _, _, _, _, _, ts_k1 hs9 (by assumption), ⟨hn, hm, hsh, hki, hop, un_b hfa (Nat.or_lt_two_pow (n := 10) (hfa _) (pow_lt2 (by omega))), hK, hG, hT, vki, vop, un_v vfa (by omega), vK, vG, vT⟩, rfl, rfl⟩
    ·
      subst he9
      have d0 : (i + 1) < ls ∧ 48 ≤ sg (i + 1) ∧ sg (i + 1) ≤ 57 := dig_d (hdg 0 (by omega))
      have d1 : (i + 2) < ls ∧ 48 ≤ sg (i + 2) ∧ sg (i + 2) ≤ 57 := dig_d (hdg 1 (by omega))
      have d2 : (i + 3) < ls ∧ 48 ≤ sg (i + 3) ∧ sg (i + 3) ≤ 57 := dig_d (hdg 2 (by omega))
      have d3 : (i + 4) < ls ∧ 48 ≤ sg (i + 4) ∧ sg (i + 4) ≤ 57 := dig_d (hdg 3 (by omega))
      have d4 : (i + 4 + 1) < ls ∧ 48 ≤ sg (i + 4 + 1) ∧ sg (i + 4 + 1) ≤ 57 := dig_d (hdg 4 (by omega))
      have e2 : (i + 2 + 1) < ls ∧ 48 ≤ sg (i + 2 + 1) ∧ sg (i + 2 + 1) ≤ 57 := d2
      rw [hs9]
      refine v_tsw (off := 148) 153 zC dX3_tellStatement_5 (Or.inl (by decide +kernel)) ?_
      refine v_al_n 154 zC dX3_tellStatement_153 2 rfl ?_
      refine v_al_n 155 zC dX3_tellStatement_154 0 rfl ?_
      refine v_il_n 156 zC dX3_tellStatement_155 1 rfl ?_
      refine v_ic (v := (nI 1)) 157 zC dX3_tellStatement_156 (by decide +kernel) ?_
      refine v_iadd (v := (nI (i + 1))) 158 zC dX3_tellStatement_157 (nI_add _ _) ?_
      refine v_cV (As := [.int (nI (i + 1))]) (st := [.ref a0]) 161 0 [0, 1] zC dX3_tellStatement_158 hA (c_X3_digit (ev_l E) (ev_D E) cI (s0 := s0) (s1 := s1) (ls := ls) (sg := sg) (i := (i + 1)) (hl := (by first | omega | assumption | rfl | (simp only []; omega) | decide)) (hi := (by first | omega | assumption | rfl | (simp only []; omega) | decide)) (hsg := (by first | omega | assumption | rfl | (simp only []; omega) | decide)) (h48 := (by first | omega | assumption | rfl | (simp only []; omega) | decide))) cf_X3_digit lk_X3_30 rfl rfl rfl rfl rfl (by decide +kernel) (Nat.le_of_ble_eq_true rfl) (fun rv_83 wv_84 hp_85 hm_86 => ?_)
      clear hm_86
      obtain ⟨rfl, rfl⟩ := hp_85
      show VV E 0 0 161 [(0, .ref s0), (1, .int (nI i)), (2, .ref a0)] [.int (nI (sg (i + 1) - 48)), .ref a0] [(s0, .inr (3, [.int (nI ls), .ref s1])), (s1, .inl (cI, 96, .inl (nIf sg))), (a0, .inr (2, [.int (nI n), .int (nI m), .int (nI sh), .int (nI aw), .ref a1, .ref a2, .ref a3, .ref a4, .ref a5, .ref a6])), (a1, .inl (cI, 7, .inl (nIf ki))), (a2, .inl (cI, 7, .inl (nIf op))), (a3, .inl (cI, 7, .inl (nIf fa))), (a4, .inl (cI, 6, .inl (nIf K))), (a5, .inl (cI, 6, .inl (nIf G))), (a6, .inl (cI, 6, .inl (nIf T)))]
      refine v_al_n 162 zC dX3_tellStatement_161 0 rfl ?_
      refine v_il_n 163 zC dX3_tellStatement_162 1 rfl ?_
      refine v_ic (v := (nI 2)) 164 zC dX3_tellStatement_163 (by decide +kernel) ?_
      refine v_iadd (v := (nI (i + 2))) 165 zC dX3_tellStatement_164 (nI_add _ _) ?_
      refine v_cV (As := [.int (nI (i + 2))]) (st := [.int (nI (sg (i + 1) - 48)), .ref a0]) 168 0 [0, 1] zC dX3_tellStatement_165 hA (c_X3_pair (ev_l E) (ev_D E) cI (s0 := s0) (s1 := s1) (ls := ls) (sg := sg) (i := (i + 2)) (hl := (by first | omega | assumption | rfl | (simp only []; omega) | decide)) (hi := (by first | omega | assumption | rfl | (simp only []; omega) | decide)) (hsg := (by first | omega | assumption | rfl | (simp only []; omega) | decide)) (h48 := (by first | omega | assumption | rfl | (simp only []; omega) | decide)) (h49 := (by first | omega | assumption | rfl | (simp only []; omega) | decide))) cf_X3_pair lk_X3_33 rfl rfl rfl rfl rfl (by decide +kernel) (Nat.le_of_ble_eq_true rfl) (fun rv_87 wv_88 hp_89 hm_90 => ?_)
      clear hm_90
      obtain ⟨rfl, rfl⟩ := hp_89
      show VV E 0 0 168 [(0, .ref s0), (1, .int (nI i)), (2, .ref a0)] [.int (nI (10 * (sg (i + 2) - 48) + (sg ((i + 2) + 1) - 48))), .int (nI (sg (i + 1) - 48)), .ref a0] [(s0, .inr (3, [.int (nI ls), .ref s1])), (s1, .inl (cI, 96, .inl (nIf sg))), (a0, .inr (2, [.int (nI n), .int (nI m), .int (nI sh), .int (nI aw), .ref a1, .ref a2, .ref a3, .ref a4, .ref a5, .ref a6])), (a1, .inl (cI, 7, .inl (nIf ki))), (a2, .inl (cI, 7, .inl (nIf op))), (a3, .inl (cI, 7, .inl (nIf fa))), (a4, .inl (cI, 6, .inl (nIf K))), (a5, .inl (cI, 6, .inl (nIf G))), (a6, .inl (cI, 6, .inl (nIf T)))]
      refine v_al_n 169 zC dX3_tellStatement_168 0 rfl ?_
      refine v_il_n 170 zC dX3_tellStatement_169 1 rfl ?_
      refine v_ic (v := (nI 4)) 171 zC dX3_tellStatement_170 (by decide +kernel) ?_
      refine v_iadd (v := (nI (i + 4))) 172 zC dX3_tellStatement_171 (nI_add _ _) ?_
      refine v_cV (As := [.int (nI (i + 4))]) (st := [.int (nI (10 * (sg (i + 2) - 48) + (sg ((i + 2) + 1) - 48))), .int (nI (sg (i + 1) - 48)), .ref a0]) 175 0 [0, 1] zC dX3_tellStatement_172 hA (c_X3_pair (ev_l E) (ev_D E) cI (s0 := s0) (s1 := s1) (ls := ls) (sg := sg) (i := (i + 4)) (hl := (by first | omega | assumption | rfl | (simp only []; omega) | decide)) (hi := (by first | omega | assumption | rfl | (simp only []; omega) | decide)) (hsg := (by first | omega | assumption | rfl | (simp only []; omega) | decide)) (h48 := (by first | omega | assumption | rfl | (simp only []; omega) | decide)) (h49 := (by first | omega | assumption | rfl | (simp only []; omega) | decide))) cf_X3_pair lk_X3_33 rfl rfl rfl rfl rfl (by decide +kernel) (Nat.le_of_ble_eq_true rfl) (fun rv_91 wv_92 hp_93 hm_94 => ?_)
      clear hm_94
      obtain ⟨rfl, rfl⟩ := hp_93
      show VV E 0 0 175 [(0, .ref s0), (1, .int (nI i)), (2, .ref a0)] [.int (nI (10 * (sg (i + 4) - 48) + (sg ((i + 4) + 1) - 48))), .int (nI (10 * (sg (i + 2) - 48) + (sg ((i + 2) + 1) - 48))), .int (nI (sg (i + 1) - 48)), .ref a0] [(s0, .inr (3, [.int (nI ls), .ref s1])), (s1, .inl (cI, 96, .inl (nIf sg))), (a0, .inr (2, [.int (nI n), .int (nI m), .int (nI sh), .int (nI aw), .ref a1, .ref a2, .ref a3, .ref a4, .ref a5, .ref a6])), (a1, .inl (cI, 7, .inl (nIf ki))), (a2, .inl (cI, 7, .inl (nIf op))), (a3, .inl (cI, 7, .inl (nIf fa))), (a4, .inl (cI, 6, .inl (nIf K))), (a5, .inl (cI, 6, .inl (nIf G))), (a6, .inl (cI, 6, .inl (nIf T)))]
      refine v_ic (v := (nI 0)) 176 zC dX3_tellStatement_175 (by decide +kernel) ?_
      refine v_cV (As := [.int (nI (sg (i + 1) - 48)), .int (nI (10 * (sg (i + 2) - 48) + (sg ((i + 2) + 1) - 48))), .int (nI (10 * (sg (i + 4) - 48) + (sg ((i + 4) + 1) - 48))), .int (nI 0)]) (st := []) 179 2 [2, 4] zC dX3_tellStatement_176 hA (c_X2_openFrom (ev_l E) (ev_D E) cI (a0 := a0) (a1 := a1) (a2 := a2) (a3 := a3) (a4 := a4) (a5 := a5) (a6 := a6) (n := n) (m := m) (sh := sh) (aw := aw) (op := op) (p := (sg (i + 1) - 48)) (f := (10 * (sg (i + 2) - 48) + (sg ((i + 2) + 1) - 48))) (e := (10 * (sg (i + 4) - 48) + (sg ((i + 4) + 1) - 48))) (o := false) (hn := (by first | omega | assumption | rfl | (simp only []; omega) | decide)) (hp := (by first | omega | assumption | rfl | (simp only []; omega) | decide)) (hf := (by first | omega | assumption | rfl | (simp only []; omega) | decide)) (he := (by first | omega | assumption | rfl | (simp only []; omega) | decide))) cf_X2_openFrom lk_X3_45 rfl rfl rfl rfl rfl (by decide +kernel) (Nat.le_of_ble_eq_true rfl) (fun rv_95 wv_96 hp_97 hm_98 => ?_)
      clear hm_98
      rcases hp_97 with ⟨hq_99, rfl, rfl⟩ | ⟨hp_100, hf_101, he_102, rfl, rfl⟩
      ·
        show VV E 0 0 179 [(0, .ref s0), (1, .int (nI i)), (2, .ref a0)] [.int (nI 0)] [(s0, .inr (3, [.int (nI ls), .ref s1])), (s1, .inl (cI, 96, .inl (nIf sg))), (a0, .inr (2, [.int (nI n), .int (nI m), .int (nI sh), .int (nI aw), .ref a1, .ref a2, .ref a3, .ref a4, .ref a5, .ref a6])), (a1, .inl (cI, 7, .inl (nIf ki))), (a2, .inl (cI, 7, .inl (nIf op))), (a3, .inl (cI, 7, .inl (nIf fa))), (a4, .inl (cI, 6, .inl (nIf K))), (a5, .inl (cI, 6, .inl (nIf G))), (a6, .inl (cI, 6, .inl (nIf T)))]
        refine v_zret zC zT dX3_tellStatement_179 (by decide +kernel) ?_
        first | exact Or.inl ⟨ts_p0 hs9 (by assumption), rfl, rfl⟩ | exact Or.inl ⟨ts_d0 hs9 d1.2.2 d2.2.2 (by assumption), rfl, rfl⟩ | exact Or.inl ⟨ts_o0 (Or.inl hs9) (by assumption), rfl, rfl⟩ | exact Or.inl ⟨ts_o0 (Or.inr hs9) (by assumption), rfl, rfl⟩ | exact Or.inl ⟨ts_s0 hs9 (by assumption), rfl, rfl⟩ | exact Or.inl ⟨ts_k0 hs9 (by assumption), rfl, rfl⟩ | exact Or.inr ⟨_, _, _, _, _, _, _, _, _, ts_p1 hs9 (by assumption) (by assumption), ⟨by omega, hm, Nat.lt_of_lt_of_le hsh (Nat.pow_le_pow_right (by decide) (by omega)), un_b hki (by omega), un_b hop (by decide), un_b hfa (by decide), hK, hG, hT, un_v vki (by omega), un_v vop (by omega), un_v vfa (by omega), vK, vG, vT⟩, rfl, rfl⟩ | exact Or.inr ⟨_, _, _, _, _, _, _, _, _, ts_d1 hs9 (by assumption) (by assumption), ⟨hn, by omega, hsh, hki, hop, hfa, un_b hK (by omega), un_b hG (by omega), un_b hT (by omega), vki, vop, vfa, un_v vK (by omega), un_v vG (by omega), un_v vT (by omega)⟩, rfl, rfl⟩ | exact Or.inr ⟨_, _, _, _, _, _, _, _, _, ts_o1 hs9 (by assumption) (by assumption) (by assumption), ⟨hn, hm, hsh, hki, un_b hop (opv_lt (hop _) (by assumption)), hfa, hK, hG, hT, vki, un_v vop (by omega), vfa, vK, vG, vT⟩, rfl, rfl⟩ | exact Or.inr ⟨_, _, _, _, _, _, _, _, _, ts_c1 hs9 (by assumption) (by assumption) (by assumption), ⟨hn, hm, hsh, hki, un_b hop (opv_lt (hop _) (by assumption)), hfa, hK, hG, hT, vki, un_v vop (by omega), vfa, vK, vG, vT⟩, rfl, rfl⟩ | exact Or.inr ⟨_, _, _, _, _, _, _, _, _, ts_s1 hs9 (by assumption), ⟨hn, hm, Nat.xor_lt_two_pow hsh (pow_lt2 (by assumption)), hki, hop, hfa, hK, hG, hT, vki, vop, vfa, vK, vG, vT⟩, rfl, rfl⟩ | exact Or.inr ⟨_, _, _, _, _, _, _, _, _, ts_k1 hs9 (by assumption), ⟨hn, hm, hsh, hki, hop, un_b hfa (Nat.or_lt_two_pow (n := 10) (hfa _) (pow_lt2 (by omega))), hK, hG, hT, vki, vop, un_v vfa (by omega), vK, vG, vT⟩, rfl, rfl⟩
      ·
        show VV E 0 0 179 [(0, .ref s0), (1, .int (nI i)), (2, .ref a0)] [.int (nI 1)] [(s0, .inr (3, [.int (nI ls), .ref s1])), (s1, .inl (cI, 96, .inl (nIf sg))), (a0, .inr (2, [.int (nI n), .int (nI m), .int (nI sh), .int (nI aw), .ref a1, .ref a2, .ref a3, .ref a4, .ref a5, .ref a6])), (a1, .inl (cI, 7, .inl (nIf ki))), (a2, .inl (cI, 7, .inl (nIf (un op (sg (i + 1) - 48) (if false = true then (op (sg (i + 1) - 48)) ||| HR (10 * (sg (i + 2) - 48) + (sg ((i + 2) + 1) - 48)) (10 * (sg (i + 4) - 48) + (sg ((i + 4) + 1) - 48)) else andn (op (sg (i + 1) - 48)) (HR (10 * (sg (i + 2) - 48) + (sg ((i + 2) + 1) - 48)) (10 * (sg (i + 4) - 48) + (sg ((i + 4) + 1) - 48)))))))), (a3, .inl (cI, 7, .inl (nIf fa))), (a4, .inl (cI, 6, .inl (nIf K))), (a5, .inl (cI, 6, .inl (nIf G))), (a6, .inl (cI, 6, .inl (nIf T)))]
        refine v_zret zC zT dX3_tellStatement_179 (by decide +kernel) ?_
        first | exact Or.inl ⟨ts_p0 hs9 (by assumption), rfl, rfl⟩ | exact Or.inl ⟨ts_d0 hs9 d1.2.2 d2.2.2 (by assumption), rfl, rfl⟩ | exact Or.inl ⟨ts_o0 (Or.inl hs9) (by assumption), rfl, rfl⟩ | exact Or.inl ⟨ts_o0 (Or.inr hs9) (by assumption), rfl, rfl⟩ | exact Or.inl ⟨ts_s0 hs9 (by assumption), rfl, rfl⟩ | exact Or.inl ⟨ts_k0 hs9 (by assumption), rfl, rfl⟩ | exact Or.inr ⟨_, _, _, _, _, _, _, _, _, ts_p1 hs9 (by assumption) (by assumption), ⟨by omega, hm, Nat.lt_of_lt_of_le hsh (Nat.pow_le_pow_right (by decide) (by omega)), un_b hki (by omega), un_b hop (by decide), un_b hfa (by decide), hK, hG, hT, un_v vki (by omega), un_v vop (by omega), un_v vfa (by omega), vK, vG, vT⟩, rfl, rfl⟩ | exact Or.inr ⟨_, _, _, _, _, _, _, _, _, ts_d1 hs9 (by assumption) (by assumption), ⟨hn, by omega, hsh, hki, hop, hfa, un_b hK (by omega), un_b hG (by omega), un_b hT (by omega), vki, vop, vfa, un_v vK (by omega), un_v vG (by omega), un_v vT (by omega)⟩, rfl, rfl⟩ | exact Or.inr ⟨_, _, _, _, _, _, _, _, _, ts_o1 hs9 (by assumption) (by assumption) (by assumption), ⟨hn, hm, hsh, hki, un_b hop (opv_lt (hop _) (by assumption)), hfa, hK, hG, hT, vki, un_v vop (by omega), vfa, vK, vG, vT⟩, rfl, rfl⟩ | exact Or.inr ⟨_, _, _, _, _, _, _, _, _, ts_c1 hs9 (by assumption) (by assumption) (by assumption), ⟨hn, hm, hsh, hki, un_b hop (opv_lt (hop _) (by assumption)), hfa, hK, hG, hT, vki, un_v vop (by omega), vfa, vK, vG, vT⟩, rfl, rfl⟩ | exact Or.inr ⟨_, _, _, _, _, _, _, _, _, ts_s1 hs9 (by assumption), ⟨hn, hm, Nat.xor_lt_two_pow hsh (pow_lt2 (by assumption)), hki, hop, hfa, hK, hG, hT, vki, vop, vfa, vK, vG, vT⟩, rfl, rfl⟩ | exact Or.inr ⟨_, _, _, _, _, _, _, _, _, ts_k1 hs9 (by assumption), ⟨hn, hm, hsh, hki, hop, un_b hfa (Nat.or_lt_two_pow (n := 10) (hfa _) (pow_lt2 (by omega))), hK, hG, hT, vki, vop, un_v vfa (by omega), vK, vG, vT⟩, rfl, rfl⟩
set_option maxRecDepth 100000 in
set_option maxHeartbeats 4000000 in
theorem c_X4_family (l : Launch) (D : va_G) (cI : ClassId) (x0 xp b0 w0 y0 : Nat) (pd : Bool) (rs : Nat) (a0 a1 a2 a3 a4 a5 a6 : Nat) (n m sh : Nat) (ki op fa K G T : Nat → Nat) (c0 c1 c2 c3 c4 c5 c6 : Nat) (n1 m1 sh1 aw1 : Nat) (ki1 op1 fa1 K1 G1 T1 : Nat → Nat) (s0 s1 ls : Nat) (sg : Nat → Nat) (g0 g1 g2 g3 cs : Nat) (hw : FW n m sh ki op fa K G T) (hw1 : FW n1 m1 sh1 ki1 op1 fa1 K1 G1 T1) (hl : ls ≤ 96) (hsg : ∀ z, sg z < 256) : CT l yX4_family cX4_family 4 (some .int) { frames := 4, cells := 0, slots := 0, locals := 85 } D cI [.ref x0] [(x0, .inr (4, [.ref a0, .ref c0, .ref xp, .int (bz pd), .ref b0, .ref g0, .ref s0, .ref w0, .int (nI rs), .ref y0])), (a0, .inr (2, [.int (nI n), .int (nI m), .int (nI sh), .int (nI 0), .ref a1, .ref a2, .ref a3, .ref a4, .ref a5, .ref a6])), (a1, .inl (cI, 7, .inl (nIf ki))), (a2, .inl (cI, 7, .inl (nIf op))), (a3, .inl (cI, 7, .inl (nIf fa))), (a4, .inl (cI, 6, .inl (nIf K))), (a5, .inl (cI, 6, .inl (nIf G))), (a6, .inl (cI, 6, .inl (nIf T))), (c0, .inr (2, [.int (nI n1), .int (nI m1), .int (nI sh1), .int (nI aw1), .ref c1, .ref c2, .ref c3, .ref c4, .ref c5, .ref c6])), (c1, .inl (cI, 7, .inl (nIf ki1))), (c2, .inl (cI, 7, .inl (nIf op1))), (c3, .inl (cI, 7, .inl (nIf fa1))), (c4, .inl (cI, 6, .inl (nIf K1))), (c5, .inl (cI, 6, .inl (nIf G1))), (c6, .inl (cI, 6, .inl (nIf T1))), (s0, .inr (3, [.int (nI ls), .ref s1])), (s1, .inl (cI, 96, .inl (nIf sg))), (g0, .inr (0, [.int (nI cs), .ref g1, .ref g2, .ref g3]))] (fun zr zw => (∃ b : Nat, (BRK ls sg = some b) ∧ (b ≤ 96) ∧ zr = some (.int ((-1000) - (nI b))) ∧ zw = [(x0, .inr (4, [.ref a0, .ref c0, .ref xp, .int (bz pd), .ref b0, .ref g0, .ref s0, .ref w0, .int (nI rs), .ref y0])), (a0, .inr (2, [.int (nI n), .int (nI m), .int (nI sh), .int (nI 0), .ref a1, .ref a2, .ref a3, .ref a4, .ref a5, .ref a6])), (a1, .inl (cI, 7, .inl (nIf ki))), (a2, .inl (cI, 7, .inl (nIf op))), (a3, .inl (cI, 7, .inl (nIf fa))), (a4, .inl (cI, 6, .inl (nIf K))), (a5, .inl (cI, 6, .inl (nIf G))), (a6, .inl (cI, 6, .inl (nIf T))), (c0, .inr (2, [.int (nI n1), .int (nI m1), .int (nI sh1), .int (nI aw1), .ref c1, .ref c2, .ref c3, .ref c4, .ref c5, .ref c6])), (c1, .inl (cI, 7, .inl (nIf ki1))), (c2, .inl (cI, 7, .inl (nIf op1))), (c3, .inl (cI, 7, .inl (nIf fa1))), (c4, .inl (cI, 6, .inl (nIf K1))), (c5, .inl (cI, 6, .inl (nIf G1))), (c6, .inl (cI, 6, .inl (nIf T1))), (s0, .inr (3, [.int (nI 0), .ref s1])), (s1, .inl (cI, 96, .inl (nIf sg))), (g0, .inr (0, [.int (nI cs), .ref g1, .ref g2, .ref g3]))]) ∨ (∃ b : Nat, ∃ n3 : Nat, ∃ m3 : Nat, ∃ s3 : Nat, ∃ ki3 : Nat → Nat, ∃ op3 : Nat → Nat, ∃ fa3 : Nat → Nat, ∃ K3 : Nat → Nat, ∃ G3 : Nat → Nat, ∃ T3 : Nat → Nat, (BRK ls sg = none) ∧ (TELL ls sg ls 0 0 (n, m, sh, 0, ki, op, fa, K, G, T) = (none, b)) ∧ (b ≤ 96) ∧ (FW n3 m3 s3 ki3 op3 fa3 K3 G3 T3) ∧ zr = some (.int ((-2000) - (nI b))) ∧ zw = [(x0, .inr (4, [.ref a0, .ref c0, .ref xp, .int (bz pd), .ref b0, .ref g0, .ref s0, .ref w0, .int (nI rs), .ref y0])), (a0, .inr (2, [.int (nI n), .int (nI m), .int (nI sh), .int (nI 0), .ref a1, .ref a2, .ref a3, .ref a4, .ref a5, .ref a6])), (a1, .inl (cI, 7, .inl (nIf ki))), (a2, .inl (cI, 7, .inl (nIf op))), (a3, .inl (cI, 7, .inl (nIf fa))), (a4, .inl (cI, 6, .inl (nIf K))), (a5, .inl (cI, 6, .inl (nIf G))), (a6, .inl (cI, 6, .inl (nIf T))), (c0, .inr (2, [.int (nI n3), .int (nI m3), .int (nI s3), .int (nI 0), .ref c1, .ref c2, .ref c3, .ref c4, .ref c5, .ref c6])), (c1, .inl (cI, 7, .inl (nIf ki3))), (c2, .inl (cI, 7, .inl (nIf op3))), (c3, .inl (cI, 7, .inl (nIf fa3))), (c4, .inl (cI, 6, .inl (nIf K3))), (c5, .inl (cI, 6, .inl (nIf G3))), (c6, .inl (cI, 6, .inl (nIf T3))), (s0, .inr (3, [.int (nI 0), .ref s1])), (s1, .inl (cI, 96, .inl (nIf sg))), (g0, .inr (0, [.int (nI cs), .ref g1, .ref g2, .ref g3]))]) ∨ (∃ c : Nat, ∃ n3 : Nat, ∃ m3 : Nat, ∃ s3 : Nat, ∃ ki3 : Nat → Nat, ∃ op3 : Nat → Nat, ∃ fa3 : Nat → Nat, ∃ K3 : Nat → Nat, ∃ G3 : Nat → Nat, ∃ T3 : Nat → Nat, (BRK ls sg = none) ∧ (TELL ls sg ls 0 0 (n, m, sh, 0, ki, op, fa, K, G, T) = (some (n3, m3, s3, 0, ki3, op3, fa3, K3, G3, T3), c)) ∧ (FW n3 m3 s3 ki3 op3 fa3 K3 G3 T3) ∧ zr = some (.int (nI c)) ∧ zw = [(x0, .inr (4, [.ref a0, .ref c0, .ref xp, .int (bz pd), .ref b0, .ref g0, .ref s0, .ref w0, .int (nI rs), .ref y0])), (a0, .inr (2, [.int (nI n3), .int (nI m3), .int (nI s3), .int (nI 0), .ref a1, .ref a2, .ref a3, .ref a4, .ref a5, .ref a6])), (a1, .inl (cI, 7, .inl (nIf ki3))), (a2, .inl (cI, 7, .inl (nIf op3))), (a3, .inl (cI, 7, .inl (nIf fa3))), (a4, .inl (cI, 6, .inl (nIf K3))), (a5, .inl (cI, 6, .inl (nIf G3))), (a6, .inl (cI, 6, .inl (nIf T3))), (c0, .inr (2, [.int (nI n3), .int (nI m3), .int (nI s3), .int (nI 0), .ref c1, .ref c2, .ref c3, .ref c4, .ref c5, .ref c6])), (c1, .inl (cI, 7, .inl (nIf ki3))), (c2, .inl (cI, 7, .inl (nIf op3))), (c3, .inl (cI, 7, .inl (nIf fa3))), (c4, .inl (cI, 6, .inl (nIf K3))), (c5, .inl (cI, 6, .inl (nIf G3))), (c6, .inl (cI, 6, .inl (nIf T3))), (s0, .inr (3, [.int (nI 0), .ref s1])), (s1, .inl (cI, 96, .inl (nIf sg))), (g0, .inr (0, [.int (nI 0), .ref g1, .ref g2, .ref g3]))])) := by
  refine CT_of RX4 rfl (by decide +kernel) (Nat.le_of_ble_eq_true rfl) (fun E hnE zC zT => ?_)
  have hA : ∀ q, (ev_s E).heap.size ≤ q → ev_A E q := fun q h => by rw [zT.2]; exact Or.inr h
  obtain ⟨hn, hm, hsh, hki, hop, hfa, hK, hG, hT, vki, vop, vfa, vK, vG, vT⟩ := id hw
  show VV E 0 0 0 [(0, .ref x0)] [] [(x0, .inr (4, [.ref a0, .ref c0, .ref xp, .int (bz pd), .ref b0, .ref g0, .ref s0, .ref w0, .int (nI rs), .ref y0])), (a0, .inr (2, [.int (nI n), .int (nI m), .int (nI sh), .int (nI 0), .ref a1, .ref a2, .ref a3, .ref a4, .ref a5, .ref a6])), (a1, .inl (cI, 7, .inl (nIf ki))), (a2, .inl (cI, 7, .inl (nIf op))), (a3, .inl (cI, 7, .inl (nIf fa))), (a4, .inl (cI, 6, .inl (nIf K))), (a5, .inl (cI, 6, .inl (nIf G))), (a6, .inl (cI, 6, .inl (nIf T))), (c0, .inr (2, [.int (nI n1), .int (nI m1), .int (nI sh1), .int (nI aw1), .ref c1, .ref c2, .ref c3, .ref c4, .ref c5, .ref c6])), (c1, .inl (cI, 7, .inl (nIf ki1))), (c2, .inl (cI, 7, .inl (nIf op1))), (c3, .inl (cI, 7, .inl (nIf fa1))), (c4, .inl (cI, 6, .inl (nIf K1))), (c5, .inl (cI, 6, .inl (nIf G1))), (c6, .inl (cI, 6, .inl (nIf T1))), (s0, .inr (3, [.int (nI ls), .ref s1])), (s1, .inl (cI, 96, .inl (nIf sg))), (g0, .inr (0, [.int (nI cs), .ref g1, .ref g2, .ref g3]))]
  refine v_al_n 1 zC dX4_family_0 0 rfl ?_
  refine v_gf 4 0 zC dX4_family_1 gf_X4_39 rfl rfl ?_
  refine v_cV (As := []) (st := []) 7 15 [15, 16] zC dX4_family_4 hA (c_X3_brokenAt (ev_l E) (ev_D E) cI (s0 := s0) (s1 := s1) (ls := ls) (sg := sg) (hl := (by first | omega | assumption | rfl | (simp only []; omega) | decide)) (hsg := (by first | omega | assumption | rfl | (simp only []; omega) | decide))) cf_X3_brokenAt lk_X4_61 rfl rfl rfl rfl rfl (by decide +kernel) (Nat.le_of_ble_eq_true rfl) (fun rv_1 wv_2 hp_3 hm_4 => ?_)
  clear hm_4
  rcases hp_3 with ⟨hq_5, rfl, rfl⟩ | ⟨b_6, hq_7, hb_8, rfl, rfl⟩
  ·
    show VV E 0 0 7 [(0, .ref x0)] [.int (-1)] [(x0, .inr (4, [.ref a0, .ref c0, .ref xp, .int (bz pd), .ref b0, .ref g0, .ref s0, .ref w0, .int (nI rs), .ref y0])), (a0, .inr (2, [.int (nI n), .int (nI m), .int (nI sh), .int (nI 0), .ref a1, .ref a2, .ref a3, .ref a4, .ref a5, .ref a6])), (a1, .inl (cI, 7, .inl (nIf ki))), (a2, .inl (cI, 7, .inl (nIf op))), (a3, .inl (cI, 7, .inl (nIf fa))), (a4, .inl (cI, 6, .inl (nIf K))), (a5, .inl (cI, 6, .inl (nIf G))), (a6, .inl (cI, 6, .inl (nIf T))), (c0, .inr (2, [.int (nI n1), .int (nI m1), .int (nI sh1), .int (nI aw1), .ref c1, .ref c2, .ref c3, .ref c4, .ref c5, .ref c6])), (c1, .inl (cI, 7, .inl (nIf ki1))), (c2, .inl (cI, 7, .inl (nIf op1))), (c3, .inl (cI, 7, .inl (nIf fa1))), (c4, .inl (cI, 6, .inl (nIf K1))), (c5, .inl (cI, 6, .inl (nIf G1))), (c6, .inl (cI, 6, .inl (nIf T1))), (s0, .inr (3, [.int (nI ls), .ref s1])), (s1, .inl (cI, 96, .inl (nIf sg))), (g0, .inr (0, [.int (nI cs), .ref g1, .ref g2, .ref g3]))]
    have hq9 := hq_5
    refine v_is_n (lv2 := [(1, .int (-1)), (0, .ref x0)]) 8 zC dX4_family_7 (by rw [hnE]; decide) rfl ?_
    refine v_il_n 9 zC dX4_family_8 0 rfl ?_
    refine v_if_lt 26 12 zC dX4_family_9 (fun _ => ?_) (fun z => absurd (by decide +kernel) z)
    refine v_al_n 27 zC dX4_family_26 1 rfl ?_
    refine v_gf 30 0 zC dX4_family_27 gf_X4_16 rfl rfl ?_
    refine v_al_n 31 zC dX4_family_30 1 rfl ?_
    refine v_gf 34 0 zC dX4_family_31 gf_X4_12 rfl rfl ?_
    refine v_cV (As := [.ref a0]) (st := []) 37 8 [8, 9, 10, 11, 12, 13, 14, 1, 2, 3, 4, 5, 6, 7] zC dX4_family_34 hA (c_X2_become (ev_l E) (ev_D E) cI (a0 := a0) (a1 := a1) (a2 := a2) (a3 := a3) (a4 := a4) (a5 := a5) (a6 := a6) (n := n) (m := m) (sh := sh) (aw := 0) (ki := ki) (op := op) (fa := fa) (K := K) (G := G) (T := T) (c0 := c0) (c1 := c1) (c2 := c2) (c3 := c3) (c4 := c4) (c5 := c5) (c6 := c6) (n1 := n1) (m1 := m1) (sh1 := sh1) (aw1 := aw1) (ki1 := ki1) (op1 := op1) (fa1 := fa1) (K1 := K1) (G1 := G1) (T1 := T1) (hw := hw) (hw1 := hw1)) cf_X2_become lk_X4_65 rfl rfl rfl rfl rfl (by decide +kernel) (Nat.le_of_ble_eq_true rfl) (fun rv_10 wv_11 hp_12 hm_13 => ?_)
    clear hm_13
    obtain ⟨rfl, rfl⟩ := hp_12
    show VV E 0 0 37 [(1, .int (-1)), (0, .ref x0)] [] [(x0, .inr (4, [.ref a0, .ref c0, .ref xp, .int (bz pd), .ref b0, .ref g0, .ref s0, .ref w0, .int (nI rs), .ref y0])), (a0, .inr (2, [.int (nI n), .int (nI m), .int (nI sh), .int (nI 0), .ref a1, .ref a2, .ref a3, .ref a4, .ref a5, .ref a6])), (a1, .inl (cI, 7, .inl (nIf ki))), (a2, .inl (cI, 7, .inl (nIf op))), (a3, .inl (cI, 7, .inl (nIf fa))), (a4, .inl (cI, 6, .inl (nIf K))), (a5, .inl (cI, 6, .inl (nIf G))), (a6, .inl (cI, 6, .inl (nIf T))), (c0, .inr (2, [.int (nI n), .int (nI m), .int (nI sh), .int (nI 0), .ref c1, .ref c2, .ref c3, .ref c4, .ref c5, .ref c6])), (c1, .inl (cI, 7, .inl (nIf ki))), (c2, .inl (cI, 7, .inl (nIf op))), (c3, .inl (cI, 7, .inl (nIf fa))), (c4, .inl (cI, 6, .inl (nIf K))), (c5, .inl (cI, 6, .inl (nIf G))), (c6, .inl (cI, 6, .inl (nIf T))), (s0, .inr (3, [.int (nI ls), .ref s1])), (s1, .inl (cI, 96, .inl (nIf sg))), (g0, .inr (0, [.int (nI cs), .ref g1, .ref g2, .ref g3]))]
    refine v_ic (v := (nI 0)) 38 zC dX4_family_37 (by decide +kernel) ?_
    refine v_is_n (lv2 := [(2, .int (nI 0)), (1, .int (-1)), (0, .ref x0)]) 39 zC dX4_family_38 (by rw [hnE]; decide) rfl ?_
    refine v_ic (v := (nI 0)) 40 zC dX4_family_39 (by decide +kernel) ?_
    refine v_is_n (lv2 := [(3, .int (nI 0)), (2, .int (nI 0)), (1, .int (-1)), (0, .ref x0)]) 41 zC dX4_family_40 (by rw [hnE]; decide) rfl ?_
    have lp41 : ∀ (mz : Nat) (a : Nat) (c : Nat) (f : Nat) (n3 : Nat) (m3 : Nat) (s3 : Nat) (ki3 : Nat → Nat) (op3 : Nat → Nat) (fa3 : Nat → Nat) (K3 : Nat → Nat) (G3 : Nat → Nat) (T3 : Nat → Nat), (FW n3 m3 s3 ki3 op3 fa3 K3 G3 T3) → (ls ≤ a + f) → (TELL ls sg f a c (n3, m3, s3, 0, ki3, op3, fa3, K3, G3, T3) = TELL ls sg ls 0 0 (n, m, sh, 0, ki, op, fa, K, G, T)) → (BR ls sg f a = none) → (3 * c ≤ a) → (a ≤ ls) → ls - a = mz → VV E 0 0 41 [(3, .int (nI c)), (2, .int (nI a)), (1, .int (-1)), (0, .ref x0)] [] [(x0, .inr (4, [.ref a0, .ref c0, .ref xp, .int (bz pd), .ref b0, .ref g0, .ref s0, .ref w0, .int (nI rs), .ref y0])), (a0, .inr (2, [.int (nI n), .int (nI m), .int (nI sh), .int (nI 0), .ref a1, .ref a2, .ref a3, .ref a4, .ref a5, .ref a6])), (a1, .inl (cI, 7, .inl (nIf ki))), (a2, .inl (cI, 7, .inl (nIf op))), (a3, .inl (cI, 7, .inl (nIf fa))), (a4, .inl (cI, 6, .inl (nIf K))), (a5, .inl (cI, 6, .inl (nIf G))), (a6, .inl (cI, 6, .inl (nIf T))), (c0, .inr (2, [.int (nI n3), .int (nI m3), .int (nI s3), .int (nI 0), .ref c1, .ref c2, .ref c3, .ref c4, .ref c5, .ref c6])), (c1, .inl (cI, 7, .inl (nIf ki3))), (c2, .inl (cI, 7, .inl (nIf op3))), (c3, .inl (cI, 7, .inl (nIf fa3))), (c4, .inl (cI, 6, .inl (nIf K3))), (c5, .inl (cI, 6, .inl (nIf G3))), (c6, .inl (cI, 6, .inl (nIf T3))), (s0, .inr (3, [.int (nI ls), .ref s1])), (s1, .inl (cI, 96, .inl (nIf sg))), (g0, .inr (0, [.int (nI cs), .ref g1, .ref g2, .ref g3]))] := by
      intro mz
      induction mz using Nat.strongRecOn with
      | _ mz ih41 =>
      intro a c f n3 m3 s3 ki3 op3 fa3 K3 G3 T3 hF hf ht hbr hac ha hm41
      refine v_il_n 42 zC dX4_family_41 1 rfl ?_
      refine v_al_n 43 zC dX4_family_42 3 rfl ?_
      refine v_gf 46 0 zC dX4_family_43 gf_X4_39 rfl rfl ?_
      refine v_gf 49 15 zC dX4_family_46 gf_X4_54 rfl rfl ?_
      refine v_icmpn_ge 102 52 zC dX4_family_49 (fun h_14 => ?_) (fun h_14 => ?_)
      ·
        have hend9 := h_14
        refine v_al_n 103 zC dX4_family_102 3 rfl ?_
        refine v_gf 106 0 zC dX4_family_103 gf_X4_39 rfl rfl ?_
        refine v_ic (v := (nI 0)) 107 zC dX4_family_106 (by decide +kernel) ?_
        refine v_pf (ws2 := [(x0, .inr (4, [.ref a0, .ref c0, .ref xp, .int (bz pd), .ref b0, .ref g0, .ref s0, .ref w0, .int (nI rs), .ref y0])), (a0, .inr (2, [.int (nI n), .int (nI m), .int (nI sh), .int (nI 0), .ref a1, .ref a2, .ref a3, .ref a4, .ref a5, .ref a6])), (a1, .inl (cI, 7, .inl (nIf ki))), (a2, .inl (cI, 7, .inl (nIf op))), (a3, .inl (cI, 7, .inl (nIf fa))), (a4, .inl (cI, 6, .inl (nIf K))), (a5, .inl (cI, 6, .inl (nIf G))), (a6, .inl (cI, 6, .inl (nIf T))), (c0, .inr (2, [.int (nI n3), .int (nI m3), .int (nI s3), .int (nI 0), .ref c1, .ref c2, .ref c3, .ref c4, .ref c5, .ref c6])), (c1, .inl (cI, 7, .inl (nIf ki3))), (c2, .inl (cI, 7, .inl (nIf op3))), (c3, .inl (cI, 7, .inl (nIf fa3))), (c4, .inl (cI, 6, .inl (nIf K3))), (c5, .inl (cI, 6, .inl (nIf G3))), (c6, .inl (cI, 6, .inl (nIf T3))), (s0, .inr (3, [.int (nI 0), .ref s1])), (s1, .inl (cI, 96, .inl (nIf sg))), (g0, .inr (0, [.int (nI cs), .ref g1, .ref g2, .ref g3]))]) 110 15 zC dX4_family_107 pf_X4_54 rfl (Nat.le_of_ble_eq_true rfl) rfl rfl rfl ?_
        refine v_al_n 111 zC dX4_family_110 3 rfl ?_
        refine v_gf 114 0 zC dX4_family_111 gf_X4_12 rfl rfl ?_
        refine v_al_n 115 zC dX4_family_114 3 rfl ?_
        refine v_gf 118 0 zC dX4_family_115 gf_X4_16 rfl rfl ?_
        refine v_cV (As := [.ref c0]) (st := []) 121 1 [1, 2, 3, 4, 5, 6, 7, 8, 9, 10, 11, 12, 13, 14] zC dX4_family_118 hA (c_X2_become (ev_l E) (ev_D E) cI (a0 := c0) (a1 := c1) (a2 := c2) (a3 := c3) (a4 := c4) (a5 := c5) (a6 := c6) (n := n3) (m := m3) (sh := s3) (aw := 0) (ki := ki3) (op := op3) (fa := fa3) (K := K3) (G := G3) (T := T3) (c0 := a0) (c1 := a1) (c2 := a2) (c3 := a3) (c4 := a4) (c5 := a5) (c6 := a6) (n1 := n) (m1 := m) (sh1 := sh) (aw1 := 0) (ki1 := ki) (op1 := op) (fa1 := fa) (K1 := K) (G1 := G) (T1 := T) (hw := hF) (hw1 := hw)) cf_X2_become lk_X4_65 rfl rfl rfl rfl rfl (by decide +kernel) (Nat.le_of_ble_eq_true rfl) (fun rv_15 wv_16 hp_17 hm_18 => ?_)
        clear hm_18
        obtain ⟨rfl, rfl⟩ := hp_17
        show VV E 0 0 121 [(3, .int (nI c)), (2, .int (nI a)), (1, .int (-1)), (0, .ref x0)] [] [(x0, .inr (4, [.ref a0, .ref c0, .ref xp, .int (bz pd), .ref b0, .ref g0, .ref s0, .ref w0, .int (nI rs), .ref y0])), (a0, .inr (2, [.int (nI n3), .int (nI m3), .int (nI s3), .int (nI 0), .ref a1, .ref a2, .ref a3, .ref a4, .ref a5, .ref a6])), (a1, .inl (cI, 7, .inl (nIf ki3))), (a2, .inl (cI, 7, .inl (nIf op3))), (a3, .inl (cI, 7, .inl (nIf fa3))), (a4, .inl (cI, 6, .inl (nIf K3))), (a5, .inl (cI, 6, .inl (nIf G3))), (a6, .inl (cI, 6, .inl (nIf T3))), (c0, .inr (2, [.int (nI n3), .int (nI m3), .int (nI s3), .int (nI 0), .ref c1, .ref c2, .ref c3, .ref c4, .ref c5, .ref c6])), (c1, .inl (cI, 7, .inl (nIf ki3))), (c2, .inl (cI, 7, .inl (nIf op3))), (c3, .inl (cI, 7, .inl (nIf fa3))), (c4, .inl (cI, 6, .inl (nIf K3))), (c5, .inl (cI, 6, .inl (nIf G3))), (c6, .inl (cI, 6, .inl (nIf T3))), (s0, .inr (3, [.int (nI 0), .ref s1])), (s1, .inl (cI, 96, .inl (nIf sg))), (g0, .inr (0, [.int (nI cs), .ref g1, .ref g2, .ref g3]))]
        refine v_al_n 122 zC dX4_family_121 3 rfl ?_
        refine v_gf 125 0 zC dX4_family_122 gf_X4_32 rfl rfl ?_
        refine v_cV (As := []) (st := []) 128 17 [17] zC dX4_family_125 hA (c_X0_forget (ev_l E) (ev_D E) cI (g0 := g0) (g1 := g1) (g2 := g2) (g3 := g3) (cs := cs) ) cf_X0_forget lk_X4_76 rfl rfl rfl rfl rfl (by decide +kernel) (Nat.le_of_ble_eq_true rfl) (fun rv_19 wv_20 hp_21 hm_22 => ?_)
        clear hm_22
        obtain ⟨rfl, rfl⟩ := hp_21
        show VV E 0 0 128 [(3, .int (nI c)), (2, .int (nI a)), (1, .int (-1)), (0, .ref x0)] [] [(x0, .inr (4, [.ref a0, .ref c0, .ref xp, .int (bz pd), .ref b0, .ref g0, .ref s0, .ref w0, .int (nI rs), .ref y0])), (a0, .inr (2, [.int (nI n3), .int (nI m3), .int (nI s3), .int (nI 0), .ref a1, .ref a2, .ref a3, .ref a4, .ref a5, .ref a6])), (a1, .inl (cI, 7, .inl (nIf ki3))), (a2, .inl (cI, 7, .inl (nIf op3))), (a3, .inl (cI, 7, .inl (nIf fa3))), (a4, .inl (cI, 6, .inl (nIf K3))), (a5, .inl (cI, 6, .inl (nIf G3))), (a6, .inl (cI, 6, .inl (nIf T3))), (c0, .inr (2, [.int (nI n3), .int (nI m3), .int (nI s3), .int (nI 0), .ref c1, .ref c2, .ref c3, .ref c4, .ref c5, .ref c6])), (c1, .inl (cI, 7, .inl (nIf ki3))), (c2, .inl (cI, 7, .inl (nIf op3))), (c3, .inl (cI, 7, .inl (nIf fa3))), (c4, .inl (cI, 6, .inl (nIf K3))), (c5, .inl (cI, 6, .inl (nIf G3))), (c6, .inl (cI, 6, .inl (nIf T3))), (s0, .inr (3, [.int (nI 0), .ref s1])), (s1, .inl (cI, 96, .inl (nIf sg))), (g0, .inr (0, [.int (nI 0), .ref g1, .ref g2, .ref g3]))]
        refine v_il_n 129 zC dX4_family_128 0 rfl ?_
        refine v_iret zC zT dX4_family_129  ?_
        first | (have g9 := hqA9; exact Or.inl ⟨_, hqA9, hb9, rfl, rfl⟩) | (have g9 := htn9; exact Or.inr (Or.inl ⟨_, _, _, _, _, _, _, _, _, _, hq9, by rw [← ht]; exact tell_b ha9 hf htn9, by omega, hF, rfl, rfl⟩)) | (have g9 := hend9; exact Or.inr (Or.inr ⟨_, _, _, _, _, _, _, _, _, _, hq9, by rw [← ht]; exact tell_e (by omega), hF, rfl, rfl⟩))
      ·
        have ha9 := h_14
        have hsc9 := br_sc ha9 hf hbr
        obtain ⟨v9, hv9, hdg9, hl9, h59⟩ := sc_ok hsc9.1
        have hv91 := db_pos hv9
        refine v_il_n 53 zC dX4_family_52 0 rfl ?_
        refine v_bp (v := (nI 96)) 55 zC dX4_family_53 (by decide +kernel) ?_
        refine v_icmpn_ge 102 58 zC dX4_family_55 (fun h_23 => False.elim (by omega)) (fun h_23 => ?_)
        refine v_al_n 59 zC dX4_family_58 3 rfl ?_
        refine v_gf 62 0 zC dX4_family_59 gf_X4_39 rfl rfl ?_
        refine v_il_n 63 zC dX4_family_62 1 rfl ?_
        refine v_al_n 64 zC dX4_family_63 3 rfl ?_
        refine v_gf 67 0 zC dX4_family_64 gf_X4_16 rfl rfl ?_
        refine v_cV (As := [.int (nI a), .ref c0]) (st := []) 70 15 [15, 16, 8, 9, 10, 11, 12, 13, 14] zC dX4_family_67 hA (c_X3_tellStatement (ev_l E) (ev_D E) cI (s0 := s0) (s1 := s1) (ls := ls) (sg := sg) (i := a) (a0 := c0) (a1 := c1) (a2 := c2) (a3 := c3) (a4 := c4) (a5 := c5) (a6 := c6) (n := n3) (m := m3) (sh := s3) (aw := 0) (ki := ki3) (op := op3) (fa := fa3) (K := K3) (G := G3) (T := T3) (hl := (by first | omega | assumption | rfl | (simp only []; omega) | decide)) (hi := (by first | omega | assumption | rfl | (simp only []; omega) | decide)) (hsg := (by first | omega | assumption | rfl | (simp only []; omega) | decide)) (hs := hsc9.1) (hw := hF)) cf_X3_tellStatement lk_X4_69 rfl rfl rfl rfl rfl (by decide +kernel) (Nat.le_of_ble_eq_true rfl) (fun rv_24 wv_25 hp_26 hm_27 => ?_)
        clear hm_27
        rcases hp_26 with ⟨ht_28, rfl, rfl⟩ | ⟨n2_29, m2_30, sh2_31, ki2_32, op2_33, fa2_34, K2_35, G2_36, T2_37, ht_38, hw2_39, rfl, rfl⟩
        ·
          show VV E 0 0 70 [(3, .int (nI c)), (2, .int (nI a)), (1, .int (-1)), (0, .ref x0)] [.int (nI 0)] [(x0, .inr (4, [.ref a0, .ref c0, .ref xp, .int (bz pd), .ref b0, .ref g0, .ref s0, .ref w0, .int (nI rs), .ref y0])), (a0, .inr (2, [.int (nI n), .int (nI m), .int (nI sh), .int (nI 0), .ref a1, .ref a2, .ref a3, .ref a4, .ref a5, .ref a6])), (a1, .inl (cI, 7, .inl (nIf ki))), (a2, .inl (cI, 7, .inl (nIf op))), (a3, .inl (cI, 7, .inl (nIf fa))), (a4, .inl (cI, 6, .inl (nIf K))), (a5, .inl (cI, 6, .inl (nIf G))), (a6, .inl (cI, 6, .inl (nIf T))), (c0, .inr (2, [.int (nI n3), .int (nI m3), .int (nI s3), .int (nI 0), .ref c1, .ref c2, .ref c3, .ref c4, .ref c5, .ref c6])), (c1, .inl (cI, 7, .inl (nIf ki3))), (c2, .inl (cI, 7, .inl (nIf op3))), (c3, .inl (cI, 7, .inl (nIf fa3))), (c4, .inl (cI, 6, .inl (nIf K3))), (c5, .inl (cI, 6, .inl (nIf G3))), (c6, .inl (cI, 6, .inl (nIf T3))), (s0, .inr (3, [.int (nI ls), .ref s1])), (s1, .inl (cI, 96, .inl (nIf sg))), (g0, .inr (0, [.int (nI cs), .ref g1, .ref g2, .ref g3]))]
          have htn9 := ht_28
          refine v_if_ne 87 73 zC dX4_family_70 (fun z => absurd (by decide +kernel) z) (fun _ => ?_)
          refine v_al_n 74 zC dX4_family_73 3 rfl ?_
          refine v_gf 77 0 zC dX4_family_74 gf_X4_39 rfl rfl ?_
          refine v_ic (v := (nI 0)) 78 zC dX4_family_77 (by decide +kernel) ?_
          refine v_pf (ws2 := [(x0, .inr (4, [.ref a0, .ref c0, .ref xp, .int (bz pd), .ref b0, .ref g0, .ref s0, .ref w0, .int (nI rs), .ref y0])), (a0, .inr (2, [.int (nI n), .int (nI m), .int (nI sh), .int (nI 0), .ref a1, .ref a2, .ref a3, .ref a4, .ref a5, .ref a6])), (a1, .inl (cI, 7, .inl (nIf ki))), (a2, .inl (cI, 7, .inl (nIf op))), (a3, .inl (cI, 7, .inl (nIf fa))), (a4, .inl (cI, 6, .inl (nIf K))), (a5, .inl (cI, 6, .inl (nIf G))), (a6, .inl (cI, 6, .inl (nIf T))), (c0, .inr (2, [.int (nI n3), .int (nI m3), .int (nI s3), .int (nI 0), .ref c1, .ref c2, .ref c3, .ref c4, .ref c5, .ref c6])), (c1, .inl (cI, 7, .inl (nIf ki3))), (c2, .inl (cI, 7, .inl (nIf op3))), (c3, .inl (cI, 7, .inl (nIf fa3))), (c4, .inl (cI, 6, .inl (nIf K3))), (c5, .inl (cI, 6, .inl (nIf G3))), (c6, .inl (cI, 6, .inl (nIf T3))), (s0, .inr (3, [.int (nI 0), .ref s1])), (s1, .inl (cI, 96, .inl (nIf sg))), (g0, .inr (0, [.int (nI cs), .ref g1, .ref g2, .ref g3]))]) 81 15 zC dX4_family_78 pf_X4_54 rfl (Nat.le_of_ble_eq_true rfl) rfl rfl rfl ?_
          refine v_sp (v := (-2000)) 84 zC dX4_family_81 (by decide +kernel) ?_
          refine v_il_n 85 zC dX4_family_84 1 rfl ?_
          refine v_isub (v := ((-2000) - (nI a))) 86 zC dX4_family_85 rfl ?_
          refine v_iret zC zT dX4_family_86  ?_
          first | (have g9 := hqA9; exact Or.inl ⟨_, hqA9, hb9, rfl, rfl⟩) | (have g9 := htn9; exact Or.inr (Or.inl ⟨_, _, _, _, _, _, _, _, _, _, hq9, by rw [← ht]; exact tell_b ha9 hf htn9, by omega, hF, rfl, rfl⟩)) | (have g9 := hend9; exact Or.inr (Or.inr ⟨_, _, _, _, _, _, _, _, _, _, hq9, by rw [← ht]; exact tell_e (by omega), hF, rfl, rfl⟩))
        ·
          show VV E 0 0 70 [(3, .int (nI c)), (2, .int (nI a)), (1, .int (-1)), (0, .ref x0)] [.int (nI 1)] [(x0, .inr (4, [.ref a0, .ref c0, .ref xp, .int (bz pd), .ref b0, .ref g0, .ref s0, .ref w0, .int (nI rs), .ref y0])), (a0, .inr (2, [.int (nI n), .int (nI m), .int (nI sh), .int (nI 0), .ref a1, .ref a2, .ref a3, .ref a4, .ref a5, .ref a6])), (a1, .inl (cI, 7, .inl (nIf ki))), (a2, .inl (cI, 7, .inl (nIf op))), (a3, .inl (cI, 7, .inl (nIf fa))), (a4, .inl (cI, 6, .inl (nIf K))), (a5, .inl (cI, 6, .inl (nIf G))), (a6, .inl (cI, 6, .inl (nIf T))), (c0, .inr (2, [.int (nI n2_29), .int (nI m2_30), .int (nI sh2_31), .int (nI 0), .ref c1, .ref c2, .ref c3, .ref c4, .ref c5, .ref c6])), (c1, .inl (cI, 7, .inl (nIf ki2_32))), (c2, .inl (cI, 7, .inl (nIf op2_33))), (c3, .inl (cI, 7, .inl (nIf fa2_34))), (c4, .inl (cI, 6, .inl (nIf K2_35))), (c5, .inl (cI, 6, .inl (nIf G2_36))), (c6, .inl (cI, 6, .inl (nIf T2_37))), (s0, .inr (3, [.int (nI ls), .ref s1])), (s1, .inl (cI, 96, .inl (nIf sg))), (g0, .inr (0, [.int (nI cs), .ref g1, .ref g2, .ref g3]))]
          have ht9 := ht_38
          have hw9 := hw2_39
          refine v_if_ne 87 73 zC dX4_family_70 (fun _ => ?_) (fun z => absurd z (by decide +kernel))
          refine v_al_n 88 zC dX4_family_87 3 rfl ?_
          refine v_gf 91 0 zC dX4_family_88 gf_X4_39 rfl rfl ?_
          refine v_il_n 92 zC dX4_family_91 1 rfl ?_
          refine v_cV (As := [.int (nI a)]) (st := []) 95 15 [15, 16] zC dX4_family_92 hA (c_X3_behind (ev_l E) (ev_D E) cI (s0 := s0) (s1 := s1) (ls := ls) (sg := sg) (i := a) (v := v9) (hl := (by first | omega | assumption | rfl | (simp only []; omega) | decide)) (hi := (by first | omega | assumption | rfl | (simp only []; omega) | decide)) (hsg := (by first | omega | assumption | rfl | (simp only []; omega) | decide)) (hd := hv9)) cf_X3_behind lk_X4_73 rfl rfl rfl rfl rfl (by decide +kernel) (Nat.le_of_ble_eq_true rfl) (fun rv_42 wv_43 hp_44 hm_45 => ?_)
          clear hm_45
          obtain ⟨rfl, rfl⟩ := hp_44
          show VV E 0 0 95 [(3, .int (nI c)), (2, .int (nI a)), (1, .int (-1)), (0, .ref x0)] [.int (nI (a + v9 + 2))] [(x0, .inr (4, [.ref a0, .ref c0, .ref xp, .int (bz pd), .ref b0, .ref g0, .ref s0, .ref w0, .int (nI rs), .ref y0])), (a0, .inr (2, [.int (nI n), .int (nI m), .int (nI sh), .int (nI 0), .ref a1, .ref a2, .ref a3, .ref a4, .ref a5, .ref a6])), (a1, .inl (cI, 7, .inl (nIf ki))), (a2, .inl (cI, 7, .inl (nIf op))), (a3, .inl (cI, 7, .inl (nIf fa))), (a4, .inl (cI, 6, .inl (nIf K))), (a5, .inl (cI, 6, .inl (nIf G))), (a6, .inl (cI, 6, .inl (nIf T))), (c0, .inr (2, [.int (nI n2_29), .int (nI m2_30), .int (nI sh2_31), .int (nI 0), .ref c1, .ref c2, .ref c3, .ref c4, .ref c5, .ref c6])), (c1, .inl (cI, 7, .inl (nIf ki2_32))), (c2, .inl (cI, 7, .inl (nIf op2_33))), (c3, .inl (cI, 7, .inl (nIf fa2_34))), (c4, .inl (cI, 6, .inl (nIf K2_35))), (c5, .inl (cI, 6, .inl (nIf G2_36))), (c6, .inl (cI, 6, .inl (nIf T2_37))), (s0, .inr (3, [.int (nI ls), .ref s1])), (s1, .inl (cI, 96, .inl (nIf sg))), (g0, .inr (0, [.int (nI cs), .ref g1, .ref g2, .ref g3]))]
          refine v_is_n (lv2 := [(2, .int (nI (a + v9 + 2))), (3, .int (nI c)), (1, .int (-1)), (0, .ref x0)]) 96 zC dX4_family_95 (by rw [hnE]; decide) rfl ?_
          refine v_inc (v := (nI (c + 1))) (lv2 := [(3, .int (nI (c + 1))), (2, .int (nI (a + v9 + 2))), (1, .int (-1)), (0, .ref x0)]) 99 zC dX4_family_96 (j := 1) rfl (nI_add _ 1) (by rw [hnE]; decide) rfl ?_
          refine v_goto 41 zC dX4_family_99 ?_
          refine v_lvs (lv2 := [(3, .int (nI (c + 1))), (2, .int (nI (a + v9 + 2))), (1, .int (-1)), (0, .ref x0)]) [0, 1, 2, 3] rfl ?_
          exact ih41 _ (by omega) (a + v9 + 2) (c + 1) (f - 1) n2_29 m2_30 sh2_31 ki2_32 op2_33 fa2_34 K2_35 G2_36 T2_37 hw9 (by omega) (by rw [← ht, tell_s ha9 hf ht9, nxt_v hv9]) (by rw [← nxt_v hv9]; exact hsc9.2) (by first | omega | assumption | rfl | (simp only []; omega) | decide) (by first | omega | assumption | rfl | (simp only []; omega) | decide) rfl
    refine v_lvs (lv2 := [(3, .int (nI 0)), (2, .int (nI 0)), (1, .int (-1)), (0, .ref x0)]) [0, 1, 2, 3] rfl ?_
    exact lp41 _ 0 0 ls n m sh ki op fa K G T hw (by first | omega | assumption | rfl | (simp only []; omega) | decide) rfl (brk_n hq9).2 (Nat.le_refl _) (by first | omega | assumption | rfl | (simp only []; omega) | decide) rfl
  ·
    show VV E 0 0 7 [(0, .ref x0)] [.int (nI b_6)] [(x0, .inr (4, [.ref a0, .ref c0, .ref xp, .int (bz pd), .ref b0, .ref g0, .ref s0, .ref w0, .int (nI rs), .ref y0])), (a0, .inr (2, [.int (nI n), .int (nI m), .int (nI sh), .int (nI 0), .ref a1, .ref a2, .ref a3, .ref a4, .ref a5, .ref a6])), (a1, .inl (cI, 7, .inl (nIf ki))), (a2, .inl (cI, 7, .inl (nIf op))), (a3, .inl (cI, 7, .inl (nIf fa))), (a4, .inl (cI, 6, .inl (nIf K))), (a5, .inl (cI, 6, .inl (nIf G))), (a6, .inl (cI, 6, .inl (nIf T))), (c0, .inr (2, [.int (nI n1), .int (nI m1), .int (nI sh1), .int (nI aw1), .ref c1, .ref c2, .ref c3, .ref c4, .ref c5, .ref c6])), (c1, .inl (cI, 7, .inl (nIf ki1))), (c2, .inl (cI, 7, .inl (nIf op1))), (c3, .inl (cI, 7, .inl (nIf fa1))), (c4, .inl (cI, 6, .inl (nIf K1))), (c5, .inl (cI, 6, .inl (nIf G1))), (c6, .inl (cI, 6, .inl (nIf T1))), (s0, .inr (3, [.int (nI ls), .ref s1])), (s1, .inl (cI, 96, .inl (nIf sg))), (g0, .inr (0, [.int (nI cs), .ref g1, .ref g2, .ref g3]))]
    have hqA9 := hq_7
    have hb9 := hb_8
    refine v_is_n (lv2 := [(1, .int (nI b_6)), (0, .ref x0)]) 8 zC dX4_family_7 (by rw [hnE]; decide) rfl ?_
    refine v_il_n 9 zC dX4_family_8 0 rfl ?_
    refine v_ifn_lt 26 12 zC dX4_family_9 (fun z => absurd z (Nat.not_lt_zero _)) (fun _ => ?_)
    refine v_al_n 13 zC dX4_family_12 1 rfl ?_
    refine v_gf 16 0 zC dX4_family_13 gf_X4_39 rfl rfl ?_
    refine v_ic (v := (nI 0)) 17 zC dX4_family_16 (by decide +kernel) ?_
    refine v_pf (ws2 := [(x0, .inr (4, [.ref a0, .ref c0, .ref xp, .int (bz pd), .ref b0, .ref g0, .ref s0, .ref w0, .int (nI rs), .ref y0])), (a0, .inr (2, [.int (nI n), .int (nI m), .int (nI sh), .int (nI 0), .ref a1, .ref a2, .ref a3, .ref a4, .ref a5, .ref a6])), (a1, .inl (cI, 7, .inl (nIf ki))), (a2, .inl (cI, 7, .inl (nIf op))), (a3, .inl (cI, 7, .inl (nIf fa))), (a4, .inl (cI, 6, .inl (nIf K))), (a5, .inl (cI, 6, .inl (nIf G))), (a6, .inl (cI, 6, .inl (nIf T))), (c0, .inr (2, [.int (nI n1), .int (nI m1), .int (nI sh1), .int (nI aw1), .ref c1, .ref c2, .ref c3, .ref c4, .ref c5, .ref c6])), (c1, .inl (cI, 7, .inl (nIf ki1))), (c2, .inl (cI, 7, .inl (nIf op1))), (c3, .inl (cI, 7, .inl (nIf fa1))), (c4, .inl (cI, 6, .inl (nIf K1))), (c5, .inl (cI, 6, .inl (nIf G1))), (c6, .inl (cI, 6, .inl (nIf T1))), (s0, .inr (3, [.int (nI 0), .ref s1])), (s1, .inl (cI, 96, .inl (nIf sg))), (g0, .inr (0, [.int (nI cs), .ref g1, .ref g2, .ref g3]))]) 20 15 zC dX4_family_17 pf_X4_54 rfl (Nat.le_of_ble_eq_true rfl) rfl rfl rfl ?_
    refine v_sp (v := (-1000)) 23 zC dX4_family_20 (by decide +kernel) ?_
    refine v_il_n 24 zC dX4_family_23 0 rfl ?_
    refine v_isub (v := ((-1000) - (nI b_6))) 25 zC dX4_family_24 rfl ?_
    refine v_iret zC zT dX4_family_25  ?_
    first | (have g9 := hqA9; exact Or.inl ⟨_, hqA9, hb9, rfl, rfl⟩) | (have g9 := htn9; exact Or.inr (Or.inl ⟨_, _, _, _, _, _, _, _, _, _, hq9, by rw [← ht]; exact tell_b ha9 hf htn9, by omega, hF, rfl, rfl⟩)) | (have g9 := hend9; exact Or.inr (Or.inr ⟨_, _, _, _, _, _, _, _, _, _, hq9, by rw [← ht]; exact tell_e (by omega), hF, rfl, rfl⟩))
set_option maxRecDepth 100000 in
set_option maxHeartbeats 4000000 in
theorem c_X4_person (l : Launch) (D : va_G) (cI : ClassId) (x0 xm xp b0 g0 s0 w0 y0 : Nat) (pd : Bool) (rs : Nat) (a0 a1 a2 a3 a4 a5 a6 : Nat) (n m sh : Nat) (ki op fa K G T R : Nat → Nat) (p w : Int32) (hn : n ≤ 7) : CT l yX4_person cX4_person 3 (some .int) { frames := 1, cells := 0, slots := 0, locals := 21 } D cI [.ref x0, .int p, .int w] [(x0, .inr (4, [.ref a0, .ref xm, .ref xp, .int (bz pd), .ref b0, .ref g0, .ref s0, .ref w0, .int (nI rs), .ref y0])), (a0, .inr (2, [.int (nI n), .int (nI m), .int (nI sh), .int (nI 0), .ref a1, .ref a2, .ref a3, .ref a4, .ref a5, .ref a6])), (a1, .inl (cI, 7, .inl (nIf ki))), (a2, .inl (cI, 7, .inl (nIf op))), (a3, .inl (cI, 7, .inl (nIf fa))), (y0, .inl (cI, 7, .inl (nIf R)))] (fun zr zw => (∃ rc : Nat, ∃ rv : Int32, (q_person (n, m, sh, 0, ki, op, fa, K, G, T) p w = (rc, rv)) ∧ zr = some (.int rv) ∧ zw = [(x0, .inr (4, [.ref a0, .ref xm, .ref xp, .int (bz pd), .ref b0, .ref g0, .ref s0, .ref w0, .int (nI rs), .ref y0])), (a0, .inr (2, [.int (nI n), .int (nI m), .int (nI sh), .int (nI 0), .ref a1, .ref a2, .ref a3, .ref a4, .ref a5, .ref a6])), (a1, .inl (cI, 7, .inl (nIf ki))), (a2, .inl (cI, 7, .inl (nIf op))), (a3, .inl (cI, 7, .inl (nIf fa))), (y0, .inl (cI, 7, .inl (nIf (rf R rc))))])) := by
  refine CT_of RX4 rfl (by decide +kernel) (Nat.le_of_ble_eq_true rfl) (fun E hnE zC zT => ?_)
  have hA : ∀ q, (ev_s E).heap.size ≤ q → ev_A E q := fun q h => by rw [zT.2]; exact Or.inr h
  show VV E 0 0 0 [(0, .ref x0), (1, .int p), (2, .int w)] [] [(x0, .inr (4, [.ref a0, .ref xm, .ref xp, .int (bz pd), .ref b0, .ref g0, .ref s0, .ref w0, .int (nI rs), .ref y0])), (a0, .inr (2, [.int (nI n), .int (nI m), .int (nI sh), .int (nI 0), .ref a1, .ref a2, .ref a3, .ref a4, .ref a5, .ref a6])), (a1, .inl (cI, 7, .inl (nIf ki))), (a2, .inl (cI, 7, .inl (nIf op))), (a3, .inl (cI, 7, .inl (nIf fa))), (y0, .inl (cI, 7, .inl (nIf R)))]
  refine v_al_n 1 zC dX4_person_0 0 rfl ?_
  refine v_il_n 2 zC dX4_person_1 1 rfl ?_
  refine v_cV (As := [.int p]) (st := []) 5 0 [0, 1] zC dX4_person_2 hA (c_X4_noPerson (ev_l E) (ev_D E) cI (x0 := x0) (xm := xm) (xp := xp) (b0 := b0) (g0 := g0) (s0 := s0) (w0 := w0) (y0 := y0) (pd := pd) (rs := rs) (a0 := a0) (a1 := a1) (a2 := a2) (a3 := a3) (a4 := a4) (a5 := a5) (a6 := a6) (n := n) (m := m) (sh := sh) (p := p) (hn := (by first | omega | assumption | rfl | (simp only []; omega) | decide))) cf_X4_noPerson lk_X4_79 rfl rfl rfl rfl rfl (by decide +kernel) (Nat.le_of_ble_eq_true rfl) (fun rv_1 wv_2 hp_3 hm_4 => ?_)
  clear hm_4
  rcases hp_3 with ⟨hi_5, rfl, rfl⟩ | ⟨j_6, he_7, hi_8, hj_9, rfl, rfl⟩
  ·
    show VV E 0 0 5 [(0, .ref x0), (1, .int p), (2, .int w)] [.int (nI 1)] [(x0, .inr (4, [.ref a0, .ref xm, .ref xp, .int (bz pd), .ref b0, .ref g0, .ref s0, .ref w0, .int (nI rs), .ref y0])), (a0, .inr (2, [.int (nI n), .int (nI m), .int (nI sh), .int (nI 0), .ref a1, .ref a2, .ref a3, .ref a4, .ref a5, .ref a6])), (a1, .inl (cI, 7, .inl (nIf ki))), (a2, .inl (cI, 7, .inl (nIf op))), (a3, .inl (cI, 7, .inl (nIf fa))), (y0, .inl (cI, 7, .inl (nIf R)))]
    have hn_p := hi_5
    refine v_if_eq 14 8 zC dX4_person_5 (fun z => absurd z (by decide +kernel)) (fun _ => ?_)
    refine v_al_n 9 zC dX4_person_8 0 rfl ?_
    refine v_ic (v := (-1)) 10 zC dX4_person_9 (by decide +kernel) ?_
    refine v_cV (As := [.int (-1)]) (st := []) 13 0 [0, 5] zC dX4_person_10 hA (c_X4_refuse (ev_l E) (ev_D E) cI (x0 := x0) (xn := a0) (xm := xm) (xp := xp) (b0 := b0) (g0 := g0) (s0 := s0) (w0 := w0) (y0 := y0) (pd := pd) (rs := rs) (R := R) (v := (-1)) (j := 1) (hv := (by first | omega | assumption | rfl | (simp only []; omega) | decide)) (h1 := (by first | omega | assumption | rfl | (simp only []; omega) | decide)) (h6 := (by first | omega | assumption | rfl | (simp only []; omega) | decide))) cf_X4_refuse lk_X4_50 rfl rfl rfl rfl rfl (by decide +kernel) (Nat.le_of_ble_eq_true rfl) (fun rv_11 wv_12 hp_13 hm_14 => ?_)
    clear hm_14
    obtain ⟨rfl, rfl⟩ := hp_13
    show VV E 0 0 13 [(0, .ref x0), (1, .int p), (2, .int w)] [.int (-1)] [(x0, .inr (4, [.ref a0, .ref xm, .ref xp, .int (bz pd), .ref b0, .ref g0, .ref s0, .ref w0, .int (nI rs), .ref y0])), (a0, .inr (2, [.int (nI n), .int (nI m), .int (nI sh), .int (nI 0), .ref a1, .ref a2, .ref a3, .ref a4, .ref a5, .ref a6])), (a1, .inl (cI, 7, .inl (nIf ki))), (a2, .inl (cI, 7, .inl (nIf op))), (a3, .inl (cI, 7, .inl (nIf fa))), (y0, .inl (cI, 7, .inl (nIf (un R 1 (R 1 + 1)))))]
    refine v_iret zC zT dX4_person_13  ?_
    first | (have g9 := hn_p; exact ⟨1, _, by unfold q_person; rw [hn_p], rfl, rfl⟩) | (have g9 := hn_w; exact ⟨2, _, by unfold q_person; rw [hi_p]; dsimp only; rw [hn_w], rfl, rfl⟩) | (have g9 := hs9; exact ⟨0, _, by unfold q_person; rw [hi_p]; dsimp only; rw [hi_w]; dsimp only; simp [hk9, hs9], rfl, rfl⟩) | exact ⟨0, _, by unfold q_person; rw [hi_p]; dsimp only; rw [hi_w]; dsimp only; simp [hk9], rfl, rfl⟩
  ·
    show VV E 0 0 5 [(0, .ref x0), (1, .int p), (2, .int w)] [.int (nI 0)] [(x0, .inr (4, [.ref a0, .ref xm, .ref xp, .int (bz pd), .ref b0, .ref g0, .ref s0, .ref w0, .int (nI rs), .ref y0])), (a0, .inr (2, [.int (nI n), .int (nI m), .int (nI sh), .int (nI 0), .ref a1, .ref a2, .ref a3, .ref a4, .ref a5, .ref a6])), (a1, .inl (cI, 7, .inl (nIf ki))), (a2, .inl (cI, 7, .inl (nIf op))), (a3, .inl (cI, 7, .inl (nIf fa))), (y0, .inl (cI, 7, .inl (nIf R)))]
    subst he_7
    have hi_p := hi_8
    obtain ⟨jp, hx_jp⟩ : ∃ z, z = j_6 := ⟨_, rfl⟩
    subst hx_jp
    refine v_if_eq 14 8 zC dX4_person_5 (fun _ => ?_) (fun z => absurd (by decide +kernel) z)
    refine v_il_n 15 zC dX4_person_14 2 rfl ?_
    refine v_ic (v := (nI 4)) 16 zC dX4_person_15 (by decide +kernel) ?_
    refine v_cS (As := [.int w, .int (nI 4)]) (st := []) 19 [] zC dX4_person_16 hA (c_X4_noWhat (ev_l E) (ev_D E) cI (p := w) (k := 4) (hk := (by first | omega | assumption | rfl | (simp only []; omega) | decide))) cf_X4_noWhat lk_X4_83 rfl rfl rfl (by decide +kernel) (Nat.le_of_ble_eq_true rfl) (fun rv_16 wv_17 hp_18 hm_19 => ?_)
    clear hm_19
    rcases hp_18 with ⟨hi_20, rfl, rfl⟩ | ⟨j_21, he_22, hi_23, hj_24, rfl, rfl⟩
    ·
      show VV E 0 0 19 [(0, .ref x0), (1, .int (nI jp)), (2, .int w)] [.int (nI 1)] [(x0, .inr (4, [.ref a0, .ref xm, .ref xp, .int (bz pd), .ref b0, .ref g0, .ref s0, .ref w0, .int (nI rs), .ref y0])), (a0, .inr (2, [.int (nI n), .int (nI m), .int (nI sh), .int (nI 0), .ref a1, .ref a2, .ref a3, .ref a4, .ref a5, .ref a6])), (a1, .inl (cI, 7, .inl (nIf ki))), (a2, .inl (cI, 7, .inl (nIf op))), (a3, .inl (cI, 7, .inl (nIf fa))), (y0, .inl (cI, 7, .inl (nIf R)))]
      have hn_w := hi_20
      refine v_if_eq 29 22 zC dX4_person_19 (fun z => absurd z (by decide +kernel)) (fun _ => ?_)
      refine v_al_n 23 zC dX4_person_22 0 rfl ?_
      refine v_bp (v := (-2)) 25 zC dX4_person_23 (by decide +kernel) ?_
      refine v_cV (As := [.int (-2)]) (st := []) 28 0 [0, 5] zC dX4_person_25 hA (c_X4_refuse (ev_l E) (ev_D E) cI (x0 := x0) (xn := a0) (xm := xm) (xp := xp) (b0 := b0) (g0 := g0) (s0 := s0) (w0 := w0) (y0 := y0) (pd := pd) (rs := rs) (R := R) (v := (-2)) (j := 2) (hv := (by first | omega | assumption | rfl | (simp only []; omega) | decide)) (h1 := (by first | omega | assumption | rfl | (simp only []; omega) | decide)) (h6 := (by first | omega | assumption | rfl | (simp only []; omega) | decide))) cf_X4_refuse lk_X4_50 rfl rfl rfl rfl rfl (by decide +kernel) (Nat.le_of_ble_eq_true rfl) (fun rv_26 wv_27 hp_28 hm_29 => ?_)
      clear hm_29
      obtain ⟨rfl, rfl⟩ := hp_28
      show VV E 0 0 28 [(0, .ref x0), (1, .int (nI jp)), (2, .int w)] [.int (-2)] [(x0, .inr (4, [.ref a0, .ref xm, .ref xp, .int (bz pd), .ref b0, .ref g0, .ref s0, .ref w0, .int (nI rs), .ref y0])), (a0, .inr (2, [.int (nI n), .int (nI m), .int (nI sh), .int (nI 0), .ref a1, .ref a2, .ref a3, .ref a4, .ref a5, .ref a6])), (a1, .inl (cI, 7, .inl (nIf ki))), (a2, .inl (cI, 7, .inl (nIf op))), (a3, .inl (cI, 7, .inl (nIf fa))), (y0, .inl (cI, 7, .inl (nIf (un R 2 (R 2 + 1)))))]
      refine v_iret zC zT dX4_person_28  ?_
      first | (have g9 := hn_p; exact ⟨1, _, by unfold q_person; rw [hn_p], rfl, rfl⟩) | (have g9 := hn_w; exact ⟨2, _, by unfold q_person; rw [hi_p]; dsimp only; rw [hn_w], rfl, rfl⟩) | (have g9 := hs9; exact ⟨0, _, by unfold q_person; rw [hi_p]; dsimp only; rw [hi_w]; dsimp only; simp [hk9, hs9], rfl, rfl⟩) | exact ⟨0, _, by unfold q_person; rw [hi_p]; dsimp only; rw [hi_w]; dsimp only; simp [hk9], rfl, rfl⟩
    ·
      show VV E 0 0 19 [(0, .ref x0), (1, .int (nI jp)), (2, .int w)] [.int (nI 0)] [(x0, .inr (4, [.ref a0, .ref xm, .ref xp, .int (bz pd), .ref b0, .ref g0, .ref s0, .ref w0, .int (nI rs), .ref y0])), (a0, .inr (2, [.int (nI n), .int (nI m), .int (nI sh), .int (nI 0), .ref a1, .ref a2, .ref a3, .ref a4, .ref a5, .ref a6])), (a1, .inl (cI, 7, .inl (nIf ki))), (a2, .inl (cI, 7, .inl (nIf op))), (a3, .inl (cI, 7, .inl (nIf fa))), (y0, .inl (cI, 7, .inl (nIf R)))]
      subst he_22
      have hi_w := hi_23
      obtain ⟨jw, hx_jw⟩ : ∃ z, z = j_21 := ⟨_, rfl⟩
      subst hx_jw
      refine v_if_eq 29 22 zC dX4_person_19 (fun _ => ?_) (fun z => absurd (by decide +kernel) z)
      refine v_il_n 30 zC dX4_person_29 2 rfl ?_
      have h_31 : jw = 0 ∨ jw = 1 ∨ jw = 2 ∨ jw = 3 := by omega
      rcases h_31 with h_31 | h_31 | h_31 | h_31
      ·
        rw [h_31]
        have hk9 := h_31
        refine v_tsw (off := 26) 56 zC dX4_person_30 (Or.inl (by decide +kernel)) ?_
        refine v_al_n 57 zC dX4_person_56 0 rfl ?_
        refine v_gf 60 0 zC dX4_person_57 gf_X4_12 rfl rfl ?_
        refine v_gf 63 1 zC dX4_person_60 gf_X4_87 rfl rfl ?_
        refine v_il_n 64 zC dX4_person_63 1 rfl ?_
        refine v_ialn (v := (nI (ki jp))) 65 2 zC dX4_person_64 rfl (by omega) rfl ?_
        refine v_iret zC zT dX4_person_65  ?_
        first | (have g9 := hn_p; exact ⟨1, _, by unfold q_person; rw [hn_p], rfl, rfl⟩) | (have g9 := hn_w; exact ⟨2, _, by unfold q_person; rw [hi_p]; dsimp only; rw [hn_w], rfl, rfl⟩) | (have g9 := hs9; exact ⟨0, _, by unfold q_person; rw [hi_p]; dsimp only; rw [hi_w]; dsimp only; simp [hk9, hs9], rfl, rfl⟩) | exact ⟨0, _, by unfold q_person; rw [hi_p]; dsimp only; rw [hi_w]; dsimp only; simp [hk9], rfl, rfl⟩
      ·
        rw [h_31]
        have hk9 := h_31
        refine v_tsw (off := 36) 66 zC dX4_person_30 (Or.inl (by decide +kernel)) ?_
        refine v_al_n 67 zC dX4_person_66 0 rfl ?_
        refine v_gf 70 0 zC dX4_person_67 gf_X4_12 rfl rfl ?_
        refine v_gf 73 1 zC dX4_person_70 gf_X4_90 rfl rfl ?_
        refine v_il_n 74 zC dX4_person_73 1 rfl ?_
        refine v_ialn (v := (nI (op jp))) 75 3 zC dX4_person_74 rfl (by omega) rfl ?_
        refine v_iret zC zT dX4_person_75  ?_
        first | (have g9 := hn_p; exact ⟨1, _, by unfold q_person; rw [hn_p], rfl, rfl⟩) | (have g9 := hn_w; exact ⟨2, _, by unfold q_person; rw [hi_p]; dsimp only; rw [hn_w], rfl, rfl⟩) | (have g9 := hs9; exact ⟨0, _, by unfold q_person; rw [hi_p]; dsimp only; rw [hi_w]; dsimp only; simp [hk9, hs9], rfl, rfl⟩) | exact ⟨0, _, by unfold q_person; rw [hi_p]; dsimp only; rw [hi_w]; dsimp only; simp [hk9], rfl, rfl⟩
      ·
        rw [h_31]
        have hk9 := h_31
        refine v_tsw (off := 46) 76 zC dX4_person_30 (Or.inl (by decide +kernel)) ?_
        refine v_al_n 77 zC dX4_person_76 0 rfl ?_
        refine v_gf 80 0 zC dX4_person_77 gf_X4_12 rfl rfl ?_
        refine v_il_n 81 zC dX4_person_80 1 rfl ?_
        refine v_cV (As := [.int (nI jp)]) (st := []) 84 1 [1] zC dX4_person_81 hA (c_X2_isShut (ev_l E) (ev_D E) cI (a0 := a0) (a1 := a1) (a2 := a2) (a3 := a3) (a4 := a4) (a5 := a5) (a6 := a6) (n := n) (m := m) (sh := sh) (aw := 0) (p := jp) (hp := (by first | omega | assumption | rfl | (simp only []; omega) | decide))) cf_X2_isShut lk_X4_93 rfl rfl rfl rfl rfl (by decide +kernel) (Nat.le_of_ble_eq_true rfl) (fun rv_32 wv_33 hp_34 hm_35 => ?_)
        clear hm_35
        obtain ⟨rfl, rfl⟩ := hp_34
        show VV E 0 0 84 [(0, .ref x0), (1, .int (nI jp)), (2, .int (nI 2))] [.int (bz (Nat.testBit sh jp))] [(x0, .inr (4, [.ref a0, .ref xm, .ref xp, .int (bz pd), .ref b0, .ref g0, .ref s0, .ref w0, .int (nI rs), .ref y0])), (a0, .inr (2, [.int (nI n), .int (nI m), .int (nI sh), .int (nI 0), .ref a1, .ref a2, .ref a3, .ref a4, .ref a5, .ref a6])), (a1, .inl (cI, 7, .inl (nIf ki))), (a2, .inl (cI, 7, .inl (nIf op))), (a3, .inl (cI, 7, .inl (nIf fa))), (y0, .inl (cI, 7, .inl (nIf R)))]
        refine v_ifb_eq 91 87 zC dX4_person_84 (fun h_36 => ?_) (fun h_36 => ?_)
        ·
          have hs9 := h_36
          refine v_ic (v := (nI 0)) 92 zC dX4_person_91 (by decide +kernel) ?_
          refine v_iret zC zT dX4_person_92  ?_
          first | (have g9 := hn_p; exact ⟨1, _, by unfold q_person; rw [hn_p], rfl, rfl⟩) | (have g9 := hn_w; exact ⟨2, _, by unfold q_person; rw [hi_p]; dsimp only; rw [hn_w], rfl, rfl⟩) | (have g9 := hs9; exact ⟨0, _, by unfold q_person; rw [hi_p]; dsimp only; rw [hi_w]; dsimp only; simp [hk9, hs9], rfl, rfl⟩) | exact ⟨0, _, by unfold q_person; rw [hi_p]; dsimp only; rw [hi_w]; dsimp only; simp [hk9], rfl, rfl⟩
        ·
          have hs9 := h_36
          refine v_ic (v := (nI 1)) 88 zC dX4_person_87 (by decide +kernel) ?_
          refine v_goto 92 zC dX4_person_88 ?_
          refine v_iret zC zT dX4_person_92  ?_
          first | (have g9 := hn_p; exact ⟨1, _, by unfold q_person; rw [hn_p], rfl, rfl⟩) | (have g9 := hn_w; exact ⟨2, _, by unfold q_person; rw [hi_p]; dsimp only; rw [hn_w], rfl, rfl⟩) | (have g9 := hs9; exact ⟨0, _, by unfold q_person; rw [hi_p]; dsimp only; rw [hi_w]; dsimp only; simp [hk9, hs9], rfl, rfl⟩) | exact ⟨0, _, by unfold q_person; rw [hi_p]; dsimp only; rw [hi_w]; dsimp only; simp [hk9], rfl, rfl⟩
      ·
        rw [h_31]
        have hk9 := h_31
        refine v_tsw (off := 63) 93 zC dX4_person_30 (Or.inr (by decide +kernel)) ?_
        refine v_al_n 94 zC dX4_person_93 0 rfl ?_
        refine v_gf 97 0 zC dX4_person_94 gf_X4_12 rfl rfl ?_
        refine v_gf 100 1 zC dX4_person_97 gf_X4_96 rfl rfl ?_
        refine v_il_n 101 zC dX4_person_100 1 rfl ?_
        refine v_ialn (v := (nI (fa jp))) 102 4 zC dX4_person_101 rfl (by omega) rfl ?_
        refine v_iret zC zT dX4_person_102  ?_
        first | (have g9 := hn_p; exact ⟨1, _, by unfold q_person; rw [hn_p], rfl, rfl⟩) | (have g9 := hn_w; exact ⟨2, _, by unfold q_person; rw [hi_p]; dsimp only; rw [hn_w], rfl, rfl⟩) | (have g9 := hs9; exact ⟨0, _, by unfold q_person; rw [hi_p]; dsimp only; rw [hi_w]; dsimp only; simp [hk9, hs9], rfl, rfl⟩) | exact ⟨0, _, by unfold q_person; rw [hi_p]; dsimp only; rw [hi_w]; dsimp only; simp [hk9], rfl, rfl⟩
set_option maxRecDepth 100000 in
set_option maxHeartbeats 4000000 in
theorem c_X4_dead (l : Launch) (D : va_G) (cI : ClassId) (x0 xm xp b0 g0 s0 w0 y0 : Nat) (pd : Bool) (rs : Nat) (a0 a1 a2 a3 a4 a5 a6 : Nat) (n m sh : Nat) (ki op fa K G T R : Nat → Nat) (d w : Int32) (hm : m ≤ 6) : CT l yX4_dead cX4_dead 3 (some .int) { frames := 1, cells := 0, slots := 0, locals := 21 } D cI [.ref x0, .int d, .int w] [(x0, .inr (4, [.ref a0, .ref xm, .ref xp, .int (bz pd), .ref b0, .ref g0, .ref s0, .ref w0, .int (nI rs), .ref y0])), (a0, .inr (2, [.int (nI n), .int (nI m), .int (nI sh), .int (nI 0), .ref a1, .ref a2, .ref a3, .ref a4, .ref a5, .ref a6])), (a4, .inl (cI, 6, .inl (nIf K))), (a5, .inl (cI, 6, .inl (nIf G))), (a6, .inl (cI, 6, .inl (nIf T))), (y0, .inl (cI, 7, .inl (nIf R)))] (fun zr zw => (∃ rc : Nat, ∃ rv : Int32, (q_dead (n, m, sh, 0, ki, op, fa, K, G, T) d w = (rc, rv)) ∧ zr = some (.int rv) ∧ zw = [(x0, .inr (4, [.ref a0, .ref xm, .ref xp, .int (bz pd), .ref b0, .ref g0, .ref s0, .ref w0, .int (nI rs), .ref y0])), (a0, .inr (2, [.int (nI n), .int (nI m), .int (nI sh), .int (nI 0), .ref a1, .ref a2, .ref a3, .ref a4, .ref a5, .ref a6])), (a4, .inl (cI, 6, .inl (nIf K))), (a5, .inl (cI, 6, .inl (nIf G))), (a6, .inl (cI, 6, .inl (nIf T))), (y0, .inl (cI, 7, .inl (nIf (rf R rc))))])) := by
  refine CT_of RX4 rfl (by decide +kernel) (Nat.le_of_ble_eq_true rfl) (fun E hnE zC zT => ?_)
  have hA : ∀ q, (ev_s E).heap.size ≤ q → ev_A E q := fun q h => by rw [zT.2]; exact Or.inr h
  show VV E 0 0 0 [(0, .ref x0), (1, .int d), (2, .int w)] [] [(x0, .inr (4, [.ref a0, .ref xm, .ref xp, .int (bz pd), .ref b0, .ref g0, .ref s0, .ref w0, .int (nI rs), .ref y0])), (a0, .inr (2, [.int (nI n), .int (nI m), .int (nI sh), .int (nI 0), .ref a1, .ref a2, .ref a3, .ref a4, .ref a5, .ref a6])), (a4, .inl (cI, 6, .inl (nIf K))), (a5, .inl (cI, 6, .inl (nIf G))), (a6, .inl (cI, 6, .inl (nIf T))), (y0, .inl (cI, 7, .inl (nIf R)))]
  refine v_al_n 1 zC dX4_dead_0 0 rfl ?_
  refine v_il_n 2 zC dX4_dead_1 1 rfl ?_
  refine v_cV (As := [.int d]) (st := []) 5 0 [0, 1] zC dX4_dead_2 hA (c_X4_noDead (ev_l E) (ev_D E) cI (x0 := x0) (xm := xm) (xp := xp) (b0 := b0) (g0 := g0) (s0 := s0) (w0 := w0) (y0 := y0) (pd := pd) (rs := rs) (a0 := a0) (a1 := a1) (a2 := a2) (a3 := a3) (a4 := a4) (a5 := a5) (a6 := a6) (n := n) (m := m) (sh := sh) (p := d) (hm := (by first | omega | assumption | rfl | (simp only []; omega) | decide))) cf_X4_noDead lk_X4_99 rfl rfl rfl rfl rfl (by decide +kernel) (Nat.le_of_ble_eq_true rfl) (fun rv_1 wv_2 hp_3 hm_4 => ?_)
  clear hm_4
  rcases hp_3 with ⟨hi_5, rfl, rfl⟩ | ⟨j_6, he_7, hi_8, hj_9, rfl, rfl⟩
  ·
    show VV E 0 0 5 [(0, .ref x0), (1, .int d), (2, .int w)] [.int (nI 1)] [(x0, .inr (4, [.ref a0, .ref xm, .ref xp, .int (bz pd), .ref b0, .ref g0, .ref s0, .ref w0, .int (nI rs), .ref y0])), (a0, .inr (2, [.int (nI n), .int (nI m), .int (nI sh), .int (nI 0), .ref a1, .ref a2, .ref a3, .ref a4, .ref a5, .ref a6])), (a4, .inl (cI, 6, .inl (nIf K))), (a5, .inl (cI, 6, .inl (nIf G))), (a6, .inl (cI, 6, .inl (nIf T))), (y0, .inl (cI, 7, .inl (nIf R)))]
    have hn_d := hi_5
    refine v_if_eq 14 8 zC dX4_dead_5 (fun z => absurd z (by decide +kernel)) (fun _ => ?_)
    refine v_al_n 9 zC dX4_dead_8 0 rfl ?_
    refine v_ic (v := (-1)) 10 zC dX4_dead_9 (by decide +kernel) ?_
    refine v_cV (As := [.int (-1)]) (st := []) 13 0 [0, 5] zC dX4_dead_10 hA (c_X4_refuse (ev_l E) (ev_D E) cI (x0 := x0) (xn := a0) (xm := xm) (xp := xp) (b0 := b0) (g0 := g0) (s0 := s0) (w0 := w0) (y0 := y0) (pd := pd) (rs := rs) (R := R) (v := (-1)) (j := 1) (hv := (by first | omega | assumption | rfl | (simp only []; omega) | decide)) (h1 := (by first | omega | assumption | rfl | (simp only []; omega) | decide)) (h6 := (by first | omega | assumption | rfl | (simp only []; omega) | decide))) cf_X4_refuse lk_X4_50 rfl rfl rfl rfl rfl (by decide +kernel) (Nat.le_of_ble_eq_true rfl) (fun rv_11 wv_12 hp_13 hm_14 => ?_)
    clear hm_14
    obtain ⟨rfl, rfl⟩ := hp_13
    show VV E 0 0 13 [(0, .ref x0), (1, .int d), (2, .int w)] [.int (-1)] [(x0, .inr (4, [.ref a0, .ref xm, .ref xp, .int (bz pd), .ref b0, .ref g0, .ref s0, .ref w0, .int (nI rs), .ref y0])), (a0, .inr (2, [.int (nI n), .int (nI m), .int (nI sh), .int (nI 0), .ref a1, .ref a2, .ref a3, .ref a4, .ref a5, .ref a6])), (a4, .inl (cI, 6, .inl (nIf K))), (a5, .inl (cI, 6, .inl (nIf G))), (a6, .inl (cI, 6, .inl (nIf T))), (y0, .inl (cI, 7, .inl (nIf (un R 1 (R 1 + 1)))))]
    refine v_iret zC zT dX4_dead_13  ?_
    first | (have g9 := hn_d; exact ⟨1, _, by unfold q_dead; rw [hn_d], rfl, rfl⟩) | (have g9 := hn_w; exact ⟨2, _, by unfold q_dead; rw [hi_d]; dsimp only; rw [hn_w], rfl, rfl⟩) | (have g9 := hs9; exact ⟨0, _, by unfold q_dead; rw [hi_d]; dsimp only; rw [hi_w]; dsimp only; simp [hk9, hs9], rfl, rfl⟩) | exact ⟨0, _, by unfold q_dead; rw [hi_d]; dsimp only; rw [hi_w]; dsimp only; simp [hk9], rfl, rfl⟩
  ·
    show VV E 0 0 5 [(0, .ref x0), (1, .int d), (2, .int w)] [.int (nI 0)] [(x0, .inr (4, [.ref a0, .ref xm, .ref xp, .int (bz pd), .ref b0, .ref g0, .ref s0, .ref w0, .int (nI rs), .ref y0])), (a0, .inr (2, [.int (nI n), .int (nI m), .int (nI sh), .int (nI 0), .ref a1, .ref a2, .ref a3, .ref a4, .ref a5, .ref a6])), (a4, .inl (cI, 6, .inl (nIf K))), (a5, .inl (cI, 6, .inl (nIf G))), (a6, .inl (cI, 6, .inl (nIf T))), (y0, .inl (cI, 7, .inl (nIf R)))]
    subst he_7
    have hi_d := hi_8
    obtain ⟨jd, hx_jd⟩ : ∃ z, z = j_6 := ⟨_, rfl⟩
    subst hx_jd
    refine v_if_eq 14 8 zC dX4_dead_5 (fun _ => ?_) (fun z => absurd (by decide +kernel) z)
    refine v_il_n 15 zC dX4_dead_14 2 rfl ?_
    refine v_ic (v := (nI 3)) 16 zC dX4_dead_15 (by decide +kernel) ?_
    refine v_cS (As := [.int w, .int (nI 3)]) (st := []) 19 [] zC dX4_dead_16 hA (c_X4_noWhat (ev_l E) (ev_D E) cI (p := w) (k := 3) (hk := (by first | omega | assumption | rfl | (simp only []; omega) | decide))) cf_X4_noWhat lk_X4_83 rfl rfl rfl (by decide +kernel) (Nat.le_of_ble_eq_true rfl) (fun rv_16 wv_17 hp_18 hm_19 => ?_)
    clear hm_19
    rcases hp_18 with ⟨hi_20, rfl, rfl⟩ | ⟨j_21, he_22, hi_23, hj_24, rfl, rfl⟩
    ·
      show VV E 0 0 19 [(0, .ref x0), (1, .int (nI jd)), (2, .int w)] [.int (nI 1)] [(x0, .inr (4, [.ref a0, .ref xm, .ref xp, .int (bz pd), .ref b0, .ref g0, .ref s0, .ref w0, .int (nI rs), .ref y0])), (a0, .inr (2, [.int (nI n), .int (nI m), .int (nI sh), .int (nI 0), .ref a1, .ref a2, .ref a3, .ref a4, .ref a5, .ref a6])), (a4, .inl (cI, 6, .inl (nIf K))), (a5, .inl (cI, 6, .inl (nIf G))), (a6, .inl (cI, 6, .inl (nIf T))), (y0, .inl (cI, 7, .inl (nIf R)))]
      have hn_w := hi_20
      refine v_if_eq 29 22 zC dX4_dead_19 (fun z => absurd z (by decide +kernel)) (fun _ => ?_)
      refine v_al_n 23 zC dX4_dead_22 0 rfl ?_
      refine v_bp (v := (-2)) 25 zC dX4_dead_23 (by decide +kernel) ?_
      refine v_cV (As := [.int (-2)]) (st := []) 28 0 [0, 5] zC dX4_dead_25 hA (c_X4_refuse (ev_l E) (ev_D E) cI (x0 := x0) (xn := a0) (xm := xm) (xp := xp) (b0 := b0) (g0 := g0) (s0 := s0) (w0 := w0) (y0 := y0) (pd := pd) (rs := rs) (R := R) (v := (-2)) (j := 2) (hv := (by first | omega | assumption | rfl | (simp only []; omega) | decide)) (h1 := (by first | omega | assumption | rfl | (simp only []; omega) | decide)) (h6 := (by first | omega | assumption | rfl | (simp only []; omega) | decide))) cf_X4_refuse lk_X4_50 rfl rfl rfl rfl rfl (by decide +kernel) (Nat.le_of_ble_eq_true rfl) (fun rv_26 wv_27 hp_28 hm_29 => ?_)
      clear hm_29
      obtain ⟨rfl, rfl⟩ := hp_28
      show VV E 0 0 28 [(0, .ref x0), (1, .int (nI jd)), (2, .int w)] [.int (-2)] [(x0, .inr (4, [.ref a0, .ref xm, .ref xp, .int (bz pd), .ref b0, .ref g0, .ref s0, .ref w0, .int (nI rs), .ref y0])), (a0, .inr (2, [.int (nI n), .int (nI m), .int (nI sh), .int (nI 0), .ref a1, .ref a2, .ref a3, .ref a4, .ref a5, .ref a6])), (a4, .inl (cI, 6, .inl (nIf K))), (a5, .inl (cI, 6, .inl (nIf G))), (a6, .inl (cI, 6, .inl (nIf T))), (y0, .inl (cI, 7, .inl (nIf (un R 2 (R 2 + 1)))))]
      refine v_iret zC zT dX4_dead_28  ?_
      first | (have g9 := hn_d; exact ⟨1, _, by unfold q_dead; rw [hn_d], rfl, rfl⟩) | (have g9 := hn_w; exact ⟨2, _, by unfold q_dead; rw [hi_d]; dsimp only; rw [hn_w], rfl, rfl⟩) | (have g9 := hs9; exact ⟨0, _, by unfold q_dead; rw [hi_d]; dsimp only; rw [hi_w]; dsimp only; simp [hk9, hs9], rfl, rfl⟩) | exact ⟨0, _, by unfold q_dead; rw [hi_d]; dsimp only; rw [hi_w]; dsimp only; simp [hk9], rfl, rfl⟩
    ·
      show VV E 0 0 19 [(0, .ref x0), (1, .int (nI jd)), (2, .int w)] [.int (nI 0)] [(x0, .inr (4, [.ref a0, .ref xm, .ref xp, .int (bz pd), .ref b0, .ref g0, .ref s0, .ref w0, .int (nI rs), .ref y0])), (a0, .inr (2, [.int (nI n), .int (nI m), .int (nI sh), .int (nI 0), .ref a1, .ref a2, .ref a3, .ref a4, .ref a5, .ref a6])), (a4, .inl (cI, 6, .inl (nIf K))), (a5, .inl (cI, 6, .inl (nIf G))), (a6, .inl (cI, 6, .inl (nIf T))), (y0, .inl (cI, 7, .inl (nIf R)))]
      subst he_22
      have hi_w := hi_23
      obtain ⟨jw, hx_jw⟩ : ∃ z, z = j_21 := ⟨_, rfl⟩
      subst hx_jw
      refine v_if_eq 29 22 zC dX4_dead_19 (fun _ => ?_) (fun z => absurd (by decide +kernel) z)
      refine v_il_n 30 zC dX4_dead_29 2 rfl ?_
      have h_31 : jw = 0 ∨ jw = 1 ∨ jw = 2 := by omega
      rcases h_31 with h_31 | h_31 | h_31
      ·
        rw [h_31]
        have hk9 := h_31
        refine v_lsw (off := 26) 56 zC dX4_dead_30 ((by decide +kernel)) ?_
        refine v_al_n 57 zC dX4_dead_56 0 rfl ?_
        refine v_gf 60 0 zC dX4_dead_57 gf_X4_12 rfl rfl ?_
        refine v_gf 63 1 zC dX4_dead_60 gf_X4_102 rfl rfl ?_
        refine v_il_n 64 zC dX4_dead_63 1 rfl ?_
        refine v_ialn (v := (nI (K jd))) 65 2 zC dX4_dead_64 rfl (by omega) rfl ?_
        refine v_iret zC zT dX4_dead_65  ?_
        first | (have g9 := hn_d; exact ⟨1, _, by unfold q_dead; rw [hn_d], rfl, rfl⟩) | (have g9 := hn_w; exact ⟨2, _, by unfold q_dead; rw [hi_d]; dsimp only; rw [hn_w], rfl, rfl⟩) | (have g9 := hs9; exact ⟨0, _, by unfold q_dead; rw [hi_d]; dsimp only; rw [hi_w]; dsimp only; simp [hk9, hs9], rfl, rfl⟩) | exact ⟨0, _, by unfold q_dead; rw [hi_d]; dsimp only; rw [hi_w]; dsimp only; simp [hk9], rfl, rfl⟩
      ·
        rw [h_31]
        have hk9 := h_31
        refine v_lsw (off := 36) 66 zC dX4_dead_30 ((by decide +kernel)) ?_
        refine v_al_n 67 zC dX4_dead_66 0 rfl ?_
        refine v_gf 70 0 zC dX4_dead_67 gf_X4_12 rfl rfl ?_
        refine v_gf 73 1 zC dX4_dead_70 gf_X4_105 rfl rfl ?_
        refine v_il_n 74 zC dX4_dead_73 1 rfl ?_
        refine v_ialn (v := (nI (G jd))) 75 3 zC dX4_dead_74 rfl (by omega) rfl ?_
        refine v_iret zC zT dX4_dead_75  ?_
        first | (have g9 := hn_d; exact ⟨1, _, by unfold q_dead; rw [hn_d], rfl, rfl⟩) | (have g9 := hn_w; exact ⟨2, _, by unfold q_dead; rw [hi_d]; dsimp only; rw [hn_w], rfl, rfl⟩) | (have g9 := hs9; exact ⟨0, _, by unfold q_dead; rw [hi_d]; dsimp only; rw [hi_w]; dsimp only; simp [hk9, hs9], rfl, rfl⟩) | exact ⟨0, _, by unfold q_dead; rw [hi_d]; dsimp only; rw [hi_w]; dsimp only; simp [hk9], rfl, rfl⟩
      ·
        rw [h_31]
        have hk9 := h_31
        refine v_lsw (off := 46) 76 zC dX4_dead_30 ((by decide +kernel)) ?_
        refine v_al_n 77 zC dX4_dead_76 0 rfl ?_
        refine v_gf 80 0 zC dX4_dead_77 gf_X4_12 rfl rfl ?_
        refine v_gf 83 1 zC dX4_dead_80 gf_X4_108 rfl rfl ?_
        refine v_il_n 84 zC dX4_dead_83 1 rfl ?_
        refine v_ialn (v := (nI (T jd))) 85 4 zC dX4_dead_84 rfl (by omega) rfl ?_
        refine v_iret zC zT dX4_dead_85  ?_
        first | (have g9 := hn_d; exact ⟨1, _, by unfold q_dead; rw [hn_d], rfl, rfl⟩) | (have g9 := hn_w; exact ⟨2, _, by unfold q_dead; rw [hi_d]; dsimp only; rw [hn_w], rfl, rfl⟩) | (have g9 := hs9; exact ⟨0, _, by unfold q_dead; rw [hi_d]; dsimp only; rw [hi_w]; dsimp only; simp [hk9, hs9], rfl, rfl⟩) | exact ⟨0, _, by unfold q_dead; rw [hi_d]; dsimp only; rw [hi_w]; dsimp only; simp [hk9], rfl, rfl⟩
