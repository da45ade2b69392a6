/-! the reference's letters -/
def FD (ls : Nat) (sg : Nat → Nat) (a k : Nat) : Option Nat := fs (fun j => !(DIG ls sg (a + j))) k
def NUMB (sg : Nat → Nat) (a : Nat) : Nat → Nat
  | 0 => 0
  | k + 1 => 10 * NUMB sg a k + (sg (a + k) - 48)
theorem fs_shift {P : Nat → Bool} {a : Nat} (h : fs P a = none) : ∀ b, fs P (a + b) = (fs (fun j => P (a + j)) b).map (fun j => a + j)
  | 0 => by rw [Nat.add_zero, h]; rfl
  | b + 1 => by
    have ih := fs_shift h b
    show fs P ((a + b) + 1) = _
    cases e : fs (fun j => P (a + j)) b with
    | some j =>
      rw [e] at ih
      have h1 : fs P (a + b) = some (a + j) := ih
      rw [fs_m (Nat.le_succ _) h1, fs_m (Nat.le_succ _) e]
      rfl
    | none =>
      rw [e] at ih
      have h1 : fs P (a + b) = none := ih
      cases c : P (a + b) with
      | true => rw [fs_1 h1 c, fs_1 (P := fun j => P (a + j)) e c]; rfl
      | false => rw [fs_0 h1 c, fs_0 (P := fun j => P (a + j)) e c]; rfl
theorem fd_add {ls : Nat} {sg : Nat → Nat} {a i k : Nat} (h : FD ls sg a i = none) : FD ls sg a (i + k) = (FD ls sg (a + i) k).map (fun j => i + j) := by
  have e : (fun j => !(DIG ls sg (a + (i + j)))) = (fun j => !(DIG ls sg (a + i + j))) := by
    funext j
    rw [Nat.add_assoc]
  unfold FD at h ⊢
  rw [fs_shift h k]
  show Option.map _ (fs (fun j => !(DIG ls sg (a + (i + j)))) k) = _
  rw [e]
theorem fd_m {ls : Nat} {sg : Nat → Nat} {a i k j : Nat} (h : FD ls sg a i = some j) : FD ls sg a (i + k) = some j := fs_m (Nat.le_add_right i k) h
theorem fd_n {ls : Nat} {sg : Nat → Nat} {a i k : Nat} (h : FD ls sg a i = none) (h2 : FD ls sg (a + i) k = none) : FD ls sg a (i + k) = none := by
  rw [fd_add h, h2]
  rfl
theorem fd_s {ls : Nat} {sg : Nat → Nat} {a i k j : Nat} (h : FD ls sg a i = none) (h2 : FD ls sg (a + i) k = some j) : FD ls sg a (i + k) = some (i + j) := by
  rw [fd_add h, h2]
  rfl
theorem fd_dig {ls : Nat} {sg : Nat → Nat} {a k j : Nat} (h : FD ls sg a k = none) (hj : j < k) : a + j < ls ∧ 48 ≤ sg (a + j) ∧ sg (a + j) ≤ 57 := by
  have h2 := fs_no h hj
  refine dig_d ?_
  cases c : DIG ls sg (a + j) with
  | true => rfl
  | false => rw [c] at h2; cases h2
theorem in_dg {x : Nat} (hx : x < 256) : (48 ≤ x ∧ x ≤ 57 ∧ inB (lN x) (lN 48) (lN 57) = true) ∨ (¬ (48 ≤ x ∧ x ≤ 57) ∧ inB (lN x) (lN 48) (lN 57) = false) := by
  have e : inB (lN x) (lN 48) (lN 57) = decide (48 ≤ x ∧ x ≤ 57) := by
    unfold inB
    exact decide_eq_decide.mpr (and_congr (lN_le (by decide) (by omega)) (lN_le (by omega) (by decide)))
  rw [e]
  by_cases c : 48 ≤ x ∧ x ≤ 57
  · exact Or.inl ⟨c.1, c.2, decide_eq_true c⟩
  · exact Or.inr ⟨c, decide_eq_false c⟩
theorem in_dgm : inB (Int32.toInt64 (-1)) (lN 48) (lN 57) = false := by decide +kernel
/-- digits being read: fine so far, or broken at a place -/
def RDS (ls : Nat) (sg : Nat → Nat) (ap i : Nat) (b : Bool) (a v : Nat) : Prop := (b = false ∧ v = NUMB sg ap i ∧ a = ap + i ∧ a ≤ ls ∧ FD ls sg ap i = none) ∨ (b = true ∧ v = 0 ∧ ∃ j, j < i ∧ FD ls sg ap i = some j ∧ a = ap + j ∧ a ≤ ls)
theorem rds_0 {ls ap : Nat} {sg : Nat → Nat} (h : ap ≤ ls) : RDS ls sg ap 0 false ap 0 := Or.inl ⟨rfl, rfl, rfl, h, rfl⟩
theorem rds_f {ls ap i a v : Nat} {sg : Nat → Nat} (h : RDS ls sg ap i false a v) : v = NUMB sg ap i ∧ a = ap + i ∧ a ≤ ls ∧ FD ls sg ap i = none := by
  rcases h with h | h
  · exact h.2
  · cases h.1
theorem rds_t {ls ap i a v : Nat} {sg : Nat → Nat} (h : RDS ls sg ap i true a v) : RDS ls sg ap (i + 1) true a 0 := by
  rcases h with h | ⟨_, _, j, h1, h2, h3, h4⟩
  · cases h.1
  · exact Or.inr ⟨rfl, rfl, j, by omega, fs_m (Nat.le_succ i) h2, h3, h4⟩
theorem rds_s {ls ap i a v : Nat} {sg : Nat → Nat} (h : RDS ls sg ap i false a v) (ha : a < ls) (h1 : 48 ≤ sg a) (h2 : sg a ≤ 57) : RDS ls sg ap (i + 1) false (a + 1) (10 * v + sg a - 48) := by
  obtain ⟨e1, e2, e3, e4⟩ := rds_f h
  subst e1; subst e2
  refine Or.inl ⟨rfl, ?_, by omega, by omega, ?_⟩
  · show _ = 10 * NUMB sg ap i + (sg (ap + i) - 48)
    omega
  · refine fs_0 e4 ?_
    show (!(DIG ls sg (ap + i))) = false
    rw [show DIG ls sg (ap + i) = true from decide_eq_true ⟨ha, h1, h2⟩]
    rfl
theorem rds_b {ls ap i a v : Nat} {sg : Nat → Nat} (h : RDS ls sg ap i false a v) (hn : ¬ (a < ls ∧ 48 ≤ sg a ∧ sg a ≤ 57)) : RDS ls sg ap (i + 1) true a 0 := by
  obtain ⟨e1, e2, e3, e4⟩ := rds_f h
  subst e1; subst e2
  refine Or.inr ⟨rfl, rfl, i, Nat.lt_succ_self i, fs_1 e4 ?_, rfl, e3⟩
  show (!(DIG ls sg (ap + i))) = true
  rw [show DIG ls sg (ap + i) = false from decide_eq_false hn]
  rfl
/-- what a statement told, in numbers -/
def TLS (sg : Nat → Nat) (c a : Nat) (tl : Nat → Nat) (i : Nat) : Prop := (c = 112 → tl i = PAR sg a) ∧ (c = 100 → tl i = DGT sg a ∧ tl (i + 1) = DGT sg (a + 1) ∧ tl (i + 2) = DGT sg (a + 2)) ∧ (c = 111 ∨ c = 99 → tl i = DGT sg a ∧ tl (i + 1) = PAR sg (a + 1) ∧ tl (i + 2) = PAR sg (a + 3)) ∧ (c = 115 → tl i = DGT sg a) ∧ (c = 107 → tl i = DGT sg a ∧ tl (i + 1) = DGT sg (a + 1))
theorem numb1 {sg : Nat → Nat} {a : Nat} : NUMB sg a 1 = DGT sg a := by
  show 10 * 0 + (sg a - 48) = sg a - 48
  omega
theorem numb2 {sg : Nat → Nat} {a : Nat} : NUMB sg a 2 = PAR sg a := by
  show 10 * (10 * 0 + (sg a - 48)) + (sg (a + 1) - 48) = 10 * (sg a - 48) + (sg (a + 1) - 48)
  omega
section TLV
variable {sg : Nat → Nat} {a i : Nat} {t : Nat → Nat}
theorem tls_112 (h : t i = PAR sg a) : TLS sg 112 a t i := ⟨fun _ => h, fun q => absurd q (by decide), fun q => absurd q (by decide), fun q => absurd q (by decide), fun q => absurd q (by decide)⟩
theorem tls_115 (h : t i = DGT sg a) : TLS sg 115 a t i := ⟨fun q => absurd q (by decide), fun q => absurd q (by decide), fun q => absurd q (by decide), fun _ => h, fun q => absurd q (by decide)⟩
theorem tls_107 (h : t i = DGT sg a) (h2 : t (i + 1) = DGT sg (a + 1)) : TLS sg 107 a t i := ⟨fun q => absurd q (by decide), fun q => absurd q (by decide), fun q => absurd q (by decide), fun q => absurd q (by decide), fun _ => ⟨h, h2⟩⟩
theorem tls_100 (h : t i = DGT sg a) (h2 : t (i + 1) = DGT sg (a + 1)) (h3 : t (i + 2) = DGT sg (a + 2)) : TLS sg 100 a t i := ⟨fun q => absurd q (by decide), fun _ => ⟨h, h2, h3⟩, fun q => absurd q (by decide), fun q => absurd q (by decide), fun q => absurd q (by decide)⟩
theorem tls_111 (h : t i = DGT sg a) (h2 : t (i + 1) = PAR sg (a + 1)) (h3 : t (i + 2) = PAR sg (a + 3)) : TLS sg 111 a t i := ⟨fun q => absurd q (by decide), fun q => absurd q (by decide), fun _ => ⟨h, h2, h3⟩, fun q => absurd q (by decide), fun q => absurd q (by decide)⟩
theorem tls_99 (h : t i = DGT sg a) (h2 : t (i + 1) = PAR sg (a + 1)) (h3 : t (i + 2) = PAR sg (a + 3)) : TLS sg 99 a t i := ⟨fun q => absurd q (by decide), fun q => absurd q (by decide), fun _ => ⟨h, h2, h3⟩, fun q => absurd q (by decide), fun q => absurd q (by decide)⟩
end TLV
theorem nxt_gt {ls a : Nat} {sg : Nat → Nat} (h : SC ls sg a = none) : a + 2 ≤ NXT sg a ∧ NXT sg a ≤ ls := by
  obtain ⟨v, h1, h2, h3, h4⟩ := sc_ok h
  rw [nxt_v h1]
  omega
theorem tls_c {sg : Nat → Nat} {c a i : Nat} {t1 t2 : Nat → Nat} (h : TLS sg c a t1 i) (e : ∀ z, z < i + 3 → t2 z = t1 z) : TLS sg c a t2 i := by
  unfold TLS at h ⊢
  rw [e i (by omega), e (i + 1) (by omega), e (i + 2) (by omega)]
  exact h
theorem sc_f1 {ls a v j : Nat} {sg : Nat → Nat} (h : DB (sg a) = some v) (e : FD ls sg (a + 1) v = some j) : SC ls sg a = some (a + 1 + j) := by
  unfold SC
  rw [h]
  dsimp only
  have e2 : fs (fun i => !(DIG ls sg (a + 1 + i))) v = some j := e
  rw [e2]
def PLC (sg : Nat → Nat) : Nat → Nat
  | 0 => 0
  | i + 1 => NXT sg (PLC sg i)
/-- the statements read so far -/
def GDS (ls : Nat) (sg pi : Nat → Nat) (lo : Nat → Int32) (tl : Nat → Nat) (c : Nat) : Prop := ∀ i, i < c → pi i = PLC sg i ∧ lo i = nI (sg (PLC sg i)) ∧ TLS sg (sg (PLC sg i)) (PLC sg i + 1) tl (3 * i) ∧ SC ls sg (PLC sg i) = none ∧ PLC sg i < ls
theorem gds_s {ls c : Nat} {sg pi tl t1 : Nat → Nat} {lo : Nat → Int32} (h : GDS ls sg pi lo tl c) (h1 : SC ls sg (PLC sg c) = none) (h2 : PLC sg c < ls) (h3 : TLS sg (sg (PLC sg c)) (PLC sg c + 1) t1 (3 * c)) (h4 : ∀ z, z < 3 * c → t1 z = tl z) : GDS ls sg (un pi c (PLC sg c)) (upd lo c (nI (sg (PLC sg c)))) t1 (c + 1) := by
  intro i hi
  by_cases e : i = c
  · subst e
    exact ⟨un_s, pk_us, h3, h1, h2⟩
  · obtain ⟨g1, g2, g3, g4, g5⟩ := h i (by omega)
    exact ⟨by rw [un_n e]; exact g1, by rw [pk_un e]; exact g2, tls_c g3 (fun z hz => h4 z (by omega)), g4, g5⟩
/-- where the reading stands -/
def RST (ls : Nat) (sg pi : Nat → Nat) (lo : Nat → Int32) (tl : Nat → Nat) (b : Bool) (a c f : Nat) : Prop := (b = false ∧ a = PLC sg c ∧ GDS ls sg pi lo tl c ∧ a ≤ ls ∧ 3 * c ≤ a ∧ ls ≤ a + f ∧ BR ls sg f a = BR ls sg ls 0) ∨ (b = true ∧ BRK ls sg = some a ∧ a ≤ 96)
theorem rst_f {ls a c f : Nat} {sg pi tl : Nat → Nat} {lo : Nat → Int32} (h : RST ls sg pi lo tl false a c f) : a = PLC sg c ∧ GDS ls sg pi lo tl c ∧ a ≤ ls ∧ 3 * c ≤ a ∧ ls ≤ a + f ∧ BR ls sg f a = BR ls sg ls 0 := by
  rcases h with h | h
  · exact h.2
  · cases h.1
theorem rst_t {ls a c f : Nat} {sg pi tl : Nat → Nat} {lo : Nat → Int32} (h : RST ls sg pi lo tl true a c f) : BRK ls sg = some a ∧ a ≤ 96 := by
  rcases h with h | h
  · cases h.1
  · exact h.2
theorem rst_s {ls a c f a2 : Nat} {sg pi tl t1 : Nat → Nat} {lo : Nat → Int32} (h : RST ls sg pi lo tl false a c f) (h1 : SC ls sg a = none) (h2 : a < ls) (h3 : TLS sg (sg a) (a + 1) t1 (3 * c)) (h4 : ∀ z, z < 3 * c → t1 z = tl z) (h5 : a2 = NXT sg a) : RST ls sg (un pi c a) (upd lo c (nI (sg a))) t1 false a2 (c + 1) (f - 1) := by
  obtain ⟨e1, e2, e3, e4, e5, e6⟩ := rst_f h
  obtain ⟨v, v1, v2, v3, v4⟩ := sc_ok h1
  have hv := db_pos v1
  have hn := nxt_v v1
  subst e1
  refine Or.inl ⟨rfl, h5, gds_s e2 h1 h2 h3 h4, by omega, by omega, by omega, ?_⟩
  rw [← e6, br_n h2 e5 h1, h5]
theorem rst_b {ls a c f b : Nat} {sg pi tl p2 t2 : Nat → Nat} {lo l2 : Nat → Int32} (h : RST ls sg pi lo tl false a c f) (hc : c = 0 ∨ a < ls) (hb : (ls ≤ a ∧ b = a) ∨ (a < ls ∧ SC ls sg a = some b)) (hb2 : b ≤ 96) : RST ls sg p2 l2 t2 true b (c + 1) 0 := by
  obtain ⟨e1, e2, e3, e4, e5, e6⟩ := rst_f h
  refine Or.inr ⟨rfl, ?_, hb2⟩
  rcases hb with ⟨h1, h2⟩ | ⟨h1, h2⟩
  · have hc0 : c = 0 := hc.resolve_right (by omega)
    subst hc0
    have ha : a = 0 := e1
    unfold BRK
    rw [if_pos (by omega), h2, ha]
  · exact brk_s (by omega) e6 (br_b h1 e5 h2)
theorem rst_e {ls a c f : Nat} {sg pi tl : Nat → Nat} {lo : Nat → Int32} (h : RST ls sg pi lo tl false a c f) (hc : c ≠ 0) (ha : ls ≤ a) : BRK ls sg = none ∧ PLC sg c = ls ∧ GDS ls sg pi lo tl c ∧ c ≤ 32 ∨ 96 < ls := by
  obtain ⟨e1, e2, e3, e4, e5, e6⟩ := rst_f h
  by_cases hl : 96 < ls
  · exact Or.inr hl
  · exact Or.inl ⟨brk_s (by omega) e6 (br_e ha), by omega, e2, by omega⟩

set_option maxRecDepth 100000 in
set_option maxHeartbeats 4000000 in
theorem c_X5_here (l : Launch) (D : va_G) (cI : ClassId) (r0 k1 k2 k3 k4 k6 k7 k8 k10 k12 k13 k14 k15 k16 k21 k22 k23 k24 k25 k30 k31 k33 : Nat) (n m aw ls ap sq pl tz rs : Nat) (bd pd tk : Bool) (kv : Value) (sd : Int32) (sg : Nat → Nat) (hl : ls ≤ 96) (ha : ap < 2 ^ 30) : CT l yX5_here cX5_here 1 (some .int) { frames := 0, cells := 0, slots := 0, locals := 0 } D cI [.ref r0] [(r0, .inr (5, [.int (nI n), .ref k1, .ref k2, .ref k3, .ref k4, .int (nI m), .ref k6, .ref k7, .ref k8, .int (nI 0), .ref k10, .int (nI aw), .ref k12, .ref k13, .ref k14, .ref k15, .ref k16, .int (nI ls), .int (nI ap), .int (bz bd), .int (nI sq), .ref k21, .ref k22, .ref k23, .ref k24, .ref k25, .int (bz pd), .int (nI pl), .int (bz tk), kv, .ref k30, .ref k31, .int (nI tz), .ref k33, .int (nI rs), .int sd])), (k16, .inl (cI, 96, .inl (nIf sg)))] (fun zr zw => ((ls ≤ ap) ∧ zr = some (.int (-1)) ∧ zw = [(r0, .inr (5, [.int (nI n), .ref k1, .ref k2, .ref k3, .ref k4, .int (nI m), .ref k6, .ref k7, .ref k8, .int (nI 0), .ref k10, .int (nI aw), .ref k12, .ref k13, .ref k14, .ref k15, .ref k16, .int (nI ls), .int (nI ap), .int (bz bd), .int (nI sq), .ref k21, .ref k22, .ref k23, .ref k24, .ref k25, .int (bz pd), .int (nI pl), .int (bz tk), kv, .ref k30, .ref k31, .int (nI tz), .ref k33, .int (nI rs), .int sd])), (k16, .inl (cI, 96, .inl (nIf sg)))]) ∨ ((ap < ls) ∧ zr = some (.int (nI (sg ap))) ∧ zw = [(r0, .inr (5, [.int (nI n), .ref k1, .ref k2, .ref k3, .ref k4, .int (nI m), .ref k6, .ref k7, .ref k8, .int (nI 0), .ref k10, .int (nI aw), .ref k12, .ref k13, .ref k14, .ref k15, .ref k16, .int (nI ls), .int (nI ap), .int (bz bd), .int (nI sq), .ref k21, .ref k22, .ref k23, .ref k24, .ref k25, .int (bz pd), .int (nI pl), .int (bz tk), kv, .ref k30, .ref k31, .int (nI tz), .ref k33, .int (nI rs), .int sd])), (k16, .inl (cI, 96, .inl (nIf sg)))])) := by
  refine CT_of RX5 rfl (by decide +kernel) (Nat.le_of_ble_eq_true rfl) (fun E hnE zC zT => ?_)
  have hA : ∀ q, (ev_s E).heap.size ≤ q → ev_A E q := fun q h => by rw [zT.2]; exact Or.inr h
  show VV E 0 0 0 [(0, .ref r0)] [] [(r0, .inr (5, [.int (nI n), .ref k1, .ref k2, .ref k3, .ref k4, .int (nI m), .ref k6, .ref k7, .ref k8, .int (nI 0), .ref k10, .int (nI aw), .ref k12, .ref k13, .ref k14, .ref k15, .ref k16, .int (nI ls), .int (nI ap), .int (bz bd), .int (nI sq), .ref k21, .ref k22, .ref k23, .ref k24, .ref k25, .int (bz pd), .int (nI pl), .int (bz tk), kv, .ref k30, .ref k31, .int (nI tz), .ref k33, .int (nI rs), .int sd])), (k16, .inl (cI, 96, .inl (nIf sg)))]
  refine v_al_n 1 zC dX5_here_0 0 rfl ?_
  refine v_gf 4 0 zC dX5_here_1 gf_X5_135 rfl rfl ?_
  refine v_al_n 5 zC dX5_here_4 0 rfl ?_
  refine v_gf 8 0 zC dX5_here_5 gf_X5_132 rfl rfl ?_
  refine v_icmpn_ge 23 11 zC dX5_here_8 (fun h_1 => ?_) (fun h_1 => ?_)
  ·
    refine v_ic (v := (-1)) 24 zC dX5_here_23 (by decide +kernel) ?_
    refine v_iret zC zT dX5_here_24  ?_
    first | exact Or.inl ⟨by omega, rfl, rfl⟩ | exact Or.inr ⟨by omega, rfl, rfl⟩
  ·
    refine v_al_n 12 zC dX5_here_11 0 rfl ?_
    refine v_gf 15 0 zC dX5_here_12 gf_X5_46 rfl rfl ?_
    refine v_al_n 16 zC dX5_here_15 0 rfl ?_
    refine v_gf 19 0 zC dX5_here_16 gf_X5_135 rfl rfl ?_
    refine v_ialn (v := (nI (sg ap))) 20 1 zC dX5_here_19 rfl (by omega) rfl ?_
    refine v_goto 24 zC dX5_here_20 ?_
    refine v_iret zC zT dX5_here_24  ?_
    first | exact Or.inl ⟨by omega, rfl, rfl⟩ | exact Or.inr ⟨by omega, rfl, rfl⟩
set_option maxRecDepth 100000 in
set_option maxHeartbeats 4000000 in
theorem c_X5_readDigits__F (l : Launch) (D : va_G) (cI : ClassId) (r0 k1 k2 k3 k4 k6 k7 k8 k10 k12 k13 k14 k15 k16 k21 k22 k23 k24 k25 k30 k31 k33 : Nat) (n m aw ls ap sq pl tz rs : Nat) (pd tk : Bool) (kv : Value) (sd : Int32) (sg : Nat → Nat) (k : Nat) (hl : ls ≤ 96) (hsg : ∀ z, sg z < 256) (ha : ap ≤ ls) (hk : k ≤ 2) : CT l yX5_readDigits cX5_readDigits 4 (some .int) { frames := 1, cells := 0, slots := 0, locals := 25 } D cI [.ref r0, .int (nI k)] [(r0, .inr (5, [.int (nI n), .ref k1, .ref k2, .ref k3, .ref k4, .int (nI m), .ref k6, .ref k7, .ref k8, .int (nI 0), .ref k10, .int (nI aw), .ref k12, .ref k13, .ref k14, .ref k15, .ref k16, .int (nI ls), .int (nI ap), .int (bz false), .int (nI sq), .ref k21, .ref k22, .ref k23, .ref k24, .ref k25, .int (bz pd), .int (nI pl), .int (bz tk), kv, .ref k30, .ref k31, .int (nI tz), .ref k33, .int (nI rs), .int sd])), (k16, .inl (cI, 96, .inl (nIf sg)))] (fun zr zw => ((FD ls sg ap k = none) ∧ (ap + k ≤ ls) ∧ zr = some (.int (nI (NUMB sg ap k))) ∧ zw = [(r0, .inr (5, [.int (nI n), .ref k1, .ref k2, .ref k3, .ref k4, .int (nI m), .ref k6, .ref k7, .ref k8, .int (nI 0), .ref k10, .int (nI aw), .ref k12, .ref k13, .ref k14, .ref k15, .ref k16, .int (nI ls), .int (nI (ap + k)), .int (bz false), .int (nI sq), .ref k21, .ref k22, .ref k23, .ref k24, .ref k25, .int (bz pd), .int (nI pl), .int (bz tk), kv, .ref k30, .ref k31, .int (nI tz), .ref k33, .int (nI rs), .int sd])), (k16, .inl (cI, 96, .inl (nIf sg)))]) ∨ (∃ j : Nat, (FD ls sg ap k = some j) ∧ (ap + j ≤ ls) ∧ zr = some (.int (nI 0)) ∧ zw = [(r0, .inr (5, [.int (nI n), .ref k1, .ref k2, .ref k3, .ref k4, .int (nI m), .ref k6, .ref k7, .ref k8, .int (nI 0), .ref k10, .int (nI aw), .ref k12, .ref k13, .ref k14, .ref k15, .ref k16, .int (nI ls), .int (nI (ap + j)), .int (bz true), .int (nI sq), .ref k21, .ref k22, .ref k23, .ref k24, .ref k25, .int (bz pd), .int (nI pl), .int (bz tk), kv, .ref k30, .ref k31, .int (nI tz), .ref k33, .int (nI rs), .int sd])), (k16, .inl (cI, 96, .inl (nIf sg)))])) := by
  refine CT_of RX5 rfl (by decide +kernel) (Nat.le_of_ble_eq_true rfl) (fun E hnE zC zT => ?_)
  have hA : ∀ q, (ev_s E).heap.size ≤ q → ev_A E q := fun q h => by rw [zT.2]; exact Or.inr h
  show VV E 0 0 0 [(0, .ref r0), (1, .int (nI k))] [] [(r0, .inr (5, [.int (nI n), .ref k1, .ref k2, .ref k3, .ref k4, .int (nI m), .ref k6, .ref k7, .ref k8, .int (nI 0), .ref k10, .int (nI aw), .ref k12, .ref k13, .ref k14, .ref k15, .ref k16, .int (nI ls), .int (nI ap), .int (bz false), .int (nI sq), .ref k21, .ref k22, .ref k23, .ref k24, .ref k25, .int (bz pd), .int (nI pl), .int (bz tk), kv, .ref k30, .ref k31, .int (nI tz), .ref k33, .int (nI rs), .int sd])), (k16, .inl (cI, 96, .inl (nIf sg)))]
  refine v_ic (v := (nI 0)) 1 zC dX5_readDigits_0 (by decide +kernel) ?_
  refine v_is_n (lv2 := [(2, .int (nI 0)), (0, .ref r0), (1, .int (nI k))]) 2 zC dX5_readDigits_1 (by rw [hnE]; decide) rfl ?_
  refine v_ic (v := (nI 0)) 3 zC dX5_readDigits_2 (by decide +kernel) ?_
  refine v_is_n (lv2 := [(3, .int (nI 0)), (2, .int (nI 0)), (0, .ref r0), (1, .int (nI k))]) 4 zC dX5_readDigits_3 (by rw [hnE]; decide) rfl ?_
  have lp4 : ∀ (mz : Nat) (b : Bool) (a : Nat) (v : Nat) (i : Nat), (RDS ls sg ap i b a v) → (i ≤ k) → (a ≤ ls) → k - i = mz → VV E 0 0 4 [(3, .int (nI i)), (2, .int (nI v)), (0, .ref r0), (1, .int (nI k))] [] [(r0, .inr (5, [.int (nI n), .ref k1, .ref k2, .ref k3, .ref k4, .int (nI m), .ref k6, .ref k7, .ref k8, .int (nI 0), .ref k10, .int (nI aw), .ref k12, .ref k13, .ref k14, .ref k15, .ref k16, .int (nI ls), .int (nI a), .int (bz b), .int (nI sq), .ref k21, .ref k22, .ref k23, .ref k24, .ref k25, .int (bz pd), .int (nI pl), .int (bz tk), kv, .ref k30, .ref k31, .int (nI tz), .ref k33, .int (nI rs), .int sd])), (k16, .inl (cI, 96, .inl (nIf sg)))] := by
    intro mz
    induction mz using Nat.strongRecOn with
    | _ mz ih4 =>
    intro b a v i hS hi hal hm4
    refine v_il_n 5 zC dX5_readDigits_4 0 rfl ?_
    refine v_il_n 6 zC dX5_readDigits_5 3 rfl ?_
    refine v_icmpn_ge 98 9 zC dX5_readDigits_6 (fun h_1 => ?_) (fun h_1 => ?_)
    ·
      refine v_il_n 99 zC dX5_readDigits_98 1 rfl ?_
      refine v_iret zC zT dX5_readDigits_99  ?_
      have hik : i = k := by omega
      rcases hS with ⟨h1, h2, h3, h4, h5⟩ | ⟨h1, h2, j, h3, h4, h5, h6⟩
      · subst h1; subst hik; exact Or.inl ⟨h5, by omega, by rw [h2], by rw [h3]⟩
      · subst h1; subst hik; exact Or.inr ⟨j, h4, by omega, by rw [h2], by rw [h5]⟩
    ·
      refine v_al_n 10 zC dX5_readDigits_9 2 rfl ?_
      refine v_al_n 11 zC dX5_readDigits_10 2 rfl ?_
      refine v_gf 14 0 zC dX5_readDigits_11 gf_X5_138 rfl rfl ?_
      refine v_ifb_ne 34 17 zC dX5_readDigits_14 (fun h_2 => ?_) (fun h_2 => ?_)
      ·
        subst h_2
        refine v_ic (v := (nI 1)) 35 zC dX5_readDigits_34 (by decide +kernel) ?_
        refine v_goto 39 zC dX5_readDigits_35 ?_
        refine v_pf (ws2 := [(r0, .inr (5, [.int (nI n), .ref k1, .ref k2, .ref k3, .ref k4, .int (nI m), .ref k6, .ref k7, .ref k8, .int (nI 0), .ref k10, .int (nI aw), .ref k12, .ref k13, .ref k14, .ref k15, .ref k16, .int (nI ls), .int (nI a), .int (nI 1), .int (nI sq), .ref k21, .ref k22, .ref k23, .ref k24, .ref k25, .int (bz pd), .int (nI pl), .int (bz tk), kv, .ref k30, .ref k31, .int (nI tz), .ref k33, .int (nI rs), .int sd])), (k16, .inl (cI, 96, .inl (nIf sg)))]) 42 0 zC dX5_readDigits_39 pf_X5_138 rfl (Nat.le_of_ble_eq_true rfl) (by decide +kernel) (by decide +kernel) rfl ?_
        refine v_al_n 43 zC dX5_readDigits_42 2 rfl ?_
        refine v_gf 46 0 zC dX5_readDigits_43 gf_X5_138 rfl rfl ?_
        refine v_if_eq 53 49 zC dX5_readDigits_46 (fun z => absurd z (by decide +kernel)) (fun _ => ?_)
        refine v_ic (v := (nI 0)) 50 zC dX5_readDigits_49 (by decide +kernel) ?_
        refine v_goto 70 zC dX5_readDigits_50 ?_
        refine v_is_n (lv2 := [(2, .int (nI 0)), (3, .int (nI i)), (0, .ref r0), (1, .int (nI k))]) 71 zC dX5_readDigits_70 (by rw [hnE]; decide) rfl ?_
        refine v_al_n 72 zC dX5_readDigits_71 2 rfl ?_
        refine v_dup 73 zC dX5_readDigits_72 rfl ?_
        refine v_gf 76 0 zC dX5_readDigits_73 gf_X5_135 rfl rfl ?_
        refine v_al_n 77 zC dX5_readDigits_76 2 rfl ?_
        refine v_gf 80 0 zC dX5_readDigits_77 gf_X5_138 rfl rfl ?_
        refine v_if_eq 87 83 zC dX5_readDigits_80 (fun z => absurd z (by decide +kernel)) (fun _ => ?_)
        refine v_ic (v := (nI 0)) 84 zC dX5_readDigits_83 (by decide +kernel) ?_
        refine v_goto 88 zC dX5_readDigits_84 ?_
        refine v_iadd (v := (nI a)) 89 zC dX5_readDigits_88 (nI_add _ 0) ?_
        refine v_pf (ws2 := [(r0, .inr (5, [.int (nI n), .ref k1, .ref k2, .ref k3, .ref k4, .int (nI m), .ref k6, .ref k7, .ref k8, .int (nI 0), .ref k10, .int (nI aw), .ref k12, .ref k13, .ref k14, .ref k15, .ref k16, .int (nI ls), .int (nI a), .int (nI 1), .int (nI sq), .ref k21, .ref k22, .ref k23, .ref k24, .ref k25, .int (bz pd), .int (nI pl), .int (bz tk), kv, .ref k30, .ref k31, .int (nI tz), .ref k33, .int (nI rs), .int sd])), (k16, .inl (cI, 96, .inl (nIf sg)))]) 92 0 zC dX5_readDigits_89 pf_X5_135 rfl (Nat.le_of_ble_eq_true rfl) rfl rfl rfl ?_
        refine v_inc (v := (nI (i + 1))) (lv2 := [(3, .int (nI (i + 1))), (2, .int (nI 0)), (0, .ref r0), (1, .int (nI k))]) 95 zC dX5_readDigits_92 (j := 1) rfl (nI_add _ 1) (by rw [hnE]; decide) rfl ?_
        refine v_goto 4 zC dX5_readDigits_95 ?_
        refine v_lvs (lv2 := [(3, .int (nI (i + 1))), (2, .int (nI 0)), (0, .ref r0), (1, .int (nI k))]) [0, 1, 2, 3] rfl ?_
        exact ih4 _ (by omega) true a 0 (i + 1) (by first | exact rds_t hS | exact rds_s hS (by assumption) h48 h57 | exact rds_b hS (fun z => by first | exact hnd z.2 | omega)) (by first | omega | assumption | rfl | (simp only []; omega) | decide) (by first | omega | assumption | rfl | (simp only []; omega) | decide) rfl
      ·
        subst h_2
        refine v_al_n 18 zC dX5_readDigits_17 2 rfl ?_
        refine v_cV (As := []) (st := [.ref r0]) 21 0 [0, 1] zC dX5_readDigits_18 hA (c_X5_here (ev_l E) (ev_D E) cI (r0 := r0) (k1 := k1) (k2 := k2) (k3 := k3) (k4 := k4) (k6 := k6) (k7 := k7) (k8 := k8) (k10 := k10) (k12 := k12) (k13 := k13) (k14 := k14) (k15 := k15) (k16 := k16) (k21 := k21) (k22 := k22) (k23 := k23) (k24 := k24) (k25 := k25) (k30 := k30) (k31 := k31) (k33 := k33) (n := n) (m := m) (aw := aw) (ls := ls) (ap := a) (sq := sq) (pl := pl) (tz := tz) (rs := rs) (bd := false) (pd := pd) (tk := tk) (kv := kv) (sd := sd) (sg := sg) (hl := (by first | omega | assumption | rfl | (simp only []; omega) | decide)) (ha := (by first | omega | assumption | rfl | (simp only []; omega) | decide))) cf_X5_here lk_X5_142 rfl rfl rfl rfl rfl (by decide +kernel) (Nat.le_of_ble_eq_true rfl) (fun rv_5 wv_6 hp_7 hm_8 => ?_)
        clear hm_8
        rcases hp_7 with ⟨hq_9, rfl, rfl⟩ | ⟨hq_10, rfl, rfl⟩
        ·
          show VV E 0 0 21 [(3, .int (nI i)), (2, .int (nI v)), (0, .ref r0), (1, .int (nI k))] [.int (-1), .ref r0] [(r0, .inr (5, [.int (nI n), .ref k1, .ref k2, .ref k3, .ref k4, .int (nI m), .ref k6, .ref k7, .ref k8, .int (nI 0), .ref k10, .int (nI aw), .ref k12, .ref k13, .ref k14, .ref k15, .ref k16, .int (nI ls), .int (nI a), .int (bz false), .int (nI sq), .ref k21, .ref k22, .ref k23, .ref k24, .ref k25, .int (bz pd), .int (nI pl), .int (bz tk), kv, .ref k30, .ref k31, .int (nI tz), .ref k33, .int (nI rs), .int sd])), (k16, .inl (cI, 96, .inl (nIf sg)))]
          have hge9 := hq_9
          refine v_i2l (v := (Int32.toInt64 (-1))) 22 zC dX5_readDigits_21 rfl ?_
          refine v_ldc2 (v := (lN 48)) 25 zC dX5_readDigits_22 kc_X5_146 ?_
          refine v_ldc2 (v := (lN 57)) 28 zC dX5_readDigits_25 kc_X5_148 ?_
          refine v_cS (As := [.long (Int32.toInt64 (-1)), .long (lN 48), .long (lN 57)]) (st := [.ref r0]) 31 [] zC dX5_readDigits_28 hA (c_X5_in (ev_l E) (ev_D E) cI (x := (Int32.toInt64 (-1))) (y := (lN 48)) (z := (lN 57)) ) cf_X5_in lk_X5_80 rfl rfl rfl (by decide +kernel) (Nat.le_of_ble_eq_true rfl) (fun rv_11 wv_12 hp_13 hm_14 => ?_)
          clear hm_14
          obtain ⟨rfl, rfl⟩ := hp_13
          show VV E 0 0 31 [(3, .int (nI i)), (2, .int (nI v)), (0, .ref r0), (1, .int (nI k))] [.int (bz (inB (Int32.toInt64 (-1)) (lN 48) (lN 57))), .ref r0] [(r0, .inr (5, [.int (nI n), .ref k1, .ref k2, .ref k3, .ref k4, .int (nI m), .ref k6, .ref k7, .ref k8, .int (nI 0), .ref k10, .int (nI aw), .ref k12, .ref k13, .ref k14, .ref k15, .ref k16, .int (nI ls), .int (nI a), .int (bz false), .int (nI sq), .ref k21, .ref k22, .ref k23, .ref k24, .ref k25, .int (bz pd), .int (nI pl), .int (bz tk), kv, .ref k30, .ref k31, .int (nI tz), .ref k33, .int (nI rs), .int sd])), (k16, .inl (cI, 96, .inl (nIf sg)))]
          rw [in_dgm]
          refine v_ifb_ne 38 34 zC dX5_readDigits_31 (fun z => absurd z (by decide)) (fun _ => ?_)
          refine v_ic (v := (nI 1)) 35 zC dX5_readDigits_34 (by decide +kernel) ?_
          refine v_goto 39 zC dX5_readDigits_35 ?_
          refine v_pf (ws2 := [(r0, .inr (5, [.int (nI n), .ref k1, .ref k2, .ref k3, .ref k4, .int (nI m), .ref k6, .ref k7, .ref k8, .int (nI 0), .ref k10, .int (nI aw), .ref k12, .ref k13, .ref k14, .ref k15, .ref k16, .int (nI ls), .int (nI a), .int (nI 1), .int (nI sq), .ref k21, .ref k22, .ref k23, .ref k24, .ref k25, .int (bz pd), .int (nI pl), .int (bz tk), kv, .ref k30, .ref k31, .int (nI tz), .ref k33, .int (nI rs), .int sd])), (k16, .inl (cI, 96, .inl (nIf sg)))]) 42 0 zC dX5_readDigits_39 pf_X5_138 rfl (Nat.le_of_ble_eq_true rfl) (by decide +kernel) (by decide +kernel) rfl ?_
          refine v_al_n 43 zC dX5_readDigits_42 2 rfl ?_
          refine v_gf 46 0 zC dX5_readDigits_43 gf_X5_138 rfl rfl ?_
          refine v_if_eq 53 49 zC dX5_readDigits_46 (fun z => absurd z (by decide +kernel)) (fun _ => ?_)
          refine v_ic (v := (nI 0)) 50 zC dX5_readDigits_49 (by decide +kernel) ?_
          refine v_goto 70 zC dX5_readDigits_50 ?_
          refine v_is_n (lv2 := [(2, .int (nI 0)), (3, .int (nI i)), (0, .ref r0), (1, .int (nI k))]) 71 zC dX5_readDigits_70 (by rw [hnE]; decide) rfl ?_
          refine v_al_n 72 zC dX5_readDigits_71 2 rfl ?_
          refine v_dup 73 zC dX5_readDigits_72 rfl ?_
          refine v_gf 76 0 zC dX5_readDigits_73 gf_X5_135 rfl rfl ?_
          refine v_al_n 77 zC dX5_readDigits_76 2 rfl ?_
          refine v_gf 80 0 zC dX5_readDigits_77 gf_X5_138 rfl rfl ?_
          refine v_if_eq 87 83 zC dX5_readDigits_80 (fun z => absurd z (by decide +kernel)) (fun _ => ?_)
          refine v_ic (v := (nI 0)) 84 zC dX5_readDigits_83 (by decide +kernel) ?_
          refine v_goto 88 zC dX5_readDigits_84 ?_
          refine v_iadd (v := (nI a)) 89 zC dX5_readDigits_88 (nI_add _ 0) ?_
          refine v_pf (ws2 := [(r0, .inr (5, [.int (nI n), .ref k1, .ref k2, .ref k3, .ref k4, .int (nI m), .ref k6, .ref k7, .ref k8, .int (nI 0), .ref k10, .int (nI aw), .ref k12, .ref k13, .ref k14, .ref k15, .ref k16, .int (nI ls), .int (nI a), .int (nI 1), .int (nI sq), .ref k21, .ref k22, .ref k23, .ref k24, .ref k25, .int (bz pd), .int (nI pl), .int (bz tk), kv, .ref k30, .ref k31, .int (nI tz), .ref k33, .int (nI rs), .int sd])), (k16, .inl (cI, 96, .inl (nIf sg)))]) 92 0 zC dX5_readDigits_89 pf_X5_135 rfl (Nat.le_of_ble_eq_true rfl) rfl rfl rfl ?_
          refine v_inc (v := (nI (i + 1))) (lv2 := [(3, .int (nI (i + 1))), (2, .int (nI 0)), (0, .ref r0), (1, .int (nI k))]) 95 zC dX5_readDigits_92 (j := 1) rfl (nI_add _ 1) (by rw [hnE]; decide) rfl ?_
          refine v_goto 4 zC dX5_readDigits_95 ?_
          refine v_lvs (lv2 := [(3, .int (nI (i + 1))), (2, .int (nI 0)), (0, .ref r0), (1, .int (nI k))]) [0, 1, 2, 3] rfl ?_
          exact ih4 _ (by omega) true a 0 (i + 1) (by first | exact rds_t hS | exact rds_s hS (by assumption) h48 h57 | exact rds_b hS (fun z => by first | exact hnd z.2 | omega)) (by first | omega | assumption | rfl | (simp only []; omega) | decide) (by first | omega | assumption | rfl | (simp only []; omega) | decide) rfl
        ·
          show VV E 0 0 21 [(3, .int (nI i)), (2, .int (nI v)), (0, .ref r0), (1, .int (nI k))] [.int (nI (sg a)), .ref r0] [(r0, .inr (5, [.int (nI n), .ref k1, .ref k2, .ref k3, .ref k4, .int (nI m), .ref k6, .ref k7, .ref k8, .int (nI 0), .ref k10, .int (nI aw), .ref k12, .ref k13, .ref k14, .ref k15, .ref k16, .int (nI ls), .int (nI a), .int (bz false), .int (nI sq), .ref k21, .ref k22, .ref k23, .ref k24, .ref k25, .int (bz pd), .int (nI pl), .int (bz tk), kv, .ref k30, .ref k31, .int (nI tz), .ref k33, .int (nI rs), .int sd])), (k16, .inl (cI, 96, .inl (nIf sg)))]
          have hlt9 := hq_10
          have hga := hsg a
          refine v_i2l (v := (lN (sg a))) 22 zC dX5_readDigits_21 (nI_l (by omega)) ?_
          refine v_ldc2 (v := (lN 48)) 25 zC dX5_readDigits_22 kc_X5_146 ?_
          refine v_ldc2 (v := (lN 57)) 28 zC dX5_readDigits_25 kc_X5_148 ?_
          refine v_cS (As := [.long (lN (sg a)), .long (lN 48), .long (lN 57)]) (st := [.ref r0]) 31 [] zC dX5_readDigits_28 hA (c_X5_in (ev_l E) (ev_D E) cI (x := (lN (sg a))) (y := (lN 48)) (z := (lN 57)) ) cf_X5_in lk_X5_80 rfl rfl rfl (by decide +kernel) (Nat.le_of_ble_eq_true rfl) (fun rv_18 wv_19 hp_20 hm_21 => ?_)
          clear hm_21
          obtain ⟨rfl, rfl⟩ := hp_20
          show VV E 0 0 31 [(3, .int (nI i)), (2, .int (nI v)), (0, .ref r0), (1, .int (nI k))] [.int (bz (inB (lN (sg a)) (lN 48) (lN 57))), .ref r0] [(r0, .inr (5, [.int (nI n), .ref k1, .ref k2, .ref k3, .ref k4, .int (nI m), .ref k6, .ref k7, .ref k8, .int (nI 0), .ref k10, .int (nI aw), .ref k12, .ref k13, .ref k14, .ref k15, .ref k16, .int (nI ls), .int (nI a), .int (bz false), .int (nI sq), .ref k21, .ref k22, .ref k23, .ref k24, .ref k25, .int (bz pd), .int (nI pl), .int (bz tk), kv, .ref k30, .ref k31, .int (nI tz), .ref k33, .int (nI rs), .int sd])), (k16, .inl (cI, 96, .inl (nIf sg)))]
          rcases in_dg (hsg a) with ⟨h48, h57, b9⟩ | ⟨hnd, b9⟩
          ·
            rw [b9]
            refine v_ifb_ne 38 34 zC dX5_readDigits_31 (fun _ => ?_) (fun z => absurd z (by decide))
            refine v_ic (v := (nI 0)) 39 zC dX5_readDigits_38 (by decide +kernel) ?_
            refine v_pf (ws2 := [(r0, .inr (5, [.int (nI n), .ref k1, .ref k2, .ref k3, .ref k4, .int (nI m), .ref k6, .ref k7, .ref k8, .int (nI 0), .ref k10, .int (nI aw), .ref k12, .ref k13, .ref k14, .ref k15, .ref k16, .int (nI ls), .int (nI a), .int (nI 0), .int (nI sq), .ref k21, .ref k22, .ref k23, .ref k24, .ref k25, .int (bz pd), .int (nI pl), .int (bz tk), kv, .ref k30, .ref k31, .int (nI tz), .ref k33, .int (nI rs), .int sd])), (k16, .inl (cI, 96, .inl (nIf sg)))]) 42 0 zC dX5_readDigits_39 pf_X5_138 rfl (Nat.le_of_ble_eq_true rfl) (by decide +kernel) (by decide +kernel) rfl ?_
            refine v_al_n 43 zC dX5_readDigits_42 2 rfl ?_
            refine v_gf 46 0 zC dX5_readDigits_43 gf_X5_138 rfl rfl ?_
            refine v_if_eq 53 49 zC dX5_readDigits_46 (fun _ => ?_) (fun z => absurd (by decide +kernel) z)
            refine v_bp (v := (nI 10)) 55 zC dX5_readDigits_53 (by decide +kernel) ?_
            refine v_il_n 56 zC dX5_readDigits_55 1 rfl ?_
            refine v_imul (v := (nI (10 * v))) 57 zC dX5_readDigits_56 (pk_mul _ _) ?_
            refine v_al_n 58 zC dX5_readDigits_57 2 rfl ?_
            refine v_gf 61 0 zC dX5_readDigits_58 gf_X5_46 rfl rfl ?_
            refine v_al_n 62 zC dX5_readDigits_61 2 rfl ?_
            refine v_gf 65 0 zC dX5_readDigits_62 gf_X5_135 rfl rfl ?_
            refine v_ialn (v := (nI (sg a))) 66 1 zC dX5_readDigits_65 rfl (by omega) rfl ?_
            refine v_iadd (v := (nI ((10 * v) + (sg a)))) 67 zC dX5_readDigits_66 (nI_add _ _) ?_
            refine v_bp (v := (nI 48)) 69 zC dX5_readDigits_67 (by decide +kernel) ?_
            refine v_isub (v := (nI (((10 * v) + (sg a)) - 48))) 70 zC dX5_readDigits_69 (pk_sub (by first | omega | exact Nat.one_le_two_pow)) ?_
            refine v_is_n (lv2 := [(2, .int (nI (((10 * v) + (sg a)) - 48))), (3, .int (nI i)), (0, .ref r0), (1, .int (nI k))]) 71 zC dX5_readDigits_70 (by rw [hnE]; decide) rfl ?_
            refine v_al_n 72 zC dX5_readDigits_71 2 rfl ?_
            refine v_dup 73 zC dX5_readDigits_72 rfl ?_
            refine v_gf 76 0 zC dX5_readDigits_73 gf_X5_135 rfl rfl ?_
            refine v_al_n 77 zC dX5_readDigits_76 2 rfl ?_
            refine v_gf 80 0 zC dX5_readDigits_77 gf_X5_138 rfl rfl ?_
            refine v_if_eq 87 83 zC dX5_readDigits_80 (fun _ => ?_) (fun z => absurd (by decide +kernel) z)
            refine v_ic (v := (nI 1)) 88 zC dX5_readDigits_87 (by decide +kernel) ?_
            refine v_iadd (v := (nI (a + 1))) 89 zC dX5_readDigits_88 (nI_add _ _) ?_
            refine v_pf (ws2 := [(r0, .inr (5, [.int (nI n), .ref k1, .ref k2, .ref k3, .ref k4, .int (nI m), .ref k6, .ref k7, .ref k8, .int (nI 0), .ref k10, .int (nI aw), .ref k12, .ref k13, .ref k14, .ref k15, .ref k16, .int (nI ls), .int (nI (a + 1)), .int (nI 0), .int (nI sq), .ref k21, .ref k22, .ref k23, .ref k24, .ref k25, .int (bz pd), .int (nI pl), .int (bz tk), kv, .ref k30, .ref k31, .int (nI tz), .ref k33, .int (nI rs), .int sd])), (k16, .inl (cI, 96, .inl (nIf sg)))]) 92 0 zC dX5_readDigits_89 pf_X5_135 rfl (Nat.le_of_ble_eq_true rfl) rfl rfl rfl ?_
            refine v_inc (v := (nI (i + 1))) (lv2 := [(3, .int (nI (i + 1))), (2, .int (nI (((10 * v) + (sg a)) - 48))), (0, .ref r0), (1, .int (nI k))]) 95 zC dX5_readDigits_92 (j := 1) rfl (nI_add _ 1) (by rw [hnE]; decide) rfl ?_
            refine v_goto 4 zC dX5_readDigits_95 ?_
            refine v_lvs (lv2 := [(3, .int (nI (i + 1))), (2, .int (nI (((10 * v) + (sg a)) - 48))), (0, .ref r0), (1, .int (nI k))]) [0, 1, 2, 3] rfl ?_
            exact ih4 _ (by omega) false (a + 1) (((10 * v) + (sg a)) - 48) (i + 1) (by first | exact rds_t hS | exact rds_s hS (by assumption) h48 h57 | exact rds_b hS (fun z => by first | exact hnd z.2 | omega)) (by first | omega | assumption | rfl | (simp only []; omega) | decide) (by first | omega | assumption | rfl | (simp only []; omega) | decide) rfl
          ·
            rw [b9]
            refine v_ifb_ne 38 34 zC dX5_readDigits_31 (fun z => absurd z (by decide)) (fun _ => ?_)
            refine v_ic (v := (nI 1)) 35 zC dX5_readDigits_34 (by decide +kernel) ?_
            refine v_goto 39 zC dX5_readDigits_35 ?_
            refine v_pf (ws2 := [(r0, .inr (5, [.int (nI n), .ref k1, .ref k2, .ref k3, .ref k4, .int (nI m), .ref k6, .ref k7, .ref k8, .int (nI 0), .ref k10, .int (nI aw), .ref k12, .ref k13, .ref k14, .ref k15, .ref k16, .int (nI ls), .int (nI a), .int (nI 1), .int (nI sq), .ref k21, .ref k22, .ref k23, .ref k24, .ref k25, .int (bz pd), .int (nI pl), .int (bz tk), kv, .ref k30, .ref k31, .int (nI tz), .ref k33, .int (nI rs), .int sd])), (k16, .inl (cI, 96, .inl (nIf sg)))]) 42 0 zC dX5_readDigits_39 pf_X5_138 rfl (Nat.le_of_ble_eq_true rfl) (by decide +kernel) (by decide +kernel) rfl ?_
            refine v_al_n 43 zC dX5_readDigits_42 2 rfl ?_
            refine v_gf 46 0 zC dX5_readDigits_43 gf_X5_138 rfl rfl ?_
            refine v_if_eq 53 49 zC dX5_readDigits_46 (fun z => absurd z (by decide +kernel)) (fun _ => ?_)
            refine v_ic (v := (nI 0)) 50 zC dX5_readDigits_49 (by decide +kernel) ?_
            refine v_goto 70 zC dX5_readDigits_50 ?_
            refine v_is_n (lv2 := [(2, .int (nI 0)), (3, .int (nI i)), (0, .ref r0), (1, .int (nI k))]) 71 zC dX5_readDigits_70 (by rw [hnE]; decide) rfl ?_
            refine v_al_n 72 zC dX5_readDigits_71 2 rfl ?_
            refine v_dup 73 zC dX5_readDigits_72 rfl ?_
            refine v_gf 76 0 zC dX5_readDigits_73 gf_X5_135 rfl rfl ?_
            refine v_al_n 77 zC dX5_readDigits_76 2 rfl ?_
            refine v_gf 80 0 zC dX5_readDigits_77 gf_X5_138 rfl rfl ?_
            refine v_if_eq 87 83 zC dX5_readDigits_80 (fun z => absurd z (by decide +kernel)) (fun _ => ?_)
            refine v_ic (v := (nI 0)) 84 zC dX5_readDigits_83 (by decide +kernel) ?_
            refine v_goto 88 zC dX5_readDigits_84 ?_
            refine v_iadd (v := (nI a)) 89 zC dX5_readDigits_88 (nI_add _ 0) ?_
            refine v_pf (ws2 := [(r0, .inr (5, [.int (nI n), .ref k1, .ref k2, .ref k3, .ref k4, .int (nI m), .ref k6, .ref k7, .ref k8, .int (nI 0), .ref k10, .int (nI aw), .ref k12, .ref k13, .ref k14, .ref k15, .ref k16, .int (nI ls), .int (nI a), .int (nI 1), .int (nI sq), .ref k21, .ref k22, .ref k23, .ref k24, .ref k25, .int (bz pd), .int (nI pl), .int (bz tk), kv, .ref k30, .ref k31, .int (nI tz), .ref k33, .int (nI rs), .int sd])), (k16, .inl (cI, 96, .inl (nIf sg)))]) 92 0 zC dX5_readDigits_89 pf_X5_135 rfl (Nat.le_of_ble_eq_true rfl) rfl rfl rfl ?_
            refine v_inc (v := (nI (i + 1))) (lv2 := [(3, .int (nI (i + 1))), (2, .int (nI 0)), (0, .ref r0), (1, .int (nI k))]) 95 zC dX5_readDigits_92 (j := 1) rfl (nI_add _ 1) (by rw [hnE]; decide) rfl ?_
            refine v_goto 4 zC dX5_readDigits_95 ?_
            refine v_lvs (lv2 := [(3, .int (nI (i + 1))), (2, .int (nI 0)), (0, .ref r0), (1, .int (nI k))]) [0, 1, 2, 3] rfl ?_
            exact ih4 _ (by omega) true a 0 (i + 1) (by first | exact rds_t hS | exact rds_s hS (by assumption) h48 h57 | exact rds_b hS (fun z => by first | exact hnd z.2 | omega)) (by first | omega | assumption | rfl | (simp only []; omega) | decide) (by first | omega | assumption | rfl | (simp only []; omega) | decide) rfl
  refine v_lvs (lv2 := [(3, .int (nI 0)), (2, .int (nI 0)), (0, .ref r0), (1, .int (nI k))]) [0, 1, 2, 3] rfl ?_
  exact lp4 _ false ap 0 0 (rds_0 ha) (by first | omega | assumption | rfl | (simp only []; omega) | decide) (by first | omega | assumption | rfl | (simp only []; omega) | decide) rfl
set_option maxRecDepth 100000 in
set_option maxHeartbeats 4000000 in
theorem c_X5_readDigits__T (l : Launch) (D : va_G) (cI : ClassId) (r0 k1 k2 k3 k4 k6 k7 k8 k10 k12 k13 k14 k15 k16 k21 k22 k23 k24 k25 k30 k31 k33 : Nat) (n m aw ls ap sq pl tz rs : Nat) (pd tk : Bool) (kv : Value) (sd : Int32) (sg : Nat → Nat) (k : Nat) (hk : k ≤ 2) : CT l yX5_readDigits cX5_readDigits 4 (some .int) { frames := 1, cells := 0, slots := 0, locals := 25 } D cI [.ref r0, .int (nI k)] [(r0, .inr (5, [.int (nI n), .ref k1, .ref k2, .ref k3, .ref k4, .int (nI m), .ref k6, .ref k7, .ref k8, .int (nI 0), .ref k10, .int (nI aw), .ref k12, .ref k13, .ref k14, .ref k15, .ref k16, .int (nI ls), .int (nI ap), .int (bz true), .int (nI sq), .ref k21, .ref k22, .ref k23, .ref k24, .ref k25, .int (bz pd), .int (nI pl), .int (bz tk), kv, .ref k30, .ref k31, .int (nI tz), .ref k33, .int (nI rs), .int sd])), (k16, .inl (cI, 96, .inl (nIf sg)))] (fun zr zw => (zr = some (.int (nI 0)) ∧ zw = [(r0, .inr (5, [.int (nI n), .ref k1, .ref k2, .ref k3, .ref k4, .int (nI m), .ref k6, .ref k7, .ref k8, .int (nI 0), .ref k10, .int (nI aw), .ref k12, .ref k13, .ref k14, .ref k15, .ref k16, .int (nI ls), .int (nI ap), .int (bz true), .int (nI sq), .ref k21, .ref k22, .ref k23, .ref k24, .ref k25, .int (bz pd), .int (nI pl), .int (bz tk), kv, .ref k30, .ref k31, .int (nI tz), .ref k33, .int (nI rs), .int sd])), (k16, .inl (cI, 96, .inl (nIf sg)))])) := by
  refine CT_of RX5 rfl (by decide +kernel) (Nat.le_of_ble_eq_true rfl) (fun E hnE zC zT => ?_)
  have hA : ∀ q, (ev_s E).heap.size ≤ q → ev_A E q := fun q h => by rw [zT.2]; exact Or.inr h
  show VV E 0 0 0 [(0, .ref r0), (1, .int (nI k))] [] [(r0, .inr (5, [.int (nI n), .ref k1, .ref k2, .ref k3, .ref k4, .int (nI m), .ref k6, .ref k7, .ref k8, .int (nI 0), .ref k10, .int (nI aw), .ref k12, .ref k13, .ref k14, .ref k15, .ref k16, .int (nI ls), .int (nI ap), .int (bz true), .int (nI sq), .ref k21, .ref k22, .ref k23, .ref k24, .ref k25, .int (bz pd), .int (nI pl), .int (bz tk), kv, .ref k30, .ref k31, .int (nI tz), .ref k33, .int (nI rs), .int sd])), (k16, .inl (cI, 96, .inl (nIf sg)))]
  refine v_ic (v := (nI 0)) 1 zC dX5_readDigits_0 (by decide +kernel) ?_
  refine v_is_n (lv2 := [(2, .int (nI 0)), (0, .ref r0), (1, .int (nI k))]) 2 zC dX5_readDigits_1 (by rw [hnE]; decide) rfl ?_
  refine v_ic (v := (nI 0)) 3 zC dX5_readDigits_2 (by decide +kernel) ?_
  refine v_is_n (lv2 := [(3, .int (nI 0)), (2, .int (nI 0)), (0, .ref r0), (1, .int (nI k))]) 4 zC dX5_readDigits_3 (by rw [hnE]; decide) rfl ?_
  have lp4 : ∀ (mz : Nat) (i : Nat), (i ≤ k) → k - i = mz → VV E 0 0 4 [(3, .int (nI i)), (2, .int (nI 0)), (0, .ref r0), (1, .int (nI k))] [] [(r0, .inr (5, [.int (nI n), .ref k1, .ref k2, .ref k3, .ref k4, .int (nI m), .ref k6, .ref k7, .ref k8, .int (nI 0), .ref k10, .int (nI aw), .ref k12, .ref k13, .ref k14, .ref k15, .ref k16, .int (nI ls), .int (nI ap), .int (bz true), .int (nI sq), .ref k21, .ref k22, .ref k23, .ref k24, .ref k25, .int (bz pd), .int (nI pl), .int (bz tk), kv, .ref k30, .ref k31, .int (nI tz), .ref k33, .int (nI rs), .int sd])), (k16, .inl (cI, 96, .inl (nIf sg)))] := by
    intro mz
    induction mz using Nat.strongRecOn with
    | _ mz ih4 =>
    intro i hi hm4
    refine v_il_n 5 zC dX5_readDigits_4 0 rfl ?_
    refine v_il_n 6 zC dX5_readDigits_5 3 rfl ?_
    refine v_icmpn_ge 98 9 zC dX5_readDigits_6 (fun h_1 => ?_) (fun h_1 => ?_)
    ·
      refine v_il_n 99 zC dX5_readDigits_98 1 rfl ?_
      refine v_iret zC zT dX5_readDigits_99  ?_
      first | exact ⟨rfl, rfl⟩ | exact ⟨sb1 (by assumption), rfl⟩ | exact ⟨sb0 (by assumption), rfl⟩ | (exfalso; omega) | exact ⟨sb1 (by simp [*]), rfl⟩ | exact ⟨sb0 (by simp [*]), rfl⟩
    ·
      refine v_al_n 10 zC dX5_readDigits_9 2 rfl ?_
      refine v_al_n 11 zC dX5_readDigits_10 2 rfl ?_
      refine v_gf 14 0 zC dX5_readDigits_11 gf_X5_138 rfl rfl ?_
      refine v_ifb_ne 34 17 zC dX5_readDigits_14 (fun _ => ?_) (fun z => absurd z (by decide))
      refine v_ic (v := (nI 1)) 35 zC dX5_readDigits_34 (by decide +kernel) ?_
      refine v_goto 39 zC dX5_readDigits_35 ?_
      refine v_pf (ws2 := [(r0, .inr (5, [.int (nI n), .ref k1, .ref k2, .ref k3, .ref k4, .int (nI m), .ref k6, .ref k7, .ref k8, .int (nI 0), .ref k10, .int (nI aw), .ref k12, .ref k13, .ref k14, .ref k15, .ref k16, .int (nI ls), .int (nI ap), .int (nI 1), .int (nI sq), .ref k21, .ref k22, .ref k23, .ref k24, .ref k25, .int (bz pd), .int (nI pl), .int (bz tk), kv, .ref k30, .ref k31, .int (nI tz), .ref k33, .int (nI rs), .int sd])), (k16, .inl (cI, 96, .inl (nIf sg)))]) 42 0 zC dX5_readDigits_39 pf_X5_138 rfl (Nat.le_of_ble_eq_true rfl) (by decide +kernel) (by decide +kernel) rfl ?_
      refine v_al_n 43 zC dX5_readDigits_42 2 rfl ?_
      refine v_gf 46 0 zC dX5_readDigits_43 gf_X5_138 rfl rfl ?_
      refine v_if_eq 53 49 zC dX5_readDigits_46 (fun z => absurd z (by decide +kernel)) (fun _ => ?_)
      refine v_ic (v := (nI 0)) 50 zC dX5_readDigits_49 (by decide +kernel) ?_
      refine v_goto 70 zC dX5_readDigits_50 ?_
      refine v_is_n (lv2 := [(2, .int (nI 0)), (3, .int (nI i)), (0, .ref r0), (1, .int (nI k))]) 71 zC dX5_readDigits_70 (by rw [hnE]; decide) rfl ?_
      refine v_al_n 72 zC dX5_readDigits_71 2 rfl ?_
      refine v_dup 73 zC dX5_readDigits_72 rfl ?_
      refine v_gf 76 0 zC dX5_readDigits_73 gf_X5_135 rfl rfl ?_
      refine v_al_n 77 zC dX5_readDigits_76 2 rfl ?_
      refine v_gf 80 0 zC dX5_readDigits_77 gf_X5_138 rfl rfl ?_
      refine v_if_eq 87 83 zC dX5_readDigits_80 (fun z => absurd z (by decide +kernel)) (fun _ => ?_)
      refine v_ic (v := (nI 0)) 84 zC dX5_readDigits_83 (by decide +kernel) ?_
      refine v_goto 88 zC dX5_readDigits_84 ?_
      refine v_iadd (v := (nI ap)) 89 zC dX5_readDigits_88 (nI_add _ 0) ?_
      refine v_pf (ws2 := [(r0, .inr (5, [.int (nI n), .ref k1, .ref k2, .ref k3, .ref k4, .int (nI m), .ref k6, .ref k7, .ref k8, .int (nI 0), .ref k10, .int (nI aw), .ref k12, .ref k13, .ref k14, .ref k15, .ref k16, .int (nI ls), .int (nI ap), .int (nI 1), .int (nI sq), .ref k21, .ref k22, .ref k23, .ref k24, .ref k25, .int (bz pd), .int (nI pl), .int (bz tk), kv, .ref k30, .ref k31, .int (nI tz), .ref k33, .int (nI rs), .int sd])), (k16, .inl (cI, 96, .inl (nIf sg)))]) 92 0 zC dX5_readDigits_89 pf_X5_135 rfl (Nat.le_of_ble_eq_true rfl) rfl rfl rfl ?_
      refine v_inc (v := (nI (i + 1))) (lv2 := [(3, .int (nI (i + 1))), (2, .int (nI 0)), (0, .ref r0), (1, .int (nI k))]) 95 zC dX5_readDigits_92 (j := 1) rfl (nI_add _ 1) (by rw [hnE]; decide) rfl ?_
      refine v_goto 4 zC dX5_readDigits_95 ?_
      refine v_lvs (lv2 := [(3, .int (nI (i + 1))), (2, .int (nI 0)), (0, .ref r0), (1, .int (nI k))]) [0, 1, 2, 3] rfl ?_
      exact ih4 _ (by omega) (i + 1) (by first | omega | assumption | rfl | (simp only []; omega) | decide) rfl
  refine v_lvs (lv2 := [(3, .int (nI 0)), (2, .int (nI 0)), (0, .ref r0), (1, .int (nI k))]) [0, 1, 2, 3] rfl ?_
  exact lp4 _ 0 (by first | omega | assumption | rfl | (simp only []; omega) | decide) rfl
set_option maxRecDepth 100000 in
set_option maxHeartbeats 4000000 in
theorem c_X5_isLetter__M (l : Launch) (D : va_G) (cI : ClassId)   : CT l yX5_isLetter cX5_isLetter 1 (some .boolean) { frames := 0, cells := 0, slots := 0, locals := 0 } D cI [.int (-1)] [] (fun zr zw => (zr = some (.int (nI 0)) ∧ zw = [])) := by
  refine CT_of RX5 rfl (by decide +kernel) (Nat.le_of_ble_eq_true rfl) (fun E hnE zC zT => ?_)
  have hA : ∀ q, (ev_s E).heap.size ≤ q → ev_A E q := fun q h => by rw [zT.2]; exact Or.inr h
  show VV E 0 0 0 [(0, .int (-1))] [] []
  refine v_il_n 1 zC dX5_isLetter_0 0 rfl ?_
  refine v_bp (v := (nI 112)) 3 zC dX5_isLetter_1 (by decide +kernel) ?_
  refine v_icmp_eq 36 6 zC dX5_isLetter_3 (fun z => absurd z (by decide +kernel)) (fun _ => ?_)
  refine v_il_n 7 zC dX5_isLetter_6 0 rfl ?_
  refine v_bp (v := (nI 100)) 9 zC dX5_isLetter_7 (by decide +kernel) ?_
  refine v_icmp_eq 36 12 zC dX5_isLetter_9 (fun z => absurd z (by decide +kernel)) (fun _ => ?_)
  refine v_il_n 13 zC dX5_isLetter_12 0 rfl ?_
  refine v_bp (v := (nI 111)) 15 zC dX5_isLetter_13 (by decide +kernel) ?_
  refine v_icmp_eq 36 18 zC dX5_isLetter_15 (fun z => absurd z (by decide +kernel)) (fun _ => ?_)
  refine v_il_n 19 zC dX5_isLetter_18 0 rfl ?_
  refine v_bp (v := (nI 99)) 21 zC dX5_isLetter_19 (by decide +kernel) ?_
  refine v_icmp_eq 36 24 zC dX5_isLetter_21 (fun z => absurd z (by decide +kernel)) (fun _ => ?_)
  refine v_il_n 25 zC dX5_isLetter_24 0 rfl ?_
  refine v_bp (v := (nI 115)) 27 zC dX5_isLetter_25 (by decide +kernel) ?_
  refine v_icmp_eq 36 30 zC dX5_isLetter_27 (fun z => absurd z (by decide +kernel)) (fun _ => ?_)
  refine v_il_n 31 zC dX5_isLetter_30 0 rfl ?_
  refine v_bp (v := (nI 107)) 33 zC dX5_isLetter_31 (by decide +kernel) ?_
  refine v_icmp_ne 40 36 zC dX5_isLetter_33 (fun _ => ?_) (fun z => absurd z (by decide +kernel))
  refine v_ic (v := (nI 0)) 41 zC dX5_isLetter_40 (by decide +kernel) ?_
  refine v_zret zC zT dX5_isLetter_41 (by decide +kernel) ?_
  first | exact ⟨rfl, rfl⟩ | exact ⟨sb1 (by assumption), rfl⟩ | exact ⟨sb0 (by assumption), rfl⟩ | (exfalso; omega) | exact ⟨sb1 (by simp [*]), rfl⟩ | exact ⟨sb0 (by simp [*]), rfl⟩
set_option maxRecDepth 100000 in
set_option maxHeartbeats 4000000 in
theorem c_X5_isLetter__N (l : Launch) (D : va_G) (cI : ClassId) (c : Nat) (hc : c < 256) : CT l yX5_isLetter cX5_isLetter 1 (some .boolean) { frames := 0, cells := 0, slots := 0, locals := 0 } D cI [.int (nI c)] [] (fun zr zw => (zr = some (.int (bz ((DB c).isSome))) ∧ zw = [])) := by
  refine CT_of RX5 rfl (by decide +kernel) (Nat.le_of_ble_eq_true rfl) (fun E hnE zC zT => ?_)
  have hA : ∀ q, (ev_s E).heap.size ≤ q → ev_A E q := fun q h => by rw [zT.2]; exact Or.inr h
  show VV E 0 0 0 [(0, .int (nI c))] [] []
  refine v_il_n 1 zC dX5_isLetter_0 0 rfl ?_
  refine v_bp (v := (nI 112)) 3 zC dX5_isLetter_1 (by decide +kernel) ?_
  refine v_icmpn_eq 36 6 zC dX5_isLetter_3 (fun h_1 => ?_) (fun h_1 => ?_)
  ·
    refine v_ic (v := (nI 1)) 37 zC dX5_isLetter_36 (by decide +kernel) ?_
    refine v_goto 41 zC dX5_isLetter_37 ?_
    refine v_zret zC zT dX5_isLetter_41 (by decide +kernel) ?_
    first | exact ⟨sb1 (by simp [DB, *]), rfl⟩ | exact ⟨sb0 (by simp [DB, *]), rfl⟩
  ·
    refine v_il_n 7 zC dX5_isLetter_6 0 rfl ?_
    refine v_bp (v := (nI 100)) 9 zC dX5_isLetter_7 (by decide +kernel) ?_
    refine v_icmpn_eq 36 12 zC dX5_isLetter_9 (fun h_2 => ?_) (fun h_2 => ?_)
    ·
      refine v_ic (v := (nI 1)) 37 zC dX5_isLetter_36 (by decide +kernel) ?_
      refine v_goto 41 zC dX5_isLetter_37 ?_
      refine v_zret zC zT dX5_isLetter_41 (by decide +kernel) ?_
      first | exact ⟨sb1 (by simp [DB, *]), rfl⟩ | exact ⟨sb0 (by simp [DB, *]), rfl⟩
    ·
      refine v_il_n 13 zC dX5_isLetter_12 0 rfl ?_
      refine v_bp (v := (nI 111)) 15 zC dX5_isLetter_13 (by decide +kernel) ?_
      refine v_icmpn_eq 36 18 zC dX5_isLetter_15 (fun h_3 => ?_) (fun h_3 => ?_)
      ·
        refine v_ic (v := (nI 1)) 37 zC dX5_isLetter_36 (by decide +kernel) ?_
        refine v_goto 41 zC dX5_isLetter_37 ?_
        refine v_zret zC zT dX5_isLetter_41 (by decide +kernel) ?_
        first | exact ⟨sb1 (by simp [DB, *]), rfl⟩ | exact ⟨sb0 (by simp [DB, *]), rfl⟩
      ·
        refine v_il_n 19 zC dX5_isLetter_18 0 rfl ?_
        refine v_bp (v := (nI 99)) 21 zC dX5_isLetter_19 (by decide +kernel) ?_
        refine v_icmpn_eq 36 24 zC dX5_isLetter_21 (fun h_4 => ?_) (fun h_4 => ?_)
        ·
          refine v_ic (v := (nI 1)) 37 zC dX5_isLetter_36 (by decide +kernel) ?_
          refine v_goto 41 zC dX5_isLetter_37 ?_
          refine v_zret zC zT dX5_isLetter_41 (by decide +kernel) ?_
          first | exact ⟨sb1 (by simp [DB, *]), rfl⟩ | exact ⟨sb0 (by simp [DB, *]), rfl⟩
        ·
          refine v_il_n 25 zC dX5_isLetter_24 0 rfl ?_
          refine v_bp (v := (nI 115)) 27 zC dX5_isLetter_25 (by decide +kernel) ?_
          refine v_icmpn_eq 36 30 zC dX5_isLetter_27 (fun h_5 => ?_) (fun h_5 => ?_)
          ·
            refine v_ic (v := (nI 1)) 37 zC dX5_isLetter_36 (by decide +kernel) ?_
            refine v_goto 41 zC dX5_isLetter_37 ?_
            refine v_zret zC zT dX5_isLetter_41 (by decide +kernel) ?_
            first | exact ⟨sb1 (by simp [DB, *]), rfl⟩ | exact ⟨sb0 (by simp [DB, *]), rfl⟩
          ·
            refine v_il_n 31 zC dX5_isLetter_30 0 rfl ?_
            refine v_bp (v := (nI 107)) 33 zC dX5_isLetter_31 (by decide +kernel) ?_
            refine v_icmpn_ne 40 36 zC dX5_isLetter_33 (fun h_6 => ?_) (fun h_6 => ?_)
            ·
              refine v_ic (v := (nI 0)) 41 zC dX5_isLetter_40 (by decide +kernel) ?_
              refine v_zret zC zT dX5_isLetter_41 (by decide +kernel) ?_
              first | exact ⟨sb1 (by simp [DB, *]), rfl⟩ | exact ⟨sb0 (by simp [DB, *]), rfl⟩
            ·
              refine v_ic (v := (nI 1)) 37 zC dX5_isLetter_36 (by decide +kernel) ?_
              refine v_goto 41 zC dX5_isLetter_37 ?_
              refine v_zret zC zT dX5_isLetter_41 (by decide +kernel) ?_
              first | exact ⟨sb1 (by simp [DB, *]), rfl⟩ | exact ⟨sb0 (by simp [DB, *]), rfl⟩
set_option maxRecDepth 100000 in
set_option maxHeartbeats 4000000 in
theorem c_X5_readNumbers (l : Launch) (D : va_G) (cI : ClassId) (r0 k1 k2 k3 k4 k6 k7 k8 k10 k12 k13 k14 k15 k16 k21 k22 k23 k24 k25 k30 k31 k33 : Nat) (n m aw ls ap sq pl tz rs : Nat) (pd tk : Bool) (kv : Value) (sd : Int32) (sg tl : Nat → Nat) (c i v : Nat) (hl : ls ≤ 96) (hsg : ∀ z, sg z < 256) (ha : ap ≤ ls) (hi : i + 2 < 147) (hv : DB c = some v) : CT l yX5_readNumbers cX5_readNumbers 3 none { frames := 2, cells := 0, slots := 0, locals := 48 } D cI [.ref r0, .int (nI c), .int (nI i)] [(r0, .inr (5, [.int (nI n), .ref k1, .ref k2, .ref k3, .ref k4, .int (nI m), .ref k6, .ref k7, .ref k8, .int (nI 0), .ref k10, .int (nI aw), .ref k12, .ref k13, .ref k14, .ref k15, .ref k16, .int (nI ls), .int (nI ap), .int (bz false), .int (nI sq), .ref k21, .ref k22, .ref k23, .ref k24, .ref k25, .int (bz pd), .int (nI pl), .int (bz tk), kv, .ref k30, .ref k31, .int (nI tz), .ref k33, .int (nI rs), .int sd])), (k16, .inl (cI, 96, .inl (nIf sg))), (k23, .inl (cI, 147, .inl (nIf tl)))] (fun zr zw => (∃ t1 : Nat → Nat, (FD ls sg ap v = none) ∧ (TLS sg c ap t1 i) ∧ (∀ z, z < i → t1 z = tl z) ∧ zr = none ∧ zw = [(r0, .inr (5, [.int (nI n), .ref k1, .ref k2, .ref k3, .ref k4, .int (nI m), .ref k6, .ref k7, .ref k8, .int (nI 0), .ref k10, .int (nI aw), .ref k12, .ref k13, .ref k14, .ref k15, .ref k16, .int (nI ls), .int (nI (ap + v)), .int (bz false), .int (nI sq), .ref k21, .ref k22, .ref k23, .ref k24, .ref k25, .int (bz pd), .int (nI pl), .int (bz tk), kv, .ref k30, .ref k31, .int (nI tz), .ref k33, .int (nI rs), .int sd])), (k16, .inl (cI, 96, .inl (nIf sg))), (k23, .inl (cI, 147, .inl (nIf t1)))]) ∨ (∃ j : Nat, ∃ t1 : Nat → Nat, (FD ls sg ap v = some j) ∧ (ap + j ≤ ls) ∧ (∀ z, z < i → t1 z = tl z) ∧ zr = none ∧ zw = [(r0, .inr (5, [.int (nI n), .ref k1, .ref k2, .ref k3, .ref k4, .int (nI m), .ref k6, .ref k7, .ref k8, .int (nI 0), .ref k10, .int (nI aw), .ref k12, .ref k13, .ref k14, .ref k15, .ref k16, .int (nI ls), .int (nI (ap + j)), .int (bz true), .int (nI sq), .ref k21, .ref k22, .ref k23, .ref k24, .ref k25, .int (bz pd), .int (nI pl), .int (bz tk), kv, .ref k30, .ref k31, .int (nI tz), .ref k33, .int (nI rs), .int sd])), (k16, .inl (cI, 96, .inl (nIf sg))), (k23, .inl (cI, 147, .inl (nIf t1)))])) := by
  refine CT_of RX5 rfl (by decide +kernel) (Nat.le_of_ble_eq_true rfl) (fun E hnE zC zT => ?_)
  have hA : ∀ q, (ev_s E).heap.size ≤ q → ev_A E q := fun q h => by rw [zT.2]; exact Or.inr h
  show VV E 0 0 0 [(0, .ref r0), (1, .int (nI c)), (2, .int (nI i))] [] [(r0, .inr (5, [.int (nI n), .ref k1, .ref k2, .ref k3, .ref k4, .int (nI m), .ref k6, .ref k7, .ref k8, .int (nI 0), .ref k10, .int (nI aw), .ref k12, .ref k13, .ref k14, .ref k15, .ref k16, .int (nI ls), .int (nI ap), .int (bz false), .int (nI sq), .ref k21, .ref k22, .ref k23, .ref k24, .ref k25, .int (bz pd), .int (nI pl), .int (bz tk), kv, .ref k30, .ref k31, .int (nI tz), .ref k33, .int (nI rs), .int sd])), (k16, .inl (cI, 96, .inl (nIf sg))), (k23, .inl (cI, 147, .inl (nIf tl)))]
  refine v_il_n 1 zC dX5_readNumbers_0 1 rfl ?_
  rcases db_six hv with ⟨hs9, he9⟩ | ⟨hs9, he9⟩ | ⟨hs9, he9⟩ | ⟨hs9, he9⟩ | ⟨hs9, he9⟩ | ⟨hs9, he9⟩
  ·
    subst he9
    subst hs9
    refine v_lsw (off := 145) 146 zC dX5_readNumbers_1 ((by decide +kernel)) ?_
    refine v_al_n 147 zC dX5_readNumbers_146 0 rfl ?_
    refine v_gf 150 0 zC dX5_readNumbers_147 gf_X5_55 rfl rfl ?_
    refine v_il_n 151 zC dX5_readNumbers_150 2 rfl ?_
    refine v_al_n 152 zC dX5_readNumbers_151 0 rfl ?_
    refine v_ic (v := (nI 1)) 153 zC dX5_readNumbers_152 (by decide +kernel) ?_
    refine v_cV (As := [.int (nI 1)]) (st := [.int (nI i), .ref k23]) 156 0 [0, 1] zC dX5_readNumbers_153 hA (c_X5_readDigits__F (ev_l E) (ev_D E) cI (r0 := r0) (k1 := k1) (k2 := k2) (k3 := k3) (k4 := k4) (k6 := k6) (k7 := k7) (k8 := k8) (k10 := k10) (k12 := k12) (k13 := k13) (k14 := k14) (k15 := k15) (k16 := k16) (k21 := k21) (k22 := k22) (k23 := k23) (k24 := k24) (k25 := k25) (k30 := k30) (k31 := k31) (k33 := k33) (n := n) (m := m) (aw := aw) (ls := ls) (ap := ap) (sq := sq) (pl := pl) (tz := tz) (rs := rs) (pd := pd) (tk := tk) (kv := kv) (sd := sd) (sg := sg) (k := 1) (hl := (by first | omega | assumption | rfl | (simp only []; omega) | decide)) (hsg := (by first | omega | assumption | rfl | (simp only []; omega) | decide)) (ha := (by first | omega | assumption | rfl | (simp only []; omega) | decide)) (hk := (by first | omega | assumption | rfl | (simp only []; omega) | decide))) cf_X5_readDigits lk_X5_150 rfl rfl rfl rfl rfl (by decide +kernel) (Nat.le_of_ble_eq_true rfl) (fun rv_1 wv_2 hp_3 hm_4 => ?_)
    clear hm_4
    rcases hp_3 with ⟨hf_5, hj_6, rfl, rfl⟩ | ⟨j_7, hf_8, hj_9, rfl, rfl⟩
    ·
      show VV E 0 0 156 [(0, .ref r0), (1, .int (nI 115)), (2, .int (nI i))] [.int (nI (NUMB sg ap 1)), .int (nI i), .ref k23] [(r0, .inr (5, [.int (nI n), .ref k1, .ref k2, .ref k3, .ref k4, .int (nI m), .ref k6, .ref k7, .ref k8, .int (nI 0), .ref k10, .int (nI aw), .ref k12, .ref k13, .ref k14, .ref k15, .ref k16, .int (nI ls), .int (nI (ap + 1)), .int (bz false), .int (nI sq), .ref k21, .ref k22, .ref k23, .ref k24, .ref k25, .int (bz pd), .int (nI pl), .int (bz tk), kv, .ref k30, .ref k31, .int (nI tz), .ref k33, .int (nI rs), .int sd])), (k16, .inl (cI, 96, .inl (nIf sg))), (k23, .inl (cI, 147, .inl (nIf tl)))]
      have hAp := hf_5
      have hLp := hj_6
      refine v_iasn (ws2 := [(r0, .inr (5, [.int (nI n), .ref k1, .ref k2, .ref k3, .ref k4, .int (nI m), .ref k6, .ref k7, .ref k8, .int (nI 0), .ref k10, .int (nI aw), .ref k12, .ref k13, .ref k14, .ref k15, .ref k16, .int (nI ls), .int (nI (ap + 1)), .int (bz false), .int (nI sq), .ref k21, .ref k22, .ref k23, .ref k24, .ref k25, .int (bz pd), .int (nI pl), .int (bz tk), kv, .ref k30, .ref k31, .int (nI tz), .ref k33, .int (nI rs), .int sd])), (k16, .inl (cI, 96, .inl (nIf sg))), (k23, .inl (cI, 147, .inl (nIf (un tl i (NUMB sg ap 1)))))]) 157 2 zC dX5_readNumbers_156 rfl (by omega) (by rw [upd_nIf]; first | done | rfl) ?_
      refine v_goto 184 zC dX5_readNumbers_157 ?_
      refine v_vret zC zT dX5_readNumbers_184  ?_
      first | (have g9 := hAc; exact Or.inl ⟨_, fd_n (i := 3) (k := 2) (fd_n (i := 1) (k := 2) hAa hAb) hAc, (by first | exact tls_111 (by rw [un_n (by omega), un_n (by omega), un_s, numb1]) (by rw [un_n (by omega), un_s, numb2]) (by rw [un_s, numb2]) | exact tls_99 (by rw [un_n (by omega), un_n (by omega), un_s, numb1]) (by rw [un_n (by omega), un_s, numb2]) (by rw [un_s, numb2])), (fun z hz => by repeat (rw [un_n (by omega)])), rfl, rfl⟩) | (have g9 := hBc; rw [show ap + 1 + 2 + jc = ap + (3 + jc) from by omega]; exact Or.inr ⟨_, _, fd_s (i := 3) (k := 2) (fd_n (i := 1) (k := 2) hAa hAb) hBc, by omega, (fun z hz => by repeat (rw [un_n (by omega)])), rfl, rfl⟩) | (have g9 := hBb5; rw [show ap + 1 + jb5 = ap + (1 + jb5) from by omega]; exact Or.inr ⟨_, _, fd_m (i := 3) (k := 2) (fd_s (i := 1) (k := 2) hAa hBb5), by omega, (fun z hz => by repeat (rw [un_n (by omega)])), rfl, rfl⟩) | (have g9 := hBa5; exact Or.inr ⟨_, _, fd_m (i := 1) (k := 4) hBa5, by omega, (fun z hz => by repeat (rw [un_n (by omega)])), rfl, rfl⟩) | (have g9 := hAe; exact Or.inl ⟨_, fd_n (i := 2) (k := 1) (fd_n (i := 1) (k := 1) hAa3 hAd) hAe, (tls_100 (by rw [un_n (by omega), un_n (by omega), un_s, numb1]) (by rw [un_n (by omega), un_s, numb1]) (by rw [un_s, numb1])), (fun z hz => by repeat (rw [un_n (by omega)])), rfl, rfl⟩) | (have g9 := hBe; rw [show ap + 1 + 1 + je = ap + (2 + je) from by omega]; exact Or.inr ⟨_, _, fd_s (i := 2) (k := 1) (fd_n (i := 1) (k := 1) hAa3 hAd) hBe, by omega, (fun z hz => by repeat (rw [un_n (by omega)])), rfl, rfl⟩) | (have g9 := hBd; rw [show ap + 1 + jd = ap + (1 + jd) from by omega]; exact Or.inr ⟨_, _, fd_m (i := 2) (k := 1) (fd_s (i := 1) (k := 1) hAa3 hBd), by omega, (fun z hz => by repeat (rw [un_n (by omega)])), rfl, rfl⟩) | (have g9 := hBa3; exact Or.inr ⟨_, _, fd_m (i := 1) (k := 2) hBa3, by omega, (fun z hz => by repeat (rw [un_n (by omega)])), rfl, rfl⟩) | (have g9 := hAh; exact Or.inl ⟨_, fd_n (i := 1) (k := 1) hAg hAh, (tls_107 (by rw [un_n (by omega), un_s, numb1]) (by rw [un_s, numb1])), (fun z hz => by repeat (rw [un_n (by omega)])), rfl, rfl⟩) | (have g9 := hBh; rw [show ap + 1 + jh = ap + (1 + jh) from by omega]; exact Or.inr ⟨_, _, fd_s (i := 1) (k := 1) hAg hBh, by omega, (fun z hz => by repeat (rw [un_n (by omega)])), rfl, rfl⟩) | (have g9 := hBg; exact Or.inr ⟨_, _, fd_m (i := 1) (k := 1) hBg, by omega, (fun z hz => by repeat (rw [un_n (by omega)])), rfl, rfl⟩) | (have g9 := hAp; exact Or.inl ⟨_, hAp, (by first | exact tls_112 (by rw [un_s, numb2]) | exact tls_115 (by rw [un_s, numb1])), (fun z hz => by repeat (rw [un_n (by omega)])), rfl, rfl⟩) | (have g9 := hBp; exact Or.inr ⟨_, _, hBp, by omega, (fun z hz => by repeat (rw [un_n (by omega)])), rfl, rfl⟩)
    ·
      show VV E 0 0 156 [(0, .ref r0), (1, .int (nI 115)), (2, .int (nI i))] [.int (nI 0), .int (nI i), .ref k23] [(r0, .inr (5, [.int (nI n), .ref k1, .ref k2, .ref k3, .ref k4, .int (nI m), .ref k6, .ref k7, .ref k8, .int (nI 0), .ref k10, .int (nI aw), .ref k12, .ref k13, .ref k14, .ref k15, .ref k16, .int (nI ls), .int (nI (ap + j_7)), .int (bz true), .int (nI sq), .ref k21, .ref k22, .ref k23, .ref k24, .ref k25, .int (bz pd), .int (nI pl), .int (bz tk), kv, .ref k30, .ref k31, .int (nI tz), .ref k33, .int (nI rs), .int sd])), (k16, .inl (cI, 96, .inl (nIf sg))), (k23, .inl (cI, 147, .inl (nIf tl)))]
      obtain ⟨jp, hej⟩ : ∃ z, z = j_7 := ⟨_, rfl⟩
      subst hej
      have hBp := hf_8
      have hCp := hj_9
      refine v_iasn (ws2 := [(r0, .inr (5, [.int (nI n), .ref k1, .ref k2, .ref k3, .ref k4, .int (nI m), .ref k6, .ref k7, .ref k8, .int (nI 0), .ref k10, .int (nI aw), .ref k12, .ref k13, .ref k14, .ref k15, .ref k16, .int (nI ls), .int (nI (ap + jp)), .int (bz true), .int (nI sq), .ref k21, .ref k22, .ref k23, .ref k24, .ref k25, .int (bz pd), .int (nI pl), .int (bz tk), kv, .ref k30, .ref k31, .int (nI tz), .ref k33, .int (nI rs), .int sd])), (k16, .inl (cI, 96, .inl (nIf sg))), (k23, .inl (cI, 147, .inl (nIf (un tl i 0))))]) 157 2 zC dX5_readNumbers_156 rfl (by omega) (by rw [upd_nIf]; first | done | rfl) ?_
      refine v_goto 184 zC dX5_readNumbers_157 ?_
      refine v_vret zC zT dX5_readNumbers_184  ?_
      first | (have g9 := hAc; exact Or.inl ⟨_, fd_n (i := 3) (k := 2) (fd_n (i := 1) (k := 2) hAa hAb) hAc, (by first | exact tls_111 (by rw [un_n (by omega), un_n (by omega), un_s, numb1]) (by rw [un_n (by omega), un_s, numb2]) (by rw [un_s, numb2]) | exact tls_99 (by rw [un_n (by omega), un_n (by omega), un_s, numb1]) (by rw [un_n (by omega), un_s, numb2]) (by rw [un_s, numb2])), (fun z hz => by repeat (rw [un_n (by omega)])), rfl, rfl⟩) | (have g9 := hBc; rw [show ap + 1 + 2 + jc = ap + (3 + jc) from by omega]; exact Or.inr ⟨_, _, fd_s (i := 3) (k := 2) (fd_n (i := 1) (k := 2) hAa hAb) hBc, by omega, (fun z hz => by repeat (rw [un_n (by omega)])), rfl, rfl⟩) | (have g9 := hBb5; rw [show ap + 1 + jb5 = ap + (1 + jb5) from by omega]; exact Or.inr ⟨_, _, fd_m (i := 3) (k := 2) (fd_s (i := 1) (k := 2) hAa hBb5), by omega, (fun z hz => by repeat (rw [un_n (by omega)])), rfl, rfl⟩) | (have g9 := hBa5; exact Or.inr ⟨_, _, fd_m (i := 1) (k := 4) hBa5, by omega, (fun z hz => by repeat (rw [un_n (by omega)])), rfl, rfl⟩) | (have g9 := hAe; exact Or.inl ⟨_, fd_n (i := 2) (k := 1) (fd_n (i := 1) (k := 1) hAa3 hAd) hAe, (tls_100 (by rw [un_n (by omega), un_n (by omega), un_s, numb1]) (by rw [un_n (by omega), un_s, numb1]) (by rw [un_s, numb1])), (fun z hz => by repeat (rw [un_n (by omega)])), rfl, rfl⟩) | (have g9 := hBe; rw [show ap + 1 + 1 + je = ap + (2 + je) from by omega]; exact Or.inr ⟨_, _, fd_s (i := 2) (k := 1) (fd_n (i := 1) (k := 1) hAa3 hAd) hBe, by omega, (fun z hz => by repeat (rw [un_n (by omega)])), rfl, rfl⟩) | (have g9 := hBd; rw [show ap + 1 + jd = ap + (1 + jd) from by omega]; exact Or.inr ⟨_, _, fd_m (i := 2) (k := 1) (fd_s (i := 1) (k := 1) hAa3 hBd), by omega, (fun z hz => by repeat (rw [un_n (by omega)])), rfl, rfl⟩) | (have g9 := hBa3; exact Or.inr ⟨_, _, fd_m (i := 1) (k := 2) hBa3, by omega, (fun z hz => by repeat (rw [un_n (by omega)])), rfl, rfl⟩) | (have g9 := hAh; exact Or.inl ⟨_, fd_n (i := 1) (k := 1) hAg hAh, (tls_107 (by rw [un_n (by omega), un_s, numb1]) (by rw [un_s, numb1])), (fun z hz => by repeat (rw [un_n (by omega)])), rfl, rfl⟩) | (have g9 := hBh; rw [show ap + 1 + jh = ap + (1 + jh) from by omega]; exact Or.inr ⟨_, _, fd_s (i := 1) (k := 1) hAg hBh, by omega, (fun z hz => by repeat (rw [un_n (by omega)])), rfl, rfl⟩) | (have g9 := hBg; exact Or.inr ⟨_, _, fd_m (i := 1) (k := 1) hBg, by omega, (fun z hz => by repeat (rw [un_n (by omega)])), rfl, rfl⟩) | (have g9 := hAp; exact Or.inl ⟨_, hAp, (by first | exact tls_112 (by rw [un_s, numb2]) | exact tls_115 (by rw [un_s, numb1])), (fun z hz => by repeat (rw [un_n (by omega)])), rfl, rfl⟩) | (have g9 := hBp; exact Or.inr ⟨_, _, hBp, by omega, (fun z hz => by repeat (rw [un_n (by omega)])), rfl, rfl⟩)
  ·
    subst he9
    subst hs9
    refine v_lsw (off := 51) 52 zC dX5_readNumbers_1 ((by decide +kernel)) ?_
    refine v_al_n 53 zC dX5_readNumbers_52 0 rfl ?_
    refine v_gf 56 0 zC dX5_readNumbers_53 gf_X5_55 rfl rfl ?_
    refine v_il_n 57 zC dX5_readNumbers_56 2 rfl ?_
    refine v_al_n 58 zC dX5_readNumbers_57 0 rfl ?_
    refine v_ic (v := (nI 2)) 59 zC dX5_readNumbers_58 (by decide +kernel) ?_
    refine v_cV (As := [.int (nI 2)]) (st := [.int (nI i), .ref k23]) 62 0 [0, 1] zC dX5_readNumbers_59 hA (c_X5_readDigits__F (ev_l E) (ev_D E) cI (r0 := r0) (k1 := k1) (k2 := k2) (k3 := k3) (k4 := k4) (k6 := k6) (k7 := k7) (k8 := k8) (k10 := k10) (k12 := k12) (k13 := k13) (k14 := k14) (k15 := k15) (k16 := k16) (k21 := k21) (k22 := k22) (k23 := k23) (k24 := k24) (k25 := k25) (k30 := k30) (k31 := k31) (k33 := k33) (n := n) (m := m) (aw := aw) (ls := ls) (ap := ap) (sq := sq) (pl := pl) (tz := tz) (rs := rs) (pd := pd) (tk := tk) (kv := kv) (sd := sd) (sg := sg) (k := 2) (hl := (by first | omega | assumption | rfl | (simp only []; omega) | decide)) (hsg := (by first | omega | assumption | rfl | (simp only []; omega) | decide)) (ha := (by first | omega | assumption | rfl | (simp only []; omega) | decide)) (hk := (by first | omega | assumption | rfl | (simp only []; omega) | decide))) cf_X5_readDigits lk_X5_150 rfl rfl rfl rfl rfl (by decide +kernel) (Nat.le_of_ble_eq_true rfl) (fun rv_10 wv_11 hp_12 hm_13 => ?_)
    clear hm_13
    rcases hp_12 with ⟨hf_14, hj_15, rfl, rfl⟩ | ⟨j_16, hf_17, hj_18, rfl, rfl⟩
    ·
      show VV E 0 0 62 [(0, .ref r0), (1, .int (nI 112)), (2, .int (nI i))] [.int (nI (NUMB sg ap 2)), .int (nI i), .ref k23] [(r0, .inr (5, [.int (nI n), .ref k1, .ref k2, .ref k3, .ref k4, .int (nI m), .ref k6, .ref k7, .ref k8, .int (nI 0), .ref k10, .int (nI aw), .ref k12, .ref k13, .ref k14, .ref k15, .ref k16, .int (nI ls), .int (nI (ap + 2)), .int (bz false), .int (nI sq), .ref k21, .ref k22, .ref k23, .ref k24, .ref k25, .int (bz pd), .int (nI pl), .int (bz tk), kv, .ref k30, .ref k31, .int (nI tz), .ref k33, .int (nI rs), .int sd])), (k16, .inl (cI, 96, .inl (nIf sg))), (k23, .inl (cI, 147, .inl (nIf tl)))]
      have hAp := hf_14
      have hLp := hj_15
      refine v_iasn (ws2 := [(r0, .inr (5, [.int (nI n), .ref k1, .ref k2, .ref k3, .ref k4, .int (nI m), .ref k6, .ref k7, .ref k8, .int (nI 0), .ref k10, .int (nI aw), .ref k12, .ref k13, .ref k14, .ref k15, .ref k16, .int (nI ls), .int (nI (ap + 2)), .int (bz false), .int (nI sq), .ref k21, .ref k22, .ref k23, .ref k24, .ref k25, .int (bz pd), .int (nI pl), .int (bz tk), kv, .ref k30, .ref k31, .int (nI tz), .ref k33, .int (nI rs), .int sd])), (k16, .inl (cI, 96, .inl (nIf sg))), (k23, .inl (cI, 147, .inl (nIf (un tl i (NUMB sg ap 2)))))]) 63 2 zC dX5_readNumbers_62 rfl (by omega) (by rw [upd_nIf]; first | done | rfl) ?_
      refine v_goto 184 zC dX5_readNumbers_63 ?_
      refine v_vret zC zT dX5_readNumbers_184  ?_
      first | (have g9 := hAc; exact Or.inl ⟨_, fd_n (i := 3) (k := 2) (fd_n (i := 1) (k := 2) hAa hAb) hAc, (by first | exact tls_111 (by rw [un_n (by omega), un_n (by omega), un_s, numb1]) (by rw [un_n (by omega), un_s, numb2]) (by rw [un_s, numb2]) | exact tls_99 (by rw [un_n (by omega), un_n (by omega), un_s, numb1]) (by rw [un_n (by omega), un_s, numb2]) (by rw [un_s, numb2])), (fun z hz => by repeat (rw [un_n (by omega)])), rfl, rfl⟩) | (have g9 := hBc; rw [show ap + 1 + 2 + jc = ap + (3 + jc) from by omega]; exact Or.inr ⟨_, _, fd_s (i := 3) (k := 2) (fd_n (i := 1) (k := 2) hAa hAb) hBc, by omega, (fun z hz => by repeat (rw [un_n (by omega)])), rfl, rfl⟩) | (have g9 := hBb5; rw [show ap + 1 + jb5 = ap + (1 + jb5) from by omega]; exact Or.inr ⟨_, _, fd_m (i := 3) (k := 2) (fd_s (i := 1) (k := 2) hAa hBb5), by omega, (fun z hz => by repeat (rw [un_n (by omega)])), rfl, rfl⟩) | (have g9 := hBa5; exact Or.inr ⟨_, _, fd_m (i := 1) (k := 4) hBa5, by omega, (fun z hz => by repeat (rw [un_n (by omega)])), rfl, rfl⟩) | (have g9 := hAe; exact Or.inl ⟨_, fd_n (i := 2) (k := 1) (fd_n (i := 1) (k := 1) hAa3 hAd) hAe, (tls_100 (by rw [un_n (by omega), un_n (by omega), un_s, numb1]) (by rw [un_n (by omega), un_s, numb1]) (by rw [un_s, numb1])), (fun z hz => by repeat (rw [un_n (by omega)])), rfl, rfl⟩) | (have g9 := hBe; rw [show ap + 1 + 1 + je = ap + (2 + je) from by omega]; exact Or.inr ⟨_, _, fd_s (i := 2) (k := 1) (fd_n (i := 1) (k := 1) hAa3 hAd) hBe, by omega, (fun z hz => by repeat (rw [un_n (by omega)])), rfl, rfl⟩) | (have g9 := hBd; rw [show ap + 1 + jd = ap + (1 + jd) from by omega]; exact Or.inr ⟨_, _, fd_m (i := 2) (k := 1) (fd_s (i := 1) (k := 1) hAa3 hBd), by omega, (fun z hz => by repeat (rw [un_n (by omega)])), rfl, rfl⟩) | (have g9 := hBa3; exact Or.inr ⟨_, _, fd_m (i := 1) (k := 2) hBa3, by omega, (fun z hz => by repeat (rw [un_n (by omega)])), rfl, rfl⟩) | (have g9 := hAh; exact Or.inl ⟨_, fd_n (i := 1) (k := 1) hAg hAh, (tls_107 (by rw [un_n (by omega), un_s, numb1]) (by rw [un_s, numb1])), (fun z hz => by repeat (rw [un_n (by omega)])), rfl, rfl⟩) | (have g9 := hBh; rw [show ap + 1 + jh = ap + (1 + jh) from by omega]; exact Or.inr ⟨_, _, fd_s (i := 1) (k := 1) hAg hBh, by omega, (fun z hz => by repeat (rw [un_n (by omega)])), rfl, rfl⟩) | (have g9 := hBg; exact Or.inr ⟨_, _, fd_m (i := 1) (k := 1) hBg, by omega, (fun z hz => by repeat (rw [un_n (by omega)])), rfl, rfl⟩) | (have g9 := hAp; exact Or.inl ⟨_, hAp, (by first | exact tls_112 (by rw [un_s, numb2]) | exact tls_115 (by rw [un_s, numb1])), (fun z hz => by repeat (rw [un_n (by omega)])), rfl, rfl⟩) | (have g9 := hBp; exact Or.inr ⟨_, _, hBp, by omega, (fun z hz => by repeat (rw [un_n (by omega)])), rfl, rfl⟩)
    ·
      show VV E 0 0 62 [(0, .ref r0), (1, .int (nI 112)), (2, .int (nI i))] [.int (nI 0), .int (nI i), .ref k23] [(r0, .inr (5, [.int (nI n), .ref k1, .ref k2, .ref k3, .ref k4, .int (nI m), .ref k6, .ref k7, .ref k8, .int (nI 0), .ref k10, .int (nI aw), .ref k12, .ref k13, .ref k14, .ref k15, .ref k16, .int (nI ls), .int (nI (ap + j_16)), .int (bz true), .int (nI sq), .ref k21, .ref k22, .ref k23, .ref k24, .ref k25, .int (bz pd), .int (nI pl), .int (bz tk), kv, .ref k30, .ref k31, .int (nI tz), .ref k33, .int (nI rs), .int sd])), (k16, .inl (cI, 96, .inl (nIf sg))), (k23, .inl (cI, 147, .inl (nIf tl)))]
      obtain ⟨jp, hej⟩ : ∃ z, z = j_16 := ⟨_, rfl⟩
      subst hej
      have hBp := hf_17
      have hCp := hj_18
      refine v_iasn (ws2 := [(r0, .inr (5, [.int (nI n), .ref k1, .ref k2, .ref k3, .ref k4, .int (nI m), .ref k6, .ref k7, .ref k8, .int (nI 0), .ref k10, .int (nI aw), .ref k12, .ref k13, .ref k14, .ref k15, .ref k16, .int (nI ls), .int (nI (ap + jp)), .int (bz true), .int (nI sq), .ref k21, .ref k22, .ref k23, .ref k24, .ref k25, .int (bz pd), .int (nI pl), .int (bz tk), kv, .ref k30, .ref k31, .int (nI tz), .ref k33, .int (nI rs), .int sd])), (k16, .inl (cI, 96, .inl (nIf sg))), (k23, .inl (cI, 147, .inl (nIf (un tl i 0))))]) 63 2 zC dX5_readNumbers_62 rfl (by omega) (by rw [upd_nIf]; first | done | rfl) ?_
      refine v_goto 184 zC dX5_readNumbers_63 ?_
      refine v_vret zC zT dX5_readNumbers_184  ?_
      first | (have g9 := hAc; exact Or.inl ⟨_, fd_n (i := 3) (k := 2) (fd_n (i := 1) (k := 2) hAa hAb) hAc, (by first | exact tls_111 (by rw [un_n (by omega), un_n (by omega), un_s, numb1]) (by rw [un_n (by omega), un_s, numb2]) (by rw [un_s, numb2]) | exact tls_99 (by rw [un_n (by omega), un_n (by omega), un_s, numb1]) (by rw [un_n (by omega), un_s, numb2]) (by rw [un_s, numb2])), (fun z hz => by repeat (rw [un_n (by omega)])), rfl, rfl⟩) | (have g9 := hBc; rw [show ap + 1 + 2 + jc = ap + (3 + jc) from by omega]; exact Or.inr ⟨_, _, fd_s (i := 3) (k := 2) (fd_n (i := 1) (k := 2) hAa hAb) hBc, by omega, (fun z hz => by repeat (rw [un_n (by omega)])), rfl, rfl⟩) | (have g9 := hBb5; rw [show ap + 1 + jb5 = ap + (1 + jb5) from by omega]; exact Or.inr ⟨_, _, fd_m (i := 3) (k := 2) (fd_s (i := 1) (k := 2) hAa hBb5), by omega, (fun z hz => by repeat (rw [un_n (by omega)])), rfl, rfl⟩) | (have g9 := hBa5; exact Or.inr ⟨_, _, fd_m (i := 1) (k := 4) hBa5, by omega, (fun z hz => by repeat (rw [un_n (by omega)])), rfl, rfl⟩) | (have g9 := hAe; exact Or.inl ⟨_, fd_n (i := 2) (k := 1) (fd_n (i := 1) (k := 1) hAa3 hAd) hAe, (tls_100 (by rw [un_n (by omega), un_n (by omega), un_s, numb1]) (by rw [un_n (by omega), un_s, numb1]) (by rw [un_s, numb1])), (fun z hz => by repeat (rw [un_n (by omega)])), rfl, rfl⟩) | (have g9 := hBe; rw [show ap + 1 + 1 + je = ap + (2 + je) from by omega]; exact Or.inr ⟨_, _, fd_s (i := 2) (k := 1) (fd_n (i := 1) (k := 1) hAa3 hAd) hBe, by omega, (fun z hz => by repeat (rw [un_n (by omega)])), rfl, rfl⟩) | (have g9 := hBd; rw [show ap + 1 + jd = ap + (1 + jd) from by omega]; exact Or.inr ⟨_, _, fd_m (i := 2) (k := 1) (fd_s (i := 1) (k := 1) hAa3 hBd), by omega, (fun z hz => by repeat (rw [un_n (by omega)])), rfl, rfl⟩) | (have g9 := hBa3; exact Or.inr ⟨_, _, fd_m (i := 1) (k := 2) hBa3, by omega, (fun z hz => by repeat (rw [un_n (by omega)])), rfl, rfl⟩) | (have g9 := hAh; exact Or.inl ⟨_, fd_n (i := 1) (k := 1) hAg hAh, (tls_107 (by rw [un_n (by omega), un_s, numb1]) (by rw [un_s, numb1])), (fun z hz => by repeat (rw [un_n (by omega)])), rfl, rfl⟩) | (have g9 := hBh; rw [show ap + 1 + jh = ap + (1 + jh) from by omega]; exact Or.inr ⟨_, _, fd_s (i := 1) (k := 1) hAg hBh, by omega, (fun z hz => by repeat (rw [un_n (by omega)])), rfl, rfl⟩) | (have g9 := hBg; exact Or.inr ⟨_, _, fd_m (i := 1) (k := 1) hBg, by omega, (fun z hz => by repeat (rw [un_n (by omega)])), rfl, rfl⟩) | (have g9 := hAp; exact Or.inl ⟨_, hAp, (by first | exact tls_112 (by rw [un_s, numb2]) | exact tls_115 (by rw [un_s, numb1])), (fun z hz => by repeat (rw [un_n (by omega)])), rfl, rfl⟩) | (have g9 := hBp; exact Or.inr ⟨_, _, hBp, by omega, (fun z hz => by repeat (rw [un_n (by omega)])), rfl, rfl⟩)
  ·
    subst he9
    subst hs9
    refine v_lsw (off := 159) 160 zC dX5_readNumbers_1 ((by decide +kernel)) ?_
    refine v_al_n 161 zC dX5_readNumbers_160 0 rfl ?_
    refine v_gf 164 0 zC dX5_readNumbers_161 gf_X5_55 rfl rfl ?_
    refine v_il_n 165 zC dX5_readNumbers_164 2 rfl ?_
    refine v_al_n 166 zC dX5_readNumbers_165 0 rfl ?_
    refine v_ic (v := (nI 1)) 167 zC dX5_readNumbers_166 (by decide +kernel) ?_
    refine v_cV (As := [.int (nI 1)]) (st := [.int (nI i), .ref k23]) 170 0 [0, 1] zC dX5_readNumbers_167 hA (c_X5_readDigits__F (ev_l E) (ev_D E) cI (r0 := r0) (k1 := k1) (k2 := k2) (k3 := k3) (k4 := k4) (k6 := k6) (k7 := k7) (k8 := k8) (k10 := k10) (k12 := k12) (k13 := k13) (k14 := k14) (k15 := k15) (k16 := k16) (k21 := k21) (k22 := k22) (k23 := k23) (k24 := k24) (k25 := k25) (k30 := k30) (k31 := k31) (k33 := k33) (n := n) (m := m) (aw := aw) (ls := ls) (ap := ap) (sq := sq) (pl := pl) (tz := tz) (rs := rs) (pd := pd) (tk := tk) (kv := kv) (sd := sd) (sg := sg) (k := 1) (hl := (by first | omega | assumption | rfl | (simp only []; omega) | decide)) (hsg := (by first | omega | assumption | rfl | (simp only []; omega) | decide)) (ha := (by first | omega | assumption | rfl | (simp only []; omega) | decide)) (hk := (by first | omega | assumption | rfl | (simp only []; omega) | decide))) cf_X5_readDigits lk_X5_150 rfl rfl rfl rfl rfl (by decide +kernel) (Nat.le_of_ble_eq_true rfl) (fun rv_19 wv_20 hp_21 hm_22 => ?_)
    clear hm_22
    rcases hp_21 with ⟨hf_23, hj_24, rfl, rfl⟩ | ⟨j_25, hf_26, hj_27, rfl, rfl⟩
    ·
      show VV E 0 0 170 [(0, .ref r0), (1, .int (nI 107)), (2, .int (nI i))] [.int (nI (NUMB sg ap 1)), .int (nI i), .ref k23] [(r0, .inr (5, [.int (nI n), .ref k1, .ref k2, .ref k3, .ref k4, .int (nI m), .ref k6, .ref k7, .ref k8, .int (nI 0), .ref k10, .int (nI aw), .ref k12, .ref k13, .ref k14, .ref k15, .ref k16, .int (nI ls), .int (nI (ap + 1)), .int (bz false), .int (nI sq), .ref k21, .ref k22, .ref k23, .ref k24, .ref k25, .int (bz pd), .int (nI pl), .int (bz tk), kv, .ref k30, .ref k31, .int (nI tz), .ref k33, .int (nI rs), .int sd])), (k16, .inl (cI, 96, .inl (nIf sg))), (k23, .inl (cI, 147, .inl (nIf tl)))]
      have hAg := hf_23
      have hLg := hj_24
      refine v_iasn (ws2 := [(r0, .inr (5, [.int (nI n), .ref k1, .ref k2, .ref k3, .ref k4, .int (nI m), .ref k6, .ref k7, .ref k8, .int (nI 0), .ref k10, .int (nI aw), .ref k12, .ref k13, .ref k14, .ref k15, .ref k16, .int (nI ls), .int (nI (ap + 1)), .int (bz false), .int (nI sq), .ref k21, .ref k22, .ref k23, .ref k24, .ref k25, .int (bz pd), .int (nI pl), .int (bz tk), kv, .ref k30, .ref k31, .int (nI tz), .ref k33, .int (nI rs), .int sd])), (k16, .inl (cI, 96, .inl (nIf sg))), (k23, .inl (cI, 147, .inl (nIf (un tl i (NUMB sg ap 1)))))]) 171 2 zC dX5_readNumbers_170 rfl (by omega) (by rw [upd_nIf]; first | done | rfl) ?_
      refine v_al_n 172 zC dX5_readNumbers_171 0 rfl ?_
      refine v_gf 175 0 zC dX5_readNumbers_172 gf_X5_55 rfl rfl ?_
      refine v_il_n 176 zC dX5_readNumbers_175 2 rfl ?_
      refine v_ic (v := (nI 1)) 177 zC dX5_readNumbers_176 (by decide +kernel) ?_
      refine v_iadd (v := (nI (i + 1))) 178 zC dX5_readNumbers_177 (nI_add _ _) ?_
      refine v_al_n 179 zC dX5_readNumbers_178 0 rfl ?_
      refine v_ic (v := (nI 1)) 180 zC dX5_readNumbers_179 (by decide +kernel) ?_
      refine v_cV (As := [.int (nI 1)]) (st := [.int (nI (i + 1)), .ref k23]) 183 0 [0, 1] zC dX5_readNumbers_180 hA (c_X5_readDigits__F (ev_l E) (ev_D E) cI (r0 := r0) (k1 := k1) (k2 := k2) (k3 := k3) (k4 := k4) (k6 := k6) (k7 := k7) (k8 := k8) (k10 := k10) (k12 := k12) (k13 := k13) (k14 := k14) (k15 := k15) (k16 := k16) (k21 := k21) (k22 := k22) (k23 := k23) (k24 := k24) (k25 := k25) (k30 := k30) (k31 := k31) (k33 := k33) (n := n) (m := m) (aw := aw) (ls := ls) (ap := (ap + 1)) (sq := sq) (pl := pl) (tz := tz) (rs := rs) (pd := pd) (tk := tk) (kv := kv) (sd := sd) (sg := sg) (k := 1) (hl := (by first | omega | assumption | rfl | (simp only []; omega) | decide)) (hsg := (by first | omega | assumption | rfl | (simp only []; omega) | decide)) (ha := (by first | omega | assumption | rfl | (simp only []; omega) | decide)) (hk := (by first | omega | assumption | rfl | (simp only []; omega) | decide))) cf_X5_readDigits lk_X5_150 rfl rfl rfl rfl rfl (by decide +kernel) (Nat.le_of_ble_eq_true rfl) (fun rv_28 wv_29 hp_30 hm_31 => ?_)
      clear hm_31
      rcases hp_30 with ⟨hf_32, hj_33, rfl, rfl⟩ | ⟨j_34, hf_35, hj_36, rfl, rfl⟩
      ·
        show VV E 0 0 183 [(0, .ref r0), (1, .int (nI 107)), (2, .int (nI i))] [.int (nI (NUMB sg (ap + 1) 1)), .int (nI (i + 1)), .ref k23] [(r0, .inr (5, [.int (nI n), .ref k1, .ref k2, .ref k3, .ref k4, .int (nI m), .ref k6, .ref k7, .ref k8, .int (nI 0), .ref k10, .int (nI aw), .ref k12, .ref k13, .ref k14, .ref k15, .ref k16, .int (nI ls), .int (nI ((ap + 1) + 1)), .int (bz false), .int (nI sq), .ref k21, .ref k22, .ref k23, .ref k24, .ref k25, .int (bz pd), .int (nI pl), .int (bz tk), kv, .ref k30, .ref k31, .int (nI tz), .ref k33, .int (nI rs), .int sd])), (k16, .inl (cI, 96, .inl (nIf sg))), (k23, .inl (cI, 147, .inl (nIf (un tl i (NUMB sg ap 1)))))]
        have hAh := hf_32
        have hLh := hj_33
        refine v_iasn (ws2 := [(r0, .inr (5, [.int (nI n), .ref k1, .ref k2, .ref k3, .ref k4, .int (nI m), .ref k6, .ref k7, .ref k8, .int (nI 0), .ref k10, .int (nI aw), .ref k12, .ref k13, .ref k14, .ref k15, .ref k16, .int (nI ls), .int (nI ((ap + 1) + 1)), .int (bz false), .int (nI sq), .ref k21, .ref k22, .ref k23, .ref k24, .ref k25, .int (bz pd), .int (nI pl), .int (bz tk), kv, .ref k30, .ref k31, .int (nI tz), .ref k33, .int (nI rs), .int sd])), (k16, .inl (cI, 96, .inl (nIf sg))), (k23, .inl (cI, 147, .inl (nIf (un (un tl i (NUMB sg ap 1)) (i + 1) (NUMB sg (ap + 1) 1)))))]) 184 2 zC dX5_readNumbers_183 rfl (by omega) (by rw [upd_nIf]; first | done | rfl) ?_
        refine v_vret zC zT dX5_readNumbers_184  ?_
        first | (have g9 := hAc; exact Or.inl ⟨_, fd_n (i := 3) (k := 2) (fd_n (i := 1) (k := 2) hAa hAb) hAc, (by first | exact tls_111 (by rw [un_n (by omega), un_n (by omega), un_s, numb1]) (by rw [un_n (by omega), un_s, numb2]) (by rw [un_s, numb2]) | exact tls_99 (by rw [un_n (by omega), un_n (by omega), un_s, numb1]) (by rw [un_n (by omega), un_s, numb2]) (by rw [un_s, numb2])), (fun z hz => by repeat (rw [un_n (by omega)])), rfl, rfl⟩) | (have g9 := hBc; rw [show ap + 1 + 2 + jc = ap + (3 + jc) from by omega]; exact Or.inr ⟨_, _, fd_s (i := 3) (k := 2) (fd_n (i := 1) (k := 2) hAa hAb) hBc, by omega, (fun z hz => by repeat (rw [un_n (by omega)])), rfl, rfl⟩) | (have g9 := hBb5; rw [show ap + 1 + jb5 = ap + (1 + jb5) from by omega]; exact Or.inr ⟨_, _, fd_m (i := 3) (k := 2) (fd_s (i := 1) (k := 2) hAa hBb5), by omega, (fun z hz => by repeat (rw [un_n (by omega)])), rfl, rfl⟩) | (have g9 := hBa5; exact Or.inr ⟨_, _, fd_m (i := 1) (k := 4) hBa5, by omega, (fun z hz => by repeat (rw [un_n (by omega)])), rfl, rfl⟩) | (have g9 := hAe; exact Or.inl ⟨_, fd_n (i := 2) (k := 1) (fd_n (i := 1) (k := 1) hAa3 hAd) hAe, (tls_100 (by rw [un_n (by omega), un_n (by omega), un_s, numb1]) (by rw [un_n (by omega), un_s, numb1]) (by rw [un_s, numb1])), (fun z hz => by repeat (rw [un_n (by omega)])), rfl, rfl⟩) | (have g9 := hBe; rw [show ap + 1 + 1 + je = ap + (2 + je) from by omega]; exact Or.inr ⟨_, _, fd_s (i := 2) (k := 1) (fd_n (i := 1) (k := 1) hAa3 hAd) hBe, by omega, (fun z hz => by repeat (rw [un_n (by omega)])), rfl, rfl⟩) | (have g9 := hBd; rw [show ap + 1 + jd = ap + (1 + jd) from by omega]; exact Or.inr ⟨_, _, fd_m (i := 2) (k := 1) (fd_s (i := 1) (k := 1) hAa3 hBd), by omega, (fun z hz => by repeat (rw [un_n (by omega)])), rfl, rfl⟩) | (have g9 := hBa3; exact Or.inr ⟨_, _, fd_m (i := 1) (k := 2) hBa3, by omega, (fun z hz => by repeat (rw [un_n (by omega)])), rfl, rfl⟩) | (have g9 := hAh; exact Or.inl ⟨_, fd_n (i := 1) (k := 1) hAg hAh, (tls_107 (by rw [un_n (by omega), un_s, numb1]) (by rw [un_s, numb1])), (fun z hz => by repeat (rw [un_n (by omega)])), rfl, rfl⟩) | (have g9 := hBh; rw [show ap + 1 + jh = ap + (1 + jh) from by omega]; exact Or.inr ⟨_, _, fd_s (i := 1) (k := 1) hAg hBh, by omega, (fun z hz => by repeat (rw [un_n (by omega)])), rfl, rfl⟩) | (have g9 := hBg; exact Or.inr ⟨_, _, fd_m (i := 1) (k := 1) hBg, by omega, (fun z hz => by repeat (rw [un_n (by omega)])), rfl, rfl⟩) | (have g9 := hAp; exact Or.inl ⟨_, hAp, (by first | exact tls_112 (by rw [un_s, numb2]) | exact tls_115 (by rw [un_s, numb1])), (fun z hz => by repeat (rw [un_n (by omega)])), rfl, rfl⟩) | (have g9 := hBp; exact Or.inr ⟨_, _, hBp, by omega, (fun z hz => by repeat (rw [un_n (by omega)])), rfl, rfl⟩)
      ·
        show VV E 0 0 183 [(0, .ref r0), (1, .int (nI 107)), (2, .int (nI i))] [.int (nI 0), .int (nI (i + 1)), .ref k23] [(r0, .inr (5, [.int (nI n), .ref k1, .ref k2, .ref k3, .ref k4, .int (nI m), .ref k6, .ref k7, .ref k8, .int (nI 0), .ref k10, .int (nI aw), .ref k12, .ref k13, .ref k14, .ref k15, .ref k16, .int (nI ls), .int (nI ((ap + 1) + j_34)), .int (bz true), .int (nI sq), .ref k21, .ref k22, .ref k23, .ref k24, .ref k25, .int (bz pd), .int (nI pl), .int (bz tk), kv, .ref k30, .ref k31, .int (nI tz), .ref k33, .int (nI rs), .int sd])), (k16, .inl (cI, 96, .inl (nIf sg))), (k23, .inl (cI, 147, .inl (nIf (un tl i (NUMB sg ap 1)))))]
        obtain ⟨jh, hej⟩ : ∃ z, z = j_34 := ⟨_, rfl⟩
        subst hej
        have hBh := hf_35
        have hCh := hj_36
        refine v_iasn (ws2 := [(r0, .inr (5, [.int (nI n), .ref k1, .ref k2, .ref k3, .ref k4, .int (nI m), .ref k6, .ref k7, .ref k8, .int (nI 0), .ref k10, .int (nI aw), .ref k12, .ref k13, .ref k14, .ref k15, .ref k16, .int (nI ls), .int (nI ((ap + 1) + jh)), .int (bz true), .int (nI sq), .ref k21, .ref k22, .ref k23, .ref k24, .ref k25, .int (bz pd), .int (nI pl), .int (bz tk), kv, .ref k30, .ref k31, .int (nI tz), .ref k33, .int (nI rs), .int sd])), (k16, .inl (cI, 96, .inl (nIf sg))), (k23, .inl (cI, 147, .inl (nIf (un (un tl i (NUMB sg ap 1)) (i + 1) 0))))]) 184 2 zC dX5_readNumbers_183 rfl (by omega) (by rw [upd_nIf]; first | done | rfl) ?_
        refine v_vret zC zT dX5_readNumbers_184  ?_
        first | (have g9 := hAc; exact Or.inl ⟨_, fd_n (i := 3) (k := 2) (fd_n (i := 1) (k := 2) hAa hAb) hAc, (by first | exact tls_111 (by rw [un_n (by omega), un_n (by omega), un_s, numb1]) (by rw [un_n (by omega), un_s, numb2]) (by rw [un_s, numb2]) | exact tls_99 (by rw [un_n (by omega), un_n (by omega), un_s, numb1]) (by rw [un_n (by omega), un_s, numb2]) (by rw [un_s, numb2])), (fun z hz => by repeat (rw [un_n (by omega)])), rfl, rfl⟩) | (have g9 := hBc; rw [show ap + 1 + 2 + jc = ap + (3 + jc) from by omega]; exact Or.inr ⟨_, _, fd_s (i := 3) (k := 2) (fd_n (i := 1) (k := 2) hAa hAb) hBc, by omega, (fun z hz => by repeat (rw [un_n (by omega)])), rfl, rfl⟩) | (have g9 := hBb5; rw [show ap + 1 + jb5 = ap + (1 + jb5) from by omega]; exact Or.inr ⟨_, _, fd_m (i := 3) (k := 2) (fd_s (i := 1) (k := 2) hAa hBb5), by omega, (fun z hz => by repeat (rw [un_n (by omega)])), rfl, rfl⟩) | (have g9 := hBa5; exact Or.inr ⟨_, _, fd_m (i := 1) (k := 4) hBa5, by omega, (fun z hz => by repeat (rw [un_n (by omega)])), rfl, rfl⟩) | (have g9 := hAe; exact Or.inl ⟨_, fd_n (i := 2) (k := 1) (fd_n (i := 1) (k := 1) hAa3 hAd) hAe, (tls_100 (by rw [un_n (by omega), un_n (by omega), un_s, numb1]) (by rw [un_n (by omega), un_s, numb1]) (by rw [un_s, numb1])), (fun z hz => by repeat (rw [un_n (by omega)])), rfl, rfl⟩) | (have g9 := hBe; rw [show ap + 1 + 1 + je = ap + (2 + je) from by omega]; exact Or.inr ⟨_, _, fd_s (i := 2) (k := 1) (fd_n (i := 1) (k := 1) hAa3 hAd) hBe, by omega, (fun z hz => by repeat (rw [un_n (by omega)])), rfl, rfl⟩) | (have g9 := hBd; rw [show ap + 1 + jd = ap + (1 + jd) from by omega]; exact Or.inr ⟨_, _, fd_m (i := 2) (k := 1) (fd_s (i := 1) (k := 1) hAa3 hBd), by omega, (fun z hz => by repeat (rw [un_n (by omega)])), rfl, rfl⟩) | (have g9 := hBa3; exact Or.inr ⟨_, _, fd_m (i := 1) (k := 2) hBa3, by omega, (fun z hz => by repeat (rw [un_n (by omega)])), rfl, rfl⟩) | (have g9 := hAh; exact Or.inl ⟨_, fd_n (i := 1) (k := 1) hAg hAh, (tls_107 (by rw [un_n (by omega), un_s, numb1]) (by rw [un_s, numb1])), (fun z hz => by repeat (rw [un_n (by omega)])), rfl, rfl⟩) | (have g9 := hBh; rw [show ap + 1 + jh = ap + (1 + jh) from by omega]; exact Or.inr ⟨_, _, fd_s (i := 1) (k := 1) hAg hBh, by omega, (fun z hz => by repeat (rw [un_n (by omega)])), rfl, rfl⟩) | (have g9 := hBg; exact Or.inr ⟨_, _, fd_m (i := 1) (k := 1) hBg, by omega, (fun z hz => by repeat (rw [un_n (by omega)])), rfl, rfl⟩) | (have g9 := hAp; exact Or.inl ⟨_, hAp, (by first | exact tls_112 (by rw [un_s, numb2]) | exact tls_115 (by rw [un_s, numb1])), (fun z hz => by repeat (rw [un_n (by omega)])), rfl, rfl⟩) | (have g9 := hBp; exact Or.inr ⟨_, _, hBp, by omega, (fun z hz => by repeat (rw [un_n (by omega)])), rfl, rfl⟩)
    ·
      show VV E 0 0 170 [(0, .ref r0), (1, .int (nI 107)), (2, .int (nI i))] [.int (nI 0), .int (nI i), .ref k23] [(r0, .inr (5, [.int (nI n), .ref k1, .ref k2, .ref k3, .ref k4, .int (nI m), .ref k6, .ref k7, .ref k8, .int (nI 0), .ref k10, .int (nI aw), .ref k12, .ref k13, .ref k14, .ref k15, .ref k16, .int (nI ls), .int (nI (ap + j_25)), .int (bz true), .int (nI sq), .ref k21, .ref k22, .ref k23, .ref k24, .ref k25, .int (bz pd), .int (nI pl), .int (bz tk), kv, .ref k30, .ref k31, .int (nI tz), .ref k33, .int (nI rs), .int sd])), (k16, .inl (cI, 96, .inl (nIf sg))), (k23, .inl (cI, 147, .inl (nIf tl)))]
      obtain ⟨jg, hej⟩ : ∃ z, z = j_25 := ⟨_, rfl⟩
      subst hej
      have hBg := hf_26
      have hCg := hj_27
      refine v_iasn (ws2 := [(r0, .inr (5, [.int (nI n), .ref k1, .ref k2, .ref k3, .ref k4, .int (nI m), .ref k6, .ref k7, .ref k8, .int (nI 0), .ref k10, .int (nI aw), .ref k12, .ref k13, .ref k14, .ref k15, .ref k16, .int (nI ls), .int (nI (ap + jg)), .int (bz true), .int (nI sq), .ref k21, .ref k22, .ref k23, .ref k24, .ref k25, .int (bz pd), .int (nI pl), .int (bz tk), kv, .ref k30, .ref k31, .int (nI tz), .ref k33, .int (nI rs), .int sd])), (k16, .inl (cI, 96, .inl (nIf sg))), (k23, .inl (cI, 147, .inl (nIf (un tl i 0))))]) 171 2 zC dX5_readNumbers_170 rfl (by omega) (by rw [upd_nIf]; first | done | rfl) ?_
      refine v_al_n 172 zC dX5_readNumbers_171 0 rfl ?_
      refine v_gf 175 0 zC dX5_readNumbers_172 gf_X5_55 rfl rfl ?_
      refine v_il_n 176 zC dX5_readNumbers_175 2 rfl ?_
      refine v_ic (v := (nI 1)) 177 zC dX5_readNumbers_176 (by decide +kernel) ?_
      refine v_iadd (v := (nI (i + 1))) 178 zC dX5_readNumbers_177 (nI_add _ _) ?_
      refine v_al_n 179 zC dX5_readNumbers_178 0 rfl ?_
      refine v_ic (v := (nI 1)) 180 zC dX5_readNumbers_179 (by decide +kernel) ?_
      refine v_cV (As := [.int (nI 1)]) (st := [.int (nI (i + 1)), .ref k23]) 183 0 [0, 1] zC dX5_readNumbers_180 hA (c_X5_readDigits__T (ev_l E) (ev_D E) cI (r0 := r0) (k1 := k1) (k2 := k2) (k3 := k3) (k4 := k4) (k6 := k6) (k7 := k7) (k8 := k8) (k10 := k10) (k12 := k12) (k13 := k13) (k14 := k14) (k15 := k15) (k16 := k16) (k21 := k21) (k22 := k22) (k23 := k23) (k24 := k24) (k25 := k25) (k30 := k30) (k31 := k31) (k33 := k33) (n := n) (m := m) (aw := aw) (ls := ls) (ap := (ap + jg)) (sq := sq) (pl := pl) (tz := tz) (rs := rs) (pd := pd) (tk := tk) (kv := kv) (sd := sd) (sg := sg) (k := 1) (hk := (by first | omega | assumption | rfl | (simp only []; omega) | decide))) cf_X5_readDigits lk_X5_150 rfl rfl rfl rfl rfl (by decide +kernel) (Nat.le_of_ble_eq_true rfl) (fun rv_37 wv_38 hp_39 hm_40 => ?_)
      clear hm_40
      obtain ⟨rfl, rfl⟩ := hp_39
      show VV E 0 0 183 [(0, .ref r0), (1, .int (nI 107)), (2, .int (nI i))] [.int (nI 0), .int (nI (i + 1)), .ref k23] [(r0, .inr (5, [.int (nI n), .ref k1, .ref k2, .ref k3, .ref k4, .int (nI m), .ref k6, .ref k7, .ref k8, .int (nI 0), .ref k10, .int (nI aw), .ref k12, .ref k13, .ref k14, .ref k15, .ref k16, .int (nI ls), .int (nI (ap + jg)), .int (bz true), .int (nI sq), .ref k21, .ref k22, .ref k23, .ref k24, .ref k25, .int (bz pd), .int (nI pl), .int (bz tk), kv, .ref k30, .ref k31, .int (nI tz), .ref k33, .int (nI rs), .int sd])), (k16, .inl (cI, 96, .inl (nIf sg))), (k23, .inl (cI, 147, .inl (nIf (un tl i 0))))]
      have hAh := @0
      have hLh := @1
      refine v_iasn (ws2 := [(r0, .inr (5, [.int (nI n), .ref k1, .ref k2, .ref k3, .ref k4, .int (nI m), .ref k6, .ref k7, .ref k8, .int (nI 0), .ref k10, .int (nI aw), .ref k12, .ref k13, .ref k14, .ref k15, .ref k16, .int (nI ls), .int (nI (ap + jg)), .int (bz true), .int (nI sq), .ref k21, .ref k22, .ref k23, .ref k24, .ref k25, .int (bz pd), .int (nI pl), .int (bz tk), kv, .ref k30, .ref k31, .int (nI tz), .ref k33, .int (nI rs), .int sd])), (k16, .inl (cI, 96, .inl (nIf sg))), (k23, .inl (cI, 147, .inl (nIf (un (un tl i 0) (i + 1) 0))))]) 184 2 zC dX5_readNumbers_183 rfl (by omega) (by rw [upd_nIf]; first | done | rfl) ?_
      refine v_vret zC zT dX5_readNumbers_184  ?_
      first | (have g9 := hAc; exact Or.inl ⟨_, fd_n (i := 3) (k := 2) (fd_n (i := 1) (k := 2) hAa hAb) hAc, (by first | exact tls_111 (by rw [un_n (by omega), un_n (by omega), un_s, numb1]) (by rw [un_n (by omega), un_s, numb2]) (by rw [un_s, numb2]) | exact tls_99 (by rw [un_n (by omega), un_n (by omega), un_s, numb1]) (by rw [un_n (by omega), un_s, numb2]) (by rw [un_s, numb2])), (fun z hz => by repeat (rw [un_n (by omega)])), rfl, rfl⟩) | (have g9 := hBc; rw [show ap + 1 + 2 + jc = ap + (3 + jc) from by omega]; exact Or.inr ⟨_, _, fd_s (i := 3) (k := 2) (fd_n (i := 1) (k := 2) hAa hAb) hBc, by omega, (fun z hz => by repeat (rw [un_n (by omega)])), rfl, rfl⟩) | (have g9 := hBb5; rw [show ap + 1 + jb5 = ap + (1 + jb5) from by omega]; exact Or.inr ⟨_, _, fd_m (i := 3) (k := 2) (fd_s (i := 1) (k := 2) hAa hBb5), by omega, (fun z hz => by repeat (rw [un_n (by omega)])), rfl, rfl⟩) | (have g9 := hBa5; exact Or.inr ⟨_, _, fd_m (i := 1) (k := 4) hBa5, by omega, (fun z hz => by repeat (rw [un_n (by omega)])), rfl, rfl⟩) | (have g9 := hAe; exact Or.inl ⟨_, fd_n (i := 2) (k := 1) (fd_n (i := 1) (k := 1) hAa3 hAd) hAe, (tls_100 (by rw [un_n (by omega), un_n (by omega), un_s, numb1]) (by rw [un_n (by omega), un_s, numb1]) (by rw [un_s, numb1])), (fun z hz => by repeat (rw [un_n (by omega)])), rfl, rfl⟩) | (have g9 := hBe; rw [show ap + 1 + 1 + je = ap + (2 + je) from by omega]; exact Or.inr ⟨_, _, fd_s (i := 2) (k := 1) (fd_n (i := 1) (k := 1) hAa3 hAd) hBe, by omega, (fun z hz => by repeat (rw [un_n (by omega)])), rfl, rfl⟩) | (have g9 := hBd; rw [show ap + 1 + jd = ap + (1 + jd) from by omega]; exact Or.inr ⟨_, _, fd_m (i := 2) (k := 1) (fd_s (i := 1) (k := 1) hAa3 hBd), by omega, (fun z hz => by repeat (rw [un_n (by omega)])), rfl, rfl⟩) | (have g9 := hBa3; exact Or.inr ⟨_, _, fd_m (i := 1) (k := 2) hBa3, by omega, (fun z hz => by repeat (rw [un_n (by omega)])), rfl, rfl⟩) | (have g9 := hAh; exact Or.inl ⟨_, fd_n (i := 1) (k := 1) hAg hAh, (tls_107 (by rw [un_n (by omega), un_s, numb1]) (by rw [un_s, numb1])), (fun z hz => by repeat (rw [un_n (by omega)])), rfl, rfl⟩) | (have g9 := hBh; rw [show ap + 1 + jh = ap + (1 + jh) from by omega]; exact Or.inr ⟨_, _, fd_s (i := 1) (k := 1) hAg hBh, by omega, (fun z hz => by repeat (rw [un_n (by omega)])), rfl, rfl⟩) | (have g9 := hBg; exact Or.inr ⟨_, _, fd_m (i := 1) (k := 1) hBg, by omega, (fun z hz => by repeat (rw [un_n (by omega)])), rfl, rfl⟩) | (have g9 := hAp; exact Or.inl ⟨_, hAp, (by first | exact tls_112 (by rw [un_s, numb2]) | exact tls_115 (by rw [un_s, numb1])), (fun z hz => by repeat (rw [un_n (by omega)])), rfl, rfl⟩) | (have g9 := hBp; exact Or.inr ⟨_, _, hBp, by omega, (fun z hz => by repeat (rw [un_n (by omega)])), rfl, rfl⟩)
  ·
    subst he9
    subst hs9
    refine v_lsw (off := 65) 66 zC dX5_readNumbers_1 ((by decide +kernel)) ?_
    refine v_al_n 67 zC dX5_readNumbers_66 0 rfl ?_
    refine v_gf 70 0 zC dX5_readNumbers_67 gf_X5_55 rfl rfl ?_
    refine v_il_n 71 zC dX5_readNumbers_70 2 rfl ?_
    refine v_al_n 72 zC dX5_readNumbers_71 0 rfl ?_
    refine v_ic (v := (nI 1)) 73 zC dX5_readNumbers_72 (by decide +kernel) ?_
    refine v_cV (As := [.int (nI 1)]) (st := [.int (nI i), .ref k23]) 76 0 [0, 1] zC dX5_readNumbers_73 hA (c_X5_readDigits__F (ev_l E) (ev_D E) cI (r0 := r0) (k1 := k1) (k2 := k2) (k3 := k3) (k4 := k4) (k6 := k6) (k7 := k7) (k8 := k8) (k10 := k10) (k12 := k12) (k13 := k13) (k14 := k14) (k15 := k15) (k16 := k16) (k21 := k21) (k22 := k22) (k23 := k23) (k24 := k24) (k25 := k25) (k30 := k30) (k31 := k31) (k33 := k33) (n := n) (m := m) (aw := aw) (ls := ls) (ap := ap) (sq := sq) (pl := pl) (tz := tz) (rs := rs) (pd := pd) (tk := tk) (kv := kv) (sd := sd) (sg := sg) (k := 1) (hl := (by first | omega | assumption | rfl | (simp only []; omega) | decide)) (hsg := (by first | omega | assumption | rfl | (simp only []; omega) | decide)) (ha := (by first | omega | assumption | rfl | (simp only []; omega) | decide)) (hk := (by first | omega | assumption | rfl | (simp only []; omega) | decide))) cf_X5_readDigits lk_X5_150 rfl rfl rfl rfl rfl (by decide +kernel) (Nat.le_of_ble_eq_true rfl) (fun rv_41 wv_42 hp_43 hm_44 => ?_)
    clear hm_44
    rcases hp_43 with ⟨hf_45, hj_46, rfl, rfl⟩ | ⟨j_47, hf_48, hj_49, rfl, rfl⟩
    ·
      show VV E 0 0 76 [(0, .ref r0), (1, .int (nI 100)), (2, .int (nI i))] [.int (nI (NUMB sg ap 1)), .int (nI i), .ref k23] [(r0, .inr (5, [.int (nI n), .ref k1, .ref k2, .ref k3, .ref k4, .int (nI m), .ref k6, .ref k7, .ref k8, .int (nI 0), .ref k10, .int (nI aw), .ref k12, .ref k13, .ref k14, .ref k15, .ref k16, .int (nI ls), .int (nI (ap + 1)), .int (bz false), .int (nI sq), .ref k21, .ref k22, .ref k23, .ref k24, .ref k25, .int (bz pd), .int (nI pl), .int (bz tk), kv, .ref k30, .ref k31, .int (nI tz), .ref k33, .int (nI rs), .int sd])), (k16, .inl (cI, 96, .inl (nIf sg))), (k23, .inl (cI, 147, .inl (nIf tl)))]
      have hAa3 := hf_45
      have hLa3 := hj_46
      refine v_iasn (ws2 := [(r0, .inr (5, [.int (nI n), .ref k1, .ref k2, .ref k3, .ref k4, .int (nI m), .ref k6, .ref k7, .ref k8, .int (nI 0), .ref k10, .int (nI aw), .ref k12, .ref k13, .ref k14, .ref k15, .ref k16, .int (nI ls), .int (nI (ap + 1)), .int (bz false), .int (nI sq), .ref k21, .ref k22, .ref k23, .ref k24, .ref k25, .int (bz pd), .int (nI pl), .int (bz tk), kv, .ref k30, .ref k31, .int (nI tz), .ref k33, .int (nI rs), .int sd])), (k16, .inl (cI, 96, .inl (nIf sg))), (k23, .inl (cI, 147, .inl (nIf (un tl i (NUMB sg ap 1)))))]) 77 2 zC dX5_readNumbers_76 rfl (by omega) (by rw [upd_nIf]; first | done | rfl) ?_
      refine v_al_n 78 zC dX5_readNumbers_77 0 rfl ?_
      refine v_gf 81 0 zC dX5_readNumbers_78 gf_X5_55 rfl rfl ?_
      refine v_il_n 82 zC dX5_readNumbers_81 2 rfl ?_
      refine v_ic (v := (nI 1)) 83 zC dX5_readNumbers_82 (by decide +kernel) ?_
      refine v_iadd (v := (nI (i + 1))) 84 zC dX5_readNumbers_83 (nI_add _ _) ?_
      refine v_al_n 85 zC dX5_readNumbers_84 0 rfl ?_
      refine v_ic (v := (nI 1)) 86 zC dX5_readNumbers_85 (by decide +kernel) ?_
      refine v_cV (As := [.int (nI 1)]) (st := [.int (nI (i + 1)), .ref k23]) 89 0 [0, 1] zC dX5_readNumbers_86 hA (c_X5_readDigits__F (ev_l E) (ev_D E) cI (r0 := r0) (k1 := k1) (k2 := k2) (k3 := k3) (k4 := k4) (k6 := k6) (k7 := k7) (k8 := k8) (k10 := k10) (k12 := k12) (k13 := k13) (k14 := k14) (k15 := k15) (k16 := k16) (k21 := k21) (k22 := k22) (k23 := k23) (k24 := k24) (k25 := k25) (k30 := k30) (k31 := k31) (k33 := k33) (n := n) (m := m) (aw := aw) (ls := ls) (ap := (ap + 1)) (sq := sq) (pl := pl) (tz := tz) (rs := rs) (pd := pd) (tk := tk) (kv := kv) (sd := sd) (sg := sg) (k := 1) (hl := (by first | omega | assumption | rfl | (simp only []; omega) | decide)) (hsg := (by first | omega | assumption | rfl | (simp only []; omega) | decide)) (ha := (by first | omega | assumption | rfl | (simp only []; omega) | decide)) (hk := (by first | omega | assumption | rfl | (simp only []; omega) | decide))) cf_X5_readDigits lk_X5_150 rfl rfl rfl rfl rfl (by decide +kernel) (Nat.le_of_ble_eq_true rfl) (fun rv_50 wv_51 hp_52 hm_53 => ?_)
      clear hm_53
      rcases hp_52 with ⟨hf_54, hj_55, rfl, rfl⟩ | ⟨j_56, hf_57, hj_58, rfl, rfl⟩
      ·
        show VV E 0 0 89 [(0, .ref r0), (1, .int (nI 100)), (2, .int (nI i))] [.int (nI (NUMB sg (ap + 1) 1)), .int (nI (i + 1)), .ref k23] [(r0, .inr (5, [.int (nI n), .ref k1, .ref k2, .ref k3, .ref k4, .int (nI m), .ref k6, .ref k7, .ref k8, .int (nI 0), .ref k10, .int (nI aw), .ref k12, .ref k13, .ref k14, .ref k15, .ref k16, .int (nI ls), .int (nI ((ap + 1) + 1)), .int (bz false), .int (nI sq), .ref k21, .ref k22, .ref k23, .ref k24, .ref k25, .int (bz pd), .int (nI pl), .int (bz tk), kv, .ref k30, .ref k31, .int (nI tz), .ref k33, .int (nI rs), .int sd])), (k16, .inl (cI, 96, .inl (nIf sg))), (k23, .inl (cI, 147, .inl (nIf (un tl i (NUMB sg ap 1)))))]
        have hAd := hf_54
        have hLd := hj_55
        refine v_iasn (ws2 := [(r0, .inr (5, [.int (nI n), .ref k1, .ref k2, .ref k3, .ref k4, .int (nI m), .ref k6, .ref k7, .ref k8, .int (nI 0), .ref k10, .int (nI aw), .ref k12, .ref k13, .ref k14, .ref k15, .ref k16, .int (nI ls), .int (nI ((ap + 1) + 1)), .int (bz false), .int (nI sq), .ref k21, .ref k22, .ref k23, .ref k24, .ref k25, .int (bz pd), .int (nI pl), .int (bz tk), kv, .ref k30, .ref k31, .int (nI tz), .ref k33, .int (nI rs), .int sd])), (k16, .inl (cI, 96, .inl (nIf sg))), (k23, .inl (cI, 147, .inl (nIf (un (un tl i (NUMB sg ap 1)) (i + 1) (NUMB sg (ap + 1) 1)))))]) 90 2 zC dX5_readNumbers_89 rfl (by omega) (by rw [upd_nIf]; first | done | rfl) ?_
        refine v_al_n 91 zC dX5_readNumbers_90 0 rfl ?_
        refine v_gf 94 0 zC dX5_readNumbers_91 gf_X5_55 rfl rfl ?_
        refine v_il_n 95 zC dX5_readNumbers_94 2 rfl ?_
        refine v_ic (v := (nI 2)) 96 zC dX5_readNumbers_95 (by decide +kernel) ?_
        refine v_iadd (v := (nI (i + 2))) 97 zC dX5_readNumbers_96 (nI_add _ _) ?_
        refine v_al_n 98 zC dX5_readNumbers_97 0 rfl ?_
        refine v_ic (v := (nI 1)) 99 zC dX5_readNumbers_98 (by decide +kernel) ?_
        refine v_cV (As := [.int (nI 1)]) (st := [.int (nI (i + 2)), .ref k23]) 102 0 [0, 1] zC dX5_readNumbers_99 hA (c_X5_readDigits__F (ev_l E) (ev_D E) cI (r0 := r0) (k1 := k1) (k2 := k2) (k3 := k3) (k4 := k4) (k6 := k6) (k7 := k7) (k8 := k8) (k10 := k10) (k12 := k12) (k13 := k13) (k14 := k14) (k15 := k15) (k16 := k16) (k21 := k21) (k22 := k22) (k23 := k23) (k24 := k24) (k25 := k25) (k30 := k30) (k31 := k31) (k33 := k33) (n := n) (m := m) (aw := aw) (ls := ls) (ap := ((ap + 1) + 1)) (sq := sq) (pl := pl) (tz := tz) (rs := rs) (pd := pd) (tk := tk) (kv := kv) (sd := sd) (sg := sg) (k := 1) (hl := (by first | omega | assumption | rfl | (simp only []; omega) | decide)) (hsg := (by first | omega | assumption | rfl | (simp only []; omega) | decide)) (ha := (by first | omega | assumption | rfl | (simp only []; omega) | decide)) (hk := (by first | omega | assumption | rfl | (simp only []; omega) | decide))) cf_X5_readDigits lk_X5_150 rfl rfl rfl rfl rfl (by decide +kernel) (Nat.le_of_ble_eq_true rfl) (fun rv_59 wv_60 hp_61 hm_62 => ?_)
        clear hm_62
        rcases hp_61 with ⟨hf_63, hj_64, rfl, rfl⟩ | ⟨j_65, hf_66, hj_67, rfl, rfl⟩
        ·
          show VV E 0 0 102 [(0, .ref r0), (1, .int (nI 100)), (2, .int (nI i))] [.int (nI (NUMB sg ((ap + 1) + 1) 1)), .int (nI (i + 2)), .ref k23] [(r0, .inr (5, [.int (nI n), .ref k1, .ref k2, .ref k3, .ref k4, .int (nI m), .ref k6, .ref k7, .ref k8, .int (nI 0), .ref k10, .int (nI aw), .ref k12, .ref k13, .ref k14, .ref k15, .ref k16, .int (nI ls), .int (nI (((ap + 1) + 1) + 1)), .int (bz false), .int (nI sq), .ref k21, .ref k22, .ref k23, .ref k24, .ref k25, .int (bz pd), .int (nI pl), .int (bz tk), kv, .ref k30, .ref k31, .int (nI tz), .ref k33, .int (nI rs), .int sd])), (k16, .inl (cI, 96, .inl (nIf sg))), (k23, .inl (cI, 147, .inl (nIf (un (un tl i (NUMB sg ap 1)) (i + 1) (NUMB sg (ap + 1) 1)))))]
          have hAe := hf_63
          have hLe := hj_64
          refine v_iasn (ws2 := [(r0, .inr (5, [.int (nI n), .ref k1, .ref k2, .ref k3, .ref k4, .int (nI m), .ref k6, .ref k7, .ref k8, .int (nI 0), .ref k10, .int (nI aw), .ref k12, .ref k13, .ref k14, .ref k15, .ref k16, .int (nI ls), .int (nI (((ap + 1) + 1) + 1)), .int (bz false), .int (nI sq), .ref k21, .ref k22, .ref k23, .ref k24, .ref k25, .int (bz pd), .int (nI pl), .int (bz tk), kv, .ref k30, .ref k31, .int (nI tz), .ref k33, .int (nI rs), .int sd])), (k16, .inl (cI, 96, .inl (nIf sg))), (k23, .inl (cI, 147, .inl (nIf (un (un (un tl i (NUMB sg ap 1)) (i + 1) (NUMB sg (ap + 1) 1)) (i + 2) (NUMB sg ((ap + 1) + 1) 1)))))]) 103 2 zC dX5_readNumbers_102 rfl (by omega) (by rw [upd_nIf]; first | done | rfl) ?_
          refine v_goto 184 zC dX5_readNumbers_103 ?_
          refine v_vret zC zT dX5_readNumbers_184  ?_
          first | (have g9 := hAc; exact Or.inl ⟨_, fd_n (i := 3) (k := 2) (fd_n (i := 1) (k := 2) hAa hAb) hAc, (by first | exact tls_111 (by rw [un_n (by omega), un_n (by omega), un_s, numb1]) (by rw [un_n (by omega), un_s, numb2]) (by rw [un_s, numb2]) | exact tls_99 (by rw [un_n (by omega), un_n (by omega), un_s, numb1]) (by rw [un_n (by omega), un_s, numb2]) (by rw [un_s, numb2])), (fun z hz => by repeat (rw [un_n (by omega)])), rfl, rfl⟩) | (have g9 := hBc; rw [show ap + 1 + 2 + jc = ap + (3 + jc) from by omega]; exact Or.inr ⟨_, _, fd_s (i := 3) (k := 2) (fd_n (i := 1) (k := 2) hAa hAb) hBc, by omega, (fun z hz => by repeat (rw [un_n (by omega)])), rfl, rfl⟩) | (have g9 := hBb5; rw [show ap + 1 + jb5 = ap + (1 + jb5) from by omega]; exact Or.inr ⟨_, _, fd_m (i := 3) (k := 2) (fd_s (i := 1) (k := 2) hAa hBb5), by omega, (fun z hz => by repeat (rw [un_n (by omega)])), rfl, rfl⟩) | (have g9 := hBa5; exact Or.inr ⟨_, _, fd_m (i := 1) (k := 4) hBa5, by omega, (fun z hz => by repeat (rw [un_n (by omega)])), rfl, rfl⟩) | (have g9 := hAe; exact Or.inl ⟨_, fd_n (i := 2) (k := 1) (fd_n (i := 1) (k := 1) hAa3 hAd) hAe, (tls_100 (by rw [un_n (by omega), un_n (by omega), un_s, numb1]) (by rw [un_n (by omega), un_s, numb1]) (by rw [un_s, numb1])), (fun z hz => by repeat (rw [un_n (by omega)])), rfl, rfl⟩) | (have g9 := hBe; rw [show ap + 1 + 1 + je = ap + (2 + je) from by omega]; exact Or.inr ⟨_, _, fd_s (i := 2) (k := 1) (fd_n (i := 1) (k := 1) hAa3 hAd) hBe, by omega, (fun z hz => by repeat (rw [un_n (by omega)])), rfl, rfl⟩) | (have g9 := hBd; rw [show ap + 1 + jd = ap + (1 + jd) from by omega]; exact Or.inr ⟨_, _, fd_m (i := 2) (k := 1) (fd_s (i := 1) (k := 1) hAa3 hBd), by omega, (fun z hz => by repeat (rw [un_n (by omega)])), rfl, rfl⟩) | (have g9 := hBa3; exact Or.inr ⟨_, _, fd_m (i := 1) (k := 2) hBa3, by omega, (fun z hz => by repeat (rw [un_n (by omega)])), rfl, rfl⟩) | (have g9 := hAh; exact Or.inl ⟨_, fd_n (i := 1) (k := 1) hAg hAh, (tls_107 (by rw [un_n (by omega), un_s, numb1]) (by rw [un_s, numb1])), (fun z hz => by repeat (rw [un_n (by omega)])), rfl, rfl⟩) | (have g9 := hBh; rw [show ap + 1 + jh = ap + (1 + jh) from by omega]; exact Or.inr ⟨_, _, fd_s (i := 1) (k := 1) hAg hBh, by omega, (fun z hz => by repeat (rw [un_n (by omega)])), rfl, rfl⟩) | (have g9 := hBg; exact Or.inr ⟨_, _, fd_m (i := 1) (k := 1) hBg, by omega, (fun z hz => by repeat (rw [un_n (by omega)])), rfl, rfl⟩) | (have g9 := hAp; exact Or.inl ⟨_, hAp, (by first | exact tls_112 (by rw [un_s, numb2]) | exact tls_115 (by rw [un_s, numb1])), (fun z hz => by repeat (rw [un_n (by omega)])), rfl, rfl⟩) | (have g9 := hBp; exact Or.inr ⟨_, _, hBp, by omega, (fun z hz => by repeat (rw [un_n (by omega)])), rfl, rfl⟩)
        ·
          show VV E 0 0 102 [(0, .ref r0), (1, .int (nI 100)), (2, .int (nI i))] [.int (nI 0), .int (nI (i + 2)), .ref k23] [(r0, .inr (5, [.int (nI n), .ref k1, .ref k2, .ref k3, .ref k4, .int (nI m), .ref k6, .ref k7, .ref k8, .int (nI 0), .ref k10, .int (nI aw), .ref k12, .ref k13, .ref k14, .ref k15, .ref k16, .int (nI ls), .int (nI (((ap + 1) + 1) + j_65)), .int (bz true), .int (nI sq), .ref k21, .ref k22, .ref k23, .ref k24, .ref k25, .int (bz pd), .int (nI pl), .int (bz tk), kv, .ref k30, .ref k31, .int (nI tz), .ref k33, .int (nI rs), .int sd])), (k16, .inl (cI, 96, .inl (nIf sg))), (k23, .inl (cI, 147, .inl (nIf (un (un tl i (NUMB sg ap 1)) (i + 1) (NUMB sg (ap + 1) 1)))))]
          obtain ⟨je, hej⟩ : ∃ z, z = j_65 := ⟨_, rfl⟩
          subst hej
          have hBe := hf_66
          have hCe := hj_67
          refine v_iasn (ws2 := [(r0, .inr (5, [.int (nI n), .ref k1, .ref k2, .ref k3, .ref k4, .int (nI m), .ref k6, .ref k7, .ref k8, .int (nI 0), .ref k10, .int (nI aw), .ref k12, .ref k13, .ref k14, .ref k15, .ref k16, .int (nI ls), .int (nI (((ap + 1) + 1) + je)), .int (bz true), .int (nI sq), .ref k21, .ref k22, .ref k23, .ref k24, .ref k25, .int (bz pd), .int (nI pl), .int (bz tk), kv, .ref k30, .ref k31, .int (nI tz), .ref k33, .int (nI rs), .int sd])), (k16, .inl (cI, 96, .inl (nIf sg))), (k23, .inl (cI, 147, .inl (nIf (un (un (un tl i (NUMB sg ap 1)) (i + 1) (NUMB sg (ap + 1) 1)) (i + 2) 0))))]) 103 2 zC dX5_readNumbers_102 rfl (by omega) (by rw [upd_nIf]; first | done | rfl) ?_
          refine v_goto 184 zC dX5_readNumbers_103 ?_
          refine v_vret zC zT dX5_readNumbers_184  ?_
          first | (have g9 := hAc; exact Or.inl ⟨_, fd_n (i := 3) (k := 2) (fd_n (i := 1) (k := 2) hAa hAb) hAc, (by first | exact tls_111 (by rw [un_n (by omega), un_n (by omega), un_s, numb1]) (by rw [un_n (by omega), un_s, numb2]) (by rw [un_s, numb2]) | exact tls_99 (by rw [un_n (by omega), un_n (by omega), un_s, numb1]) (by rw [un_n (by omega), un_s, numb2]) (by rw [un_s, numb2])), (fun z hz => by repeat (rw [un_n (by omega)])), rfl, rfl⟩) | (have g9 := hBc; rw [show ap + 1 + 2 + jc = ap + (3 + jc) from by omega]; exact Or.inr ⟨_, _, fd_s (i := 3) (k := 2) (fd_n (i := 1) (k := 2) hAa hAb) hBc, by omega, (fun z hz => by repeat (rw [un_n (by omega)])), rfl, rfl⟩) | (have g9 := hBb5; rw [show ap + 1 + jb5 = ap + (1 + jb5) from by omega]; exact Or.inr ⟨_, _, fd_m (i := 3) (k := 2) (fd_s (i := 1) (k := 2) hAa hBb5), by omega, (fun z hz => by repeat (rw [un_n (by omega)])), rfl, rfl⟩) | (have g9 := hBa5; exact Or.inr ⟨_, _, fd_m (i := 1) (k := 4) hBa5, by omega, (fun z hz => by repeat (rw [un_n (by omega)])), rfl, rfl⟩) | (have g9 := hAe; exact Or.inl ⟨_, fd_n (i := 2) (k := 1) (fd_n (i := 1) (k := 1) hAa3 hAd) hAe, (tls_100 (by rw [un_n (by omega), un_n (by omega), un_s, numb1]) (by rw [un_n (by omega), un_s, numb1]) (by rw [un_s, numb1])), (fun z hz => by repeat (rw [un_n (by omega)])), rfl, rfl⟩) | (have g9 := hBe; rw [show ap + 1 + 1 + je = ap + (2 + je) from by omega]; exact Or.inr ⟨_, _, fd_s (i := 2) (k := 1) (fd_n (i := 1) (k := 1) hAa3 hAd) hBe, by omega, (fun z hz => by repeat (rw [un_n (by omega)])), rfl, rfl⟩) | (have g9 := hBd; rw [show ap + 1 + jd = ap + (1 + jd) from by omega]; exact Or.inr ⟨_, _, fd_m (i := 2) (k := 1) (fd_s (i := 1) (k := 1) hAa3 hBd), by omega, (fun z hz => by repeat (rw [un_n (by omega)])), rfl, rfl⟩) | (have g9 := hBa3; exact Or.inr ⟨_, _, fd_m (i := 1) (k := 2) hBa3, by omega, (fun z hz => by repeat (rw [un_n (by omega)])), rfl, rfl⟩) | (have g9 := hAh; exact Or.inl ⟨_, fd_n (i := 1) (k := 1) hAg hAh, (tls_107 (by rw [un_n (by omega), un_s, numb1]) (by rw [un_s, numb1])), (fun z hz => by repeat (rw [un_n (by omega)])), rfl, rfl⟩) | (have g9 := hBh; rw [show ap + 1 + jh = ap + (1 + jh) from by omega]; exact Or.inr ⟨_, _, fd_s (i := 1) (k := 1) hAg hBh, by omega, (fun z hz => by repeat (rw [un_n (by omega)])), rfl, rfl⟩) | (have g9 := hBg; exact Or.inr ⟨_, _, fd_m (i := 1) (k := 1) hBg, by omega, (fun z hz => by repeat (rw [un_n (by omega)])), rfl, rfl⟩) | (have g9 := hAp; exact Or.inl ⟨_, hAp, (by first | exact tls_112 (by rw [un_s, numb2]) | exact tls_115 (by rw [un_s, numb1])), (fun z hz => by repeat (rw [un_n (by omega)])), rfl, rfl⟩) | (have g9 := hBp; exact Or.inr ⟨_, _, hBp, by omega, (fun z hz => by repeat (rw [un_n (by omega)])), rfl, rfl⟩)
      ·
        show VV E 0 0 89 [(0, .ref r0), (1, .int (nI 100)), (2, .int (nI i))] [.int (nI 0), .int (nI (i + 1)), .ref k23] [(r0, .inr (5, [.int (nI n), .ref k1, .ref k2, .ref k3, .ref k4, .int (nI m), .ref k6, .ref k7, .ref k8, .int (nI 0), .ref k10, .int (nI aw), .ref k12, .ref k13, .ref k14, .ref k15, .ref k16, .int (nI ls), .int (nI ((ap + 1) + j_56)), .int (bz true), .int (nI sq), .ref k21, .ref k22, .ref k23, .ref k24, .ref k25, .int (bz pd), .int (nI pl), .int (bz tk), kv, .ref k30, .ref k31, .int (nI tz), .ref k33, .int (nI rs), .int sd])), (k16, .inl (cI, 96, .inl (nIf sg))), (k23, .inl (cI, 147, .inl (nIf (un tl i (NUMB sg ap 1)))))]
        obtain ⟨jd, hej⟩ : ∃ z, z = j_56 := ⟨_, rfl⟩
        subst hej
        have hBd := hf_57
        have hCd := hj_58
        refine v_iasn (ws2 := [(r0, .inr (5, [.int (nI n), .ref k1, .ref k2, .ref k3, .ref k4, .int (nI m), .ref k6, .ref k7, .ref k8, .int (nI 0), .ref k10, .int (nI aw), .ref k12, .ref k13, .ref k14, .ref k15, .ref k16, .int (nI ls), .int (nI ((ap + 1) + jd)), .int (bz true), .int (nI sq), .ref k21, .ref k22, .ref k23, .ref k24, .ref k25, .int (bz pd), .int (nI pl), .int (bz tk), kv, .ref k30, .ref k31, .int (nI tz), .ref k33, .int (nI rs), .int sd])), (k16, .inl (cI, 96, .inl (nIf sg))), (k23, .inl (cI, 147, .inl (nIf (un (un tl i (NUMB sg ap 1)) (i + 1) 0))))]) 90 2 zC dX5_readNumbers_89 rfl (by omega) (by rw [upd_nIf]; first | done | rfl) ?_
        refine v_al_n 91 zC dX5_readNumbers_90 0 rfl ?_
        refine v_gf 94 0 zC dX5_readNumbers_91 gf_X5_55 rfl rfl ?_
        refine v_il_n 95 zC dX5_readNumbers_94 2 rfl ?_
        refine v_ic (v := (nI 2)) 96 zC dX5_readNumbers_95 (by decide +kernel) ?_
        refine v_iadd (v := (nI (i + 2))) 97 zC dX5_readNumbers_96 (nI_add _ _) ?_
        refine v_al_n 98 zC dX5_readNumbers_97 0 rfl ?_
        refine v_ic (v := (nI 1)) 99 zC dX5_readNumbers_98 (by decide +kernel) ?_
        refine v_cV (As := [.int (nI 1)]) (st := [.int (nI (i + 2)), .ref k23]) 102 0 [0, 1] zC dX5_readNumbers_99 hA (c_X5_readDigits__T (ev_l E) (ev_D E) cI (r0 := r0) (k1 := k1) (k2 := k2) (k3 := k3) (k4 := k4) (k6 := k6) (k7 := k7) (k8 := k8) (k10 := k10) (k12 := k12) (k13 := k13) (k14 := k14) (k15 := k15) (k16 := k16) (k21 := k21) (k22 := k22) (k23 := k23) (k24 := k24) (k25 := k25) (k30 := k30) (k31 := k31) (k33 := k33) (n := n) (m := m) (aw := aw) (ls := ls) (ap := ((ap + 1) + jd)) (sq := sq) (pl := pl) (tz := tz) (rs := rs) (pd := pd) (tk := tk) (kv := kv) (sd := sd) (sg := sg) (k := 1) (hk := (by first | omega | assumption | rfl | (simp only []; omega) | decide))) cf_X5_readDigits lk_X5_150 rfl rfl rfl rfl rfl (by decide +kernel) (Nat.le_of_ble_eq_true rfl) (fun rv_68 wv_69 hp_70 hm_71 => ?_)
        clear hm_71
        obtain ⟨rfl, rfl⟩ := hp_70
        show VV E 0 0 102 [(0, .ref r0), (1, .int (nI 100)), (2, .int (nI i))] [.int (nI 0), .int (nI (i + 2)), .ref k23] [(r0, .inr (5, [.int (nI n), .ref k1, .ref k2, .ref k3, .ref k4, .int (nI m), .ref k6, .ref k7, .ref k8, .int (nI 0), .ref k10, .int (nI aw), .ref k12, .ref k13, .ref k14, .ref k15, .ref k16, .int (nI ls), .int (nI ((ap + 1) + jd)), .int (bz true), .int (nI sq), .ref k21, .ref k22, .ref k23, .ref k24, .ref k25, .int (bz pd), .int (nI pl), .int (bz tk), kv, .ref k30, .ref k31, .int (nI tz), .ref k33, .int (nI rs), .int sd])), (k16, .inl (cI, 96, .inl (nIf sg))), (k23, .inl (cI, 147, .inl (nIf (un (un tl i (NUMB sg ap 1)) (i + 1) 0))))]
        have hAe := @0
        have hLe := @1
        refine v_iasn (ws2 := [(r0, .inr (5, [.int (nI n), .ref k1, .ref k2, .ref k3, .ref k4, .int (nI m), .ref k6, .ref k7, .ref k8, .int (nI 0), .ref k10, .int (nI aw), .ref k12, .ref k13, .ref k14, .ref k15, .ref k16, .int (nI ls), .int (nI ((ap + 1) + jd)), .int (bz true), .int (nI sq), .ref k21, .ref k22, .ref k23, .ref k24, .ref k25, .int (bz pd), .int (nI pl), .int (bz tk), kv, .ref k30, .ref k31, .int (nI tz), .ref k33, .int (nI rs), .int sd])), (k16, .inl (cI, 96, .inl (nIf sg))), (k23, .inl (cI, 147, .inl (nIf (un (un (un tl i (NUMB sg ap 1)) (i + 1) 0) (i + 2) 0))))]) 103 2 zC dX5_readNumbers_102 rfl (by omega) (by rw [upd_nIf]; first | done | rfl) ?_
        refine v_goto 184 zC dX5_readNumbers_103 ?_
        refine v_vret zC zT dX5_readNumbers_184  ?_
        first | (have g9 := hAc; exact Or.inl ⟨_, fd_n (i := 3) (k := 2) (fd_n (i := 1) (k := 2) hAa hAb) hAc, (by first | exact tls_111 (by rw [un_n (by omega), un_n (by omega), un_s, numb1]) (by rw [un_n (by omega), un_s, numb2]) (by rw [un_s, numb2]) | exact tls_99 (by rw [un_n (by omega), un_n (by omega), un_s, numb1]) (by rw [un_n (by omega), un_s, numb2]) (by rw [un_s, numb2])), (fun z hz => by repeat (rw [un_n (by omega)])), rfl, rfl⟩) | (have g9 := hBc; rw [show ap + 1 + 2 + jc = ap + (3 + jc) from by omega]; exact Or.inr ⟨_, _, fd_s (i := 3) (k := 2) (fd_n (i := 1) (k := 2) hAa hAb) hBc, by omega, (fun z hz => by repeat (rw [un_n (by omega)])), rfl, rfl⟩) | (have g9 := hBb5; rw [show ap + 1 + jb5 = ap + (1 + jb5) from by omega]; exact Or.inr ⟨_, _, fd_m (i := 3) (k := 2) (fd_s (i := 1) (k := 2) hAa hBb5), by omega, (fun z hz => by repeat (rw [un_n (by omega)])), rfl, rfl⟩) | (have g9 := hBa5; exact Or.inr ⟨_, _, fd_m (i := 1) (k := 4) hBa5, by omega, (fun z hz => by repeat (rw [un_n (by omega)])), rfl, rfl⟩) | (have g9 := hAe; exact Or.inl ⟨_, fd_n (i := 2) (k := 1) (fd_n (i := 1) (k := 1) hAa3 hAd) hAe, (tls_100 (by rw [un_n (by omega), un_n (by omega), un_s, numb1]) (by rw [un_n (by omega), un_s, numb1]) (by rw [un_s, numb1])), (fun z hz => by repeat (rw [un_n (by omega)])), rfl, rfl⟩) | (have g9 := hBe; rw [show ap + 1 + 1 + je = ap + (2 + je) from by omega]; exact Or.inr ⟨_, _, fd_s (i := 2) (k := 1) (fd_n (i := 1) (k := 1) hAa3 hAd) hBe, by omega, (fun z hz => by repeat (rw [un_n (by omega)])), rfl, rfl⟩) | (have g9 := hBd; rw [show ap + 1 + jd = ap + (1 + jd) from by omega]; exact Or.inr ⟨_, _, fd_m (i := 2) (k := 1) (fd_s (i := 1) (k := 1) hAa3 hBd), by omega, (fun z hz => by repeat (rw [un_n (by omega)])), rfl, rfl⟩) | (have g9 := hBa3; exact Or.inr ⟨_, _, fd_m (i := 1) (k := 2) hBa3, by omega, (fun z hz => by repeat (rw [un_n (by omega)])), rfl, rfl⟩) | (have g9 := hAh; exact Or.inl ⟨_, fd_n (i := 1) (k := 1) hAg hAh, (tls_107 (by rw [un_n (by omega), un_s, numb1]) (by rw [un_s, numb1])), (fun z hz => by repeat (rw [un_n (by omega)])), rfl, rfl⟩) | (have g9 := hBh; rw [show ap + 1 + jh = ap + (1 + jh) from by omega]; exact Or.inr ⟨_, _, fd_s (i := 1) (k := 1) hAg hBh, by omega, (fun z hz => by repeat (rw [un_n (by omega)])), rfl, rfl⟩) | (have g9 := hBg; exact Or.inr ⟨_, _, fd_m (i := 1) (k := 1) hBg, by omega, (fun z hz => by repeat (rw [un_n (by omega)])), rfl, rfl⟩) | (have g9 := hAp; exact Or.inl ⟨_, hAp, (by first | exact tls_112 (by rw [un_s, numb2]) | exact tls_115 (by rw [un_s, numb1])), (fun z hz => by repeat (rw [un_n (by omega)])), rfl, rfl⟩) | (have g9 := hBp; exact Or.inr ⟨_, _, hBp, by omega, (fun z hz => by repeat (rw [un_n (by omega)])), rfl, rfl⟩)
    ·
      show VV E 0 0 76 [(0, .ref r0), (1, .int (nI 100)), (2, .int (nI i))] [.int (nI 0), .int (nI i), .ref k23] [(r0, .inr (5, [.int (nI n), .ref k1, .ref k2, .ref k3, .ref k4, .int (nI m), .ref k6, .ref k7, .ref k8, .int (nI 0), .ref k10, .int (nI aw), .ref k12, .ref k13, .ref k14, .ref k15, .ref k16, .int (nI ls), .int (nI (ap + j_47)), .int (bz true), .int (nI sq), .ref k21, .ref k22, .ref k23, .ref k24, .ref k25, .int (bz pd), .int (nI pl), .int (bz tk), kv, .ref k30, .ref k31, .int (nI tz), .ref k33, .int (nI rs), .int sd])), (k16, .inl (cI, 96, .inl (nIf sg))), (k23, .inl (cI, 147, .inl (nIf tl)))]
      obtain ⟨ja3, hej⟩ : ∃ z, z = j_47 := ⟨_, rfl⟩
      subst hej
      have hBa3 := hf_48
      have hCa3 := hj_49
      refine v_iasn (ws2 := [(r0, .inr (5, [.int (nI n), .ref k1, .ref k2, .ref k3, .ref k4, .int (nI m), .ref k6, .ref k7, .ref k8, .int (nI 0), .ref k10, .int (nI aw), .ref k12, .ref k13, .ref k14, .ref k15, .ref k16, .int (nI ls), .int (nI (ap + ja3)), .int (bz true), .int (nI sq), .ref k21, .ref k22, .ref k23, .ref k24, .ref k25, .int (bz pd), .int (nI pl), .int (bz tk), kv, .ref k30, .ref k31, .int (nI tz), .ref k33, .int (nI rs), .int sd])), (k16, .inl (cI, 96, .inl (nIf sg))), (k23, .inl (cI, 147, .inl (nIf (un tl i 0))))]) 77 2 zC dX5_readNumbers_76 rfl (by omega) (by rw [upd_nIf]; first | done | rfl) ?_
      refine v_al_n 78 zC dX5_readNumbers_77 0 rfl ?_
      refine v_gf 81 0 zC dX5_readNumbers_78 gf_X5_55 rfl rfl ?_
      refine v_il_n 82 zC dX5_readNumbers_81 2 rfl ?_
      refine v_ic (v := (nI 1)) 83 zC dX5_readNumbers_82 (by decide +kernel) ?_
      refine v_iadd (v := (nI (i + 1))) 84 zC dX5_readNumbers_83 (nI_add _ _) ?_
      refine v_al_n 85 zC dX5_readNumbers_84 0 rfl ?_
      refine v_ic (v := (nI 1)) 86 zC dX5_readNumbers_85 (by decide +kernel) ?_
      refine v_cV (As := [.int (nI 1)]) (st := [.int (nI (i + 1)), .ref k23]) 89 0 [0, 1] zC dX5_readNumbers_86 hA (c_X5_readDigits__T (ev_l E) (ev_D E) cI (r0 := r0) (k1 := k1) (k2 := k2) (k3 := k3) (k4 := k4) (k6 := k6) (k7 := k7) (k8 := k8) (k10 := k10) (k12 := k12) (k13 := k13) (k14 := k14) (k15 := k15) (k16 := k16) (k21 := k21) (k22 := k22) (k23 := k23) (k24 := k24) (k25 := k25) (k30 := k30) (k31 := k31) (k33 := k33) (n := n) (m := m) (aw := aw) (ls := ls) (ap := (ap + ja3)) (sq := sq) (pl := pl) (tz := tz) (rs := rs) (pd := pd) (tk := tk) (kv := kv) (sd := sd) (sg := sg) (k := 1) (hk := (by first | omega | assumption | rfl | (simp only []; omega) | decide))) cf_X5_readDigits lk_X5_150 rfl rfl rfl rfl rfl (by decide +kernel) (Nat.le_of_ble_eq_true rfl) (fun rv_72 wv_73 hp_74 hm_75 => ?_)
      clear hm_75
      obtain ⟨rfl, rfl⟩ := hp_74
      show VV E 0 0 89 [(0, .ref r0), (1, .int (nI 100)), (2, .int (nI i))] [.int (nI 0), .int (nI (i + 1)), .ref k23] [(r0, .inr (5, [.int (nI n), .ref k1, .ref k2, .ref k3, .ref k4, .int (nI m), .ref k6, .ref k7, .ref k8, .int (nI 0), .ref k10, .int (nI aw), .ref k12, .ref k13, .ref k14, .ref k15, .ref k16, .int (nI ls), .int (nI (ap + ja3)), .int (bz true), .int (nI sq), .ref k21, .ref k22, .ref k23, .ref k24, .ref k25, .int (bz pd), .int (nI pl), .int (bz tk), kv, .ref k30, .ref k31, .int (nI tz), .ref k33, .int (nI rs), .int sd])), (k16, .inl (cI, 96, .inl (nIf sg))), (k23, .inl (cI, 147, .inl (nIf (un tl i 0))))]
      have hAd := @0
      have hLd := @1
      refine v_iasn (ws2 := [(r0, .inr (5, [.int (nI n), .ref k1, .ref k2, .ref k3, .ref k4, .int (nI m), .ref k6, .ref k7, .ref k8, .int (nI 0), .ref k10, .int (nI aw), .ref k12, .ref k13, .ref k14, .ref k15, .ref k16, .int (nI ls), .int (nI (ap + ja3)), .int (bz true), .int (nI sq), .ref k21, .ref k22, .ref k23, .ref k24, .ref k25, .int (bz pd), .int (nI pl), .int (bz tk), kv, .ref k30, .ref k31, .int (nI tz), .ref k33, .int (nI rs), .int sd])), (k16, .inl (cI, 96, .inl (nIf sg))), (k23, .inl (cI, 147, .inl (nIf (un (un tl i 0) (i + 1) 0))))]) 90 2 zC dX5_readNumbers_89 rfl (by omega) (by rw [upd_nIf]; first | done | rfl) ?_
      refine v_al_n 91 zC dX5_readNumbers_90 0 rfl ?_
      refine v_gf 94 0 zC dX5_readNumbers_91 gf_X5_55 rfl rfl ?_
      refine v_il_n 95 zC dX5_readNumbers_94 2 rfl ?_
      refine v_ic (v := (nI 2)) 96 zC dX5_readNumbers_95 (by decide +kernel) ?_
      refine v_iadd (v := (nI (i + 2))) 97 zC dX5_readNumbers_96 (nI_add _ _) ?_
      refine v_al_n 98 zC dX5_readNumbers_97 0 rfl ?_
      refine v_ic (v := (nI 1)) 99 zC dX5_readNumbers_98 (by decide +kernel) ?_
      refine v_cV (As := [.int (nI 1)]) (st := [.int (nI (i + 2)), .ref k23]) 102 0 [0, 1] zC dX5_readNumbers_99 hA (c_X5_readDigits__T (ev_l E) (ev_D E) cI (r0 := r0) (k1 := k1) (k2 := k2) (k3 := k3) (k4 := k4) (k6 := k6) (k7 := k7) (k8 := k8) (k10 := k10) (k12 := k12) (k13 := k13) (k14 := k14) (k15 := k15) (k16 := k16) (k21 := k21) (k22 := k22) (k23 := k23) (k24 := k24) (k25 := k25) (k30 := k30) (k31 := k31) (k33 := k33) (n := n) (m := m) (aw := aw) (ls := ls) (ap := (ap + ja3)) (sq := sq) (pl := pl) (tz := tz) (rs := rs) (pd := pd) (tk := tk) (kv := kv) (sd := sd) (sg := sg) (k := 1) (hk := (by first | omega | assumption | rfl | (simp only []; omega) | decide))) cf_X5_readDigits lk_X5_150 rfl rfl rfl rfl rfl (by decide +kernel) (Nat.le_of_ble_eq_true rfl) (fun rv_76 wv_77 hp_78 hm_79 => ?_)
      clear hm_79
      obtain ⟨rfl, rfl⟩ := hp_78
      show VV E 0 0 102 [(0, .ref r0), (1, .int (nI 100)), (2, .int (nI i))] [.int (nI 0), .int (nI (i + 2)), .ref k23] [(r0, .inr (5, [.int (nI n), .ref k1, .ref k2, .ref k3, .ref k4, .int (nI m), .ref k6, .ref k7, .ref k8, .int (nI 0), .ref k10, .int (nI aw), .ref k12, .ref k13, .ref k14, .ref k15, .ref k16, .int (nI ls), .int (nI (ap + ja3)), .int (bz true), .int (nI sq), .ref k21, .ref k22, .ref k23, .ref k24, .ref k25, .int (bz pd), .int (nI pl), .int (bz tk), kv, .ref k30, .ref k31, .int (nI tz), .ref k33, .int (nI rs), .int sd])), (k16, .inl (cI, 96, .inl (nIf sg))), (k23, .inl (cI, 147, .inl (nIf (un (un tl i 0) (i + 1) 0))))]
      have hAe := @0
      have hLe := @1
      refine v_iasn (ws2 := [(r0, .inr (5, [.int (nI n), .ref k1, .ref k2, .ref k3, .ref k4, .int (nI m), .ref k6, .ref k7, .ref k8, .int (nI 0), .ref k10, .int (nI aw), .ref k12, .ref k13, .ref k14, .ref k15, .ref k16, .int (nI ls), .int (nI (ap + ja3)), .int (bz true), .int (nI sq), .ref k21, .ref k22, .ref k23, .ref k24, .ref k25, .int (bz pd), .int (nI pl), .int (bz tk), kv, .ref k30, .ref k31, .int (nI tz), .ref k33, .int (nI rs), .int sd])), (k16, .inl (cI, 96, .inl (nIf sg))), (k23, .inl (cI, 147, .inl (nIf (un (un (un tl i 0) (i + 1) 0) (i + 2) 0))))]) 103 2 zC dX5_readNumbers_102 rfl (by omega) (by rw [upd_nIf]; first | done | rfl) ?_
      refine v_goto 184 zC dX5_readNumbers_103 ?_
      refine v_vret zC zT dX5_readNumbers_184  ?_
      first | (have g9 := hAc; exact Or.inl ⟨_, fd_n (i := 3) (k := 2) (fd_n (i := 1) (k := 2) hAa hAb) hAc, (by first | exact tls_111 (by rw [un_n (by omega), un_n (by omega), un_s, numb1]) (by rw [un_n (by omega), un_s, numb2]) (by rw [un_s, numb2]) | exact tls_99 (by rw [un_n (by omega), un_n (by omega), un_s, numb1]) (by rw [un_n (by omega), un_s, numb2]) (by rw [un_s, numb2])), (fun z hz => by repeat (rw [un_n (by omega)])), rfl, rfl⟩) | (have g9 := hBc; rw [show ap + 1 + 2 + jc = ap + (3 + jc) from by omega]; exact Or.inr ⟨_, _, fd_s (i := 3) (k := 2) (fd_n (i := 1) (k := 2) hAa hAb) hBc, by omega, (fun z hz => by repeat (rw [un_n (by omega)])), rfl, rfl⟩) | (have g9 := hBb5; rw [show ap + 1 + jb5 = ap + (1 + jb5) from by omega]; exact Or.inr ⟨_, _, fd_m (i := 3) (k := 2) (fd_s (i := 1) (k := 2) hAa hBb5), by omega, (fun z hz => by repeat (rw [un_n (by omega)])), rfl, rfl⟩) | (have g9 := hBa5; exact Or.inr ⟨_, _, fd_m (i := 1) (k := 4) hBa5, by omega, (fun z hz => by repeat (rw [un_n (by omega)])), rfl, rfl⟩) | (have g9 := hAe; exact Or.inl ⟨_, fd_n (i := 2) (k := 1) (fd_n (i := 1) (k := 1) hAa3 hAd) hAe, (tls_100 (by rw [un_n (by omega), un_n (by omega), un_s, numb1]) (by rw [un_n (by omega), un_s, numb1]) (by rw [un_s, numb1])), (fun z hz => by repeat (rw [un_n (by omega)])), rfl, rfl⟩) | (have g9 := hBe; rw [show ap + 1 + 1 + je = ap + (2 + je) from by omega]; exact Or.inr ⟨_, _, fd_s (i := 2) (k := 1) (fd_n (i := 1) (k := 1) hAa3 hAd) hBe, by omega, (fun z hz => by repeat (rw [un_n (by omega)])), rfl, rfl⟩) | (have g9 := hBd; rw [show ap + 1 + jd = ap + (1 + jd) from by omega]; exact Or.inr ⟨_, _, fd_m (i := 2) (k := 1) (fd_s (i := 1) (k := 1) hAa3 hBd), by omega, (fun z hz => by repeat (rw [un_n (by omega)])), rfl, rfl⟩) | (have g9 := hBa3; exact Or.inr ⟨_, _, fd_m (i := 1) (k := 2) hBa3, by omega, (fun z hz => by repeat (rw [un_n (by omega)])), rfl, rfl⟩) | (have g9 := hAh; exact Or.inl ⟨_, fd_n (i := 1) (k := 1) hAg hAh, (tls_107 (by rw [un_n (by omega), un_s, numb1]) (by rw [un_s, numb1])), (fun z hz => by repeat (rw [un_n (by omega)])), rfl, rfl⟩) | (have g9 := hBh; rw [show ap + 1 + jh = ap + (1 + jh) from by omega]; exact Or.inr ⟨_, _, fd_s (i := 1) (k := 1) hAg hBh, by omega, (fun z hz => by repeat (rw [un_n (by omega)])), rfl, rfl⟩) | (have g9 := hBg; exact Or.inr ⟨_, _, fd_m (i := 1) (k := 1) hBg, by omega, (fun z hz => by repeat (rw [un_n (by omega)])), rfl, rfl⟩) | (have g9 := hAp; exact Or.inl ⟨_, hAp, (by first | exact tls_112 (by rw [un_s, numb2]) | exact tls_115 (by rw [un_s, numb1])), (fun z hz => by repeat (rw [un_n (by omega)])), rfl, rfl⟩) | (have g9 := hBp; exact Or.inr ⟨_, _, hBp, by omega, (fun z hz => by repeat (rw [un_n (by omega)])), rfl, rfl⟩)
  ·
    subst he9
    subst hs9
    refine v_lsw (off := 105) 106 zC dX5_readNumbers_1 ((by decide +kernel)) ?_
    refine v_al_n 107 zC dX5_readNumbers_106 0 rfl ?_
    refine v_gf 110 0 zC dX5_readNumbers_107 gf_X5_55 rfl rfl ?_
    refine v_il_n 111 zC dX5_readNumbers_110 2 rfl ?_
    refine v_al_n 112 zC dX5_readNumbers_111 0 rfl ?_
    refine v_ic (v := (nI 1)) 113 zC dX5_readNumbers_112 (by decide +kernel) ?_
    refine v_cV (As := [.int (nI 1)]) (st := [.int (nI i), .ref k23]) 116 0 [0, 1] zC dX5_readNumbers_113 hA (c_X5_readDigits__F (ev_l E) (ev_D E) cI (r0 := r0) (k1 := k1) (k2 := k2) (k3 := k3) (k4 := k4) (k6 := k6) (k7 := k7) (k8 := k8) (k10 := k10) (k12 := k12) (k13 := k13) (k14 := k14) (k15 := k15) (k16 := k16) (k21 := k21) (k22 := k22) (k23 := k23) (k24 := k24) (k25 := k25) (k30 := k30) (k31 := k31) (k33 := k33) (n := n) (m := m) (aw := aw) (ls := ls) (ap := ap) (sq := sq) (pl := pl) (tz := tz) (rs := rs) (pd := pd) (tk := tk) (kv := kv) (sd := sd) (sg := sg) (k := 1) (hl := (by first | omega | assumption | rfl | (simp only []; omega) | decide)) (hsg := (by first | omega | assumption | rfl | (simp only []; omega) | decide)) (ha := (by first | omega | assumption | rfl | (simp only []; omega) | decide)) (hk := (by first | omega | assumption | rfl | (simp only []; omega) | decide))) cf_X5_readDigits lk_X5_150 rfl rfl rfl rfl rfl (by decide +kernel) (Nat.le_of_ble_eq_true rfl) (fun rv_80 wv_81 hp_82 hm_83 => ?_)
    clear hm_83
    rcases hp_82 with ⟨hf_84, hj_85, rfl, rfl⟩ | ⟨j_86, hf_87, hj_88, rfl, rfl⟩
    ·
      show VV E 0 0 116 [(0, .ref r0), (1, .int (nI 111)), (2, .int (nI i))] [.int (nI (NUMB sg ap 1)), .int (nI i), .ref k23] [(r0, .inr (5, [.int (nI n), .ref k1, .ref k2, .ref k3, .ref k4, .int (nI m), .ref k6, .ref k7, .ref k8, .int (nI 0), .ref k10, .int (nI aw), .ref k12, .ref k13, .ref k14, .ref k15, .ref k16, .int (nI ls), .int (nI (ap + 1)), .int (bz false), .int (nI sq), .ref k21, .ref k22, .ref k23, .ref k24, .ref k25, .int (bz pd), .int (nI pl), .int (bz tk), kv, .ref k30, .ref k31, .int (nI tz), .ref k33, .int (nI rs), .int sd])), (k16, .inl (cI, 96, .inl (nIf sg))), (k23, .inl (cI, 147, .inl (nIf tl)))]
      have hAa := hf_84
      have hLa := hj_85
      refine v_iasn (ws2 := [(r0, .inr (5, [.int (nI n), .ref k1, .ref k2, .ref k3, .ref k4, .int (nI m), .ref k6, .ref k7, .ref k8, .int (nI 0), .ref k10, .int (nI aw), .ref k12, .ref k13, .ref k14, .ref k15, .ref k16, .int (nI ls), .int (nI (ap + 1)), .int (bz false), .int (nI sq), .ref k21, .ref k22, .ref k23, .ref k24, .ref k25, .int (bz pd), .int (nI pl), .int (bz tk), kv, .ref k30, .ref k31, .int (nI tz), .ref k33, .int (nI rs), .int sd])), (k16, .inl (cI, 96, .inl (nIf sg))), (k23, .inl (cI, 147, .inl (nIf (un tl i (NUMB sg ap 1)))))]) 117 2 zC dX5_readNumbers_116 rfl (by omega) (by rw [upd_nIf]; first | done | rfl) ?_
      refine v_al_n 118 zC dX5_readNumbers_117 0 rfl ?_
      refine v_gf 121 0 zC dX5_readNumbers_118 gf_X5_55 rfl rfl ?_
      refine v_il_n 122 zC dX5_readNumbers_121 2 rfl ?_
      refine v_ic (v := (nI 1)) 123 zC dX5_readNumbers_122 (by decide +kernel) ?_
      refine v_iadd (v := (nI (i + 1))) 124 zC dX5_readNumbers_123 (nI_add _ _) ?_
      refine v_al_n 125 zC dX5_readNumbers_124 0 rfl ?_
      refine v_ic (v := (nI 2)) 126 zC dX5_readNumbers_125 (by decide +kernel) ?_
      refine v_cV (As := [.int (nI 2)]) (st := [.int (nI (i + 1)), .ref k23]) 129 0 [0, 1] zC dX5_readNumbers_126 hA (c_X5_readDigits__F (ev_l E) (ev_D E) cI (r0 := r0) (k1 := k1) (k2 := k2) (k3 := k3) (k4 := k4) (k6 := k6) (k7 := k7) (k8 := k8) (k10 := k10) (k12 := k12) (k13 := k13) (k14 := k14) (k15 := k15) (k16 := k16) (k21 := k21) (k22 := k22) (k23 := k23) (k24 := k24) (k25 := k25) (k30 := k30) (k31 := k31) (k33 := k33) (n := n) (m := m) (aw := aw) (ls := ls) (ap := (ap + 1)) (sq := sq) (pl := pl) (tz := tz) (rs := rs) (pd := pd) (tk := tk) (kv := kv) (sd := sd) (sg := sg) (k := 2) (hl := (by first | omega | assumption | rfl | (simp only []; omega) | decide)) (hsg := (by first | omega | assumption | rfl | (simp only []; omega) | decide)) (ha := (by first | omega | assumption | rfl | (simp only []; omega) | decide)) (hk := (by first | omega | assumption | rfl | (simp only []; omega) | decide))) cf_X5_readDigits lk_X5_150 rfl rfl rfl rfl rfl (by decide +kernel) (Nat.le_of_ble_eq_true rfl) (fun rv_89 wv_90 hp_91 hm_92 => ?_)
      clear hm_92
      rcases hp_91 with ⟨hf_93, hj_94, rfl, rfl⟩ | ⟨j_95, hf_96, hj_97, rfl, rfl⟩
      ·
        show VV E 0 0 129 [(0, .ref r0), (1, .int (nI 111)), (2, .int (nI i))] [.int (nI (NUMB sg (ap + 1) 2)), .int (nI (i + 1)), .ref k23] [(r0, .inr (5, [.int (nI n), .ref k1, .ref k2, .ref k3, .ref k4, .int (nI m), .ref k6, .ref k7, .ref k8, .int (nI 0), .ref k10, .int (nI aw), .ref k12, .ref k13, .ref k14, .ref k15, .ref k16, .int (nI ls), .int (nI ((ap + 1) + 2)), .int (bz false), .int (nI sq), .ref k21, .ref k22, .ref k23, .ref k24, .ref k25, .int (bz pd), .int (nI pl), .int (bz tk), kv, .ref k30, .ref k31, .int (nI tz), .ref k33, .int (nI rs), .int sd])), (k16, .inl (cI, 96, .inl (nIf sg))), (k23, .inl (cI, 147, .inl (nIf (un tl i (NUMB sg ap 1)))))]
        have hAb := hf_93
        have hLb := hj_94
        refine v_iasn (ws2 := [(r0, .inr (5, [.int (nI n), .ref k1, .ref k2, .ref k3, .ref k4, .int (nI m), .ref k6, .ref k7, .ref k8, .int (nI 0), .ref k10, .int (nI aw), .ref k12, .ref k13, .ref k14, .ref k15, .ref k16, .int (nI ls), .int (nI ((ap + 1) + 2)), .int (bz false), .int (nI sq), .ref k21, .ref k22, .ref k23, .ref k24, .ref k25, .int (bz pd), .int (nI pl), .int (bz tk), kv, .ref k30, .ref k31, .int (nI tz), .ref k33, .int (nI rs), .int sd])), (k16, .inl (cI, 96, .inl (nIf sg))), (k23, .inl (cI, 147, .inl (nIf (un (un tl i (NUMB sg ap 1)) (i + 1) (NUMB sg (ap + 1) 2)))))]) 130 2 zC dX5_readNumbers_129 rfl (by omega) (by rw [upd_nIf]; first | done | rfl) ?_
        refine v_al_n 131 zC dX5_readNumbers_130 0 rfl ?_
        refine v_gf 134 0 zC dX5_readNumbers_131 gf_X5_55 rfl rfl ?_
        refine v_il_n 135 zC dX5_readNumbers_134 2 rfl ?_
        refine v_ic (v := (nI 2)) 136 zC dX5_readNumbers_135 (by decide +kernel) ?_
        refine v_iadd (v := (nI (i + 2))) 137 zC dX5_readNumbers_136 (nI_add _ _) ?_
        refine v_al_n 138 zC dX5_readNumbers_137 0 rfl ?_
        refine v_ic (v := (nI 2)) 139 zC dX5_readNumbers_138 (by decide +kernel) ?_
        refine v_cV (As := [.int (nI 2)]) (st := [.int (nI (i + 2)), .ref k23]) 142 0 [0, 1] zC dX5_readNumbers_139 hA (c_X5_readDigits__F (ev_l E) (ev_D E) cI (r0 := r0) (k1 := k1) (k2 := k2) (k3 := k3) (k4 := k4) (k6 := k6) (k7 := k7) (k8 := k8) (k10 := k10) (k12 := k12) (k13 := k13) (k14 := k14) (k15 := k15) (k16 := k16) (k21 := k21) (k22 := k22) (k23 := k23) (k24 := k24) (k25 := k25) (k30 := k30) (k31 := k31) (k33 := k33) (n := n) (m := m) (aw := aw) (ls := ls) (ap := ((ap + 1) + 2)) (sq := sq) (pl := pl) (tz := tz) (rs := rs) (pd := pd) (tk := tk) (kv := kv) (sd := sd) (sg := sg) (k := 2) (hl := (by first | omega | assumption | rfl | (simp only []; omega) | decide)) (hsg := (by first | omega | assumption | rfl | (simp only []; omega) | decide)) (ha := (by first | omega | assumption | rfl | (simp only []; omega) | decide)) (hk := (by first | omega | assumption | rfl | (simp only []; omega) | decide))) cf_X5_readDigits lk_X5_150 rfl rfl rfl rfl rfl (by decide +kernel) (Nat.le_of_ble_eq_true rfl) (fun rv_98 wv_99 hp_100 hm_101 => ?_)
        clear hm_101
        rcases hp_100 with ⟨hf_102, hj_103, rfl, rfl⟩ | ⟨j_104, hf_105, hj_106, rfl, rfl⟩
        ·
          show VV E 0 0 142 [(0, .ref r0), (1, .int (nI 111)), (2, .int (nI i))] [.int (nI (NUMB sg ((ap + 1) + 2) 2)), .int (nI (i + 2)), .ref k23] [(r0, .inr (5, [.int (nI n), .ref k1, .ref k2, .ref k3, .ref k4, .int (nI m), .ref k6, .ref k7, .ref k8, .int (nI 0), .ref k10, .int (nI aw), .ref k12, .ref k13, .ref k14, .ref k15, .ref k16, .int (nI ls), .int (nI (((ap + 1) + 2) + 2)), .int (bz false), .int (nI sq), .ref k21, .ref k22, .ref k23, .ref k24, .ref k25, .int (bz pd), .int (nI pl), .int (bz tk), kv, .ref k30, .ref k31, .int (nI tz), .ref k33, .int (nI rs), .int sd])), (k16, .inl (cI, 96, .inl (nIf sg))), (k23, .inl (cI, 147, .inl (nIf (un (un tl i (NUMB sg ap 1)) (i + 1) (NUMB sg (ap + 1) 2)))))]
          have hAc := hf_102
          have hLc := hj_103
          refine v_iasn (ws2 := [(r0, .inr (5, [.int (nI n), .ref k1, .ref k2, .ref k3, .ref k4, .int (nI m), .ref k6, .ref k7, .ref k8, .int (nI 0), .ref k10, .int (nI aw), .ref k12, .ref k13, .ref k14, .ref k15, .ref k16, .int (nI ls), .int (nI (((ap + 1) + 2) + 2)), .int (bz false), .int (nI sq), .ref k21, .ref k22, .ref k23, .ref k24, .ref k25, .int (bz pd), .int (nI pl), .int (bz tk), kv, .ref k30, .ref k31, .int (nI tz), .ref k33, .int (nI rs), .int sd])), (k16, .inl (cI, 96, .inl (nIf sg))), (k23, .inl (cI, 147, .inl (nIf (un (un (un tl i (NUMB sg ap 1)) (i + 1) (NUMB sg (ap + 1) 2)) (i + 2) (NUMB sg ((ap + 1) + 2) 2)))))]) 143 2 zC dX5_readNumbers_142 rfl (by omega) (by rw [upd_nIf]; first | done | rfl) ?_
          refine v_goto 184 zC dX5_readNumbers_143 ?_
          refine v_vret zC zT dX5_readNumbers_184  ?_
          first | (have g9 := hAc; exact Or.inl ⟨_, fd_n (i := 3) (k := 2) (fd_n (i := 1) (k := 2) hAa hAb) hAc, (by first | exact tls_111 (by rw [un_n (by omega), un_n (by omega), un_s, numb1]) (by rw [un_n (by omega), un_s, numb2]) (by rw [un_s, numb2]) | exact tls_99 (by rw [un_n (by omega), un_n (by omega), un_s, numb1]) (by rw [un_n (by omega), un_s, numb2]) (by rw [un_s, numb2])), (fun z hz => by repeat (rw [un_n (by omega)])), rfl, rfl⟩) | (have g9 := hBc; rw [show ap + 1 + 2 + jc = ap + (3 + jc) from by omega]; exact Or.inr ⟨_, _, fd_s (i := 3) (k := 2) (fd_n (i := 1) (k := 2) hAa hAb) hBc, by omega, (fun z hz => by repeat (rw [un_n (by omega)])), rfl, rfl⟩) | (have g9 := hBb5; rw [show ap + 1 + jb5 = ap + (1 + jb5) from by omega]; exact Or.inr ⟨_, _, fd_m (i := 3) (k := 2) (fd_s (i := 1) (k := 2) hAa hBb5), by omega, (fun z hz => by repeat (rw [un_n (by omega)])), rfl, rfl⟩) | (have g9 := hBa5; exact Or.inr ⟨_, _, fd_m (i := 1) (k := 4) hBa5, by omega, (fun z hz => by repeat (rw [un_n (by omega)])), rfl, rfl⟩) | (have g9 := hAe; exact Or.inl ⟨_, fd_n (i := 2) (k := 1) (fd_n (i := 1) (k := 1) hAa3 hAd) hAe, (tls_100 (by rw [un_n (by omega), un_n (by omega), un_s, numb1]) (by rw [un_n (by omega), un_s, numb1]) (by rw [un_s, numb1])), (fun z hz => by repeat (rw [un_n (by omega)])), rfl, rfl⟩) | (have g9 := hBe; rw [show ap + 1 + 1 + je = ap + (2 + je) from by omega]; exact Or.inr ⟨_, _, fd_s (i := 2) (k := 1) (fd_n (i := 1) (k := 1) hAa3 hAd) hBe, by omega, (fun z hz => by repeat (rw [un_n (by omega)])), rfl, rfl⟩) | (have g9 := hBd; rw [show ap + 1 + jd = ap + (1 + jd) from by omega]; exact Or.inr ⟨_, _, fd_m (i := 2) (k := 1) (fd_s (i := 1) (k := 1) hAa3 hBd), by omega, (fun z hz => by repeat (rw [un_n (by omega)])), rfl, rfl⟩) | (have g9 := hBa3; exact Or.inr ⟨_, _, fd_m (i := 1) (k := 2) hBa3, by omega, (fun z hz => by repeat (rw [un_n (by omega)])), rfl, rfl⟩) | (have g9 := hAh; exact Or.inl ⟨_, fd_n (i := 1) (k := 1) hAg hAh, (tls_107 (by rw [un_n (by omega), un_s, numb1]) (by rw [un_s, numb1])), (fun z hz => by repeat (rw [un_n (by omega)])), rfl, rfl⟩) | (have g9 := hBh; rw [show ap + 1 + jh = ap + (1 + jh) from by omega]; exact Or.inr ⟨_, _, fd_s (i := 1) (k := 1) hAg hBh, by omega, (fun z hz => by repeat (rw [un_n (by omega)])), rfl, rfl⟩) | (have g9 := hBg; exact Or.inr ⟨_, _, fd_m (i := 1) (k := 1) hBg, by omega, (fun z hz => by repeat (rw [un_n (by omega)])), rfl, rfl⟩) | (have g9 := hAp; exact Or.inl ⟨_, hAp, (by first | exact tls_112 (by rw [un_s, numb2]) | exact tls_115 (by rw [un_s, numb1])), (fun z hz => by repeat (rw [un_n (by omega)])), rfl, rfl⟩) | (have g9 := hBp; exact Or.inr ⟨_, _, hBp, by omega, (fun z hz => by repeat (rw [un_n (by omega)])), rfl, rfl⟩)
        ·
          show VV E 0 0 142 [(0, .ref r0), (1, .int (nI 111)), (2, .int (nI i))] [.int (nI 0), .int (nI (i + 2)), .ref k23] [(r0, .inr (5, [.int (nI n), .ref k1, .ref k2, .ref k3, .ref k4, .int (nI m), .ref k6, .ref k7, .ref k8, .int (nI 0), .ref k10, .int (nI aw), .ref k12, .ref k13, .ref k14, .ref k15, .ref k16, .int (nI ls), .int (nI (((ap + 1) + 2) + j_104)), .int (bz true), .int (nI sq), .ref k21, .ref k22, .ref k23, .ref k24, .ref k25, .int (bz pd), .int (nI pl), .int (bz tk), kv, .ref k30, .ref k31, .int (nI tz), .ref k33, .int (nI rs), .int sd])), (k16, .inl (cI, 96, .inl (nIf sg))), (k23, .inl (cI, 147, .inl (nIf (un (un tl i (NUMB sg ap 1)) (i + 1) (NUMB sg (ap + 1) 2)))))]
          obtain ⟨jc, hej⟩ : ∃ z, z = j_104 := ⟨_, rfl⟩
          subst hej
          have hBc := hf_105
          have hCc := hj_106
          refine v_iasn (ws2 := [(r0, .inr (5, [.int (nI n), .ref k1, .ref k2, .ref k3, .ref k4, .int (nI m), .ref k6, .ref k7, .ref k8, .int (nI 0), .ref k10, .int (nI aw), .ref k12, .ref k13, .ref k14, .ref k15, .ref k16, .int (nI ls), .int (nI (((ap + 1) + 2) + jc)), .int (bz true), .int (nI sq), .ref k21, .ref k22, .ref k23, .ref k24, .ref k25, .int (bz pd), .int (nI pl), .int (bz tk), kv, .ref k30, .ref k31, .int (nI tz), .ref k33, .int (nI rs), .int sd])), (k16, .inl (cI, 96, .inl (nIf sg))), (k23, .inl (cI, 147, .inl (nIf (un (un (un tl i (NUMB sg ap 1)) (i + 1) (NUMB sg (ap + 1) 2)) (i + 2) 0))))]) 143 2 zC dX5_readNumbers_142 rfl (by omega) (by rw [upd_nIf]; first | done | rfl) ?_
          refine v_goto 184 zC dX5_readNumbers_143 ?_
          refine v_vret zC zT dX5_readNumbers_184  ?_
          first | (have g9 := hAc; exact Or.inl ⟨_, fd_n (i := 3) (k := 2) (fd_n (i := 1) (k := 2) hAa hAb) hAc, (by first | exact tls_111 (by rw [un_n (by omega), un_n (by omega), un_s, numb1]) (by rw [un_n (by omega), un_s, numb2]) (by rw [un_s, numb2]) | exact tls_99 (by rw [un_n (by omega), un_n (by omega), un_s, numb1]) (by rw [un_n (by omega), un_s, numb2]) (by rw [un_s, numb2])), (fun z hz => by repeat (rw [un_n (by omega)])), rfl, rfl⟩) | (have g9 := hBc; rw [show ap + 1 + 2 + jc = ap + (3 + jc) from by omega]; exact Or.inr ⟨_, _, fd_s (i := 3) (k := 2) (fd_n (i := 1) (k := 2) hAa hAb) hBc, by omega, (fun z hz => by repeat (rw [un_n (by omega)])), rfl, rfl⟩) | (have g9 := hBb5; rw [show ap + 1 + jb5 = ap + (1 + jb5) from by omega]; exact Or.inr ⟨_, _, fd_m (i := 3) (k := 2) (fd_s (i := 1) (k := 2) hAa hBb5), by omega, (fun z hz => by repeat (rw [un_n (by omega)])), rfl, rfl⟩) | (have g9 := hBa5; exact Or.inr ⟨_, _, fd_m (i := 1) (k := 4) hBa5, by omega, (fun z hz => by repeat (rw [un_n (by omega)])), rfl, rfl⟩) | (have g9 := hAe; exact Or.inl ⟨_, fd_n (i := 2) (k := 1) (fd_n (i := 1) (k := 1) hAa3 hAd) hAe, (tls_100 (by rw [un_n (by omega), un_n (by omega), un_s, numb1]) (by rw [un_n (by omega), un_s, numb1]) (by rw [un_s, numb1])), (fun z hz => by repeat (rw [un_n (by omega)])), rfl, rfl⟩) | (have g9 := hBe; rw [show ap + 1 + 1 + je = ap + (2 + je) from by omega]; exact Or.inr ⟨_, _, fd_s (i := 2) (k := 1) (fd_n (i := 1) (k := 1) hAa3 hAd) hBe, by omega, (fun z hz => by repeat (rw [un_n (by omega)])), rfl, rfl⟩) | (have g9 := hBd; rw [show ap + 1 + jd = ap + (1 + jd) from by omega]; exact Or.inr ⟨_, _, fd_m (i := 2) (k := 1) (fd_s (i := 1) (k := 1) hAa3 hBd), by omega, (fun z hz => by repeat (rw [un_n (by omega)])), rfl, rfl⟩) | (have g9 := hBa3; exact Or.inr ⟨_, _, fd_m (i := 1) (k := 2) hBa3, by omega, (fun z hz => by repeat (rw [un_n (by omega)])), rfl, rfl⟩) | (have g9 := hAh; exact Or.inl ⟨_, fd_n (i := 1) (k := 1) hAg hAh, (tls_107 (by rw [un_n (by omega), un_s, numb1]) (by rw [un_s, numb1])), (fun z hz => by repeat (rw [un_n (by omega)])), rfl, rfl⟩) | (have g9 := hBh; rw [show ap + 1 + jh = ap + (1 + jh) from by omega]; exact Or.inr ⟨_, _, fd_s (i := 1) (k := 1) hAg hBh, by omega, (fun z hz => by repeat (rw [un_n (by omega)])), rfl, rfl⟩) | (have g9 := hBg; exact Or.inr ⟨_, _, fd_m (i := 1) (k := 1) hBg, by omega, (fun z hz => by repeat (rw [un_n (by omega)])), rfl, rfl⟩) | (have g9 := hAp; exact Or.inl ⟨_, hAp, (by first | exact tls_112 (by rw [un_s, numb2]) | exact tls_115 (by rw [un_s, numb1])), (fun z hz => by repeat (rw [un_n (by omega)])), rfl, rfl⟩) | (have g9 := hBp; exact Or.inr ⟨_, _, hBp, by omega, (fun z hz => by repeat (rw [un_n (by omega)])), rfl, rfl⟩)
      ·
        show VV E 0 0 129 [(0, .ref r0), (1, .int (nI 111)), (2, .int (nI i))] [.int (nI 0), .int (nI (i + 1)), .ref k23] [(r0, .inr (5, [.int (nI n), .ref k1, .ref k2, .ref k3, .ref k4, .int (nI m), .ref k6, .ref k7, .ref k8, .int (nI 0), .ref k10, .int (nI aw), .ref k12, .ref k13, .ref k14, .ref k15, .ref k16, .int (nI ls), .int (nI ((ap + 1) + j_95)), .int (bz true), .int (nI sq), .ref k21, .ref k22, .ref k23, .ref k24, .ref k25, .int (bz pd), .int (nI pl), .int (bz tk), kv, .ref k30, .ref k31, .int (nI tz), .ref k33, .int (nI rs), .int sd])), (k16, .inl (cI, 96, .inl (nIf sg))), (k23, .inl (cI, 147, .inl (nIf (un tl i (NUMB sg ap 1)))))]
        obtain ⟨jb5, hej⟩ : ∃ z, z = j_95 := ⟨_, rfl⟩
        subst hej
        have hBb5 := hf_96
        have hCb5 := hj_97
        refine v_iasn (ws2 := [(r0, .inr (5, [.int (nI n), .ref k1, .ref k2, .ref k3, .ref k4, .int (nI m), .ref k6, .ref k7, .ref k8, .int (nI 0), .ref k10, .int (nI aw), .ref k12, .ref k13, .ref k14, .ref k15, .ref k16, .int (nI ls), .int (nI ((ap + 1) + jb5)), .int (bz true), .int (nI sq), .ref k21, .ref k22, .ref k23, .ref k24, .ref k25, .int (bz pd), .int (nI pl), .int (bz tk), kv, .ref k30, .ref k31, .int (nI tz), .ref k33, .int (nI rs), .int sd])), (k16, .inl (cI, 96, .inl (nIf sg))), (k23, .inl (cI, 147, .inl (nIf (un (un tl i (NUMB sg ap 1)) (i + 1) 0))))]) 130 2 zC dX5_readNumbers_129 rfl (by omega) (by rw [upd_nIf]; first | done | rfl) ?_
        refine v_al_n 131 zC dX5_readNumbers_130 0 rfl ?_
        refine v_gf 134 0 zC dX5_readNumbers_131 gf_X5_55 rfl rfl ?_
        refine v_il_n 135 zC dX5_readNumbers_134 2 rfl ?_
        refine v_ic (v := (nI 2)) 136 zC dX5_readNumbers_135 (by decide +kernel) ?_
        refine v_iadd (v := (nI (i + 2))) 137 zC dX5_readNumbers_136 (nI_add _ _) ?_
        refine v_al_n 138 zC dX5_readNumbers_137 0 rfl ?_
        refine v_ic (v := (nI 2)) 139 zC dX5_readNumbers_138 (by decide +kernel) ?_
        refine v_cV (As := [.int (nI 2)]) (st := [.int (nI (i + 2)), .ref k23]) 142 0 [0, 1] zC dX5_readNumbers_139 hA (c_X5_readDigits__T (ev_l E) (ev_D E) cI (r0 := r0) (k1 := k1) (k2 := k2) (k3 := k3) (k4 := k4) (k6 := k6) (k7 := k7) (k8 := k8) (k10 := k10) (k12 := k12) (k13 := k13) (k14 := k14) (k15 := k15) (k16 := k16) (k21 := k21) (k22 := k22) (k23 := k23) (k24 := k24) (k25 := k25) (k30 := k30) (k31 := k31) (k33 := k33) (n := n) (m := m) (aw := aw) (ls := ls) (ap := ((ap + 1) + jb5)) (sq := sq) (pl := pl) (tz := tz) (rs := rs) (pd := pd) (tk := tk) (kv := kv) (sd := sd) (sg := sg) (k := 2) (hk := (by first | omega | assumption | rfl | (simp only []; omega) | decide))) cf_X5_readDigits lk_X5_150 rfl rfl rfl rfl rfl (by decide +kernel) (Nat.le_of_ble_eq_true rfl) (fun rv_107 wv_108 hp_109 hm_110 => ?_)
        clear hm_110
        obtain ⟨rfl, rfl⟩ := hp_109
        show VV E 0 0 142 [(0, .ref r0), (1, .int (nI 111)), (2, .int (nI i))] [.int (nI 0), .int (nI (i + 2)), .ref k23] [(r0, .inr (5, [.int (nI n), .ref k1, .ref k2, .ref k3, .ref k4, .int (nI m), .ref k6, .ref k7, .ref k8, .int (nI 0), .ref k10, .int (nI aw), .ref k12, .ref k13, .ref k14, .ref k15, .ref k16, .int (nI ls), .int (nI ((ap + 1) + jb5)), .int (bz true), .int (nI sq), .ref k21, .ref k22, .ref k23, .ref k24, .ref k25, .int (bz pd), .int (nI pl), .int (bz tk), kv, .ref k30, .ref k31, .int (nI tz), .ref k33, .int (nI rs), .int sd])), (k16, .inl (cI, 96, .inl (nIf sg))), (k23, .inl (cI, 147, .inl (nIf (un (un tl i (NUMB sg ap 1)) (i + 1) 0))))]
        have hAc := @0
        have hLc := @1
        refine v_iasn (ws2 := [(r0, .inr (5, [.int (nI n), .ref k1, .ref k2, .ref k3, .ref k4, .int (nI m), .ref k6, .ref k7, .ref k8, .int (nI 0), .ref k10, .int (nI aw), .ref k12, .ref k13, .ref k14, .ref k15, .ref k16, .int (nI ls), .int (nI ((ap + 1) + jb5)), .int (bz true), .int (nI sq), .ref k21, .ref k22, .ref k23, .ref k24, .ref k25, .int (bz pd), .int (nI pl), .int (bz tk), kv, .ref k30, .ref k31, .int (nI tz), .ref k33, .int (nI rs), .int sd])), (k16, .inl (cI, 96, .inl (nIf sg))), (k23, .inl (cI, 147, .inl (nIf (un (un (un tl i (NUMB sg ap 1)) (i + 1) 0) (i + 2) 0))))]) 143 2 zC dX5_readNumbers_142 rfl (by omega) (by rw [upd_nIf]; first | done | rfl) ?_
        refine v_goto 184 zC dX5_readNumbers_143 ?_
        refine v_vret zC zT dX5_readNumbers_184  ?_
        first | (have g9 := hAc; exact Or.inl ⟨_, fd_n (i := 3) (k := 2) (fd_n (i := 1) (k := 2) hAa hAb) hAc, (by first | exact tls_111 (by rw [un_n (by omega), un_n (by omega), un_s, numb1]) (by rw [un_n (by omega), un_s, numb2]) (by rw [un_s, numb2]) | exact tls_99 (by rw [un_n (by omega), un_n (by omega), un_s, numb1]) (by rw [un_n (by omega), un_s, numb2]) (by rw [un_s, numb2])), (fun z hz => by repeat (rw [un_n (by omega)])), rfl, rfl⟩) | (have g9 := hBc; rw [show ap + 1 + 2 + jc = ap + (3 + jc) from by omega]; exact Or.inr ⟨_, _, fd_s (i := 3) (k := 2) (fd_n (i := 1) (k := 2) hAa hAb) hBc, by omega, (fun z hz => by repeat (rw [un_n (by omega)])), rfl, rfl⟩) | (have g9 := hBb5; rw [show ap + 1 + jb5 = ap + (1 + jb5) from by omega]; exact Or.inr ⟨_, _, fd_m (i := 3) (k := 2) (fd_s (i := 1) (k := 2) hAa hBb5), by omega, (fun z hz => by repeat (rw [un_n (by omega)])), rfl, rfl⟩) | (have g9 := hBa5; exact Or.inr ⟨_, _, fd_m (i := 1) (k := 4) hBa5, by omega, (fun z hz => by repeat (rw [un_n (by omega)])), rfl, rfl⟩) | (have g9 := hAe; exact Or.inl ⟨_, fd_n (i := 2) (k := 1) (fd_n (i := 1) (k := 1) hAa3 hAd) hAe, (tls_100 (by rw [un_n (by omega), un_n (by omega), un_s, numb1]) (by rw [un_n (by omega), un_s, numb1]) (by rw [un_s, numb1])), (fun z hz => by repeat (rw [un_n (by omega)])), rfl, rfl⟩) | (have g9 := hBe; rw [show ap + 1 + 1 + je = ap + (2 + je) from by omega]; exact Or.inr ⟨_, _, fd_s (i := 2) (k := 1) (fd_n (i := 1) (k := 1) hAa3 hAd) hBe, by omega, (fun z hz => by repeat (rw [un_n (by omega)])), rfl, rfl⟩) | (have g9 := hBd; rw [show ap + 1 + jd = ap + (1 + jd) from by omega]; exact Or.inr ⟨_, _, fd_m (i := 2) (k := 1) (fd_s (i := 1) (k := 1) hAa3 hBd), by omega, (fun z hz => by repeat (rw [un_n (by omega)])), rfl, rfl⟩) | (have g9 := hBa3; exact Or.inr ⟨_, _, fd_m (i := 1) (k := 2) hBa3, by omega, (fun z hz => by repeat (rw [un_n (by omega)])), rfl, rfl⟩) | (have g9 := hAh; exact Or.inl ⟨_, fd_n (i := 1) (k := 1) hAg hAh, (tls_107 (by rw [un_n (by omega), un_s, numb1]) (by rw [un_s, numb1])), (fun z hz => by repeat (rw [un_n (by omega)])), rfl, rfl⟩) | (have g9 := hBh; rw [show ap + 1 + jh = ap + (1 + jh) from by omega]; exact Or.inr ⟨_, _, fd_s (i := 1) (k := 1) hAg hBh, by omega, (fun z hz => by repeat (rw [un_n (by omega)])), rfl, rfl⟩) | (have g9 := hBg; exact Or.inr ⟨_, _, fd_m (i := 1) (k := 1) hBg, by omega, (fun z hz => by repeat (rw [un_n (by omega)])), rfl, rfl⟩) | (have g9 := hAp; exact Or.inl ⟨_, hAp, (by first | exact tls_112 (by rw [un_s, numb2]) | exact tls_115 (by rw [un_s, numb1])), (fun z hz => by repeat (rw [un_n (by omega)])), rfl, rfl⟩) | (have g9 := hBp; exact Or.inr ⟨_, _, hBp, by omega, (fun z hz => by repeat (rw [un_n (by omega)])), rfl, rfl⟩)
    ·
      show VV E 0 0 116 [(0, .ref r0), (1, .int (nI 111)), (2, .int (nI i))] [.int (nI 0), .int (nI i), .ref k23] [(r0, .inr (5, [.int (nI n), .ref k1, .ref k2, .ref k3, .ref k4, .int (nI m), .ref k6, .ref k7, .ref k8, .int (nI 0), .ref k10, .int (nI aw), .ref k12, .ref k13, .ref k14, .ref k15, .ref k16, .int (nI ls), .int (nI (ap + j_86)), .int (bz true), .int (nI sq), .ref k21, .ref k22, .ref k23, .ref k24, .ref k25, .int (bz pd), .int (nI pl), .int (bz tk), kv, .ref k30, .ref k31, .int (nI tz), .ref k33, .int (nI rs), .int sd])), (k16, .inl (cI, 96, .inl (nIf sg))), (k23, .inl (cI, 147, .inl (nIf tl)))]
      obtain ⟨ja5, hej⟩ : ∃ z, z = j_86 := ⟨_, rfl⟩
      subst hej
      have hBa5 := hf_87
      have hCa5 := hj_88
      refine v_iasn (ws2 := [(r0, .inr (5, [.int (nI n), .ref k1, .ref k2, .ref k3, .ref k4, .int (nI m), .ref k6, .ref k7, .ref k8, .int (nI 0), .ref k10, .int (nI aw), .ref k12, .ref k13, .ref k14, .ref k15, .ref k16, .int (nI ls), .int (nI (ap + ja5)), .int (bz true), .int (nI sq), .ref k21, .ref k22, .ref k23, .ref k24, .ref k25, .int (bz pd), .int (nI pl), .int (bz tk), kv, .ref k30, .ref k31, .int (nI tz), .ref k33, .int (nI rs), .int sd])), (k16, .inl (cI, 96, .inl (nIf sg))), (k23, .inl (cI, 147, .inl (nIf (un tl i 0))))]) 117 2 zC dX5_readNumbers_116 rfl (by omega) (by rw [upd_nIf]; first | done | rfl) ?_
      refine v_al_n 118 zC dX5_readNumbers_117 0 rfl ?_
      refine v_gf 121 0 zC dX5_readNumbers_118 gf_X5_55 rfl rfl ?_
      refine v_il_n 122 zC dX5_readNumbers_121 2 rfl ?_
      refine v_ic (v := (nI 1)) 123 zC dX5_readNumbers_122 (by decide +kernel) ?_
      refine v_iadd (v := (nI (i + 1))) 124 zC dX5_readNumbers_123 (nI_add _ _) ?_
      refine v_al_n 125 zC dX5_readNumbers_124 0 rfl ?_
      refine v_ic (v := (nI 2)) 126 zC dX5_readNumbers_125 (by decide +kernel) ?_
      refine v_cV (As := [.int (nI 2)]) (st := [.int (nI (i + 1)), .ref k23]) 129 0 [0, 1] zC dX5_readNumbers_126 hA (c_X5_readDigits__T (ev_l E) (ev_D E) cI (r0 := r0) (k1 := k1) (k2 := k2) (k3 := k3) (k4 := k4) (k6 := k6) (k7 := k7) (k8 := k8) (k10 := k10) (k12 := k12) (k13 := k13) (k14 := k14) (k15 := k15) (k16 := k16) (k21 := k21) (k22 := k22) (k23 := k23) (k24 := k24) (k25 := k25) (k30 := k30) (k31 := k31) (k33 := k33) (n := n) (m := m) (aw := aw) (ls := ls) (ap := (ap + ja5)) (sq := sq) (pl := pl) (tz := tz) (rs := rs) (pd := pd) (tk := tk) (kv := kv) (sd := sd) (sg := sg) (k := 2) (hk := (by first | omega | assumption | rfl | (simp only []; omega) | decide))) cf_X5_readDigits lk_X5_150 rfl rfl rfl rfl rfl (by decide +kernel) (Nat.le_of_ble_eq_true rfl) (fun rv_111 wv_112 hp_113 hm_114 => ?_)
      clear hm_114
      obtain ⟨rfl, rfl⟩ := hp_113
      show VV E 0 0 129 [(0, .ref r0), (1, .int (nI 111)), (2, .int (nI i))] [.int (nI 0), .int (nI (i + 1)), .ref k23] [(r0, .inr (5, [.int (nI n), .ref k1, .ref k2, .ref k3, .ref k4, .int (nI m), .ref k6, .ref k7, .ref k8, .int (nI 0), .ref k10, .int (nI aw), .ref k12, .ref k13, .ref k14, .ref k15, .ref k16, .int (nI ls), .int (nI (ap + ja5)), .int (bz true), .int (nI sq), .ref k21, .ref k22, .ref k23, .ref k24, .ref k25, .int (bz pd), .int (nI pl), .int (bz tk), kv, .ref k30, .ref k31, .int (nI tz), .ref k33, .int (nI rs), .int sd])), (k16, .inl (cI, 96, .inl (nIf sg))), (k23, .inl (cI, 147, .inl (nIf (un tl i 0))))]
      have hAb := @0
      have hLb := @1
      refine v_iasn (ws2 := [(r0, .inr (5, [.int (nI n), .ref k1, .ref k2, .ref k3, .ref k4, .int (nI m), .ref k6, .ref k7, .ref k8, .int (nI 0), .ref k10, .int (nI aw), .ref k12, .ref k13, .ref k14, .ref k15, .ref k16, .int (nI ls), .int (nI (ap + ja5)), .int (bz true), .int (nI sq), .ref k21, .ref k22, .ref k23, .ref k24, .ref k25, .int (bz pd), .int (nI pl), .int (bz tk), kv, .ref k30, .ref k31, .int (nI tz), .ref k33, .int (nI rs), .int sd])), (k16, .inl (cI, 96, .inl (nIf sg))), (k23, .inl (cI, 147, .inl (nIf (un (un tl i 0) (i + 1) 0))))]) 130 2 zC dX5_readNumbers_129 rfl (by omega) (by rw [upd_nIf]; first | done | rfl) ?_
      refine v_al_n 131 zC dX5_readNumbers_130 0 rfl ?_
      refine v_gf 134 0 zC dX5_readNumbers_131 gf_X5_55 rfl rfl ?_
      refine v_il_n 135 zC dX5_readNumbers_134 2 rfl ?_
      refine v_ic (v := (nI 2)) 136 zC dX5_readNumbers_135 (by decide +kernel) ?_
      refine v_iadd (v := (nI (i + 2))) 137 zC dX5_readNumbers_136 (nI_add _ _) ?_
      refine v_al_n 138 zC dX5_readNumbers_137 0 rfl ?_
      refine v_ic (v := (nI 2)) 139 zC dX5_readNumbers_138 (by decide +kernel) ?_
      refine v_cV (As := [.int (nI 2)]) (st := [.int (nI (i + 2)), .ref k23]) 142 0 [0, 1] zC dX5_readNumbers_139 hA (c_X5_readDigits__T (ev_l E) (ev_D E) cI (r0 := r0) (k1 := k1) (k2 := k2) (k3 := k3) (k4 := k4) (k6 := k6) (k7 := k7) (k8 := k8) (k10 := k10) (k12 := k12) (k13 := k13) (k14 := k14) (k15 := k15) (k16 := k16) (k21 := k21) (k22 := k22) (k23 := k23) (k24 := k24) (k25 := k25) (k30 := k30) (k31 := k31) (k33 := k33) (n := n) (m := m) (aw := aw) (ls := ls) (ap := (ap + ja5)) (sq := sq) (pl := pl) (tz := tz) (rs := rs) (pd := pd) (tk := tk) (kv := kv) (sd := sd) (sg := sg) (k := 2) (hk := (by first | omega | assumption | rfl | (simp only []; omega) | decide))) cf_X5_readDigits lk_X5_150 rfl rfl rfl rfl rfl (by decide +kernel) (Nat.le_of_ble_eq_true rfl) (fun rv_115 wv_116 hp_117 hm_118 => ?_)
      clear hm_118
      obtain ⟨rfl, rfl⟩ := hp_117
      show VV E 0 0 142 [(0, .ref r0), (1, .int (nI 111)), (2, .int (nI i))] [.int (nI 0), .int (nI (i + 2)), .ref k23] [(r0, .inr (5, [.int (nI n), .ref k1, .ref k2, .ref k3, .ref k4, .int (nI m), .ref k6, .ref k7, .ref k8, .int (nI 0), .ref k10, .int (nI aw), .ref k12, .ref k13, .ref k14, .ref k15, .ref k16, .int (nI ls), .int (nI (ap + ja5)), .int (bz true), .int (nI sq), .ref k21, .ref k22, .ref k23, .ref k24, .ref k25, .int (bz pd), .int (nI pl), .int (bz tk), kv, .ref k30, .ref k31, .int (nI tz), .ref k33, .int (nI rs), .int sd])), (k16, .inl (cI, 96, .inl (nIf sg))), (k23, .inl (cI, 147, .inl (nIf (un (un tl i 0) (i + 1) 0))))]
      have hAc := @0
      have hLc := @1
      refine v_iasn (ws2 := [(r0, .inr (5, [.int (nI n), .ref k1, .ref k2, .ref k3, .ref k4, .int (nI m), .ref k6, .ref k7, .ref k8, .int (nI 0), .ref k10, .int (nI aw), .ref k12, .ref k13, .ref k14, .ref k15, .ref k16, .int (nI ls), .int (nI (ap + ja5)), .int (bz true), .int (nI sq), .ref k21, .ref k22, .ref k23, .ref k24, .ref k25, .int (bz pd), .int (nI pl), .int (bz tk), kv, .ref k30, .ref k31, .int (nI tz), .ref k33, .int (nI rs), .int sd])), (k16, .inl (cI, 96, .inl (nIf sg))), (k23, .inl (cI, 147, .inl (nIf (un (un (un tl i 0) (i + 1) 0) (i + 2) 0))))]) 143 2 zC dX5_readNumbers_142 rfl (by omega) (by rw [upd_nIf]; first | done | rfl) ?_
      refine v_goto 184 zC dX5_readNumbers_143 ?_
      refine v_vret zC zT dX5_readNumbers_184  ?_
      first | (have g9 := hAc; exact Or.inl ⟨_, fd_n (i := 3) (k := 2) (fd_n (i := 1) (k := 2) hAa hAb) hAc, (by first | exact tls_111 (by rw [un_n (by omega), un_n (by omega), un_s, numb1]) (by rw [un_n (by omega), un_s, numb2]) (by rw [un_s, numb2]) | exact tls_99 (by rw [un_n (by omega), un_n (by omega), un_s, numb1]) (by rw [un_n (by omega), un_s, numb2]) (by rw [un_s, numb2])), (fun z hz => by repeat (rw [un_n (by omega)])), rfl, rfl⟩) | (have g9 := hBc; rw [show ap + 1 + 2 + jc = ap + (3 + jc) from by omega]; exact Or.inr ⟨_, _, fd_s (i := 3) (k := 2) (fd_n (i := 1) (k := 2) hAa hAb) hBc, by omega, (fun z hz => by repeat (rw [un_n (by omega)])), rfl, rfl⟩) | (have g9 := hBb5; rw [show ap + 1 + jb5 = ap + (1 + jb5) from by omega]; exact Or.inr ⟨_, _, fd_m (i := 3) (k := 2) (fd_s (i := 1) (k := 2) hAa hBb5), by omega, (fun z hz => by repeat (rw [un_n (by omega)])), rfl, rfl⟩) | (have g9 := hBa5; exact Or.inr ⟨_, _, fd_m (i := 1) (k := 4) hBa5, by omega, (fun z hz => by repeat (rw [un_n (by omega)])), rfl, rfl⟩) | (have g9 := hAe; exact Or.inl ⟨_, fd_n (i := 2) (k := 1) (fd_n (i := 1) (k := 1) hAa3 hAd) hAe, (tls_100 (by rw [un_n (by omega), un_n (by omega), un_s, numb1]) (by rw [un_n (by omega), un_s, numb1]) (by rw [un_s, numb1])), (fun z hz => by repeat (rw [un_n (by omega)])), rfl, rfl⟩) | (have g9 := hBe; rw [show ap + 1 + 1 + je = ap + (2 + je) from by omega]; exact Or.inr ⟨_, _, fd_s (i := 2) (k := 1) (fd_n (i := 1) (k := 1) hAa3 hAd) hBe, by omega, (fun z hz => by repeat (rw [un_n (by omega)])), rfl, rfl⟩) | (have g9 := hBd; rw [show ap + 1 + jd = ap + (1 + jd) from by omega]; exact Or.inr ⟨_, _, fd_m (i := 2) (k := 1) (fd_s (i := 1) (k := 1) hAa3 hBd), by omega, (fun z hz => by repeat (rw [un_n (by omega)])), rfl, rfl⟩) | (have g9 := hBa3; exact Or.inr ⟨_, _, fd_m (i := 1) (k := 2) hBa3, by omega, (fun z hz => by repeat (rw [un_n (by omega)])), rfl, rfl⟩) | (have g9 := hAh; exact Or.inl ⟨_, fd_n (i := 1) (k := 1) hAg hAh, (tls_107 (by rw [un_n (by omega), un_s, numb1]) (by rw [un_s, numb1])), (fun z hz => by repeat (rw [un_n (by omega)])), rfl, rfl⟩) | (have g9 := hBh; rw [show ap + 1 + jh = ap + (1 + jh) from by omega]; exact Or.inr ⟨_, _, fd_s (i := 1) (k := 1) hAg hBh, by omega, (fun z hz => by repeat (rw [un_n (by omega)])), rfl, rfl⟩) | (have g9 := hBg; exact Or.inr ⟨_, _, fd_m (i := 1) (k := 1) hBg, by omega, (fun z hz => by repeat (rw [un_n (by omega)])), rfl, rfl⟩) | (have g9 := hAp; exact Or.inl ⟨_, hAp, (by first | exact tls_112 (by rw [un_s, numb2]) | exact tls_115 (by rw [un_s, numb1])), (fun z hz => by repeat (rw [un_n (by omega)])), rfl, rfl⟩) | (have g9 := hBp; exact Or.inr ⟨_, _, hBp, by omega, (fun z hz => by repeat (rw [un_n (by omega)])), rfl, rfl⟩)
  ·
    subst he9
    subst hs9
    refine v_lsw (off := 105) 106 zC dX5_readNumbers_1 ((by decide +kernel)) ?_
    refine v_al_n 107 zC dX5_readNumbers_106 0 rfl ?_
    refine v_gf 110 0 zC dX5_readNumbers_107 gf_X5_55 rfl rfl ?_
    refine v_il_n 111 zC dX5_readNumbers_110 2 rfl ?_
    refine v_al_n 112 zC dX5_readNumbers_111 0 rfl ?_
    refine v_ic (v := (nI 1)) 113 zC dX5_readNumbers_112 (by decide +kernel) ?_
    refine v_cV (As := [.int (nI 1)]) (st := [.int (nI i), .ref k23]) 116 0 [0, 1] zC dX5_readNumbers_113 hA (c_X5_readDigits__F (ev_l E) (ev_D E) cI (r0 := r0) (k1 := k1) (k2 := k2) (k3 := k3) (k4 := k4) (k6 := k6) (k7 := k7) (k8 := k8) (k10 := k10) (k12 := k12) (k13 := k13) (k14 := k14) (k15 := k15) (k16 := k16) (k21 := k21) (k22 := k22) (k23 := k23) (k24 := k24) (k25 := k25) (k30 := k30) (k31 := k31) (k33 := k33) (n := n) (m := m) (aw := aw) (ls := ls) (ap := ap) (sq := sq) (pl := pl) (tz := tz) (rs := rs) (pd := pd) (tk := tk) (kv := kv) (sd := sd) (sg := sg) (k := 1) (hl := (by first | omega | assumption | rfl | (simp only []; omega) | decide)) (hsg := (by first | omega | assumption | rfl | (simp only []; omega) | decide)) (ha := (by first | omega | assumption | rfl | (simp only []; omega) | decide)) (hk := (by first | omega | assumption | rfl | (simp only []; omega) | decide))) cf_X5_readDigits lk_X5_150 rfl rfl rfl rfl rfl (by decide +kernel) (Nat.le_of_ble_eq_true rfl) (fun rv_119 wv_120 hp_121 hm_122 => ?_)
    clear hm_122
    rcases hp_121 with ⟨hf_123, hj_124, rfl, rfl⟩ | ⟨j_125, hf_126, hj_127, rfl, rfl⟩
    ·
      show VV E 0 0 116 [(0, .ref r0), (1, .int (nI 99)), (2, .int (nI i))] [.int (nI (NUMB sg ap 1)), .int (nI i), .ref k23] [(r0, .inr (5, [.int (nI n), .ref k1, .ref k2, .ref k3, .ref k4, .int (nI m), .ref k6, .ref k7, .ref k8, .int (nI 0), .ref k10, .int (nI aw), .ref k12, .ref k13, .ref k14, .ref k15, .ref k16, .int (nI ls), .int (nI (ap + 1)), .int (bz false), .int (nI sq), .ref k21, .ref k22, .ref k23, .ref k24, .ref k25, .int (bz pd), .int (nI pl), .int (bz tk), kv, .ref k30, .ref k31, .int (nI tz), .ref k33, .int (nI rs), .int sd])), (k16, .inl (cI, 96, .inl (nIf sg))), (k23, .inl (cI, 147, .inl (nIf tl)))]
      have hAa := hf_123
      have hLa := hj_124
      refine v_iasn (ws2 := [(r0, .inr (5, [.int (nI n), .ref k1, .ref k2, .ref k3, .ref k4, .int (nI m), .ref k6, .ref k7, .ref k8, .int (nI 0), .ref k10, .int (nI aw), .ref k12, .ref k13, .ref k14, .ref k15, .ref k16, .int (nI ls), .int (nI (ap + 1)), .int (bz false), .int (nI sq), .ref k21, .ref k22, .ref k23, .ref k24, .ref k25, .int (bz pd), .int (nI pl), .int (bz tk), kv, .ref k30, .ref k31, .int (nI tz), .ref k33, .int (nI rs), .int sd])), (k16, .inl (cI, 96, .inl (nIf sg))), (k23, .inl (cI, 147, .inl (nIf (un tl i (NUMB sg ap 1)))))]) 117 2 zC dX5_readNumbers_116 rfl (by omega) (by rw [upd_nIf]; first | done | rfl) ?_
      refine v_al_n 118 zC dX5_readNumbers_117 0 rfl ?_
      refine v_gf 121 0 zC dX5_readNumbers_118 gf_X5_55 rfl rfl ?_
      refine v_il_n 122 zC dX5_readNumbers_121 2 rfl ?_
      refine v_ic (v := (nI 1)) 123 zC dX5_readNumbers_122 (by decide +kernel) ?_
      refine v_iadd (v := (nI (i + 1))) 124 zC dX5_readNumbers_123 (nI_add _ _) ?_
      refine v_al_n 125 zC dX5_readNumbers_124 0 rfl ?_
      refine v_ic (v := (nI 2)) 126 zC dX5_readNumbers_125 (by decide +kernel) ?_
      refine v_cV (As := [.int (nI 2)]) (st := [.int (nI (i + 1)), .ref k23]) 129 0 [0, 1] zC dX5_readNumbers_126 hA (c_X5_readDigits__F (ev_l E) (ev_D E) cI (r0 := r0) (k1 := k1) (k2 := k2) (k3 := k3) (k4 := k4) (k6 := k6) (k7 := k7) (k8 := k8) (k10 := k10) (k12 := k12) (k13 := k13) (k14 := k14) (k15 := k15) (k16 := k16) (k21 := k21) (k22 := k22) (k23 := k23) (k24 := k24) (k25 := k25) (k30 := k30) (k31 := k31) (k33 := k33) (n := n) (m := m) (aw := aw) (ls := ls) (ap := (ap + 1)) (sq := sq) (pl := pl) (tz := tz) (rs := rs) (pd := pd) (tk := tk) (kv := kv) (sd := sd) (sg := sg) (k := 2) (hl := (by first | omega | assumption | rfl | (simp only []; omega) | decide)) (hsg := (by first | omega | assumption | rfl | (simp only []; omega) | decide)) (ha := (by first | omega | assumption | rfl | (simp only []; omega) | decide)) (hk := (by first | omega | assumption | rfl | (simp only []; omega) | decide))) cf_X5_readDigits lk_X5_150 rfl rfl rfl rfl rfl (by decide +kernel) (Nat.le_of_ble_eq_true rfl) (fun rv_128 wv_129 hp_130 hm_131 => ?_)
      clear hm_131
      rcases hp_130 with ⟨hf_132, hj_133, rfl, rfl⟩ | ⟨j_134, hf_135, hj_136, rfl, rfl⟩
      ·
        show VV E 0 0 129 [(0, .ref r0), (1, .int (nI 99)), (2, .int (nI i))] [.int (nI (NUMB sg (ap + 1) 2)), .int (nI (i + 1)), .ref k23] [(r0, .inr (5, [.int (nI n), .ref k1, .ref k2, .ref k3, .ref k4, .int (nI m), .ref k6, .ref k7, .ref k8, .int (nI 0), .ref k10, .int (nI aw), .ref k12, .ref k13, .ref k14, .ref k15, .ref k16, .int (nI ls), .int (nI ((ap + 1) + 2)), .int (bz false), .int (nI sq), .ref k21, .ref k22, .ref k23, .ref k24, .ref k25, .int (bz pd), .int (nI pl), .int (bz tk), kv, .ref k30, .ref k31, .int (nI tz), .ref k33, .int (nI rs), .int sd])), (k16, .inl (cI, 96, .inl (nIf sg))), (k23, .inl (cI, 147, .inl (nIf (un tl i (NUMB sg ap 1)))))]
        have hAb := hf_132
        have hLb := hj_133
        refine v_iasn (ws2 := [(r0, .inr (5, [.int (nI n), .ref k1, .ref k2, .ref k3, .ref k4, .int (nI m), .ref k6, .ref k7, .ref k8, .int (nI 0), .ref k10, .int (nI aw), .ref k12, .ref k13, .ref k14, .ref k15, .ref k16, .int (nI ls), .int (nI ((ap + 1) + 2)), .int (bz false), .int (nI sq), .ref k21, .ref k22, .ref k23, .ref k24, .ref k25, .int (bz pd), .int (nI pl), .int (bz tk), kv, .ref k30, .ref k31, .int (nI tz), .ref k33, .int (nI rs), .int sd])), (k16, .inl (cI, 96, .inl (nIf sg))), (k23, .inl (cI, 147, .inl (nIf (un (un tl i (NUMB sg ap 1)) (i + 1) (NUMB sg (ap + 1) 2)))))]) 130 2 zC dX5_readNumbers_129 rfl (by omega) (by rw [upd_nIf]; first | done | rfl) ?_
        refine v_al_n 131 zC dX5_readNumbers_130 0 rfl ?_
        refine v_gf 134 0 zC dX5_readNumbers_131 gf_X5_55 rfl rfl ?_
        refine v_il_n 135 zC dX5_readNumbers_134 2 rfl ?_
        refine v_ic (v := (nI 2)) 136 zC dX5_readNumbers_135 (by decide +kernel) ?_
        refine v_iadd (v := (nI (i + 2))) 137 zC dX5_readNumbers_136 (nI_add _ _) ?_
        refine v_al_n 138 zC dX5_readNumbers_137 0 rfl ?_
        refine v_ic (v := (nI 2)) 139 zC dX5_readNumbers_138 (by decide +kernel) ?_
        refine v_cV (As := [.int (nI 2)]) (st := [.int (nI (i + 2)), .ref k23]) 142 0 [0, 1] zC dX5_readNumbers_139 hA (c_X5_readDigits__F (ev_l E) (ev_D E) cI (r0 := r0) (k1 := k1) (k2 := k2) (k3 := k3) (k4 := k4) (k6 := k6) (k7 := k7) (k8 := k8) (k10 := k10) (k12 := k12) (k13 := k13) (k14 := k14) (k15 := k15) (k16 := k16) (k21 := k21) (k22 := k22) (k23 := k23) (k24 := k24) (k25 := k25) (k30 := k30) (k31 := k31) (k33 := k33) (n := n) (m := m) (aw := aw) (ls := ls) (ap := ((ap + 1) + 2)) (sq := sq) (pl := pl) (tz := tz) (rs := rs) (pd := pd) (tk := tk) (kv := kv) (sd := sd) (sg := sg) (k := 2) (hl := (by first | omega | assumption | rfl | (simp only []; omega) | decide)) (hsg := (by first | omega | assumption | rfl | (simp only []; omega) | decide)) (ha := (by first | omega | assumption | rfl | (simp only []; omega) | decide)) (hk := (by first | omega | assumption | rfl | (simp only []; omega) | decide))) cf_X5_readDigits lk_X5_150 rfl rfl rfl rfl rfl (by decide +kernel) (Nat.le_of_ble_eq_true rfl) (fun rv_137 wv_138 hp_139 hm_140 => ?_)
        clear hm_140
        rcases hp_139 with ⟨hf_141, hj_142, rfl, rfl⟩ | ⟨j_143, hf_144, hj_145, rfl, rfl⟩
        ·
          show VV E 0 0 142 [(0, .ref r0), (1, .int (nI 99)), (2, .int (nI i))] [.int (nI (NUMB sg ((ap + 1) + 2) 2)), .int (nI (i + 2)), .ref k23] [(r0, .inr (5, [.int (nI n), .ref k1, .ref k2, .ref k3, .ref k4, .int (nI m), .ref k6, .ref k7, .ref k8, .int (nI 0), .ref k10, .int (nI aw), .ref k12, .ref k13, .ref k14, .ref k15, .ref k16, .int (nI ls), .int (nI (((ap + 1) + 2) + 2)), .int (bz false), .int (nI sq), .ref k21, .ref k22, .ref k23, .ref k24, .ref k25, .int (bz pd), .int (nI pl), .int (bz tk), kv, .ref k30, .ref k31, .int (nI tz), .ref k33, .int (nI rs), .int sd])), (k16, .inl (cI, 96, .inl (nIf sg))), (k23, .inl (cI, 147, .inl (nIf (un (un tl i (NUMB sg ap 1)) (i + 1) (NUMB sg (ap + 1) 2)))))]
          have hAc := hf_141
          have hLc := hj_142
          refine v_iasn (ws2 := [(r0, .inr (5, [.int (nI n), .ref k1, .ref k2, .ref k3, .ref k4, .int (nI m), .ref k6, .ref k7, .ref k8, .int (nI 0), .ref k10, .int (nI aw), .ref k12, .ref k13, .ref k14, .ref k15, .ref k16, .int (nI ls), .int (nI (((ap + 1) + 2) + 2)), .int (bz false), .int (nI sq), .ref k21, .ref k22, .ref k23, .ref k24, .ref k25, .int (bz pd), .int (nI pl), .int (bz tk), kv, .ref k30, .ref k31, .int (nI tz), .ref k33, .int (nI rs), .int sd])), (k16, .inl (cI, 96, .inl (nIf sg))), (k23, .inl (cI, 147, .inl (nIf (un (un (un tl i (NUMB sg ap 1)) (i + 1) (NUMB sg (ap + 1) 2)) (i + 2) (NUMB sg ((ap + 1) + 2) 2)))))]) 143 2 zC dX5_readNumbers_142 rfl (by omega) (by rw [upd_nIf]; first | done | rfl) ?_
          refine v_goto 184 zC dX5_readNumbers_143 ?_
          refine v_vret zC zT dX5_readNumbers_184  ?_
          first | (have g9 := hAc; exact Or.inl ⟨_, fd_n (i := 3) (k := 2) (fd_n (i := 1) (k := 2) hAa hAb) hAc, (by first | exact tls_111 (by rw [un_n (by omega), un_n (by omega), un_s, numb1]) (by rw [un_n (by omega), un_s, numb2]) (by rw [un_s, numb2]) | exact tls_99 (by rw [un_n (by omega), un_n (by omega), un_s, numb1]) (by rw [un_n (by omega), un_s, numb2]) (by rw [un_s, numb2])), (fun z hz => by repeat (rw [un_n (by omega)])), rfl, rfl⟩) | (have g9 := hBc; rw [show ap + 1 + 2 + jc = ap + (3 + jc) from by omega]; exact Or.inr ⟨_, _, fd_s (i := 3) (k := 2) (fd_n (i := 1) (k := 2) hAa hAb) hBc, by omega, (fun z hz => by repeat (rw [un_n (by omega)])), rfl, rfl⟩) | (have g9 := hBb5; rw [show ap + 1 + jb5 = ap + (1 + jb5) from by omega]; exact Or.inr ⟨_, _, fd_m (i := 3) (k := 2) (fd_s (i := 1) (k := 2) hAa hBb5), by omega, (fun z hz => by repeat (rw [un_n (by omega)])), rfl, rfl⟩) | (have g9 := hBa5; exact Or.inr ⟨_, _, fd_m (i := 1) (k := 4) hBa5, by omega, (fun z hz => by repeat (rw [un_n (by omega)])), rfl, rfl⟩) | (have g9 := hAe; exact Or.inl ⟨_, fd_n (i := 2) (k := 1) (fd_n (i := 1) (k := 1) hAa3 hAd) hAe, (tls_100 (by rw [un_n (by omega), un_n (by omega), un_s, numb1]) (by rw [un_n (by omega), un_s, numb1]) (by rw [un_s, numb1])), (fun z hz => by repeat (rw [un_n (by omega)])), rfl, rfl⟩) | (have g9 := hBe; rw [show ap + 1 + 1 + je = ap + (2 + je) from by omega]; exact Or.inr ⟨_, _, fd_s (i := 2) (k := 1) (fd_n (i := 1) (k := 1) hAa3 hAd) hBe, by omega, (fun z hz => by repeat (rw [un_n (by omega)])), rfl, rfl⟩) | (have g9 := hBd; rw [show ap + 1 + jd = ap + (1 + jd) from by omega]; exact Or.inr ⟨_, _, fd_m (i := 2) (k := 1) (fd_s (i := 1) (k := 1) hAa3 hBd), by omega, (fun z hz => by repeat (rw [un_n (by omega)])), rfl, rfl⟩) | (have g9 := hBa3; exact Or.inr ⟨_, _, fd_m (i := 1) (k := 2) hBa3, by omega, (fun z hz => by repeat (rw [un_n (by omega)])), rfl, rfl⟩) | (have g9 := hAh; exact Or.inl ⟨_, fd_n (i := 1) (k := 1) hAg hAh, (tls_107 (by rw [un_n (by omega), un_s, numb1]) (by rw [un_s, numb1])), (fun z hz => by repeat (rw [un_n (by omega)])), rfl, rfl⟩) | (have g9 := hBh; rw [show ap + 1 + jh = ap + (1 + jh) from by omega]; exact Or.inr ⟨_, _, fd_s (i := 1) (k := 1) hAg hBh, by omega, (fun z hz => by repeat (rw [un_n (by omega)])), rfl, rfl⟩) | (have g9 := hBg; exact Or.inr ⟨_, _, fd_m (i := 1) (k := 1) hBg, by omega, (fun z hz => by repeat (rw [un_n (by omega)])), rfl, rfl⟩) | (have g9 := hAp; exact Or.inl ⟨_, hAp, (by first | exact tls_112 (by rw [un_s, numb2]) | exact tls_115 (by rw [un_s, numb1])), (fun z hz => by repeat (rw [un_n (by omega)])), rfl, rfl⟩) | (have g9 := hBp; exact Or.inr ⟨_, _, hBp, by omega, (fun z hz => by repeat (rw [un_n (by omega)])), rfl, rfl⟩)
        ·
          show VV E 0 0 142 [(0, .ref r0), (1, .int (nI 99)), (2, .int (nI i))] [.int (nI 0), .int (nI (i + 2)), .ref k23] [(r0, .inr (5, [.int (nI n), .ref k1, .ref k2, .ref k3, .ref k4, .int (nI m), .ref k6, .ref k7, .ref k8, .int (nI 0), .ref k10, .int (nI aw), .ref k12, .ref k13, .ref k14, .ref k15, .ref k16, .int (nI ls), .int (nI (((ap + 1) + 2) + j_143)), .int (bz true), .int (nI sq), .ref k21, .ref k22, .ref k23, .ref k24, .ref k25, .int (bz pd), .int (nI pl), .int (bz tk), kv, .ref k30, .ref k31, .int (nI tz), .ref k33, .int (nI rs), .int sd])), (k16, .inl (cI, 96, .inl (nIf sg))), (k23, .inl (cI, 147, .inl (nIf (un (un tl i (NUMB sg ap 1)) (i + 1) (NUMB sg (ap + 1) 2)))))]
          obtain ⟨jc, hej⟩ : ∃ z, z = j_143 := ⟨_, rfl⟩
          subst hej
          have hBc := hf_144
          have hCc := hj_145
          refine v_iasn (ws2 := [(r0, .inr (5, [.int (nI n), .ref k1, .ref k2, .ref k3, .ref k4, .int (nI m), .ref k6, .ref k7, .ref k8, .int (nI 0), .ref k10, .int (nI aw), .ref k12, .ref k13, .ref k14, .ref k15, .ref k16, .int (nI ls), .int (nI (((ap + 1) + 2) + jc)), .int (bz true), .int (nI sq), .ref k21, .ref k22, .ref k23, .ref k24, .ref k25, .int (bz pd), .int (nI pl), .int (bz tk), kv, .ref k30, .ref k31, .int (nI tz), .ref k33, .int (nI rs), .int sd])), (k16, .inl (cI, 96, .inl (nIf sg))), (k23, .inl (cI, 147, .inl (nIf (un (un (un tl i (NUMB sg ap 1)) (i + 1) (NUMB sg (ap + 1) 2)) (i + 2) 0))))]) 143 2 zC dX5_readNumbers_142 rfl (by omega) (by rw [upd_nIf]; first | done | rfl) ?_
          refine v_goto 184 zC dX5_readNumbers_143 ?_
          refine v_vret zC zT dX5_readNumbers_184  ?_
          first | (have g9 := hAc; exact Or.inl ⟨_, fd_n (i := 3) (k := 2) (fd_n (i := 1) (k := 2) hAa hAb) hAc, (by first | exact tls_111 (by rw [un_n (by omega), un_n (by omega), un_s, numb1]) (by rw [un_n (by omega), un_s, numb2]) (by rw [un_s, numb2]) | exact tls_99 (by rw [un_n (by omega), un_n (by omega), un_s, numb1]) (by rw [un_n (by omega), un_s, numb2]) (by rw [un_s, numb2])), (fun z hz => by repeat (rw [un_n (by omega)])), rfl, rfl⟩) | (have g9 := hBc; rw [show ap + 1 + 2 + jc = ap + (3 + jc) from by omega]; exact Or.inr ⟨_, _, fd_s (i := 3) (k := 2) (fd_n (i := 1) (k := 2) hAa hAb) hBc, by omega, (fun z hz => by repeat (rw [un_n (by omega)])), rfl, rfl⟩) | (have g9 := hBb5; rw [show ap + 1 + jb5 = ap + (1 + jb5) from by omega]; exact Or.inr ⟨_, _, fd_m (i := 3) (k := 2) (fd_s (i := 1) (k := 2) hAa hBb5), by omega, (fun z hz => by repeat (rw [un_n (by omega)])), rfl, rfl⟩) | (have g9 := hBa5; exact Or.inr ⟨_, _, fd_m (i := 1) (k := 4) hBa5, by omega, (fun z hz => by repeat (rw [un_n (by omega)])), rfl, rfl⟩) | (have g9 := hAe; exact Or.inl ⟨_, fd_n (i := 2) (k := 1) (fd_n (i := 1) (k := 1) hAa3 hAd) hAe, (tls_100 (by rw [un_n (by omega), un_n (by omega), un_s, numb1]) (by rw [un_n (by omega), un_s, numb1]) (by rw [un_s, numb1])), (fun z hz => by repeat (rw [un_n (by omega)])), rfl, rfl⟩) | (have g9 := hBe; rw [show ap + 1 + 1 + je = ap + (2 + je) from by omega]; exact Or.inr ⟨_, _, fd_s (i := 2) (k := 1) (fd_n (i := 1) (k := 1) hAa3 hAd) hBe, by omega, (fun z hz => by repeat (rw [un_n (by omega)])), rfl, rfl⟩) | (have g9 := hBd; rw [show ap + 1 + jd = ap + (1 + jd) from by omega]; exact Or.inr ⟨_, _, fd_m (i := 2) (k := 1) (fd_s (i := 1) (k := 1) hAa3 hBd), by omega, (fun z hz => by repeat (rw [un_n (by omega)])), rfl, rfl⟩) | (have g9 := hBa3; exact Or.inr ⟨_, _, fd_m (i := 1) (k := 2) hBa3, by omega, (fun z hz => by repeat (rw [un_n (by omega)])), rfl, rfl⟩) | (have g9 := hAh; exact Or.inl ⟨_, fd_n (i := 1) (k := 1) hAg hAh, (tls_107 (by rw [un_n (by omega), un_s, numb1]) (by rw [un_s, numb1])), (fun z hz => by repeat (rw [un_n (by omega)])), rfl, rfl⟩) | (have g9 := hBh; rw [show ap + 1 + jh = ap + (1 + jh) from by omega]; exact Or.inr ⟨_, _, fd_s (i := 1) (k := 1) hAg hBh, by omega, (fun z hz => by repeat (rw [un_n (by omega)])), rfl, rfl⟩) | (have g9 := hBg; exact Or.inr ⟨_, _, fd_m (i := 1) (k := 1) hBg, by omega, (fun z hz => by repeat (rw [un_n (by omega)])), rfl, rfl⟩) | (have g9 := hAp; exact Or.inl ⟨_, hAp, (by first | exact tls_112 (by rw [un_s, numb2]) | exact tls_115 (by rw [un_s, numb1])), (fun z hz => by repeat (rw [un_n (by omega)])), rfl, rfl⟩) | (have g9 := hBp; exact Or.inr ⟨_, _, hBp, by omega, (fun z hz => by repeat (rw [un_n (by omega)])), rfl, rfl⟩)
      ·
        show VV E 0 0 129 [(0, .ref r0), (1, .int (nI 99)), (2, .int (nI i))] [.int (nI 0), .int (nI (i + 1)), .ref k23] [(r0, .inr (5, [.int (nI n), .ref k1, .ref k2, .ref k3, .ref k4, .int (nI m), .ref k6, .ref k7, .ref k8, .int (nI 0), .ref k10, .int (nI aw), .ref k12, .ref k13, .ref k14, .ref k15, .ref k16, .int (nI ls), .int (nI ((ap + 1) + j_134)), .int (bz true), .int (nI sq), .ref k21, .ref k22, .ref k23, .ref k24, .ref k25, .int (bz pd), .int (nI pl), .int (bz tk), kv, .ref k30, .ref k31, .int (nI tz), .ref k33, .int (nI rs), .int sd])), (k16, .inl (cI, 96, .inl (nIf sg))), (k23, .inl (cI, 147, .inl (nIf (un tl i (NUMB sg ap 1)))))]
        obtain ⟨jb5, hej⟩ : ∃ z, z = j_134 := ⟨_, rfl⟩
        subst hej
        have hBb5 := hf_135
        have hCb5 := hj_136
        refine v_iasn (ws2 := [(r0, .inr (5, [.int (nI n), .ref k1, .ref k2, .ref k3, .ref k4, .int (nI m), .ref k6, .ref k7, .ref k8, .int (nI 0), .ref k10, .int (nI aw), .ref k12, .ref k13, .ref k14, .ref k15, .ref k16, .int (nI ls), .int (nI ((ap + 1) + jb5)), .int (bz true), .int (nI sq), .ref k21, .ref k22, .ref k23, .ref k24, .ref k25, .int (bz pd), .int (nI pl), .int (bz tk), kv, .ref k30, .ref k31, .int (nI tz), .ref k33, .int (nI rs), .int sd])), (k16, .inl (cI, 96, .inl (nIf sg))), (k23, .inl (cI, 147, .inl (nIf (un (un tl i (NUMB sg ap 1)) (i + 1) 0))))]) 130 2 zC dX5_readNumbers_129 rfl (by omega) (by rw [upd_nIf]; first | done | rfl) ?_
        refine v_al_n 131 zC dX5_readNumbers_130 0 rfl ?_
        refine v_gf 134 0 zC dX5_readNumbers_131 gf_X5_55 rfl rfl ?_
        refine v_il_n 135 zC dX5_readNumbers_134 2 rfl ?_
        refine v_ic (v := (nI 2)) 136 zC dX5_readNumbers_135 (by decide +kernel) ?_
        refine v_iadd (v := (nI (i + 2))) 137 zC dX5_readNumbers_136 (nI_add _ _) ?_
        refine v_al_n 138 zC dX5_readNumbers_137 0 rfl ?_
        refine v_ic (v := (nI 2)) 139 zC dX5_readNumbers_138 (by decide +kernel) ?_
        refine v_cV (As := [.int (nI 2)]) (st := [.int (nI (i + 2)), .ref k23]) 142 0 [0, 1] zC dX5_readNumbers_139 hA (c_X5_readDigits__T (ev_l E) (ev_D E) cI (r0 := r0) (k1 := k1) (k2 := k2) (k3 := k3) (k4 := k4) (k6 := k6) (k7 := k7) (k8 := k8) (k10 := k10) (k12 := k12) (k13 := k13) (k14 := k14) (k15 := k15) (k16 := k16) (k21 := k21) (k22 := k22) (k23 := k23) (k24 := k24) (k25 := k25) (k30 := k30) (k31 := k31) (k33 := k33) (n := n) (m := m) (aw := aw) (ls := ls) (ap := ((ap + 1) + jb5)) (sq := sq) (pl := pl) (tz := tz) (rs := rs) (pd := pd) (tk := tk) (kv := kv) (sd := sd) (sg := sg) (k := 2) (hk := (by first | omega | assumption | rfl | (simp only []; omega) | decide))) cf_X5_readDigits lk_X5_150 rfl rfl rfl rfl rfl (by decide +kernel) (Nat.le_of_ble_eq_true rfl) (fun rv_146 wv_147 hp_148 hm_149 => ?_)
        clear hm_149
        obtain ⟨rfl, rfl⟩ := hp_148
        show VV E 0 0 142 [(0, .ref r0), (1, .int (nI 99)), (2, .int (nI i))] [.int (nI 0), .int (nI (i + 2)), .ref k23] [(r0, .inr (5, [.int (nI n), .ref k1, .ref k2, .ref k3, .ref k4, .int (nI m), .ref k6, .ref k7, .ref k8, .int (nI 0), .ref k10, .int (nI aw), .ref k12, .ref k13, .ref k14, .ref k15, .ref k16, .int (nI ls), .int (nI ((ap + 1) + jb5)), .int (bz true), .int (nI sq), .ref k21, .ref k22, .ref k23, .ref k24, .ref k25, .int (bz pd), .int (nI pl), .int (bz tk), kv, .ref k30, .ref k31, .int (nI tz), .ref k33, .int (nI rs), .int sd])), (k16, .inl (cI, 96, .inl (nIf sg))), (k23, .inl (cI, 147, .inl (nIf (un (un tl i (NUMB sg ap 1)) (i + 1) 0))))]
        have hAc := @0
        have hLc := @1
        refine v_iasn (ws2 := [(r0, .inr (5, [.int (nI n), .ref k1, .ref k2, .ref k3, .ref k4, .int (nI m), .ref k6, .ref k7, .ref k8, .int (nI 0), .ref k10, .int (nI aw), .ref k12, .ref k13, .ref k14, .ref k15, .ref k16, .int (nI ls), .int (nI ((ap + 1) + jb5)), .int (bz true), .int (nI sq), .ref k21, .ref k22, .ref k23, .ref k24, .ref k25, .int (bz pd), .int (nI pl), .int (bz tk), kv, .ref k30, .ref k31, .int (nI tz), .ref k33, .int (nI rs), .int sd])), (k16, .inl (cI, 96, .inl (nIf sg))), (k23, .inl (cI, 147, .inl (nIf (un (un (un tl i (NUMB sg ap 1)) (i + 1) 0) (i + 2) 0))))]) 143 2 zC dX5_readNumbers_142 rfl (by omega) (by rw [upd_nIf]; first | done | rfl) ?_
        refine v_goto 184 zC dX5_readNumbers_143 ?_
        refine v_vret zC zT dX5_readNumbers_184  ?_
        first | (have g9 := hAc; exact Or.inl ⟨_, fd_n (i := 3) (k := 2) (fd_n (i := 1) (k := 2) hAa hAb) hAc, (by first | exact tls_111 (by rw [un_n (by omega), un_n (by omega), un_s, numb1]) (by rw [un_n (by omega), un_s, numb2]) (by rw [un_s, numb2]) | exact tls_99 (by rw [un_n (by omega), un_n (by omega), un_s, numb1]) (by rw [un_n (by omega), un_s, numb2]) (by rw [un_s, numb2])), (fun z hz => by repeat (rw [un_n (by omega)])), rfl, rfl⟩) | (have g9 := hBc; rw [show ap + 1 + 2 + jc = ap + (3 + jc) from by omega]; exact Or.inr ⟨_, _, fd_s (i := 3) (k := 2) (fd_n (i := 1) (k := 2) hAa hAb) hBc, by omega, (fun z hz => by repeat (rw [un_n (by omega)])), rfl, rfl⟩) | (have g9 := hBb5; rw [show ap + 1 + jb5 = ap + (1 + jb5) from by omega]; exact Or.inr ⟨_, _, fd_m (i := 3) (k := 2) (fd_s (i := 1) (k := 2) hAa hBb5), by omega, (fun z hz => by repeat (rw [un_n (by omega)])), rfl, rfl⟩) | (have g9 := hBa5; exact Or.inr ⟨_, _, fd_m (i := 1) (k := 4) hBa5, by omega, (fun z hz => by repeat (rw [un_n (by omega)])), rfl, rfl⟩) | (have g9 := hAe; exact Or.inl ⟨_, fd_n (i := 2) (k := 1) (fd_n (i := 1) (k := 1) hAa3 hAd) hAe, (tls_100 (by rw [un_n (by omega), un_n (by omega), un_s, numb1]) (by rw [un_n (by omega), un_s, numb1]) (by rw [un_s, numb1])), (fun z hz => by repeat (rw [un_n (by omega)])), rfl, rfl⟩) | (have g9 := hBe; rw [show ap + 1 + 1 + je = ap + (2 + je) from by omega]; exact Or.inr ⟨_, _, fd_s (i := 2) (k := 1) (fd_n (i := 1) (k := 1) hAa3 hAd) hBe, by omega, (fun z hz => by repeat (rw [un_n (by omega)])), rfl, rfl⟩) | (have g9 := hBd; rw [show ap + 1 + jd = ap + (1 + jd) from by omega]; exact Or.inr ⟨_, _, fd_m (i := 2) (k := 1) (fd_s (i := 1) (k := 1) hAa3 hBd), by omega, (fun z hz => by repeat (rw [un_n (by omega)])), rfl, rfl⟩) | (have g9 := hBa3; exact Or.inr ⟨_, _, fd_m (i := 1) (k := 2) hBa3, by omega, (fun z hz => by repeat (rw [un_n (by omega)])), rfl, rfl⟩) | (have g9 := hAh; exact Or.inl ⟨_, fd_n (i := 1) (k := 1) hAg hAh, (tls_107 (by rw [un_n (by omega), un_s, numb1]) (by rw [un_s, numb1])), (fun z hz => by repeat (rw [un_n (by omega)])), rfl, rfl⟩) | (have g9 := hBh; rw [show ap + 1 + jh = ap + (1 + jh) from by omega]; exact Or.inr ⟨_, _, fd_s (i := 1) (k := 1) hAg hBh, by omega, (fun z hz => by repeat (rw [un_n (by omega)])), rfl, rfl⟩) | (have g9 := hBg; exact Or.inr ⟨_, _, fd_m (i := 1) (k := 1) hBg, by omega, (fun z hz => by repeat (rw [un_n (by omega)])), rfl, rfl⟩) | (have g9 := hAp; exact Or.inl ⟨_, hAp, (by first | exact tls_112 (by rw [un_s, numb2]) | exact tls_115 (by rw [un_s, numb1])), (fun z hz => by repeat (rw [un_n (by omega)])), rfl, rfl⟩) | (have g9 := hBp; exact Or.inr ⟨_, _, hBp, by omega, (fun z hz => by repeat (rw [un_n (by omega)])), rfl, rfl⟩)
    ·
      show VV E 0 0 116 [(0, .ref r0), (1, .int (nI 99)), (2, .int (nI i))] [.int (nI 0), .int (nI i), .ref k23] [(r0, .inr (5, [.int (nI n), .ref k1, .ref k2, .ref k3, .ref k4, .int (nI m), .ref k6, .ref k7, .ref k8, .int (nI 0), .ref k10, .int (nI aw), .ref k12, .ref k13, .ref k14, .ref k15, .ref k16, .int (nI ls), .int (nI (ap + j_125)), .int (bz true), .int (nI sq), .ref k21, .ref k22, .ref k23, .ref k24, .ref k25, .int (bz pd), .int (nI pl), .int (bz tk), kv, .ref k30, .ref k31, .int (nI tz), .ref k33, .int (nI rs), .int sd])), (k16, .inl (cI, 96, .inl (nIf sg))), (k23, .inl (cI, 147, .inl (nIf tl)))]
      obtain ⟨ja5, hej⟩ : ∃ z, z = j_125 := ⟨_, rfl⟩
      subst hej
      have hBa5 := hf_126
      have hCa5 := hj_127
      refine v_iasn (ws2 := [(r0, .inr (5, [.int (nI n), .ref k1, .ref k2, .ref k3, .ref k4, .int (nI m), .ref k6, .ref k7, .ref k8, .int (nI 0), .ref k10, .int (nI aw), .ref k12, .ref k13, .ref k14, .ref k15, .ref k16, .int (nI ls), .int (nI (ap + ja5)), .int (bz true), .int (nI sq), .ref k21, .ref k22, .ref k23, .ref k24, .ref k25, .int (bz pd), .int (nI pl), .int (bz tk), kv, .ref k30, .ref k31, .int (nI tz), .ref k33, .int (nI rs), .int sd])), (k16, .inl (cI, 96, .inl (nIf sg))), (k23, .inl (cI, 147, .inl (nIf (un tl i 0))))]) 117 2 zC dX5_readNumbers_116 rfl (by omega) (by rw [upd_nIf]; first | done | rfl) ?_
      refine v_al_n 118 zC dX5_readNumbers_117 0 rfl ?_
      refine v_gf 121 0 zC dX5_readNumbers_118 gf_X5_55 rfl rfl ?_
      refine v_il_n 122 zC dX5_readNumbers_121 2 rfl ?_
      refine v_ic (v := (nI 1)) 123 zC dX5_readNumbers_122 (by decide +kernel) ?_
      refine v_iadd (v := (nI (i + 1))) 124 zC dX5_readNumbers_123 (nI_add _ _) ?_
      refine v_al_n 125 zC dX5_readNumbers_124 0 rfl ?_
      refine v_ic (v := (nI 2)) 126 zC dX5_readNumbers_125 (by decide +kernel) ?_
      refine v_cV (As := [.int (nI 2)]) (st := [.int (nI (i + 1)), .ref k23]) 129 0 [0, 1] zC dX5_readNumbers_126 hA (c_X5_readDigits__T (ev_l E) (ev_D E) cI (r0 := r0) (k1 := k1) (k2 := k2) (k3 := k3) (k4 := k4) (k6 := k6) (k7 := k7) (k8 := k8) (k10 := k10) (k12 := k12) (k13 := k13) (k14 := k14) (k15 := k15) (k16 := k16) (k21 := k21) (k22 := k22) (k23 := k23) (k24 := k24) (k25 := k25) (k30 := k30) (k31 := k31) (k33 := k33) (n := n) (m := m) (aw := aw) (ls := ls) (ap := (ap + ja5)) (sq := sq) (pl := pl) (tz := tz) (rs := rs) (pd := pd) (tk := tk) (kv := kv) (sd := sd) (sg := sg) (k := 2) (hk := (by first | omega | assumption | rfl | (simp only []; omega) | decide))) cf_X5_readDigits lk_X5_150 rfl rfl rfl rfl rfl (by decide +kernel) (Nat.le_of_ble_eq_true rfl) (fun rv_150 wv_151 hp_152 hm_153 => ?_)
      clear hm_153
      obtain ⟨rfl, rfl⟩ := hp_152
      show VV E 0 0 129 [(0, .ref r0), (1, .int (nI 99)), (2, .int (nI i))] [.int (nI 0), .int (nI (i + 1)), .ref k23] [(r0, .inr (5, [.int (nI n), .ref k1, .ref k2, .ref k3, .ref k4, .int (nI m), .ref k6, .ref k7, .ref k8, .int (nI 0), .ref k10, .int (nI aw), .ref k12, .ref k13, .ref k14, .ref k15, .ref k16, .int (nI ls), .int (nI (ap + ja5)), .int (bz true), .int (nI sq), .ref k21, .ref k22, .ref k23, .ref k24, .ref k25, .int (bz pd), .int (nI pl), .int (bz tk), kv, .ref k30, .ref k31, .int (nI tz), .ref k33, .int (nI rs), .int sd])), (k16, .inl (cI, 96, .inl (nIf sg))), (k23, .inl (cI, 147, .inl (nIf (un tl i 0))))]
      have hAb := @0
      have hLb := @1
      refine v_iasn (ws2 := [(r0, .inr (5, [.int (nI n), .ref k1, .ref k2, .ref k3, .ref k4, .int (nI m), .ref k6, .ref k7, .ref k8, .int (nI 0), .ref k10, .int (nI aw), .ref k12, .ref k13, .ref k14, .ref k15, .ref k16, .int (nI ls), .int (nI (ap + ja5)), .int (bz true), .int (nI sq), .ref k21, .ref k22, .ref k23, .ref k24, .ref k25, .int (bz pd), .int (nI pl), .int (bz tk), kv, .ref k30, .ref k31, .int (nI tz), .ref k33, .int (nI rs), .int sd])), (k16, .inl (cI, 96, .inl (nIf sg))), (k23, .inl (cI, 147, .inl (nIf (un (un tl i 0) (i + 1) 0))))]) 130 2 zC dX5_readNumbers_129 rfl (by omega) (by rw [upd_nIf]; first | done | rfl) ?_
      refine v_al_n 131 zC dX5_readNumbers_130 0 rfl ?_
      refine v_gf 134 0 zC dX5_readNumbers_131 gf_X5_55 rfl rfl ?_
      refine v_il_n 135 zC dX5_readNumbers_134 2 rfl ?_
      refine v_ic (v := (nI 2)) 136 zC dX5_readNumbers_135 (by decide +kernel) ?_
      refine v_iadd (v := (nI (i + 2))) 137 zC dX5_readNumbers_136 (nI_add _ _) ?_
      refine v_al_n 138 zC dX5_readNumbers_137 0 rfl ?_
      refine v_ic (v := (nI 2)) 139 zC dX5_readNumbers_138 (by decide +kernel) ?_
      refine v_cV (As := [.int (nI 2)]) (st := [.int (nI (i + 2)), .ref k23]) 142 0 [0, 1] zC dX5_readNumbers_139 hA (c_X5_readDigits__T (ev_l E) (ev_D E) cI (r0 := r0) (k1 := k1) (k2 := k2) (k3 := k3) (k4 := k4) (k6 := k6) (k7 := k7) (k8 := k8) (k10 := k10) (k12 := k12) (k13 := k13) (k14 := k14) (k15 := k15) (k16 := k16) (k21 := k21) (k22 := k22) (k23 := k23) (k24 := k24) (k25 := k25) (k30 := k30) (k31 := k31) (k33 := k33) (n := n) (m := m) (aw := aw) (ls := ls) (ap := (ap + ja5)) (sq := sq) (pl := pl) (tz := tz) (rs := rs) (pd := pd) (tk := tk) (kv := kv) (sd := sd) (sg := sg) (k := 2) (hk := (by first | omega | assumption | rfl | (simp only []; omega) | decide))) cf_X5_readDigits lk_X5_150 rfl rfl rfl rfl rfl (by decide +kernel) (Nat.le_of_ble_eq_true rfl) (fun rv_154 wv_155 hp_156 hm_157 => ?_)
      clear hm_157
      obtain ⟨rfl, rfl⟩ := hp_156
      show VV E 0 0 142 [(0, .ref r0), (1, .int (nI 99)), (2, .int (nI i))] [.int (nI 0), .int (nI (i + 2)), .ref k23] [(r0, .inr (5, [.int (nI n), .ref k1, .ref k2, .ref k3, .ref k4, .int (nI m), .ref k6, .ref k7, .ref k8, .int (nI 0), .ref k10, .int (nI aw), .ref k12, .ref k13, .ref k14, .ref k15, .ref k16, .int (nI ls), .int (nI (ap + ja5)), .int (bz true), .int (nI sq), .ref k21, .ref k22, .ref k23, .ref k24, .ref k25, .int (bz pd), .int (nI pl), .int (bz tk), kv, .ref k30, .ref k31, .int (nI tz), .ref k33, .int (nI rs), .int sd])), (k16, .inl (cI, 96, .inl (nIf sg))), (k23, .inl (cI, 147, .inl (nIf (un (un tl i 0) (i + 1) 0))))]
      have hAc := @0
      have hLc := @1
      refine v_iasn (ws2 := [(r0, .inr (5, [.int (nI n), .ref k1, .ref k2, .ref k3, .ref k4, .int (nI m), .ref k6, .ref k7, .ref k8, .int (nI 0), .ref k10, .int (nI aw), .ref k12, .ref k13, .ref k14, .ref k15, .ref k16, .int (nI ls), .int (nI (ap + ja5)), .int (bz true), .int (nI sq), .ref k21, .ref k22, .ref k23, .ref k24, .ref k25, .int (bz pd), .int (nI pl), .int (bz tk), kv, .ref k30, .ref k31, .int (nI tz), .ref k33, .int (nI rs), .int sd])), (k16, .inl (cI, 96, .inl (nIf sg))), (k23, .inl (cI, 147, .inl (nIf (un (un (un tl i 0) (i + 1) 0) (i + 2) 0))))]) 143 2 zC dX5_readNumbers_142 rfl (by omega) (by rw [upd_nIf]; first | done | rfl) ?_
      refine v_goto 184 zC dX5_readNumbers_143 ?_
      refine v_vret zC zT dX5_readNumbers_184  ?_
      first | (have g9 := hAc; exact Or.inl ⟨_, fd_n (i := 3) (k := 2) (fd_n (i := 1) (k := 2) hAa hAb) hAc, (by first | exact tls_111 (by rw [un_n (by omega), un_n (by omega), un_s, numb1]) (by rw [un_n (by omega), un_s, numb2]) (by rw [un_s, numb2]) | exact tls_99 (by rw [un_n (by omega), un_n (by omega), un_s, numb1]) (by rw [un_n (by omega), un_s, numb2]) (by rw [un_s, numb2])), (fun z hz => by repeat (rw [un_n (by omega)])), rfl, rfl⟩) | (have g9 := hBc; rw [show ap + 1 + 2 + jc = ap + (3 + jc) from by omega]; exact Or.inr ⟨_, _, fd_s (i := 3) (k := 2) (fd_n (i := 1) (k := 2) hAa hAb) hBc, by omega, (fun z hz => by repeat (rw [un_n (by omega)])), rfl, rfl⟩) | (have g9 := hBb5; rw [show ap + 1 + jb5 = ap + (1 + jb5) from by omega]; exact Or.inr ⟨_, _, fd_m (i := 3) (k := 2) (fd_s (i := 1) (k := 2) hAa hBb5), by omega, (fun z hz => by repeat (rw [un_n (by omega)])), rfl, rfl⟩) | (have g9 := hBa5; exact Or.inr ⟨_, _, fd_m (i := 1) (k := 4) hBa5, by omega, (fun z hz => by repeat (rw [un_n (by omega)])), rfl, rfl⟩) | (have g9 := hAe; exact Or.inl ⟨_, fd_n (i := 2) (k := 1) (fd_n (i := 1) (k := 1) hAa3 hAd) hAe, (tls_100 (by rw [un_n (by omega), un_n (by omega), un_s, numb1]) (by rw [un_n (by omega), un_s, numb1]) (by rw [un_s, numb1])), (fun z hz => by repeat (rw [un_n (by omega)])), rfl, rfl⟩) | (have g9 := hBe; rw [show ap + 1 + 1 + je = ap + (2 + je) from by omega]; exact Or.inr ⟨_, _, fd_s (i := 2) (k := 1) (fd_n (i := 1) (k := 1) hAa3 hAd) hBe, by omega, (fun z hz => by repeat (rw [un_n (by omega)])), rfl, rfl⟩) | (have g9 := hBd; rw [show ap + 1 + jd = ap + (1 + jd) from by omega]; exact Or.inr ⟨_, _, fd_m (i := 2) (k := 1) (fd_s (i := 1) (k := 1) hAa3 hBd), by omega, (fun z hz => by repeat (rw [un_n (by omega)])), rfl, rfl⟩) | (have g9 := hBa3; exact Or.inr ⟨_, _, fd_m (i := 1) (k := 2) hBa3, by omega, (fun z hz => by repeat (rw [un_n (by omega)])), rfl, rfl⟩) | (have g9 := hAh; exact Or.inl ⟨_, fd_n (i := 1) (k := 1) hAg hAh, (tls_107 (by rw [un_n (by omega), un_s, numb1]) (by rw [un_s, numb1])), (fun z hz => by repeat (rw [un_n (by omega)])), rfl, rfl⟩) | (have g9 := hBh; rw [show ap + 1 + jh = ap + (1 + jh) from by omega]; exact Or.inr ⟨_, _, fd_s (i := 1) (k := 1) hAg hBh, by omega, (fun z hz => by repeat (rw [un_n (by omega)])), rfl, rfl⟩) | (have g9 := hBg; exact Or.inr ⟨_, _, fd_m (i := 1) (k := 1) hBg, by omega, (fun z hz => by repeat (rw [un_n (by omega)])), rfl, rfl⟩) | (have g9 := hAp; exact Or.inl ⟨_, hAp, (by first | exact tls_112 (by rw [un_s, numb2]) | exact tls_115 (by rw [un_s, numb1])), (fun z hz => by repeat (rw [un_n (by omega)])), rfl, rfl⟩) | (have g9 := hBp; exact Or.inr ⟨_, _, hBp, by omega, (fun z hz => by repeat (rw [un_n (by omega)])), rfl, rfl⟩)
