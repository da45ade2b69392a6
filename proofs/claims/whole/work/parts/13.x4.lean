/-! what the class's calls answer, in numbers of its family -/
def SG : Type := Nat × Nat × Nat × Nat × (Nat → Nat) × (Nat → Nat) × (Nat → Nat) × (Nat → Nat) × (Nat → Nat) × (Nat → Nat)
abbrev g_n (s : SG) : Nat := s.1
abbrev g_m (s : SG) : Nat := s.2.1
abbrev g_sh (s : SG) : Nat := s.2.2.1
abbrev g_aw (s : SG) : Nat := s.2.2.2.1
abbrev g_ki (s : SG) : Nat → Nat := s.2.2.2.2.1
abbrev g_op (s : SG) : Nat → Nat := s.2.2.2.2.2.1
abbrev g_fa (s : SG) : Nat → Nat := s.2.2.2.2.2.2.1
abbrev g_K (s : SG) : Nat → Nat := s.2.2.2.2.2.2.2.1
abbrev g_G (s : SG) : Nat → Nat := s.2.2.2.2.2.2.2.2.1
abbrev g_T (s : SG) : Nat → Nat := s.2.2.2.2.2.2.2.2.2
def DR (s : SG) : Nat → Nat → Nat := drD (g_n s) (g_m s) (g_sh s) (g_aw s) (g_ki s) (g_op s) (g_fa s) (g_K s) (g_G s) (g_T s)
def DM (s : SG) : Nat → Nat → Option Nat := dmD (g_n s) (g_m s) (g_sh s) (g_aw s) (g_ki s) (g_op s) (g_fa s) (g_K s) (g_G s) (g_T s)
def ALL (s : SG) : Nat := sm (fun p => pcn (DR s 24 p)) (g_n s)
def SPK (s : SG) (h : Nat) : Nat := mkn (fun d => (DM s h d).isSome) (g_m s)
def SPT (s : SG) (p h : Nat) : Nat := mkn (fun d => DM s h d == some p) (g_m s)
def TWOB (s : SG) (h : Nat) : Bool := anb (fun p => decide (2 ≤ pcn (SPT s p h))) (g_n s)
def HEARD (s : SG) (p f : Nat) : Option Nat := fs (fun h => Nat.testBit (DR s h p) f) 25
def SPOKE (s : SG) (d : Nat) : Nat := ctn (fun h => (DM s h d).isSome) 24
def THRU (s : SG) (d p : Nat) : Nat := ctn (fun h => DM s h d == some p) 24
def TOGE (s : SG) (a b : Nat) : Nat := ctn (fun h => (DM s h a).isSome && (DM s h b).isSome) 24
def KNW (s : SG) (f : Nat) : Nat := mkn (fun p => Nat.testBit (DR s 24 p) f) (g_n s)
def IX (N : Nat) (p : Int32) : Option Nat := if p < 0 ∨ nI N ≤ p then none else some p.toNatClampNeg
def rf (R : Nat → Nat) (c : Nat) : Nat → Nat := if c = 0 then R else un R c (R c + 1)
theorem IX_n {N : Nat} {p : Int32} (h : p < 0 ∨ nI N ≤ p) : IX N p = none := if_pos h
theorem IX_s {N : Nat} {p : Int32} (hN : N < 2 ^ 31) (h1 : ¬ p < 0) (h2 : ¬ nI N ≤ p) : ∃ j : Nat, IX N p = some j ∧ p = nI j ∧ j < N := by
  rcases pk_ix p hN with h | h | ⟨j, hj, e⟩
  · exact absurd h h1
  · exact absurd h h2
  · refine ⟨j, ?_, e, hj⟩
    unfold IX
    rw [if_neg (fun z => z.elim h1 h2), e, nI_clamp (by omega)]
theorem IX_nI {N j : Nat} (hN : N < 2 ^ 31) (h : j < N) : IX N (nI j) = some j := by
  unfold IX
  rw [if_neg (fun z => z.elim (nI_pos (by omega)) (nI_ge h hN)), nI_clamp (by omega)]
theorem ofR {N : Nat} {p : Int32} (h1 : ¬ p < 0) (h2 : ¬ nI N < p) (hN : N < 2 ^ 30 := by decide) : ∃ k : Nat, k ≤ N ∧ p = nI k := by
  obtain ⟨k, hk, e⟩ := nI_of h1
  refine ⟨k, ?_, e⟩
  rw [e, nI_ltI (by omega) hk] at h2
  omega
section VNG
variable {E : EV} {cc : ByteArray} {own : String} {ret : Option FieldType} {cI : ClassId} {rm : Room} {k n pc : Nat} {lv : List (Nat × Value)} {st : List Value} {ws : va_W}
theorem v_inegx {x v : Int32} (q : Nat) (C : CX E cc own ret cI rm) (hd : decode cc pc = .ok (.ineg, 1)) (hv : -x = v) (kk : VV E k n q lv (.int v :: st) ws) (hq : pc + 1 = q := by rfl) : VV E k n pc lv (.int x :: st) ws := by
  subst hv
  exact v_ineg q C hd kk hq
end VNG
theorem sm_c {f g : Nat → Nat} : ∀ {n : Nat}, (∀ k, k < n → f k = g k) → sm f n = sm g n
  | 0, _ => rfl
  | n + 1, h => by simp only [sm]; rw [sm_c (fun k hk => h k (Nat.lt_succ_of_lt hk)), h n (Nat.lt_succ_self n)]
theorem ctn_c {f g : Nat → Bool} : ∀ {n : Nat}, (∀ k, k < n → f k = g k) → ctn f n = ctn g n
  | 0, _ => rfl
  | n + 1, h => by simp only [ctn]; rw [ctn_c (fun k hk => h k (Nat.lt_succ_of_lt hk)), h n (Nat.lt_succ_self n)]
theorem fs_c {f g : Nat → Bool} : ∀ {n : Nat}, (∀ k, k < n → f k = g k) → fs f n = fs g n
  | 0, _ => rfl
  | n + 1, h => by simp only [fs]; rw [fs_c (fun k hk => h k (Nat.lt_succ_of_lt hk)), h n (Nat.lt_succ_self n)]
theorem anb_c {f g : Nat → Bool} : ∀ {n : Nat}, (∀ k, k < n → f k = g k) → anb f n = anb g n
  | 0, _ => rfl
  | n + 1, h => by simp only [anb]; rw [anb_c (fun k hk => h k (Nat.lt_succ_of_lt hk)), h n (Nat.lt_succ_self n)]
theorem orn_c {f g : Nat → Nat} : ∀ {n : Nat}, (∀ k, k < n → f k = g k) → orn f n = orn g n
  | 0, _ => rfl
  | n + 1, h => by simp only [orn]; rw [orn_c (fun k hk => h k (Nat.lt_succ_of_lt hk)), h n (Nat.lt_succ_self n)]
theorem ann_c {f g : Nat → Nat} : ∀ {n : Nat}, (∀ k, k < n → f k = g k) → ann f n = ann g n
  | 0, _ => rfl
  | n + 1, h => by simp only [ann]; rw [ann_c (fun k hk => h k (Nat.lt_succ_of_lt hk)), h n (Nat.lt_succ_self n)]
section DK
variable {n m sh aw : Nat} {ki op fa K G T X : Nat → Nat} {Y : Nat → Option Nat}
theorem dk_all (h : DOK n m sh aw ki op fa K G T X Y) (hn : n ≤ 7) : sm (fun p => pcn (X (24 * 7 + p))) n = ALL (n, m, sh, aw, ki, op, fa, K, G, T) := sm_c (fun p hp => congrArg pcn (h.1 24 (Nat.le_refl _) p (by omega)))
theorem dk_r (h : DOK n m sh aw ki op fa K G T X Y) {j p : Nat} (hj : j ≤ 24) (hp : p < 7) : X (j * 7 + p) = DR (n, m, sh, aw, ki, op, fa, K, G, T) j p := h.1 j hj p hp
theorem dk_m (h : DOK n m sh aw ki op fa K G T X Y) {j e : Nat} (hj : j < 24) (he : e < m) : Y (j * 6 + e) = DM (n, m, sh, aw, ki, op, fa, K, G, T) j e := h.2.1 j hj e he
theorem dk_spk (h : DOK n m sh aw ki op fa K G T X Y) {j : Nat} (hj : j < 24) : mkn (fun d => (Y (j * 6 + d)).isSome) m = SPK (n, m, sh, aw, ki, op, fa, K, G, T) j := mkn_c (fun d hd => by rw [dk_m h hj hd])
theorem dk_spt (h : DOK n m sh aw ki op fa K G T X Y) {j p : Nat} (hj : j < 24) : mkn (fun d => Y (j * 6 + d) == some p) m = SPT (n, m, sh, aw, ki, op, fa, K, G, T) p j := mkn_c (fun d hd => by rw [dk_m h hj hd])
theorem dk_two (h : DOK n m sh aw ki op fa K G T X Y) {j : Nat} (hj : j < 24) : anb (fun p => decide (2 ≤ pcn (mkn (fun d => Y (j * 6 + d) == some p) m))) n = TWOB (n, m, sh, aw, ki, op, fa, K, G, T) j := anb_c (fun p _ => by rw [dk_spt h hj])
theorem dk_heard (h : DOK n m sh aw ki op fa K G T X Y) {p f : Nat} (hp : p < 7) : fs (fun j => Nat.testBit (X (j * 7 + p)) f) 25 = HEARD (n, m, sh, aw, ki, op, fa, K, G, T) p f := fs_c (fun j hj => by rw [dk_r h (by omega) hp])
theorem dk_spoke (h : DOK n m sh aw ki op fa K G T X Y) {d : Nat} (hd : d < m) : ctn (fun z => (Y (z * 6 + d)).isSome) 24 = SPOKE (n, m, sh, aw, ki, op, fa, K, G, T) d := ctn_c (fun j hj => by rw [dk_m h hj hd])
theorem dk_thru (h : DOK n m sh aw ki op fa K G T X Y) {d p : Nat} (hd : d < m) : ctn (fun z => Y (z * 6 + d) == some p) 24 = THRU (n, m, sh, aw, ki, op, fa, K, G, T) d p := ctn_c (fun j hj => by rw [dk_m h hj hd])
theorem dk_toge (h : DOK n m sh aw ki op fa K G T X Y) {a b : Nat} (ha : a < m) (hb : b < m) : ctn (fun z => (Y (z * 6 + a)).isSome && (Y (z * 6 + b)).isSome) 24 = TOGE (n, m, sh, aw, ki, op, fa, K, G, T) a b := ctn_c (fun j hj => by rw [dk_m h hj ha, dk_m h hj hb])
theorem dk_knw (h : DOK n m sh aw ki op fa K G T X Y) (hn : n ≤ 7) {f : Nat} : mkn (fun p => Nat.testBit (X (24 * 7 + p)) f) n = KNW (n, m, sh, aw, ki, op, fa, K, G, T) f := mkn_c (fun p hp => by rw [dk_r h (Nat.le_refl _) (by omega)])
end DK
def q_knows (s : SG) (p q : Int32) : Nat × Int32 := match IX (g_n s) p with
  | none => (1, -1)
  | some j => if q < 0 then (4, -4) else if nI 24 < q then (6, -6) else (0, nI (DR s q.toNatClampNeg j))
def q_through (s : SG) (d h : Int32) : Nat × Int32 := match IX (g_m s) d with
  | none => (1, -1)
  | some e => match IX 24 h with
    | none => (1, -1)
    | some k => (0, mI (DM s k e))
def q_speak (s : SG) (p h : Int32) : Nat × Int32 := if p = -1 then (match IX 24 h with
    | none => (1, -1)
    | some k => (0, nI (pcn (SPK s k)))) else match IX (g_n s) p with
  | none => (1, -1)
  | some j => match IX 24 h with
    | none => (1, -1)
    | some k => (0, nI (SPT s j k))
def q_two (s : SG) (w : Int32) : Nat × Int32 := match IX 2 w with
  | none => (2, -2)
  | some k => (0, if k = 0 then mI (fs (TWOB s) 24) else nI (ctn (TWOB s) 24))
def q_heard (s : SG) (p f : Int32) : Nat × Int32 := match IX (g_n s) p with
  | none => (1, -1)
  | some j => match IX 10 f with
    | none => (1, -1)
    | some k => (0, mI (HEARD s j k))
def q_spoke (s : SG) (d : Int32) : Nat × Int32 := match IX (g_m s) d with
  | none => (1, -1)
  | some e => (0, nI (SPOKE s e))
def q_told (s : SG) (f w : Int32) : Nat × Int32 := match IX 10 f with
  | none => (1, -1)
  | some k => match IX 2 w with
    | none => (2, -2)
    | some b => (0, nI (if b = 1 then pcn (KNW s k) else sm (fun d => if g_T s d = k then SPOKE s d else 0) (g_m s)))
def FEW (s : Nat) (B : Option Nat) : Bool := match B with
  | none => true
  | some b => decide (pcn s < pcn b)
def OB (B : Option Nat) : Nat := match B with
  | none => 25
  | some b => b
theorem neg_neg_I (x : Int32) : -(-x) = x := by simp
theorem neg_lt {j : Nat} (h1 : 0 < j) (h2 : j < 100) : -(nI j) < 0 := by
  have g : ∀ k : Nat, k < 100 → 0 < k → -(nI k) < 0 := by decide +kernel
  exact g j h2 h1
theorem ix_two {N : Nat} {p : Int32} {A : Prop} (hN : N < 2 ^ 31) (h1 : ¬ p < 0) (h2 : p < nI N) (hc : A) : ∃ j : Nat, p = nI j ∧ IX N (nI j) = some j ∧ j < N ∧ A := by
  obtain ⟨j, e1, e2, e3⟩ := IX_s hN h1 (Int32.not_le.mpr h2)
  exact ⟨j, e2, by rw [← e2]; exact e1, e3, hc⟩

set_option maxRecDepth 100000 in
set_option maxHeartbeats 4000000 in
theorem c_X4_refuse (l : Launch) (D : va_G) (cI : ClassId) (x0 xn xm xp b0 g0 s0 w0 y0 : Nat) (pd : Bool) (rs : Nat) (R : Nat → Nat) (v : Int32) (j : Nat) (hv : v = -(nI j)) (h1 : 0 < j) (h6 : j < 7) : CT l yX4_refuse cX4_refuse 2 (some .int) { frames := 0, cells := 0, slots := 0, locals := 0 } D cI [.ref x0, .int v] [(x0, .inr (4, [.ref xn, .ref xm, .ref xp, .int (bz pd), .ref b0, .ref g0, .ref s0, .ref w0, .int (nI rs), .ref y0])), (y0, .inl (cI, 7, .inl (nIf R)))] (fun zr zw => (zr = some (.int v) ∧ zw = [(x0, .inr (4, [.ref xn, .ref xm, .ref xp, .int (bz pd), .ref b0, .ref g0, .ref s0, .ref w0, .int (nI rs), .ref y0])), (y0, .inl (cI, 7, .inl (nIf (un R j (R j + 1)))))])) := by
  refine CT_of RX4 rfl (by decide +kernel) (Nat.le_of_ble_eq_true rfl) (fun E hnE zC zT => ?_)
  have hA : ∀ q, (ev_s E).heap.size ≤ q → ev_A E q := fun q h => by rw [zT.2]; exact Or.inr h
  have hneg : v < 0 := by rw [hv]; exact neg_lt h1 (by omega)
  have hvn : -v = nI j := by rw [hv]; exact neg_neg_I _
  show VV E 0 0 0 [(0, .ref x0), (1, .int v)] [] [(x0, .inr (4, [.ref xn, .ref xm, .ref xp, .int (bz pd), .ref b0, .ref g0, .ref s0, .ref w0, .int (nI rs), .ref y0])), (y0, .inl (cI, 7, .inl (nIf R)))]
  refine v_il_n 1 zC dX4_refuse_0 1 rfl ?_
  refine v_if_ge 25 4 zC dX4_refuse_1 (fun h_1 => False.elim (by exact absurd hneg (Int32.not_lt.mpr h_1))) (fun h_1 => ?_)
  refine v_il_n 5 zC dX4_refuse_4 1 rfl ?_
  refine v_inegx (v := (nI j)) 6 zC dX4_refuse_5 hvn ?_
  refine v_al_n 7 zC dX4_refuse_6 0 rfl ?_
  refine v_gf 10 0 zC dX4_refuse_7 gf_X4_47 rfl rfl ?_
  refine v_alen 11 1 zC dX4_refuse_10 rfl ?_
  refine v_icmpn_ge 25 14 zC dX4_refuse_11 (fun h_2 => False.elim (by omega)) (fun h_2 => ?_)
  refine v_al_n 15 zC dX4_refuse_14 0 rfl ?_
  refine v_gf 18 0 zC dX4_refuse_15 gf_X4_47 rfl rfl ?_
  refine v_il_n 19 zC dX4_refuse_18 1 rfl ?_
  refine v_inegx (v := (nI j)) 20 zC dX4_refuse_19 hvn ?_
  refine v_dup2 21 zC dX4_refuse_20 rfl rfl ?_
  refine v_ialn (v := (nI (R j))) 22 1 zC dX4_refuse_21 rfl (by omega) rfl ?_
  refine v_ic (v := (nI 1)) 23 zC dX4_refuse_22 (by decide +kernel) ?_
  refine v_iadd (v := (nI ((R j) + 1))) 24 zC dX4_refuse_23 (nI_add _ _) ?_
  refine v_iasn (ws2 := [(x0, .inr (4, [.ref xn, .ref xm, .ref xp, .int (bz pd), .ref b0, .ref g0, .ref s0, .ref w0, .int (nI rs), .ref y0])), (y0, .inl (cI, 7, .inl (nIf (un R j ((R j) + 1)))))]) 25 1 zC dX4_refuse_24 rfl (by omega) (by rw [upd_nIf]; first | done | rfl) ?_
  refine v_il_n 26 zC dX4_refuse_25 1 rfl ?_
  refine v_iret zC zT dX4_refuse_26  ?_
  exact ⟨rfl, rfl⟩
set_option maxRecDepth 100000 in
set_option maxHeartbeats 4000000 in
theorem c_X4_refuseLong (l : Launch) (D : va_G) (cI : ClassId) (x0 xn xm xp b0 g0 s0 w0 y0 : Nat) (pd : Bool) (rs : Nat) (R : Nat → Nat) (v : Int32) (j : Nat) (hv : v = -(nI j)) (h1 : 0 < j) (h6 : j < 7) : CT l yX4_refuseLong cX4_refuseLong 2 (some .long) { frames := 1, cells := 0, slots := 0, locals := 21 } D cI [.ref x0, .int v] [(x0, .inr (4, [.ref xn, .ref xm, .ref xp, .int (bz pd), .ref b0, .ref g0, .ref s0, .ref w0, .int (nI rs), .ref y0])), (y0, .inl (cI, 7, .inl (nIf R)))] (fun zr zw => (zr = some (.long (lN 4000000000000000000 - v.toInt64)) ∧ zw = [(x0, .inr (4, [.ref xn, .ref xm, .ref xp, .int (bz pd), .ref b0, .ref g0, .ref s0, .ref w0, .int (nI rs), .ref y0])), (y0, .inl (cI, 7, .inl (nIf (un R j (R j + 1)))))])) := by
  refine CT_of RX4 rfl (by decide +kernel) (Nat.le_of_ble_eq_true rfl) (fun E hnE zC zT => ?_)
  have hA : ∀ q, (ev_s E).heap.size ≤ q → ev_A E q := fun q h => by rw [zT.2]; exact Or.inr h
  show VV E 0 0 0 [(0, .ref x0), (1, .int v)] [] [(x0, .inr (4, [.ref xn, .ref xm, .ref xp, .int (bz pd), .ref b0, .ref g0, .ref s0, .ref w0, .int (nI rs), .ref y0])), (y0, .inl (cI, 7, .inl (nIf R)))]
  refine v_ldc2 (v := (lN 4000000000000000000)) 3 zC dX4_refuseLong_0 kc_X4_294 ?_
  refine v_al_n 4 zC dX4_refuseLong_3 0 rfl ?_
  refine v_il_n 5 zC dX4_refuseLong_4 1 rfl ?_
  refine v_cV (As := [.int v]) (st := [.long (lN 4000000000000000000)]) 8 0 [0, 1] zC dX4_refuseLong_5 hA (c_X4_refuse (ev_l E) (ev_D E) cI (x0 := x0) (xn := xn) (xm := xm) (xp := xp) (b0 := b0) (g0 := g0) (s0 := s0) (w0 := w0) (y0 := y0) (pd := pd) (rs := rs) (R := R) (v := v) (j := j) (hv := hv) (h1 := (by first | omega | assumption | rfl | (simp only []; omega) | decide)) (h6 := (by first | omega | assumption | rfl | (simp only []; omega) | decide))) cf_X4_refuse lk_X4_50 rfl rfl rfl rfl rfl (by decide +kernel) (Nat.le_of_ble_eq_true rfl) (fun rv_1 wv_2 hp_3 hm_4 => ?_)
  clear hm_4
  obtain ⟨rfl, rfl⟩ := hp_3
  show VV E 0 0 8 [(0, .ref x0), (1, .int v)] [.int v, .long (lN 4000000000000000000)] [(x0, .inr (4, [.ref xn, .ref xm, .ref xp, .int (bz pd), .ref b0, .ref g0, .ref s0, .ref w0, .int (nI rs), .ref y0])), (y0, .inl (cI, 7, .inl (nIf (un R j (R j + 1)))))]
  refine v_i2l (v := (v.toInt64)) 9 zC dX4_refuseLong_8 rfl ?_
  refine v_lsub (v := ((lN 4000000000000000000) - (v.toInt64))) 10 zC dX4_refuseLong_9  rfl ?_
  refine v_lret zC zT dX4_refuseLong_10  ?_
  first | exact ⟨rfl, rfl⟩ | exact ⟨sb1 (by assumption), rfl⟩ | exact ⟨sb0 (by assumption), rfl⟩ | (exfalso; omega) | exact ⟨sb1 (by simp [*]), rfl⟩ | exact ⟨sb0 (by simp [*]), rfl⟩
set_option maxRecDepth 100000 in
set_option maxHeartbeats 4000000 in
theorem c_X4_noPerson (l : Launch) (D : va_G) (cI : ClassId) (x0 xm xp b0 g0 s0 w0 y0 : Nat) (pd : Bool) (rs : Nat) (a0 a1 a2 a3 a4 a5 a6 : Nat) (n m sh : Nat) (p : Int32) (hn : n ≤ 7) : CT l yX4_noPerson cX4_noPerson 2 (some .boolean) { frames := 0, cells := 0, slots := 0, locals := 0 } D cI [.ref x0, .int p] [(x0, .inr (4, [.ref a0, .ref xm, .ref xp, .int (bz pd), .ref b0, .ref g0, .ref s0, .ref w0, .int (nI rs), .ref y0])), (a0, .inr (2, [.int (nI n), .int (nI m), .int (nI sh), .int (nI 0), .ref a1, .ref a2, .ref a3, .ref a4, .ref a5, .ref a6]))] (fun zr zw => ((IX n p = none) ∧ zr = some (.int (nI 1)) ∧ zw = [(x0, .inr (4, [.ref a0, .ref xm, .ref xp, .int (bz pd), .ref b0, .ref g0, .ref s0, .ref w0, .int (nI rs), .ref y0])), (a0, .inr (2, [.int (nI n), .int (nI m), .int (nI sh), .int (nI 0), .ref a1, .ref a2, .ref a3, .ref a4, .ref a5, .ref a6]))]) ∨ (∃ j : Nat, (p = nI j) ∧ (IX n (nI j) = some j) ∧ (j < n) ∧ zr = some (.int (nI 0)) ∧ zw = [(x0, .inr (4, [.ref a0, .ref xm, .ref xp, .int (bz pd), .ref b0, .ref g0, .ref s0, .ref w0, .int (nI rs), .ref y0])), (a0, .inr (2, [.int (nI n), .int (nI m), .int (nI sh), .int (nI 0), .ref a1, .ref a2, .ref a3, .ref a4, .ref a5, .ref a6]))])) := by
  refine CT_of RX4 rfl (by decide +kernel) (Nat.le_of_ble_eq_true rfl) (fun E hnE zC zT => ?_)
  have hA : ∀ q, (ev_s E).heap.size ≤ q → ev_A E q := fun q h => by rw [zT.2]; exact Or.inr h
  show VV E 0 0 0 [(0, .ref x0), (1, .int p)] [] [(x0, .inr (4, [.ref a0, .ref xm, .ref xp, .int (bz pd), .ref b0, .ref g0, .ref s0, .ref w0, .int (nI rs), .ref y0])), (a0, .inr (2, [.int (nI n), .int (nI m), .int (nI sh), .int (nI 0), .ref a1, .ref a2, .ref a3, .ref a4, .ref a5, .ref a6]))]
  refine v_il_n 1 zC dX4_noPerson_0 1 rfl ?_
  refine v_if_lt 15 4 zC dX4_noPerson_1 (fun h_1 => ?_) (fun h_1 => ?_)
  ·
    refine v_ic (v := (nI 1)) 16 zC dX4_noPerson_15 (by decide +kernel) ?_
    refine v_goto 20 zC dX4_noPerson_16 ?_
    refine v_zret zC zT dX4_noPerson_20 (by decide +kernel) ?_
    first | exact Or.inl ⟨IX_n (Or.inl (by assumption)), rfl, rfl⟩ | exact Or.inl ⟨IX_n (Or.inr (Int32.not_lt.mp (by assumption))), rfl, rfl⟩ | exact Or.inr (ix_two (by omega) (by assumption) (by assumption) ⟨rfl, rfl⟩)
  ·
    refine v_il_n 5 zC dX4_noPerson_4 1 rfl ?_
    refine v_al_n 6 zC dX4_noPerson_5 0 rfl ?_
    refine v_gf 9 0 zC dX4_noPerson_6 gf_X4_12 rfl rfl ?_
    refine v_gf 12 1 zC dX4_noPerson_9 gf_X4_114 rfl rfl ?_
    refine v_icmp_lt 19 15 zC dX4_noPerson_12 (fun h_2 => ?_) (fun h_2 => ?_)
    ·
      refine v_ic (v := (nI 0)) 20 zC dX4_noPerson_19 (by decide +kernel) ?_
      refine v_zret zC zT dX4_noPerson_20 (by decide +kernel) ?_
      first | exact Or.inl ⟨IX_n (Or.inl (by assumption)), rfl, rfl⟩ | exact Or.inl ⟨IX_n (Or.inr (Int32.not_lt.mp (by assumption))), rfl, rfl⟩ | exact Or.inr (ix_two (by omega) (by assumption) (by assumption) ⟨rfl, rfl⟩)
    ·
      refine v_ic (v := (nI 1)) 16 zC dX4_noPerson_15 (by decide +kernel) ?_
      refine v_goto 20 zC dX4_noPerson_16 ?_
      refine v_zret zC zT dX4_noPerson_20 (by decide +kernel) ?_
      first | exact Or.inl ⟨IX_n (Or.inl (by assumption)), rfl, rfl⟩ | exact Or.inl ⟨IX_n (Or.inr (Int32.not_lt.mp (by assumption))), rfl, rfl⟩ | exact Or.inr (ix_two (by omega) (by assumption) (by assumption) ⟨rfl, rfl⟩)
set_option maxRecDepth 100000 in
set_option maxHeartbeats 4000000 in
theorem c_X4_noDead (l : Launch) (D : va_G) (cI : ClassId) (x0 xm xp b0 g0 s0 w0 y0 : Nat) (pd : Bool) (rs : Nat) (a0 a1 a2 a3 a4 a5 a6 : Nat) (n m sh : Nat) (p : Int32) (hm : m ≤ 6) : CT l yX4_noDead cX4_noDead 2 (some .boolean) { frames := 0, cells := 0, slots := 0, locals := 0 } D cI [.ref x0, .int p] [(x0, .inr (4, [.ref a0, .ref xm, .ref xp, .int (bz pd), .ref b0, .ref g0, .ref s0, .ref w0, .int (nI rs), .ref y0])), (a0, .inr (2, [.int (nI n), .int (nI m), .int (nI sh), .int (nI 0), .ref a1, .ref a2, .ref a3, .ref a4, .ref a5, .ref a6]))] (fun zr zw => ((IX m p = none) ∧ zr = some (.int (nI 1)) ∧ zw = [(x0, .inr (4, [.ref a0, .ref xm, .ref xp, .int (bz pd), .ref b0, .ref g0, .ref s0, .ref w0, .int (nI rs), .ref y0])), (a0, .inr (2, [.int (nI n), .int (nI m), .int (nI sh), .int (nI 0), .ref a1, .ref a2, .ref a3, .ref a4, .ref a5, .ref a6]))]) ∨ (∃ j : Nat, (p = nI j) ∧ (IX m (nI j) = some j) ∧ (j < m) ∧ zr = some (.int (nI 0)) ∧ zw = [(x0, .inr (4, [.ref a0, .ref xm, .ref xp, .int (bz pd), .ref b0, .ref g0, .ref s0, .ref w0, .int (nI rs), .ref y0])), (a0, .inr (2, [.int (nI n), .int (nI m), .int (nI sh), .int (nI 0), .ref a1, .ref a2, .ref a3, .ref a4, .ref a5, .ref a6]))])) := by
  refine CT_of RX4 rfl (by decide +kernel) (Nat.le_of_ble_eq_true rfl) (fun E hnE zC zT => ?_)
  have hA : ∀ q, (ev_s E).heap.size ≤ q → ev_A E q := fun q h => by rw [zT.2]; exact Or.inr h
  show VV E 0 0 0 [(0, .ref x0), (1, .int p)] [] [(x0, .inr (4, [.ref a0, .ref xm, .ref xp, .int (bz pd), .ref b0, .ref g0, .ref s0, .ref w0, .int (nI rs), .ref y0])), (a0, .inr (2, [.int (nI n), .int (nI m), .int (nI sh), .int (nI 0), .ref a1, .ref a2, .ref a3, .ref a4, .ref a5, .ref a6]))]
  refine v_il_n 1 zC dX4_noDead_0 1 rfl ?_
  refine v_if_lt 15 4 zC dX4_noDead_1 (fun h_1 => ?_) (fun h_1 => ?_)
  ·
    refine v_ic (v := (nI 1)) 16 zC dX4_noDead_15 (by decide +kernel) ?_
    refine v_goto 20 zC dX4_noDead_16 ?_
    refine v_zret zC zT dX4_noDead_20 (by decide +kernel) ?_
    first | exact Or.inl ⟨IX_n (Or.inl (by assumption)), rfl, rfl⟩ | exact Or.inl ⟨IX_n (Or.inr (Int32.not_lt.mp (by assumption))), rfl, rfl⟩ | exact Or.inr (ix_two (by omega) (by assumption) (by assumption) ⟨rfl, rfl⟩)
  ·
    refine v_il_n 5 zC dX4_noDead_4 1 rfl ?_
    refine v_al_n 6 zC dX4_noDead_5 0 rfl ?_
    refine v_gf 9 0 zC dX4_noDead_6 gf_X4_12 rfl rfl ?_
    refine v_gf 12 1 zC dX4_noDead_9 gf_X4_121 rfl rfl ?_
    refine v_icmp_lt 19 15 zC dX4_noDead_12 (fun h_2 => ?_) (fun h_2 => ?_)
    ·
      refine v_ic (v := (nI 0)) 20 zC dX4_noDead_19 (by decide +kernel) ?_
      refine v_zret zC zT dX4_noDead_20 (by decide +kernel) ?_
      first | exact Or.inl ⟨IX_n (Or.inl (by assumption)), rfl, rfl⟩ | exact Or.inl ⟨IX_n (Or.inr (Int32.not_lt.mp (by assumption))), rfl, rfl⟩ | exact Or.inr (ix_two (by omega) (by assumption) (by assumption) ⟨rfl, rfl⟩)
    ·
      refine v_ic (v := (nI 1)) 16 zC dX4_noDead_15 (by decide +kernel) ?_
      refine v_goto 20 zC dX4_noDead_16 ?_
      refine v_zret zC zT dX4_noDead_20 (by decide +kernel) ?_
      first | exact Or.inl ⟨IX_n (Or.inl (by assumption)), rfl, rfl⟩ | exact Or.inl ⟨IX_n (Or.inr (Int32.not_lt.mp (by assumption))), rfl, rfl⟩ | exact Or.inr (ix_two (by omega) (by assumption) (by assumption) ⟨rfl, rfl⟩)
set_option maxRecDepth 100000 in
set_option maxHeartbeats 4000000 in
theorem c_X4_noHour (l : Launch) (D : va_G) (cI : ClassId) (p : Int32)  : CT l yX4_noHour cX4_noHour 1 (some .boolean) { frames := 0, cells := 0, slots := 0, locals := 0 } D cI [.int p] [] (fun zr zw => ((IX 24 p = none) ∧ zr = some (.int (nI 1)) ∧ zw = []) ∨ (∃ j : Nat, (p = nI j) ∧ (IX 24 (nI j) = some j) ∧ (j < 24) ∧ zr = some (.int (nI 0)) ∧ zw = [])) := by
  refine CT_of RX4 rfl (by decide +kernel) (Nat.le_of_ble_eq_true rfl) (fun E hnE zC zT => ?_)
  have hA : ∀ q, (ev_s E).heap.size ≤ q → ev_A E q := fun q h => by rw [zT.2]; exact Or.inr h
  show VV E 0 0 0 [(0, .int p)] [] []
  refine v_il_n 1 zC dX4_noHour_0 0 rfl ?_
  refine v_if_lt 10 4 zC dX4_noHour_1 (fun h_1 => ?_) (fun h_1 => ?_)
  ·
    refine v_ic (v := (nI 1)) 11 zC dX4_noHour_10 (by decide +kernel) ?_
    refine v_goto 15 zC dX4_noHour_11 ?_
    refine v_zret zC zT dX4_noHour_15 (by decide +kernel) ?_
    first | exact Or.inl ⟨IX_n (Or.inl (by assumption)), rfl, rfl⟩ | exact Or.inl ⟨IX_n (Or.inr (Int32.not_lt.mp (by assumption))), rfl, rfl⟩ | exact Or.inr (ix_two (by omega) (by assumption) (by assumption) ⟨rfl, rfl⟩)
  ·
    refine v_il_n 5 zC dX4_noHour_4 0 rfl ?_
    refine v_bp (v := (nI 24)) 7 zC dX4_noHour_5 (by decide +kernel) ?_
    refine v_icmp_lt 14 10 zC dX4_noHour_7 (fun h_2 => ?_) (fun h_2 => ?_)
    ·
      refine v_ic (v := (nI 0)) 15 zC dX4_noHour_14 (by decide +kernel) ?_
      refine v_zret zC zT dX4_noHour_15 (by decide +kernel) ?_
      first | exact Or.inl ⟨IX_n (Or.inl (by assumption)), rfl, rfl⟩ | exact Or.inl ⟨IX_n (Or.inr (Int32.not_lt.mp (by assumption))), rfl, rfl⟩ | exact Or.inr (ix_two (by omega) (by assumption) (by assumption) ⟨rfl, rfl⟩)
    ·
      refine v_ic (v := (nI 1)) 11 zC dX4_noHour_10 (by decide +kernel) ?_
      refine v_goto 15 zC dX4_noHour_11 ?_
      refine v_zret zC zT dX4_noHour_15 (by decide +kernel) ?_
      first | exact Or.inl ⟨IX_n (Or.inl (by assumption)), rfl, rfl⟩ | exact Or.inl ⟨IX_n (Or.inr (Int32.not_lt.mp (by assumption))), rfl, rfl⟩ | exact Or.inr (ix_two (by omega) (by assumption) (by assumption) ⟨rfl, rfl⟩)
set_option maxRecDepth 100000 in
set_option maxHeartbeats 4000000 in
theorem c_X4_noFact (l : Launch) (D : va_G) (cI : ClassId) (p : Int32)  : CT l yX4_noFact cX4_noFact 1 (some .boolean) { frames := 0, cells := 0, slots := 0, locals := 0 } D cI [.int p] [] (fun zr zw => ((IX 10 p = none) ∧ zr = some (.int (nI 1)) ∧ zw = []) ∨ (∃ j : Nat, (p = nI j) ∧ (IX 10 (nI j) = some j) ∧ (j < 10) ∧ zr = some (.int (nI 0)) ∧ zw = [])) := by
  refine CT_of RX4 rfl (by decide +kernel) (Nat.le_of_ble_eq_true rfl) (fun E hnE zC zT => ?_)
  have hA : ∀ q, (ev_s E).heap.size ≤ q → ev_A E q := fun q h => by rw [zT.2]; exact Or.inr h
  show VV E 0 0 0 [(0, .int p)] [] []
  refine v_il_n 1 zC dX4_noFact_0 0 rfl ?_
  refine v_if_lt 10 4 zC dX4_noFact_1 (fun h_1 => ?_) (fun h_1 => ?_)
  ·
    refine v_ic (v := (nI 1)) 11 zC dX4_noFact_10 (by decide +kernel) ?_
    refine v_goto 15 zC dX4_noFact_11 ?_
    refine v_zret zC zT dX4_noFact_15 (by decide +kernel) ?_
    first | exact Or.inl ⟨IX_n (Or.inl (by assumption)), rfl, rfl⟩ | exact Or.inl ⟨IX_n (Or.inr (Int32.not_lt.mp (by assumption))), rfl, rfl⟩ | exact Or.inr (ix_two (by omega) (by assumption) (by assumption) ⟨rfl, rfl⟩)
  ·
    refine v_il_n 5 zC dX4_noFact_4 0 rfl ?_
    refine v_bp (v := (nI 10)) 7 zC dX4_noFact_5 (by decide +kernel) ?_
    refine v_icmp_lt 14 10 zC dX4_noFact_7 (fun h_2 => ?_) (fun h_2 => ?_)
    ·
      refine v_ic (v := (nI 0)) 15 zC dX4_noFact_14 (by decide +kernel) ?_
      refine v_zret zC zT dX4_noFact_15 (by decide +kernel) ?_
      first | exact Or.inl ⟨IX_n (Or.inl (by assumption)), rfl, rfl⟩ | exact Or.inl ⟨IX_n (Or.inr (Int32.not_lt.mp (by assumption))), rfl, rfl⟩ | exact Or.inr (ix_two (by omega) (by assumption) (by assumption) ⟨rfl, rfl⟩)
    ·
      refine v_ic (v := (nI 1)) 11 zC dX4_noFact_10 (by decide +kernel) ?_
      refine v_goto 15 zC dX4_noFact_11 ?_
      refine v_zret zC zT dX4_noFact_15 (by decide +kernel) ?_
      first | exact Or.inl ⟨IX_n (Or.inl (by assumption)), rfl, rfl⟩ | exact Or.inl ⟨IX_n (Or.inr (Int32.not_lt.mp (by assumption))), rfl, rfl⟩ | exact Or.inr (ix_two (by omega) (by assumption) (by assumption) ⟨rfl, rfl⟩)
set_option maxRecDepth 100000 in
set_option maxHeartbeats 4000000 in
theorem c_X4_noWhat (l : Launch) (D : va_G) (cI : ClassId) (p : Int32) (k : Nat) (hk : k < 2 ^ 31) : CT l yX4_noWhat cX4_noWhat 2 (some .boolean) { frames := 0, cells := 0, slots := 0, locals := 0 } D cI [.int p, .int (nI k)] [] (fun zr zw => ((IX k p = none) ∧ zr = some (.int (nI 1)) ∧ zw = []) ∨ (∃ j : Nat, (p = nI j) ∧ (IX k (nI j) = some j) ∧ (j < k) ∧ zr = some (.int (nI 0)) ∧ zw = [])) := by
  refine CT_of RX4 rfl (by decide +kernel) (Nat.le_of_ble_eq_true rfl) (fun E hnE zC zT => ?_)
  have hA : ∀ q, (ev_s E).heap.size ≤ q → ev_A E q := fun q h => by rw [zT.2]; exact Or.inr h
  show VV E 0 0 0 [(0, .int p), (1, .int (nI k))] [] []
  refine v_il_n 1 zC dX4_noWhat_0 0 rfl ?_
  refine v_if_lt 9 4 zC dX4_noWhat_1 (fun h_1 => ?_) (fun h_1 => ?_)
  ·
    refine v_ic (v := (nI 1)) 10 zC dX4_noWhat_9 (by decide +kernel) ?_
    refine v_goto 14 zC dX4_noWhat_10 ?_
    refine v_zret zC zT dX4_noWhat_14 (by decide +kernel) ?_
    first | exact Or.inl ⟨IX_n (Or.inl (by assumption)), rfl, rfl⟩ | exact Or.inl ⟨IX_n (Or.inr (Int32.not_lt.mp (by assumption))), rfl, rfl⟩ | exact Or.inr (ix_two (by omega) (by assumption) (by assumption) ⟨rfl, rfl⟩)
  ·
    refine v_il_n 5 zC dX4_noWhat_4 0 rfl ?_
    refine v_il_n 6 zC dX4_noWhat_5 1 rfl ?_
    refine v_icmp_lt 13 9 zC dX4_noWhat_6 (fun h_2 => ?_) (fun h_2 => ?_)
    ·
      refine v_ic (v := (nI 0)) 14 zC dX4_noWhat_13 (by decide +kernel) ?_
      refine v_zret zC zT dX4_noWhat_14 (by decide +kernel) ?_
      first | exact Or.inl ⟨IX_n (Or.inl (by assumption)), rfl, rfl⟩ | exact Or.inl ⟨IX_n (Or.inr (Int32.not_lt.mp (by assumption))), rfl, rfl⟩ | exact Or.inr (ix_two (by omega) (by assumption) (by assumption) ⟨rfl, rfl⟩)
    ·
      refine v_ic (v := (nI 1)) 10 zC dX4_noWhat_9 (by decide +kernel) ?_
      refine v_goto 14 zC dX4_noWhat_10 ?_
      refine v_zret zC zT dX4_noWhat_14 (by decide +kernel) ?_
      first | exact Or.inl ⟨IX_n (Or.inl (by assumption)), rfl, rfl⟩ | exact Or.inl ⟨IX_n (Or.inr (Int32.not_lt.mp (by assumption))), rfl, rfl⟩ | exact Or.inr (ix_two (by omega) (by assumption) (by assumption) ⟨rfl, rfl⟩)
set_option maxRecDepth 100000 in
set_option maxHeartbeats 4000000 in
theorem c_X4_fewer (l : Launch) (D : va_G) (cI : ClassId) (s : Nat) (B : Option Nat) (hs : s < 2 ^ 31) (hb : ∀ v, B = some v → v < 2 ^ 31) : CT l yX4_fewer cX4_fewer 2 (some .boolean) { frames := 1, cells := 0, slots := 0, locals := 20 } D cI [.int (nI s), .int (mI B)] [] (fun zr zw => (zr = some (.int (bz (FEW s B))) ∧ zw = [])) := by
  refine CT_of RX4 rfl (by decide +kernel) (Nat.le_of_ble_eq_true rfl) (fun E hnE zC zT => ?_)
  have hA : ∀ q, (ev_s E).heap.size ≤ q → ev_A E q := fun q h => by rw [zT.2]; exact Or.inr h
  have hp1 := pcn_k 31 s hs
  show VV E 0 0 0 [(0, .int (nI s)), (1, .int (mI B))] [] []
  refine v_il_n 1 zC dX4_fewer_0 1 rfl ?_
  refine v_ifo_lt 15 4 zC dX4_fewer_1 hb (fun h_1 => ?_) (fun h_1 => ?_)
  ·
    have hB9 : B = none := by cases B with | none => rfl | some _ => cases h_1
    refine v_ic (v := (nI 1)) 16 zC dX4_fewer_15 (by decide +kernel) ?_
    refine v_goto 20 zC dX4_fewer_16 ?_
    refine v_zret zC zT dX4_fewer_20 (by decide +kernel) ?_
    first | exact ⟨sb1 (by rw [hB9]; rfl), rfl⟩ | exact ⟨sb1 (decide_eq_true (by assumption)), rfl⟩ | exact ⟨sb0 (decide_eq_false (Nat.not_lt.mpr (by assumption))), rfl⟩
  ·
    obtain ⟨b_2, he_b_2⟩ := Option.isSome_iff_exists.mp h_1
    subst he_b_2
    have hbb := hb _ rfl
    have hp2 := pcn_k 31 _ hbb
    refine v_il_n 5 zC dX4_fewer_4 0 rfl ?_
    refine v_cS (As := [.int (nI s)]) (st := []) 8 [] zC dX4_fewer_5 hA (c_J6_bitCount_0f7a4 (ev_l E) (ev_D E) cI (x := s) (hx := (by first | omega | assumption | rfl | (simp only []; omega) | decide))) cf_J6_bitCount_0f7a4 lk_X4_178 rfl rfl rfl (by decide +kernel) (Nat.le_of_ble_eq_true rfl) (fun rv_3 wv_4 hp_5 hm_6 => ?_)
    clear hm_6
    obtain ⟨rfl, rfl⟩ := hp_5
    show VV E 0 0 8 [(0, .int (nI s)), (1, .int (nI b_2))] [.int (nI (pcn s))] []
    refine v_il_n 9 zC dX4_fewer_8 1 rfl ?_
    refine v_cS (As := [.int (nI b_2)]) (st := [.int (nI (pcn s))]) 12 [] zC dX4_fewer_9 hA (c_J6_bitCount_0f7a4 (ev_l E) (ev_D E) cI (x := b_2) (hx := hbb)) cf_J6_bitCount_0f7a4 lk_X4_178 rfl rfl rfl (by decide +kernel) (Nat.le_of_ble_eq_true rfl) (fun rv_7 wv_8 hp_9 hm_10 => ?_)
    clear hm_10
    obtain ⟨rfl, rfl⟩ := hp_9
    show VV E 0 0 12 [(0, .int (nI s)), (1, .int (nI b_2))] [.int (nI (pcn b_2)), .int (nI (pcn s))] []
    refine v_icmpn_ge 19 15 zC dX4_fewer_12 (fun h_11 => ?_) (fun h_11 => ?_)
    ·
      refine v_ic (v := (nI 0)) 20 zC dX4_fewer_19 (by decide +kernel) ?_
      refine v_zret zC zT dX4_fewer_20 (by decide +kernel) ?_
      first | exact ⟨sb1 (by rw [hB9]; rfl), rfl⟩ | exact ⟨sb1 (decide_eq_true (by assumption)), rfl⟩ | exact ⟨sb0 (decide_eq_false (Nat.not_lt.mpr (by assumption))), rfl⟩
    ·
      refine v_ic (v := (nI 1)) 16 zC dX4_fewer_15 (by decide +kernel) ?_
      refine v_goto 20 zC dX4_fewer_16 ?_
      refine v_zret zC zT dX4_fewer_20 (by decide +kernel) ?_
      first | exact ⟨sb1 (by rw [hB9]; rfl), rfl⟩ | exact ⟨sb1 (decide_eq_true (by assumption)), rfl⟩ | exact ⟨sb0 (decide_eq_false (Nat.not_lt.mpr (by assumption))), rfl⟩
set_option maxRecDepth 100000 in
set_option maxHeartbeats 4000000 in
theorem c_X4_orBeyond (l : Launch) (D : va_G) (cI : ClassId) (B : Option Nat) (hb : ∀ v, B = some v → v < 2 ^ 31) : CT l yX4_orBeyond cX4_orBeyond 1 (some .int) { frames := 0, cells := 0, slots := 0, locals := 0 } D cI [.int (mI B)] [] (fun zr zw => (zr = some (.int (nI (OB B))) ∧ zw = [])) := by
  refine CT_of RX4 rfl (by decide +kernel) (Nat.le_of_ble_eq_true rfl) (fun E hnE zC zT => ?_)
  have hA : ∀ q, (ev_s E).heap.size ≤ q → ev_A E q := fun q h => by rw [zT.2]; exact Or.inr h
  show VV E 0 0 0 [(0, .int (mI B))] [] []
  refine v_il_n 1 zC dX4_orBeyond_0 0 rfl ?_
  refine v_ifo_ge 9 4 zC dX4_orBeyond_1 hb (fun h_1 => ?_) (fun h_1 => ?_)
  ·
    obtain ⟨b_2, he_b_2⟩ := Option.isSome_iff_exists.mp h_1
    subst he_b_2
    refine v_il_n 10 zC dX4_orBeyond_9 0 rfl ?_
    refine v_iret zC zT dX4_orBeyond_10  ?_
    first | exact ⟨rfl, rfl⟩ | exact ⟨sn (by rw [hB9]; rfl), rfl⟩
  ·
    have hB9 : B = none := by cases B with | none => rfl | some _ => cases h_1
    refine v_bp (v := (nI 25)) 6 zC dX4_orBeyond_4 (by decide +kernel) ?_
    refine v_goto 10 zC dX4_orBeyond_6 ?_
    refine v_iret zC zT dX4_orBeyond_10  ?_
    first | exact ⟨rfl, rfl⟩ | exact ⟨sn (by rw [hB9]; rfl), rfl⟩
set_option maxRecDepth 100000 in
set_option maxHeartbeats 4000000 in
theorem c_X4_allOf (l : Launch) (D : va_G) (cI : ClassId) (x0 xn xm xp g0 s0 w0 y0 : Nat) (pd : Bool) (rs : Nat) (b0 b1 b2 b3 : Nat) (P Q : Nat) (mf : Nat → Nat) (M : Nat → Option Nat) (kn : Nat → Nat) (a0 a1 a2 a3 a4 a5 a6 : Nat) (n m sh aw : Nat) (ki op fa K G T : Nat → Nat) (hw : FW n m sh ki op fa K G T) (hB : ∀ z, kn z < 1024) (hM : ∀ z v, M z = some v → v < 7) : CT l yX4_allOf cX4_allOf 2 (some .int) { frames := 4, cells := 0, slots := 0, locals := 99 } D cI [.ref x0, .ref a0] [(x0, .inr (4, [.ref xn, .ref xm, .ref xp, .int (bz pd), .ref b0, .ref g0, .ref s0, .ref w0, .int (nI rs), .ref y0])), (a0, .inr (2, [.int (nI n), .int (nI m), .int (nI sh), .int (nI aw), .ref a1, .ref a2, .ref a3, .ref a4, .ref a5, .ref a6])), (a1, .inl (cI, 7, .inl (nIf ki))), (a2, .inl (cI, 7, .inl (nIf op))), (a3, .inl (cI, 7, .inl (nIf fa))), (a4, .inl (cI, 6, .inl (nIf K))), (a5, .inl (cI, 6, .inl (nIf G))), (a6, .inl (cI, 6, .inl (nIf T))), (b0, .inr (1, [.int (nI P), .int (nI Q), .ref b1, .ref b2, .ref b3])), (b1, .inl (cI, 6, .inl (nIf mf))), (b2, .inl (cI, 144, .inl (mIf M))), (b3, .inl (cI, 175, .inl (nIf kn)))] (fun zr zw => (∃ mg : Nat → Nat, ∃ X : Nat → Nat, ∃ Y : Nat → Option Nat, (DOK n m sh aw ki op fa K G T X Y) ∧ zr = some (.int (nI (ALL (n, m, sh, aw, ki, op, fa, K, G, T)))) ∧ zw = [(x0, .inr (4, [.ref xn, .ref xm, .ref xp, .int (bz pd), .ref b0, .ref g0, .ref s0, .ref w0, .int (nI rs), .ref y0])), (a0, .inr (2, [.int (nI n), .int (nI m), .int (nI sh), .int (nI aw), .ref a1, .ref a2, .ref a3, .ref a4, .ref a5, .ref a6])), (a1, .inl (cI, 7, .inl (nIf ki))), (a2, .inl (cI, 7, .inl (nIf op))), (a3, .inl (cI, 7, .inl (nIf fa))), (a4, .inl (cI, 6, .inl (nIf K))), (a5, .inl (cI, 6, .inl (nIf G))), (a6, .inl (cI, 6, .inl (nIf T))), (b0, .inr (1, [.int (nI n), .int (nI m), .ref b1, .ref b2, .ref b3])), (b1, .inl (cI, 6, .inl (nIf mg))), (b2, .inl (cI, 144, .inl (mIf Y))), (b3, .inl (cI, 175, .inl (nIf X)))])) := by
  refine CT_of RX4 rfl (by decide +kernel) (Nat.le_of_ble_eq_true rfl) (fun E hnE zC zT => ?_)
  have hA : ∀ q, (ev_s E).heap.size ≤ q → ev_A E q := fun q h => by rw [zT.2]; exact Or.inr h
  obtain ⟨hn, hm, hsh, hki, hop, hfa, hK, hG, hT, vki, vop, vfa, vK, vG, vT⟩ := id hw
  show VV E 0 0 0 [(0, .ref x0), (1, .ref a0)] [] [(x0, .inr (4, [.ref xn, .ref xm, .ref xp, .int (bz pd), .ref b0, .ref g0, .ref s0, .ref w0, .int (nI rs), .ref y0])), (a0, .inr (2, [.int (nI n), .int (nI m), .int (nI sh), .int (nI aw), .ref a1, .ref a2, .ref a3, .ref a4, .ref a5, .ref a6])), (a1, .inl (cI, 7, .inl (nIf ki))), (a2, .inl (cI, 7, .inl (nIf op))), (a3, .inl (cI, 7, .inl (nIf fa))), (a4, .inl (cI, 6, .inl (nIf K))), (a5, .inl (cI, 6, .inl (nIf G))), (a6, .inl (cI, 6, .inl (nIf T))), (b0, .inr (1, [.int (nI P), .int (nI Q), .ref b1, .ref b2, .ref b3])), (b1, .inl (cI, 6, .inl (nIf mf))), (b2, .inl (cI, 144, .inl (mIf M))), (b3, .inl (cI, 175, .inl (nIf kn)))]
  refine v_al_n 1 zC dX4_allOf_0 0 rfl ?_
  refine v_gf 4 0 zC dX4_allOf_1 gf_X4_25 rfl rfl ?_
  refine v_al_n 5 zC dX4_allOf_4 1 rfl ?_
  refine v_cV (As := [.ref a0]) (st := []) 8 8 [8, 9, 10, 11, 1, 2, 3, 4, 5, 6, 7] zC dX4_allOf_5 hA (c_X1_live (ev_l E) (ev_D E) cI (b0 := b0) (b1 := b1) (b2 := b2) (b3 := b3) (P := P) (Q := Q) (mf := mf) (M := M) (kn := kn) (a0 := a0) (a1 := a1) (a2 := a2) (a3 := a3) (a4 := a4) (a5 := a5) (a6 := a6) (n := n) (m := m) (sh := sh) (aw := aw) (ki := ki) (op := op) (fa := fa) (K := K) (G := G) (T := T) (hn := (by first | omega | assumption | rfl | (simp only []; omega) | decide)) (hm := (by first | omega | assumption | rfl | (simp only []; omega) | decide)) (hK := (by first | omega | assumption | rfl | (simp only []; omega) | decide)) (hG := (by first | omega | assumption | rfl | (simp only []; omega) | decide)) (hT := (by first | omega | assumption | rfl | (simp only []; omega) | decide)) (hA2 := (by first | omega | assumption | rfl | (simp only []; omega) | decide)) (hB := (by first | omega | assumption | rfl | (simp only []; omega) | decide)) (hM := (by first | omega | assumption | rfl | (simp only []; omega) | decide))) cf_X1_live lk_X4_158 rfl rfl rfl rfl rfl (by decide +kernel) (Nat.le_of_ble_eq_true rfl) (fun rv_1 wv_2 hp_3 hm_4 => ?_)
  clear hm_4
  obtain ⟨mg_5, X_6, Y_7, hD_8, rfl, rfl⟩ := hp_3
  show VV E 0 0 8 [(0, .ref x0), (1, .ref a0)] [] [(x0, .inr (4, [.ref xn, .ref xm, .ref xp, .int (bz pd), .ref b0, .ref g0, .ref s0, .ref w0, .int (nI rs), .ref y0])), (a0, .inr (2, [.int (nI n), .int (nI m), .int (nI sh), .int (nI aw), .ref a1, .ref a2, .ref a3, .ref a4, .ref a5, .ref a6])), (a1, .inl (cI, 7, .inl (nIf ki))), (a2, .inl (cI, 7, .inl (nIf op))), (a3, .inl (cI, 7, .inl (nIf fa))), (a4, .inl (cI, 6, .inl (nIf K))), (a5, .inl (cI, 6, .inl (nIf G))), (a6, .inl (cI, 6, .inl (nIf T))), (b0, .inr (1, [.int (nI n), .int (nI m), .ref b1, .ref b2, .ref b3])), (b1, .inl (cI, 6, .inl (nIf mg_5))), (b2, .inl (cI, 144, .inl (mIf Y_7))), (b3, .inl (cI, 175, .inl (nIf X_6)))]
  have hD9 := hD_8
  refine v_al_n 9 zC dX4_allOf_8 0 rfl ?_
  refine v_gf 12 0 zC dX4_allOf_9 gf_X4_25 rfl rfl ?_
  refine v_bp (v := (nI 24)) 14 zC dX4_allOf_12 (by decide +kernel) ?_
  refine v_cV (As := [.int (nI 24)]) (st := []) 17 8 [8, 11] zC dX4_allOf_14 hA (c_X1_knownInAllBehind (ev_l E) (ev_D E) cI (b0 := b0) (b1 := b1) (b2 := b2) (b3 := b3) (P := n) (Q := m) (kn := X_6) (h := 24) (hP := (by first | omega | assumption | rfl | (simp only []; omega) | decide)) (hh := (by first | omega | assumption | rfl | (simp only []; omega) | decide)) (hK := hD9.2.2.1)) cf_X1_knownInAllBehind lk_X4_260 rfl rfl rfl rfl rfl (by decide +kernel) (Nat.le_of_ble_eq_true rfl) (fun rv_9 wv_10 hp_11 hm_12 => ?_)
  clear hm_12
  obtain ⟨rfl, rfl⟩ := hp_11
  show VV E 0 0 17 [(0, .ref x0), (1, .ref a0)] [.int (nI (sm (fun p => pcn (X_6 (24 * 7 + p))) n))] [(x0, .inr (4, [.ref xn, .ref xm, .ref xp, .int (bz pd), .ref b0, .ref g0, .ref s0, .ref w0, .int (nI rs), .ref y0])), (a0, .inr (2, [.int (nI n), .int (nI m), .int (nI sh), .int (nI aw), .ref a1, .ref a2, .ref a3, .ref a4, .ref a5, .ref a6])), (a1, .inl (cI, 7, .inl (nIf ki))), (a2, .inl (cI, 7, .inl (nIf op))), (a3, .inl (cI, 7, .inl (nIf fa))), (a4, .inl (cI, 6, .inl (nIf K))), (a5, .inl (cI, 6, .inl (nIf G))), (a6, .inl (cI, 6, .inl (nIf T))), (b0, .inr (1, [.int (nI n), .int (nI m), .ref b1, .ref b2, .ref b3])), (b1, .inl (cI, 6, .inl (nIf mg_5))), (b2, .inl (cI, 144, .inl (mIf Y_7))), (b3, .inl (cI, 175, .inl (nIf X_6)))]
  refine v_iret zC zT dX4_allOf_17  ?_
  exact ⟨_, _, _, hD9, sn (dk_all hD9 hn), rfl⟩
set_option maxRecDepth 100000 in
set_option maxHeartbeats 4000000 in
theorem c_X4_knows (l : Launch) (D : va_G) (cI : ClassId) (x0 xm xp g0 s0 w0 y0 : Nat) (pd : Bool) (rs : Nat) (b0 b1 b2 b3 : Nat) (P Q : Nat) (mf : Nat → Nat) (M : Nat → Option Nat) (kn : Nat → Nat) (a0 a1 a2 a3 a4 a5 a6 : Nat) (n m sh : Nat) (ki op fa K G T : Nat → Nat) (R : Nat → Nat) (p q : Int32) (hw : FW n m sh ki op fa K G T) (hB : ∀ z, kn z < 1024) (hM : ∀ z v, M z = some v → v < 7) : CT l yX4_knows cX4_knows 3 (some .int) { frames := 4, cells := 0, slots := 0, locals := 99 } D cI [.ref x0, .int p, .int q] [(x0, .inr (4, [.ref a0, .ref xm, .ref xp, .int (bz pd), .ref b0, .ref g0, .ref s0, .ref w0, .int (nI rs), .ref y0])), (a0, .inr (2, [.int (nI n), .int (nI m), .int (nI sh), .int (nI 0), .ref a1, .ref a2, .ref a3, .ref a4, .ref a5, .ref a6])), (a1, .inl (cI, 7, .inl (nIf ki))), (a2, .inl (cI, 7, .inl (nIf op))), (a3, .inl (cI, 7, .inl (nIf fa))), (a4, .inl (cI, 6, .inl (nIf K))), (a5, .inl (cI, 6, .inl (nIf G))), (a6, .inl (cI, 6, .inl (nIf T))), (b0, .inr (1, [.int (nI P), .int (nI Q), .ref b1, .ref b2, .ref b3])), (b1, .inl (cI, 6, .inl (nIf mf))), (b2, .inl (cI, 144, .inl (mIf M))), (b3, .inl (cI, 175, .inl (nIf kn))), (y0, .inl (cI, 7, .inl (nIf R)))] (fun zr zw => (∃ P1 : Nat, ∃ Q1 : Nat, ∃ mg : Nat → Nat, ∃ X : Nat → Nat, ∃ Y : Nat → Option Nat, ∃ rc : Nat, ∃ rv : Int32, (q_knows (n, m, sh, 0, ki, op, fa, K, G, T) p q = (rc, rv)) ∧ (∀ z, X z < 1024) ∧ (∀ z v, Y z = some v → v < 7) ∧ zr = some (.int rv) ∧ zw = [(x0, .inr (4, [.ref a0, .ref xm, .ref xp, .int (bz pd), .ref b0, .ref g0, .ref s0, .ref w0, .int (nI rs), .ref y0])), (a0, .inr (2, [.int (nI n), .int (nI m), .int (nI sh), .int (nI 0), .ref a1, .ref a2, .ref a3, .ref a4, .ref a5, .ref a6])), (a1, .inl (cI, 7, .inl (nIf ki))), (a2, .inl (cI, 7, .inl (nIf op))), (a3, .inl (cI, 7, .inl (nIf fa))), (a4, .inl (cI, 6, .inl (nIf K))), (a5, .inl (cI, 6, .inl (nIf G))), (a6, .inl (cI, 6, .inl (nIf T))), (b0, .inr (1, [.int (nI P1), .int (nI Q1), .ref b1, .ref b2, .ref b3])), (b1, .inl (cI, 6, .inl (nIf mg))), (b2, .inl (cI, 144, .inl (mIf Y))), (b3, .inl (cI, 175, .inl (nIf X))), (y0, .inl (cI, 7, .inl (nIf (rf R rc))))])) := by
  refine CT_of RX4 rfl (by decide +kernel) (Nat.le_of_ble_eq_true rfl) (fun E hnE zC zT => ?_)
  have hA : ∀ q, (ev_s E).heap.size ≤ q → ev_A E q := fun q h => by rw [zT.2]; exact Or.inr h
  obtain ⟨hn, hm, hsh, hki, hop, hfa, hK, hG, hT, vki, vop, vfa, vK, vG, vT⟩ := id hw
  show VV E 0 0 0 [(0, .ref x0), (1, .int p), (2, .int q)] [] [(x0, .inr (4, [.ref a0, .ref xm, .ref xp, .int (bz pd), .ref b0, .ref g0, .ref s0, .ref w0, .int (nI rs), .ref y0])), (a0, .inr (2, [.int (nI n), .int (nI m), .int (nI sh), .int (nI 0), .ref a1, .ref a2, .ref a3, .ref a4, .ref a5, .ref a6])), (a1, .inl (cI, 7, .inl (nIf ki))), (a2, .inl (cI, 7, .inl (nIf op))), (a3, .inl (cI, 7, .inl (nIf fa))), (a4, .inl (cI, 6, .inl (nIf K))), (a5, .inl (cI, 6, .inl (nIf G))), (a6, .inl (cI, 6, .inl (nIf T))), (b0, .inr (1, [.int (nI P), .int (nI Q), .ref b1, .ref b2, .ref b3])), (b1, .inl (cI, 6, .inl (nIf mf))), (b2, .inl (cI, 144, .inl (mIf M))), (b3, .inl (cI, 175, .inl (nIf kn))), (y0, .inl (cI, 7, .inl (nIf R)))]
  refine v_al_n 1 zC dX4_knows_0 0 rfl ?_
  refine v_il_n 2 zC dX4_knows_1 1 rfl ?_
  refine v_cV (As := [.int p]) (st := []) 5 0 [0, 1] zC dX4_knows_2 hA (c_X4_noPerson (ev_l E) (ev_D E) cI (x0 := x0) (xm := xm) (xp := xp) (b0 := b0) (g0 := g0) (s0 := s0) (w0 := w0) (y0 := y0) (pd := pd) (rs := rs) (a0 := a0) (a1 := a1) (a2 := a2) (a3 := a3) (a4 := a4) (a5 := a5) (a6 := a6) (n := n) (m := m) (sh := sh) (p := p) (hn := (by first | omega | assumption | rfl | (simp only []; omega) | decide))) cf_X4_noPerson lk_X4_79 rfl rfl rfl rfl rfl (by decide +kernel) (Nat.le_of_ble_eq_true rfl) (fun rv_1 wv_2 hp_3 hm_4 => ?_)
  clear hm_4
  rcases hp_3 with ⟨hi_5, rfl, rfl⟩ | ⟨j_6, he_7, hi_8, hj_9, rfl, rfl⟩
  ·
    show VV E 0 0 5 [(0, .ref x0), (1, .int p), (2, .int q)] [.int (nI 1)] [(x0, .inr (4, [.ref a0, .ref xm, .ref xp, .int (bz pd), .ref b0, .ref g0, .ref s0, .ref w0, .int (nI rs), .ref y0])), (a0, .inr (2, [.int (nI n), .int (nI m), .int (nI sh), .int (nI 0), .ref a1, .ref a2, .ref a3, .ref a4, .ref a5, .ref a6])), (a1, .inl (cI, 7, .inl (nIf ki))), (a2, .inl (cI, 7, .inl (nIf op))), (a3, .inl (cI, 7, .inl (nIf fa))), (a4, .inl (cI, 6, .inl (nIf K))), (a5, .inl (cI, 6, .inl (nIf G))), (a6, .inl (cI, 6, .inl (nIf T))), (b0, .inr (1, [.int (nI P), .int (nI Q), .ref b1, .ref b2, .ref b3])), (b1, .inl (cI, 6, .inl (nIf mf))), (b2, .inl (cI, 144, .inl (mIf M))), (b3, .inl (cI, 175, .inl (nIf kn))), (y0, .inl (cI, 7, .inl (nIf R)))]
    refine v_if_eq 14 8 zC dX4_knows_5 (fun z => absurd z (by decide +kernel)) (fun _ => ?_)
    refine v_al_n 9 zC dX4_knows_8 0 rfl ?_
    refine v_ic (v := (-1)) 10 zC dX4_knows_9 (by decide +kernel) ?_
    refine v_cV (As := [.int (-1)]) (st := []) 13 0 [0, 12] zC dX4_knows_10 hA (c_X4_refuse (ev_l E) (ev_D E) cI (x0 := x0) (xn := a0) (xm := xm) (xp := xp) (b0 := b0) (g0 := g0) (s0 := s0) (w0 := w0) (y0 := y0) (pd := pd) (rs := rs) (R := R) (v := (-1)) (j := 1) (hv := (by first | omega | assumption | rfl | (simp only []; omega) | decide)) (h1 := (by first | omega | assumption | rfl | (simp only []; omega) | decide)) (h6 := (by first | omega | assumption | rfl | (simp only []; omega) | decide))) cf_X4_refuse lk_X4_50 rfl rfl rfl rfl rfl (by decide +kernel) (Nat.le_of_ble_eq_true rfl) (fun rv_11 wv_12 hp_13 hm_14 => ?_)
    clear hm_14
    obtain ⟨rfl, rfl⟩ := hp_13
    show VV E 0 0 13 [(0, .ref x0), (1, .int p), (2, .int q)] [.int (-1)] [(x0, .inr (4, [.ref a0, .ref xm, .ref xp, .int (bz pd), .ref b0, .ref g0, .ref s0, .ref w0, .int (nI rs), .ref y0])), (a0, .inr (2, [.int (nI n), .int (nI m), .int (nI sh), .int (nI 0), .ref a1, .ref a2, .ref a3, .ref a4, .ref a5, .ref a6])), (a1, .inl (cI, 7, .inl (nIf ki))), (a2, .inl (cI, 7, .inl (nIf op))), (a3, .inl (cI, 7, .inl (nIf fa))), (a4, .inl (cI, 6, .inl (nIf K))), (a5, .inl (cI, 6, .inl (nIf G))), (a6, .inl (cI, 6, .inl (nIf T))), (b0, .inr (1, [.int (nI P), .int (nI Q), .ref b1, .ref b2, .ref b3])), (b1, .inl (cI, 6, .inl (nIf mf))), (b2, .inl (cI, 144, .inl (mIf M))), (b3, .inl (cI, 175, .inl (nIf kn))), (y0, .inl (cI, 7, .inl (nIf (un R 1 (R 1 + 1)))))]
    refine v_iret zC zT dX4_knows_13  ?_
    first | exact ⟨P, Q, mf, kn, M, 1, _, by simp [q_knows, *], hB, hM, rfl, rfl⟩ | exact ⟨P, Q, mf, kn, M, 4, _, by simp [q_knows, *], hB, hM, rfl, rfl⟩ | exact ⟨P, Q, mf, kn, M, 6, _, by simp [q_knows, *], hB, hM, rfl, rfl⟩ | exact ⟨_, _, _, _, _, 0, _, by simp [q_knows, *]; exact congrArg nI (dk_r hD9 (by omega) (by omega)).symm, hD9.2.2.1, hD9.2.2.2, rfl, rfl⟩
  ·
    show VV E 0 0 5 [(0, .ref x0), (1, .int p), (2, .int q)] [.int (nI 0)] [(x0, .inr (4, [.ref a0, .ref xm, .ref xp, .int (bz pd), .ref b0, .ref g0, .ref s0, .ref w0, .int (nI rs), .ref y0])), (a0, .inr (2, [.int (nI n), .int (nI m), .int (nI sh), .int (nI 0), .ref a1, .ref a2, .ref a3, .ref a4, .ref a5, .ref a6])), (a1, .inl (cI, 7, .inl (nIf ki))), (a2, .inl (cI, 7, .inl (nIf op))), (a3, .inl (cI, 7, .inl (nIf fa))), (a4, .inl (cI, 6, .inl (nIf K))), (a5, .inl (cI, 6, .inl (nIf G))), (a6, .inl (cI, 6, .inl (nIf T))), (b0, .inr (1, [.int (nI P), .int (nI Q), .ref b1, .ref b2, .ref b3])), (b1, .inl (cI, 6, .inl (nIf mf))), (b2, .inl (cI, 144, .inl (mIf M))), (b3, .inl (cI, 175, .inl (nIf kn))), (y0, .inl (cI, 7, .inl (nIf R)))]
    subst he_7
    have hi_p := hi_8
    refine v_if_eq 14 8 zC dX4_knows_5 (fun _ => ?_) (fun z => absurd (by decide +kernel) z)
    refine v_il_n 15 zC dX4_knows_14 2 rfl ?_
    refine v_if_ge 25 18 zC dX4_knows_15 (fun h_16 => ?_) (fun h_16 => ?_)
    ·
      have hge : ¬ q < 0 := Int32.not_lt.mpr h_16
      refine v_il_n 26 zC dX4_knows_25 2 rfl ?_
      refine v_bp (v := (nI 24)) 28 zC dX4_knows_26 (by decide +kernel) ?_
      refine v_icmp_le 38 31 zC dX4_knows_28 (fun h_17 => ?_) (fun h_17 => ?_)
      ·
        have hle := Int32.not_lt.mpr h_17
        obtain ⟨k_18, hk_k_18, he_k_18⟩ := ofR hge hle
        subst he_k_18
        have hc_k_18 := nI_clamp (show k_18 < 2 ^ 31 by omega)
        refine v_al_n 39 zC dX4_knows_38 0 rfl ?_
        refine v_gf 42 0 zC dX4_knows_39 gf_X4_25 rfl rfl ?_
        refine v_al_n 43 zC dX4_knows_42 0 rfl ?_
        refine v_gf 46 0 zC dX4_knows_43 gf_X4_12 rfl rfl ?_
        refine v_cV (As := [.ref a0]) (st := []) 49 8 [8, 9, 10, 11, 1, 2, 3, 4, 5, 6, 7] zC dX4_knows_46 hA (c_X1_live (ev_l E) (ev_D E) cI (b0 := b0) (b1 := b1) (b2 := b2) (b3 := b3) (P := P) (Q := Q) (mf := mf) (M := M) (kn := kn) (a0 := a0) (a1 := a1) (a2 := a2) (a3 := a3) (a4 := a4) (a5 := a5) (a6 := a6) (n := n) (m := m) (sh := sh) (aw := 0) (ki := ki) (op := op) (fa := fa) (K := K) (G := G) (T := T) (hn := (by first | omega | assumption | rfl | (simp only []; omega) | decide)) (hm := (by first | omega | assumption | rfl | (simp only []; omega) | decide)) (hK := (by first | omega | assumption | rfl | (simp only []; omega) | decide)) (hG := (by first | omega | assumption | rfl | (simp only []; omega) | decide)) (hT := (by first | omega | assumption | rfl | (simp only []; omega) | decide)) (hA2 := (by first | omega | assumption | rfl | (simp only []; omega) | decide)) (hB := (by first | omega | assumption | rfl | (simp only []; omega) | decide)) (hM := (by first | omega | assumption | rfl | (simp only []; omega) | decide))) cf_X1_live lk_X4_158 rfl rfl rfl rfl rfl (by decide +kernel) (Nat.le_of_ble_eq_true rfl) (fun rv_19 wv_20 hp_21 hm_22 => ?_)
        clear hm_22
        obtain ⟨mg_23, X_24, Y_25, hD_26, rfl, rfl⟩ := hp_21
        show VV E 0 0 49 [(0, .ref x0), (1, .int (nI j_6)), (2, .int (nI k_18))] [] [(x0, .inr (4, [.ref a0, .ref xm, .ref xp, .int (bz pd), .ref b0, .ref g0, .ref s0, .ref w0, .int (nI rs), .ref y0])), (a0, .inr (2, [.int (nI n), .int (nI m), .int (nI sh), .int (nI 0), .ref a1, .ref a2, .ref a3, .ref a4, .ref a5, .ref a6])), (a1, .inl (cI, 7, .inl (nIf ki))), (a2, .inl (cI, 7, .inl (nIf op))), (a3, .inl (cI, 7, .inl (nIf fa))), (a4, .inl (cI, 6, .inl (nIf K))), (a5, .inl (cI, 6, .inl (nIf G))), (a6, .inl (cI, 6, .inl (nIf T))), (b0, .inr (1, [.int (nI n), .int (nI m), .ref b1, .ref b2, .ref b3])), (b1, .inl (cI, 6, .inl (nIf mg_23))), (b2, .inl (cI, 144, .inl (mIf Y_25))), (b3, .inl (cI, 175, .inl (nIf X_24))), (y0, .inl (cI, 7, .inl (nIf R)))]
        have hD9 := hD_26
        refine v_al_n 50 zC dX4_knows_49 0 rfl ?_
        refine v_gf 53 0 zC dX4_knows_50 gf_X4_25 rfl rfl ?_
        refine v_il_n 54 zC dX4_knows_53 2 rfl ?_
        refine v_il_n 55 zC dX4_knows_54 1 rfl ?_
        refine v_cV (As := [.int (nI k_18), .int (nI j_6)]) (st := []) 58 8 [8, 11] zC dX4_knows_55 hA (c_X1_knownBehind (ev_l E) (ev_D E) cI (b0 := b0) (b1 := b1) (b2 := b2) (b3 := b3) (P := n) (Q := m) (kn := X_24) (h := k_18) (p := j_6) (hP := (by first | omega | assumption | rfl | (simp only []; omega) | decide)) (hh := (by first | omega | assumption | rfl | (simp only []; omega) | decide)) (hp := (by first | omega | assumption | rfl | (simp only []; omega) | decide))) cf_X1_knownBehind lk_X4_168 rfl rfl rfl rfl rfl (by decide +kernel) (Nat.le_of_ble_eq_true rfl) (fun rv_27 wv_28 hp_29 hm_30 => ?_)
        clear hm_30
        obtain ⟨rfl, rfl⟩ := hp_29
        show VV E 0 0 58 [(0, .ref x0), (1, .int (nI j_6)), (2, .int (nI k_18))] [.int (nI (X_24 (k_18 * 7 + j_6)))] [(x0, .inr (4, [.ref a0, .ref xm, .ref xp, .int (bz pd), .ref b0, .ref g0, .ref s0, .ref w0, .int (nI rs), .ref y0])), (a0, .inr (2, [.int (nI n), .int (nI m), .int (nI sh), .int (nI 0), .ref a1, .ref a2, .ref a3, .ref a4, .ref a5, .ref a6])), (a1, .inl (cI, 7, .inl (nIf ki))), (a2, .inl (cI, 7, .inl (nIf op))), (a3, .inl (cI, 7, .inl (nIf fa))), (a4, .inl (cI, 6, .inl (nIf K))), (a5, .inl (cI, 6, .inl (nIf G))), (a6, .inl (cI, 6, .inl (nIf T))), (b0, .inr (1, [.int (nI n), .int (nI m), .ref b1, .ref b2, .ref b3])), (b1, .inl (cI, 6, .inl (nIf mg_23))), (b2, .inl (cI, 144, .inl (mIf Y_25))), (b3, .inl (cI, 175, .inl (nIf X_24))), (y0, .inl (cI, 7, .inl (nIf R)))]
        refine v_iret zC zT dX4_knows_58  ?_
        first | exact ⟨P, Q, mf, kn, M, 1, _, by simp [q_knows, *], hB, hM, rfl, rfl⟩ | exact ⟨P, Q, mf, kn, M, 4, _, by simp [q_knows, *], hB, hM, rfl, rfl⟩ | exact ⟨P, Q, mf, kn, M, 6, _, by simp [q_knows, *], hB, hM, rfl, rfl⟩ | exact ⟨_, _, _, _, _, 0, _, by simp [q_knows, *]; exact congrArg nI (dk_r hD9 (by omega) (by omega)).symm, hD9.2.2.1, hD9.2.2.2, rfl, rfl⟩
      ·
        have hlt9 := Int32.not_le.mp h_17
        refine v_al_n 32 zC dX4_knows_31 0 rfl ?_
        refine v_bp (v := (-6)) 34 zC dX4_knows_32 (by decide +kernel) ?_
        refine v_cV (As := [.int (-6)]) (st := []) 37 0 [0, 12] zC dX4_knows_34 hA (c_X4_refuse (ev_l E) (ev_D E) cI (x0 := x0) (xn := a0) (xm := xm) (xp := xp) (b0 := b0) (g0 := g0) (s0 := s0) (w0 := w0) (y0 := y0) (pd := pd) (rs := rs) (R := R) (v := (-6)) (j := 6) (hv := (by first | omega | assumption | rfl | (simp only []; omega) | decide)) (h1 := (by first | omega | assumption | rfl | (simp only []; omega) | decide)) (h6 := (by first | omega | assumption | rfl | (simp only []; omega) | decide))) cf_X4_refuse lk_X4_50 rfl rfl rfl rfl rfl (by decide +kernel) (Nat.le_of_ble_eq_true rfl) (fun rv_31 wv_32 hp_33 hm_34 => ?_)
        clear hm_34
        obtain ⟨rfl, rfl⟩ := hp_33
        show VV E 0 0 37 [(0, .ref x0), (1, .int (nI j_6)), (2, .int q)] [.int (-6)] [(x0, .inr (4, [.ref a0, .ref xm, .ref xp, .int (bz pd), .ref b0, .ref g0, .ref s0, .ref w0, .int (nI rs), .ref y0])), (a0, .inr (2, [.int (nI n), .int (nI m), .int (nI sh), .int (nI 0), .ref a1, .ref a2, .ref a3, .ref a4, .ref a5, .ref a6])), (a1, .inl (cI, 7, .inl (nIf ki))), (a2, .inl (cI, 7, .inl (nIf op))), (a3, .inl (cI, 7, .inl (nIf fa))), (a4, .inl (cI, 6, .inl (nIf K))), (a5, .inl (cI, 6, .inl (nIf G))), (a6, .inl (cI, 6, .inl (nIf T))), (b0, .inr (1, [.int (nI P), .int (nI Q), .ref b1, .ref b2, .ref b3])), (b1, .inl (cI, 6, .inl (nIf mf))), (b2, .inl (cI, 144, .inl (mIf M))), (b3, .inl (cI, 175, .inl (nIf kn))), (y0, .inl (cI, 7, .inl (nIf (un R 6 (R 6 + 1)))))]
        refine v_iret zC zT dX4_knows_37  ?_
        first | exact ⟨P, Q, mf, kn, M, 1, _, by simp [q_knows, *], hB, hM, rfl, rfl⟩ | exact ⟨P, Q, mf, kn, M, 4, _, by simp [q_knows, *], hB, hM, rfl, rfl⟩ | exact ⟨P, Q, mf, kn, M, 6, _, by simp [q_knows, *], hB, hM, rfl, rfl⟩ | exact ⟨_, _, _, _, _, 0, _, by simp [q_knows, *]; exact congrArg nI (dk_r hD9 (by omega) (by omega)).symm, hD9.2.2.1, hD9.2.2.2, rfl, rfl⟩
    ·
      have hlt9 := Int32.not_le.mp h_16
      refine v_al_n 19 zC dX4_knows_18 0 rfl ?_
      refine v_bp (v := (-4)) 21 zC dX4_knows_19 (by decide +kernel) ?_
      refine v_cV (As := [.int (-4)]) (st := []) 24 0 [0, 12] zC dX4_knows_21 hA (c_X4_refuse (ev_l E) (ev_D E) cI (x0 := x0) (xn := a0) (xm := xm) (xp := xp) (b0 := b0) (g0 := g0) (s0 := s0) (w0 := w0) (y0 := y0) (pd := pd) (rs := rs) (R := R) (v := (-4)) (j := 4) (hv := (by first | omega | assumption | rfl | (simp only []; omega) | decide)) (h1 := (by first | omega | assumption | rfl | (simp only []; omega) | decide)) (h6 := (by first | omega | assumption | rfl | (simp only []; omega) | decide))) cf_X4_refuse lk_X4_50 rfl rfl rfl rfl rfl (by decide +kernel) (Nat.le_of_ble_eq_true rfl) (fun rv_35 wv_36 hp_37 hm_38 => ?_)
      clear hm_38
      obtain ⟨rfl, rfl⟩ := hp_37
      show VV E 0 0 24 [(0, .ref x0), (1, .int (nI j_6)), (2, .int q)] [.int (-4)] [(x0, .inr (4, [.ref a0, .ref xm, .ref xp, .int (bz pd), .ref b0, .ref g0, .ref s0, .ref w0, .int (nI rs), .ref y0])), (a0, .inr (2, [.int (nI n), .int (nI m), .int (nI sh), .int (nI 0), .ref a1, .ref a2, .ref a3, .ref a4, .ref a5, .ref a6])), (a1, .inl (cI, 7, .inl (nIf ki))), (a2, .inl (cI, 7, .inl (nIf op))), (a3, .inl (cI, 7, .inl (nIf fa))), (a4, .inl (cI, 6, .inl (nIf K))), (a5, .inl (cI, 6, .inl (nIf G))), (a6, .inl (cI, 6, .inl (nIf T))), (b0, .inr (1, [.int (nI P), .int (nI Q), .ref b1, .ref b2, .ref b3])), (b1, .inl (cI, 6, .inl (nIf mf))), (b2, .inl (cI, 144, .inl (mIf M))), (b3, .inl (cI, 175, .inl (nIf kn))), (y0, .inl (cI, 7, .inl (nIf (un R 4 (R 4 + 1)))))]
      refine v_iret zC zT dX4_knows_24  ?_
      first | exact ⟨P, Q, mf, kn, M, 1, _, by simp [q_knows, *], hB, hM, rfl, rfl⟩ | exact ⟨P, Q, mf, kn, M, 4, _, by simp [q_knows, *], hB, hM, rfl, rfl⟩ | exact ⟨P, Q, mf, kn, M, 6, _, by simp [q_knows, *], hB, hM, rfl, rfl⟩ | exact ⟨_, _, _, _, _, 0, _, by simp [q_knows, *]; exact congrArg nI (dk_r hD9 (by omega) (by omega)).symm, hD9.2.2.1, hD9.2.2.2, rfl, rfl⟩
set_option maxRecDepth 100000 in
set_option maxHeartbeats 4000000 in
theorem c_X4_all (l : Launch) (D : va_G) (cI : ClassId) (x0 xm xp g0 s0 w0 y0 : Nat) (pd : Bool) (rs : Nat) (b0 b1 b2 b3 : Nat) (P Q : Nat) (mf : Nat → Nat) (M : Nat → Option Nat) (kn : Nat → Nat) (a0 a1 a2 a3 a4 a5 a6 : Nat) (n m sh : Nat) (ki op fa K G T : Nat → Nat) (hw : FW n m sh ki op fa K G T) (hB : ∀ z, kn z < 1024) (hM : ∀ z v, M z = some v → v < 7) : CT l yX4_all cX4_all 1 (some .int) { frames := 5, cells := 0, slots := 0, locals := 120 } D cI [.ref x0] [(x0, .inr (4, [.ref a0, .ref xm, .ref xp, .int (bz pd), .ref b0, .ref g0, .ref s0, .ref w0, .int (nI rs), .ref y0])), (a0, .inr (2, [.int (nI n), .int (nI m), .int (nI sh), .int (nI 0), .ref a1, .ref a2, .ref a3, .ref a4, .ref a5, .ref a6])), (a1, .inl (cI, 7, .inl (nIf ki))), (a2, .inl (cI, 7, .inl (nIf op))), (a3, .inl (cI, 7, .inl (nIf fa))), (a4, .inl (cI, 6, .inl (nIf K))), (a5, .inl (cI, 6, .inl (nIf G))), (a6, .inl (cI, 6, .inl (nIf T))), (b0, .inr (1, [.int (nI P), .int (nI Q), .ref b1, .ref b2, .ref b3])), (b1, .inl (cI, 6, .inl (nIf mf))), (b2, .inl (cI, 144, .inl (mIf M))), (b3, .inl (cI, 175, .inl (nIf kn)))] (fun zr zw => (∃ P1 : Nat, ∃ Q1 : Nat, ∃ mg : Nat → Nat, ∃ X : Nat → Nat, ∃ Y : Nat → Option Nat, (∀ z, X z < 1024) ∧ (∀ z v, Y z = some v → v < 7) ∧ zr = some (.int (nI (ALL (n, m, sh, 0, ki, op, fa, K, G, T)))) ∧ zw = [(x0, .inr (4, [.ref a0, .ref xm, .ref xp, .int (bz pd), .ref b0, .ref g0, .ref s0, .ref w0, .int (nI rs), .ref y0])), (a0, .inr (2, [.int (nI n), .int (nI m), .int (nI sh), .int (nI 0), .ref a1, .ref a2, .ref a3, .ref a4, .ref a5, .ref a6])), (a1, .inl (cI, 7, .inl (nIf ki))), (a2, .inl (cI, 7, .inl (nIf op))), (a3, .inl (cI, 7, .inl (nIf fa))), (a4, .inl (cI, 6, .inl (nIf K))), (a5, .inl (cI, 6, .inl (nIf G))), (a6, .inl (cI, 6, .inl (nIf T))), (b0, .inr (1, [.int (nI P1), .int (nI Q1), .ref b1, .ref b2, .ref b3])), (b1, .inl (cI, 6, .inl (nIf mg))), (b2, .inl (cI, 144, .inl (mIf Y))), (b3, .inl (cI, 175, .inl (nIf X)))])) := by
  refine CT_of RX4 rfl (by decide +kernel) (Nat.le_of_ble_eq_true rfl) (fun E hnE zC zT => ?_)
  have hA : ∀ q, (ev_s E).heap.size ≤ q → ev_A E q := fun q h => by rw [zT.2]; exact Or.inr h
  obtain ⟨hn, hm, hsh, hki, hop, hfa, hK, hG, hT, vki, vop, vfa, vK, vG, vT⟩ := id hw
  show VV E 0 0 0 [(0, .ref x0)] [] [(x0, .inr (4, [.ref a0, .ref xm, .ref xp, .int (bz pd), .ref b0, .ref g0, .ref s0, .ref w0, .int (nI rs), .ref y0])), (a0, .inr (2, [.int (nI n), .int (nI m), .int (nI sh), .int (nI 0), .ref a1, .ref a2, .ref a3, .ref a4, .ref a5, .ref a6])), (a1, .inl (cI, 7, .inl (nIf ki))), (a2, .inl (cI, 7, .inl (nIf op))), (a3, .inl (cI, 7, .inl (nIf fa))), (a4, .inl (cI, 6, .inl (nIf K))), (a5, .inl (cI, 6, .inl (nIf G))), (a6, .inl (cI, 6, .inl (nIf T))), (b0, .inr (1, [.int (nI P), .int (nI Q), .ref b1, .ref b2, .ref b3])), (b1, .inl (cI, 6, .inl (nIf mf))), (b2, .inl (cI, 144, .inl (mIf M))), (b3, .inl (cI, 175, .inl (nIf kn)))]
  refine v_al_n 1 zC dX4_all_0 0 rfl ?_
  refine v_al_n 2 zC dX4_all_1 0 rfl ?_
  refine v_gf 5 0 zC dX4_all_2 gf_X4_12 rfl rfl ?_
  refine v_cV (As := [.ref a0]) (st := []) 8 0 [0, 1, 2, 3, 4, 5, 6, 7, 8, 9, 10, 11] zC dX4_all_5 hA (c_X4_allOf (ev_l E) (ev_D E) cI (x0 := x0) (xn := a0) (xm := xm) (xp := xp) (g0 := g0) (s0 := s0) (w0 := w0) (y0 := y0) (pd := pd) (rs := rs) (b0 := b0) (b1 := b1) (b2 := b2) (b3 := b3) (P := P) (Q := Q) (mf := mf) (M := M) (kn := kn) (a0 := a0) (a1 := a1) (a2 := a2) (a3 := a3) (a4 := a4) (a5 := a5) (a6 := a6) (n := n) (m := m) (sh := sh) (aw := 0) (ki := ki) (op := op) (fa := fa) (K := K) (G := G) (T := T) (hw := (by first | omega | assumption | rfl | (simp only []; omega) | decide)) (hB := (by first | omega | assumption | rfl | (simp only []; omega) | decide)) (hM := (by first | omega | assumption | rfl | (simp only []; omega) | decide))) cf_X4_allOf lk_X4_198 rfl rfl rfl rfl rfl (by decide +kernel) (Nat.le_of_ble_eq_true rfl) (fun rv_1 wv_2 hp_3 hm_4 => ?_)
  clear hm_4
  obtain ⟨mg_5, X_6, Y_7, hD_8, rfl, rfl⟩ := hp_3
  show VV E 0 0 8 [(0, .ref x0)] [.int (nI (ALL (n, m, sh, 0, ki, op, fa, K, G, T)))] [(x0, .inr (4, [.ref a0, .ref xm, .ref xp, .int (bz pd), .ref b0, .ref g0, .ref s0, .ref w0, .int (nI rs), .ref y0])), (a0, .inr (2, [.int (nI n), .int (nI m), .int (nI sh), .int (nI 0), .ref a1, .ref a2, .ref a3, .ref a4, .ref a5, .ref a6])), (a1, .inl (cI, 7, .inl (nIf ki))), (a2, .inl (cI, 7, .inl (nIf op))), (a3, .inl (cI, 7, .inl (nIf fa))), (a4, .inl (cI, 6, .inl (nIf K))), (a5, .inl (cI, 6, .inl (nIf G))), (a6, .inl (cI, 6, .inl (nIf T))), (b0, .inr (1, [.int (nI n), .int (nI m), .ref b1, .ref b2, .ref b3])), (b1, .inl (cI, 6, .inl (nIf mg_5))), (b2, .inl (cI, 144, .inl (mIf Y_7))), (b3, .inl (cI, 175, .inl (nIf X_6)))]
  have hD9 := hD_8
  refine v_iret zC zT dX4_all_8  ?_
  exact ⟨_, _, _, _, _, hD9.2.2.1, hD9.2.2.2, rfl, rfl⟩
