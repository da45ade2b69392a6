theorem ffO_z (n g : Nat) : ffO n g 0 = none := by
  have h : ∀ k, fs (fun i => Nat.testBit 0 ((g + i) % n)) k = none := by
    intro k
    induction k with
    | zero => rfl
    | succ k ih => exact fs_0 ih (Nat.zero_testBit _)
  unfold ffO
  rw [h]
  rfl
theorem ffO_n {n g s : Nat} (h : fs (fun i => Nat.testBit s ((g + i) % n)) n = none) : ffO n g s = none := by
  unfold ffO
  rw [h]
  rfl
theorem ffO_e {n g s i : Nat} (h : fs (fun i => Nat.testBit s ((g + i) % n)) i = none) (h1 : i ≤ n) (h2 : n ≤ i) : ffO n g s = none := by
  have e : i = n := by omega
  subst e
  exact ffO_n h
theorem ffO_s {n g s i : Nat} (h : fs (fun i => Nat.testBit s ((g + i) % n)) i = none) (hi : i < n) (hp : Nat.testBit s ((g + i) % n) = true) : ffO n g s = some ((g + i) % n) := by
  have h1 := fs_m (P := fun i => Nat.testBit s ((g + i) % n)) (show i + 1 ≤ n by omega) (fs_1 h hp)
  unfold ffO
  rw [h1]
  rfl
theorem v_tsw {E : EV} {cc : ByteArray} {own : String} {ret : Option FieldType} {cI : ClassId} {rm : Room} {k n pc : Nat} {lv : List (Nat × Value)} {st : List Value} {ws : va_W} {dflt lo hi : Int} {offs : Array Int} {len : Nat} {x : Int32} {off : Int} (t : Nat) (C : CX E cc own ret cI rm) (hd : decode cc pc = .ok (.tableswitch dflt lo hi offs, len)) (hs : (¬ x.toInt < lo ∧ ¬ hi < x.toInt ∧ offs[(x.toInt - lo).toNat]? = some off) ∨ ((x.toInt < lo ∨ hi < x.toInt) ∧ off = dflt)) (kk : VV E k n t lv st ws) (ht : (pc : Int) + off = (t : Int) := by rfl) : VV E k n pc lv (.int x :: st) ws := by
  intro H locs ls hP hD hS hl
  rcases hs with ⟨h1, h2, h3⟩ | ⟨h1, h2⟩
  · exact lv_tableIn C.1 C.2.1 hd h1 h2 h3 ht (kk H locs ls hP hD hS hl)
  · subst h2
    exact lv_tableOut C.1 C.2.1 hd h1 ht (kk H locs ls hP hD hS hl)
theorem v_lsw {E : EV} {cc : ByteArray} {own : String} {ret : Option FieldType} {cI : ClassId} {rm : Room} {k n pc : Nat} {lv : List (Nat × Value)} {st : List Value} {ws : va_W} {dflt : Int} {ps : Array (Int × Int)} {len : Nat} {x : Int32} {off : Int} (t : Nat) (C : CX E cc own ret cI rm) (hd : decode cc pc = .ok (.lookupswitch dflt ps, len)) (hs : (ps.toList.zip (ps.toList.drop 1)).all (fun (a, next) => a.1 < next.1) = true ∧ Op.lookupswitch.offset ps.toList dflt x.toInt = off) (kk : VV E k n t lv st ws) (ht : (pc : Int) + off = (t : Int) := by rfl) : VV E k n pc lv (.int x :: st) ws := by
  intro H locs ls hP hD hS hl
  exact lv_lookup C.1 C.2.1 hd hs.1 hs.2 ht (kk H locs ls hP hD hS hl)

set_option maxRecDepth 100000 in
set_option maxHeartbeats 4000000 in
theorem c_X2_isShut (l : Launch) (D : va_G) (cI : ClassId) (a0 a1 a2 a3 a4 a5 a6 : Nat) (n m sh aw : Nat) (p : Nat) (hp : p < 32) : CT l yX2_isShut cX2_isShut 2 (some .boolean) { frames := 0, cells := 0, slots := 0, locals := 0 } D cI [.ref a0, .int (nI p)] [(a0, .inr (2, [.int (nI n), .int (nI m), .int (nI sh), .int (nI aw), .ref a1, .ref a2, .ref a3, .ref a4, .ref a5, .ref a6]))] (fun zr zw => (zr = some (.int (bz (Nat.testBit sh p))) ∧ zw = [(a0, .inr (2, [.int (nI n), .int (nI m), .int (nI sh), .int (nI aw), .ref a1, .ref a2, .ref a3, .ref a4, .ref a5, .ref a6]))])) := by
  refine CT_of RX2 rfl (by decide +kernel) (Nat.le_of_ble_eq_true rfl) (fun E hnE zC zT => ?_)
  have hA : ∀ q, (ev_s E).heap.size ≤ q → ev_A E q := fun q h => by rw [zT.2]; exact Or.inr h
  show VV E 0 0 0 [(0, .ref a0), (1, .int (nI p))] [] [(a0, .inr (2, [.int (nI n), .int (nI m), .int (nI sh), .int (nI aw), .ref a1, .ref a2, .ref a3, .ref a4, .ref a5, .ref a6]))]
  refine v_al_n 1 zC dX2_isShut_0 0 rfl ?_
  refine v_gf 4 0 zC dX2_isShut_1 gf_X2_37 rfl rfl ?_
  refine v_il_n 5 zC dX2_isShut_4 1 rfl ?_
  refine v_ishr (v := ((nI sh) >>> (nI p))) 6 zC dX2_isShut_5 (sr_of (by omega)) ?_
  refine v_ic (v := (nI 1)) 7 zC dX2_isShut_6 (by decide +kernel) ?_
  refine v_iand (v := (bz (Nat.testBit sh p))) 8 zC dX2_isShut_7 (tb_of _ (by omega)) ?_
  refine v_ifb_eq 15 11 zC dX2_isShut_8 (fun h_1 => ?_) (fun h_1 => ?_)
  ·
    refine v_ic (v := (nI 0)) 16 zC dX2_isShut_15 (by decide +kernel) ?_
    refine v_zret zC zT dX2_isShut_16 (by decide +kernel) ?_
    first | exact ⟨rfl, rfl⟩ | exact ⟨sb1 (by assumption), rfl⟩ | exact ⟨sb0 (by assumption), rfl⟩ | (exfalso; omega) | exact ⟨sb1 (by simp [*]), rfl⟩ | exact ⟨sb0 (by simp [*]), rfl⟩
  ·
    refine v_ic (v := (nI 1)) 12 zC dX2_isShut_11 (by decide +kernel) ?_
    refine v_goto 16 zC dX2_isShut_12 ?_
    refine v_zret zC zT dX2_isShut_16 (by decide +kernel) ?_
    first | exact ⟨rfl, rfl⟩ | exact ⟨sb1 (by assumption), rfl⟩ | exact ⟨sb0 (by assumption), rfl⟩ | (exfalso; omega) | exact ⟨sb1 (by simp [*]), rfl⟩ | exact ⟨sb0 (by simp [*]), rfl⟩
set_option maxRecDepth 100000 in
set_option maxHeartbeats 4000000 in
theorem c_X2_isOpen (l : Launch) (D : va_G) (cI : ClassId) (a0 a1 a2 a3 a4 a5 a6 : Nat) (n m sh aw : Nat) (op : Nat → Nat) (p x : Nat) (hn : n ≤ 7) (hp : p < n) (hx : x < 32) : CT l yX2_isOpen cX2_isOpen 3 (some .boolean) { frames := 0, cells := 0, slots := 0, locals := 0 } D cI [.ref a0, .int (nI p), .int (nI x)] [(a0, .inr (2, [.int (nI n), .int (nI m), .int (nI sh), .int (nI aw), .ref a1, .ref a2, .ref a3, .ref a4, .ref a5, .ref a6])), (a2, .inl (cI, 7, .inl (nIf op)))] (fun zr zw => (zr = some (.int (bz (Nat.testBit (op p) x))) ∧ zw = [(a0, .inr (2, [.int (nI n), .int (nI m), .int (nI sh), .int (nI aw), .ref a1, .ref a2, .ref a3, .ref a4, .ref a5, .ref a6])), (a2, .inl (cI, 7, .inl (nIf op)))])) := by
  refine CT_of RX2 rfl (by decide +kernel) (Nat.le_of_ble_eq_true rfl) (fun E hnE zC zT => ?_)
  have hA : ∀ q, (ev_s E).heap.size ≤ q → ev_A E q := fun q h => by rw [zT.2]; exact Or.inr h
  show VV E 0 0 0 [(0, .ref a0), (1, .int (nI p)), (2, .int (nI x))] [] [(a0, .inr (2, [.int (nI n), .int (nI m), .int (nI sh), .int (nI aw), .ref a1, .ref a2, .ref a3, .ref a4, .ref a5, .ref a6])), (a2, .inl (cI, 7, .inl (nIf op)))]
  refine v_il_n 1 zC dX2_isOpen_0 1 rfl ?_
  refine v_ifn_lt 29 4 zC dX2_isOpen_1 (fun z => absurd z (Nat.not_lt_zero _)) (fun _ => ?_)
  refine v_il_n 5 zC dX2_isOpen_4 1 rfl ?_
  refine v_al_n 6 zC dX2_isOpen_5 0 rfl ?_
  refine v_gf 9 0 zC dX2_isOpen_6 gf_X2_30 rfl rfl ?_
  refine v_icmpn_ge 29 12 zC dX2_isOpen_9 (fun h_2 => ?_) (fun h_2 => ?_)
  ·
    refine v_ic (v := (nI 0)) 30 zC dX2_isOpen_29 (by decide +kernel) ?_
    refine v_zret zC zT dX2_isOpen_30 (by decide +kernel) ?_
    first | exact ⟨rfl, rfl⟩ | exact ⟨sb1 (by assumption), rfl⟩ | exact ⟨sb0 (by assumption), rfl⟩ | (exfalso; omega) | exact ⟨sb1 (by simp [*]), rfl⟩ | exact ⟨sb0 (by simp [*]), rfl⟩
  ·
    refine v_al_n 13 zC dX2_isOpen_12 0 rfl ?_
    refine v_gf 16 0 zC dX2_isOpen_13 gf_X2_15 rfl rfl ?_
    refine v_il_n 17 zC dX2_isOpen_16 1 rfl ?_
    refine v_ialn (v := (nI (op p))) 18 1 zC dX2_isOpen_17 rfl (by omega) rfl ?_
    refine v_il_n 19 zC dX2_isOpen_18 2 rfl ?_
    refine v_ishr (v := ((nI (op p)) >>> (nI x))) 20 zC dX2_isOpen_19 (sr_of (by omega)) ?_
    refine v_ic (v := (nI 1)) 21 zC dX2_isOpen_20 (by decide +kernel) ?_
    refine v_iand (v := (bz (Nat.testBit (op p) x))) 22 zC dX2_isOpen_21 (tb_of _ (by omega)) ?_
    refine v_ifb_eq 29 25 zC dX2_isOpen_22 (fun h_3 => ?_) (fun h_3 => ?_)
    ·
      refine v_ic (v := (nI 0)) 30 zC dX2_isOpen_29 (by decide +kernel) ?_
      refine v_zret zC zT dX2_isOpen_30 (by decide +kernel) ?_
      first | exact ⟨rfl, rfl⟩ | exact ⟨sb1 (by assumption), rfl⟩ | exact ⟨sb0 (by assumption), rfl⟩ | (exfalso; omega) | exact ⟨sb1 (by simp [*]), rfl⟩ | exact ⟨sb0 (by simp [*]), rfl⟩
    ·
      refine v_ic (v := (nI 1)) 26 zC dX2_isOpen_25 (by decide +kernel) ?_
      refine v_goto 30 zC dX2_isOpen_26 ?_
      refine v_zret zC zT dX2_isOpen_30 (by decide +kernel) ?_
      first | exact ⟨rfl, rfl⟩ | exact ⟨sb1 (by assumption), rfl⟩ | exact ⟨sb0 (by assumption), rfl⟩ | (exfalso; omega) | exact ⟨sb1 (by simp [*]), rfl⟩ | exact ⟨sb0 (by simp [*]), rfl⟩
set_option maxRecDepth 100000 in
set_option maxHeartbeats 4000000 in
theorem c_X2_isKnown (l : Launch) (D : va_G) (cI : ClassId) (a0 a1 a2 a3 a4 a5 a6 : Nat) (n m sh aw : Nat) (fa : Nat → Nat) (p x : Nat) (hn : n ≤ 7) (hp : p < n) (hx : x < 32) : CT l yX2_isKnown cX2_isKnown 3 (some .boolean) { frames := 0, cells := 0, slots := 0, locals := 0 } D cI [.ref a0, .int (nI p), .int (nI x)] [(a0, .inr (2, [.int (nI n), .int (nI m), .int (nI sh), .int (nI aw), .ref a1, .ref a2, .ref a3, .ref a4, .ref a5, .ref a6])), (a3, .inl (cI, 7, .inl (nIf fa)))] (fun zr zw => (zr = some (.int (bz (Nat.testBit (fa p) x))) ∧ zw = [(a0, .inr (2, [.int (nI n), .int (nI m), .int (nI sh), .int (nI aw), .ref a1, .ref a2, .ref a3, .ref a4, .ref a5, .ref a6])), (a3, .inl (cI, 7, .inl (nIf fa)))])) := by
  refine CT_of RX2 rfl (by decide +kernel) (Nat.le_of_ble_eq_true rfl) (fun E hnE zC zT => ?_)
  have hA : ∀ q, (ev_s E).heap.size ≤ q → ev_A E q := fun q h => by rw [zT.2]; exact Or.inr h
  show VV E 0 0 0 [(0, .ref a0), (1, .int (nI p)), (2, .int (nI x))] [] [(a0, .inr (2, [.int (nI n), .int (nI m), .int (nI sh), .int (nI aw), .ref a1, .ref a2, .ref a3, .ref a4, .ref a5, .ref a6])), (a3, .inl (cI, 7, .inl (nIf fa)))]
  refine v_il_n 1 zC dX2_isKnown_0 1 rfl ?_
  refine v_ifn_lt 29 4 zC dX2_isKnown_1 (fun z => absurd z (Nat.not_lt_zero _)) (fun _ => ?_)
  refine v_il_n 5 zC dX2_isKnown_4 1 rfl ?_
  refine v_al_n 6 zC dX2_isKnown_5 0 rfl ?_
  refine v_gf 9 0 zC dX2_isKnown_6 gf_X2_30 rfl rfl ?_
  refine v_icmpn_ge 29 12 zC dX2_isKnown_9 (fun h_2 => ?_) (fun h_2 => ?_)
  ·
    refine v_ic (v := (nI 0)) 30 zC dX2_isKnown_29 (by decide +kernel) ?_
    refine v_zret zC zT dX2_isKnown_30 (by decide +kernel) ?_
    first | exact ⟨rfl, rfl⟩ | exact ⟨sb1 (by assumption), rfl⟩ | exact ⟨sb0 (by assumption), rfl⟩ | (exfalso; omega) | exact ⟨sb1 (by simp [*]), rfl⟩ | exact ⟨sb0 (by simp [*]), rfl⟩
  ·
    refine v_al_n 13 zC dX2_isKnown_12 0 rfl ?_
    refine v_gf 16 0 zC dX2_isKnown_13 gf_X2_18 rfl rfl ?_
    refine v_il_n 17 zC dX2_isKnown_16 1 rfl ?_
    refine v_ialn (v := (nI (fa p))) 18 1 zC dX2_isKnown_17 rfl (by omega) rfl ?_
    refine v_il_n 19 zC dX2_isKnown_18 2 rfl ?_
    refine v_ishr (v := ((nI (fa p)) >>> (nI x))) 20 zC dX2_isKnown_19 (sr_of (by omega)) ?_
    refine v_ic (v := (nI 1)) 21 zC dX2_isKnown_20 (by decide +kernel) ?_
    refine v_iand (v := (bz (Nat.testBit (fa p) x))) 22 zC dX2_isKnown_21 (tb_of _ (by omega)) ?_
    refine v_ifb_eq 29 25 zC dX2_isKnown_22 (fun h_3 => ?_) (fun h_3 => ?_)
    ·
      refine v_ic (v := (nI 0)) 30 zC dX2_isKnown_29 (by decide +kernel) ?_
      refine v_zret zC zT dX2_isKnown_30 (by decide +kernel) ?_
      first | exact ⟨rfl, rfl⟩ | exact ⟨sb1 (by assumption), rfl⟩ | exact ⟨sb0 (by assumption), rfl⟩ | (exfalso; omega) | exact ⟨sb1 (by simp [*]), rfl⟩ | exact ⟨sb0 (by simp [*]), rfl⟩
    ·
      refine v_ic (v := (nI 1)) 26 zC dX2_isKnown_25 (by decide +kernel) ?_
      refine v_goto 30 zC dX2_isKnown_26 ?_
      refine v_zret zC zT dX2_isKnown_30 (by decide +kernel) ?_
      first | exact ⟨rfl, rfl⟩ | exact ⟨sb1 (by assumption), rfl⟩ | exact ⟨sb0 (by assumption), rfl⟩ | (exfalso; omega) | exact ⟨sb1 (by simp [*]), rfl⟩ | exact ⟨sb0 (by simp [*]), rfl⟩
set_option maxRecDepth 100000 in
set_option maxHeartbeats 4000000 in
theorem c_X2_isKin (l : Launch) (D : va_G) (cI : ClassId) (a0 a1 a2 a3 a4 a5 a6 : Nat) (n m sh aw : Nat) (ki : Nat → Nat) (p x : Nat) (hn : n ≤ 7) (hp : p < n) (hx : x < 32) : CT l yX2_isKin cX2_isKin 3 (some .boolean) { frames := 0, cells := 0, slots := 0, locals := 0 } D cI [.ref a0, .int (nI p), .int (nI x)] [(a0, .inr (2, [.int (nI n), .int (nI m), .int (nI sh), .int (nI aw), .ref a1, .ref a2, .ref a3, .ref a4, .ref a5, .ref a6])), (a1, .inl (cI, 7, .inl (nIf ki)))] (fun zr zw => (zr = some (.int (bz (Nat.testBit (ki p) x))) ∧ zw = [(a0, .inr (2, [.int (nI n), .int (nI m), .int (nI sh), .int (nI aw), .ref a1, .ref a2, .ref a3, .ref a4, .ref a5, .ref a6])), (a1, .inl (cI, 7, .inl (nIf ki)))])) := by
  refine CT_of RX2 rfl (by decide +kernel) (Nat.le_of_ble_eq_true rfl) (fun E hnE zC zT => ?_)
  have hA : ∀ q, (ev_s E).heap.size ≤ q → ev_A E q := fun q h => by rw [zT.2]; exact Or.inr h
  show VV E 0 0 0 [(0, .ref a0), (1, .int (nI p)), (2, .int (nI x))] [] [(a0, .inr (2, [.int (nI n), .int (nI m), .int (nI sh), .int (nI aw), .ref a1, .ref a2, .ref a3, .ref a4, .ref a5, .ref a6])), (a1, .inl (cI, 7, .inl (nIf ki)))]
  refine v_il_n 1 zC dX2_isKin_0 1 rfl ?_
  refine v_ifn_lt 29 4 zC dX2_isKin_1 (fun z => absurd z (Nat.not_lt_zero _)) (fun _ => ?_)
  refine v_il_n 5 zC dX2_isKin_4 1 rfl ?_
  refine v_al_n 6 zC dX2_isKin_5 0 rfl ?_
  refine v_gf 9 0 zC dX2_isKin_6 gf_X2_30 rfl rfl ?_
  refine v_icmpn_ge 29 12 zC dX2_isKin_9 (fun h_2 => ?_) (fun h_2 => ?_)
  ·
    refine v_ic (v := (nI 0)) 30 zC dX2_isKin_29 (by decide +kernel) ?_
    refine v_zret zC zT dX2_isKin_30 (by decide +kernel) ?_
    first | exact ⟨rfl, rfl⟩ | exact ⟨sb1 (by assumption), rfl⟩ | exact ⟨sb0 (by assumption), rfl⟩ | (exfalso; omega) | exact ⟨sb1 (by simp [*]), rfl⟩ | exact ⟨sb0 (by simp [*]), rfl⟩
  ·
    refine v_al_n 13 zC dX2_isKin_12 0 rfl ?_
    refine v_gf 16 0 zC dX2_isKin_13 gf_X2_9 rfl rfl ?_
    refine v_il_n 17 zC dX2_isKin_16 1 rfl ?_
    refine v_ialn (v := (nI (ki p))) 18 1 zC dX2_isKin_17 rfl (by omega) rfl ?_
    refine v_il_n 19 zC dX2_isKin_18 2 rfl ?_
    refine v_ishr (v := ((nI (ki p)) >>> (nI x))) 20 zC dX2_isKin_19 (sr_of (by omega)) ?_
    refine v_ic (v := (nI 1)) 21 zC dX2_isKin_20 (by decide +kernel) ?_
    refine v_iand (v := (bz (Nat.testBit (ki p) x))) 22 zC dX2_isKin_21 (tb_of _ (by omega)) ?_
    refine v_ifb_eq 29 25 zC dX2_isKin_22 (fun h_3 => ?_) (fun h_3 => ?_)
    ·
      refine v_ic (v := (nI 0)) 30 zC dX2_isKin_29 (by decide +kernel) ?_
      refine v_zret zC zT dX2_isKin_30 (by decide +kernel) ?_
      first | exact ⟨rfl, rfl⟩ | exact ⟨sb1 (by assumption), rfl⟩ | exact ⟨sb0 (by assumption), rfl⟩ | (exfalso; omega) | exact ⟨sb1 (by simp [*]), rfl⟩ | exact ⟨sb0 (by simp [*]), rfl⟩
    ·
      refine v_ic (v := (nI 1)) 26 zC dX2_isKin_25 (by decide +kernel) ?_
      refine v_goto 30 zC dX2_isKin_26 ?_
      refine v_zret zC zT dX2_isKin_30 (by decide +kernel) ?_
      first | exact ⟨rfl, rfl⟩ | exact ⟨sb1 (by assumption), rfl⟩ | exact ⟨sb0 (by assumption), rfl⟩ | (exfalso; omega) | exact ⟨sb1 (by simp [*]), rfl⟩ | exact ⟨sb0 (by simp [*]), rfl⟩
set_option maxRecDepth 100000 in
set_option maxHeartbeats 4000000 in
theorem c_X2_openIn (l : Launch) (D : va_G) (cI : ClassId) (a0 a1 a2 a3 a4 a5 a6 : Nat) (n m sh aw : Nat) (op : Nat → Nat) (h : Nat) (hn : n ≤ 7) (hh : h < 24) : CT l yX2_openIn cX2_openIn 4 (some .int) { frames := 0, cells := 0, slots := 0, locals := 0 } D cI [.ref a0, .int (nI h)] [(a0, .inr (2, [.int (nI n), .int (nI m), .int (nI sh), .int (nI aw), .ref a1, .ref a2, .ref a3, .ref a4, .ref a5, .ref a6])), (a2, .inl (cI, 7, .inl (nIf op)))] (fun zr zw => (zr = some (.int (nI (mkn (fun p => Nat.testBit (op p) h) n))) ∧ zw = [(a0, .inr (2, [.int (nI n), .int (nI m), .int (nI sh), .int (nI aw), .ref a1, .ref a2, .ref a3, .ref a4, .ref a5, .ref a6])), (a2, .inl (cI, 7, .inl (nIf op)))])) := by
  refine CT_of RX2 rfl (by decide +kernel) (Nat.le_of_ble_eq_true rfl) (fun E hnE zC zT => ?_)
  have hA : ∀ q, (ev_s E).heap.size ≤ q → ev_A E q := fun q h => by rw [zT.2]; exact Or.inr h
  show VV E 0 0 0 [(0, .ref a0), (1, .int (nI h))] [] [(a0, .inr (2, [.int (nI n), .int (nI m), .int (nI sh), .int (nI aw), .ref a1, .ref a2, .ref a3, .ref a4, .ref a5, .ref a6])), (a2, .inl (cI, 7, .inl (nIf op)))]
  refine v_ic (v := (nI 0)) 1 zC dX2_openIn_0 (by decide +kernel) ?_
  refine v_is_n (lv2 := [(2, .int (nI 0)), (0, .ref a0), (1, .int (nI h))]) 2 zC dX2_openIn_1 (by rw [hnE]; decide) rfl ?_
  refine v_ic (v := (nI 0)) 3 zC dX2_openIn_2 (by decide +kernel) ?_
  refine v_is_n (lv2 := [(3, .int (nI 0)), (2, .int (nI 0)), (0, .ref a0), (1, .int (nI h))]) 4 zC dX2_openIn_3 (by rw [hnE]; decide) rfl ?_
  have lp4 : ∀ (mz : Nat) (x : Nat) (p : Nat), (x = mkn (fun p => Nat.testBit (op p) h) p) → (p ≤ n) → n - p = mz → VV E 0 0 4 [(3, .int (nI p)), (2, .int (nI x)), (0, .ref a0), (1, .int (nI h))] [] [(a0, .inr (2, [.int (nI n), .int (nI m), .int (nI sh), .int (nI aw), .ref a1, .ref a2, .ref a3, .ref a4, .ref a5, .ref a6])), (a2, .inl (cI, 7, .inl (nIf op)))] := by
    intro mz
    induction mz using Nat.strongRecOn with
    | _ mz ih4 =>
    intro x p hx hp hm4
    refine v_il_n 5 zC dX2_openIn_4 0 rfl ?_
    refine v_al_n 6 zC dX2_openIn_5 2 rfl ?_
    refine v_gf 9 0 zC dX2_openIn_6 gf_X2_30 rfl rfl ?_
    refine v_icmpn_ge 37 12 zC dX2_openIn_9 (fun h_1 => ?_) (fun h_1 => ?_)
    ·
      refine v_il_n 38 zC dX2_openIn_37 1 rfl ?_
      refine v_iret zC zT dX2_openIn_38  ?_
      exact ⟨sn (by rw [hx, show p = n by omega]), rfl⟩
    ·
      refine v_al_n 13 zC dX2_openIn_12 2 rfl ?_
      refine v_gf 16 0 zC dX2_openIn_13 gf_X2_15 rfl rfl ?_
      refine v_il_n 17 zC dX2_openIn_16 0 rfl ?_
      refine v_ialn (v := (nI (op p))) 18 1 zC dX2_openIn_17 rfl (by omega) rfl ?_
      refine v_il_n 19 zC dX2_openIn_18 3 rfl ?_
      refine v_ishr (v := ((nI (op p)) >>> (nI h))) 20 zC dX2_openIn_19 (sr_of (by omega)) ?_
      refine v_ic (v := (nI 1)) 21 zC dX2_openIn_20 (by decide +kernel) ?_
      refine v_iand (v := (bz (Nat.testBit (op p) h))) 22 zC dX2_openIn_21 (tb_of _ (by omega)) ?_
      refine v_ifb_eq 31 25 zC dX2_openIn_22 (fun h_2 => ?_) (fun h_2 => ?_)
      ·
        refine v_inc (v := (nI (p + 1))) (lv2 := [(3, .int (nI (p + 1))), (2, .int (nI x)), (0, .ref a0), (1, .int (nI h))]) 34 zC dX2_openIn_31 (j := 0) rfl (nI_add _ 1) (by rw [hnE]; decide) rfl ?_
        refine v_goto 4 zC dX2_openIn_34 ?_
        refine v_lvs (lv2 := [(3, .int (nI (p + 1))), (2, .int (nI x)), (0, .ref a0), (1, .int (nI h))]) [0, 1, 2, 3] rfl ?_
        exact ih4 _ (by omega) x (p + 1) (by first | exact (by rw [hx]; exact (mkn_1 (by first | assumption | simp [*])).symm) | exact (by rw [hx]; exact (mkn_0 (by first | assumption | simp [*])).symm)) (by first | omega | assumption | rfl | (simp only []; omega) | decide) rfl
      ·
        refine v_il_n 26 zC dX2_openIn_25 1 rfl ?_
        refine v_ic (v := (nI 1)) 27 zC dX2_openIn_26 (by decide +kernel) ?_
        refine v_il_n 28 zC dX2_openIn_27 0 rfl ?_
        refine v_ishl (v := (nI (2 ^ p))) 29 zC dX2_openIn_28 (b1n (by omega)) ?_
        refine v_ior (v := (nI (x ||| (2 ^ p)))) 30 zC dX2_openIn_29 (fa_or _ _) ?_
        refine v_is_n (lv2 := [(2, .int (nI (x ||| (2 ^ p)))), (3, .int (nI p)), (0, .ref a0), (1, .int (nI h))]) 31 zC dX2_openIn_30 (by rw [hnE]; decide) rfl ?_
        refine v_inc (v := (nI (p + 1))) (lv2 := [(3, .int (nI (p + 1))), (2, .int (nI (x ||| (2 ^ p)))), (0, .ref a0), (1, .int (nI h))]) 34 zC dX2_openIn_31 (j := 1) rfl (nI_add _ 1) (by rw [hnE]; decide) rfl ?_
        refine v_goto 4 zC dX2_openIn_34 ?_
        refine v_lvs (lv2 := [(3, .int (nI (p + 1))), (2, .int (nI (x ||| (2 ^ p)))), (0, .ref a0), (1, .int (nI h))]) [0, 1, 2, 3] rfl ?_
        exact ih4 _ (by omega) (x ||| (2 ^ p)) (p + 1) (by first | exact (by rw [hx]; exact (mkn_1 (by first | assumption | simp [*])).symm) | exact (by rw [hx]; exact (mkn_0 (by first | assumption | simp [*])).symm)) (by first | omega | assumption | rfl | (simp only []; omega) | decide) rfl
  refine v_lvs (lv2 := [(3, .int (nI 0)), (2, .int (nI 0)), (0, .ref a0), (1, .int (nI h))]) [0, 1, 2, 3] rfl ?_
  exact lp4 _ 0 0 (by first | omega | assumption | rfl | (simp only []; omega) | decide) (by first | omega | assumption | rfl | (simp only []; omega) | decide) rfl
set_option maxRecDepth 100000 in
set_option maxHeartbeats 4000000 in
theorem c_X2_mouthsFor (l : Launch) (D : va_G) (cI : ClassId) (a0 a1 a2 a3 a4 a5 a6 : Nat) (n m sh aw : Nat) (ki K : Nat → Nat) (d : Nat) (hn : n ≤ 7) (hm : m ≤ 6) (hd : d < m) (hK : ∀ z, K z < 6) : CT l yX2_mouthsFor cX2_mouthsFor 4 (some .int) { frames := 1, cells := 0, slots := 0, locals := 22 } D cI [.ref a0, .int (nI d)] [(a0, .inr (2, [.int (nI n), .int (nI m), .int (nI sh), .int (nI aw), .ref a1, .ref a2, .ref a3, .ref a4, .ref a5, .ref a6])), (a1, .inl (cI, 7, .inl (nIf ki))), (a4, .inl (cI, 6, .inl (nIf K)))] (fun zr zw => (zr = some (.int (nI (mfN n sh aw (K d) d ki))) ∧ zw = [(a0, .inr (2, [.int (nI n), .int (nI m), .int (nI sh), .int (nI aw), .ref a1, .ref a2, .ref a3, .ref a4, .ref a5, .ref a6])), (a1, .inl (cI, 7, .inl (nIf ki))), (a4, .inl (cI, 6, .inl (nIf K)))])) := by
  refine CT_of RX2 rfl (by decide +kernel) (Nat.le_of_ble_eq_true rfl) (fun E hnE zC zT => ?_)
  have hA : ∀ q, (ev_s E).heap.size ≤ q → ev_A E q := fun q h => by rw [zT.2]; exact Or.inr h
  show VV E 0 0 0 [(0, .ref a0), (1, .int (nI d))] [] [(a0, .inr (2, [.int (nI n), .int (nI m), .int (nI sh), .int (nI aw), .ref a1, .ref a2, .ref a3, .ref a4, .ref a5, .ref a6])), (a1, .inl (cI, 7, .inl (nIf ki))), (a4, .inl (cI, 6, .inl (nIf K)))]
  refine v_il_n 1 zC dX2_mouthsFor_0 1 rfl ?_
  refine v_ifn_lt 23 4 zC dX2_mouthsFor_1 (fun z => absurd z (Nat.not_lt_zero _)) (fun _ => ?_)
  refine v_il_n 5 zC dX2_mouthsFor_4 1 rfl ?_
  refine v_al_n 6 zC dX2_mouthsFor_5 0 rfl ?_
  refine v_gf 9 0 zC dX2_mouthsFor_6 gf_X2_34 rfl rfl ?_
  refine v_icmpn_ge 23 12 zC dX2_mouthsFor_9 (fun h_2 => False.elim (by omega)) (fun h_2 => ?_)
  refine v_al_n 13 zC dX2_mouthsFor_12 0 rfl ?_
  refine v_gf 16 0 zC dX2_mouthsFor_13 gf_X2_40 rfl rfl ?_
  refine v_il_n 17 zC dX2_mouthsFor_16 1 rfl ?_
  refine v_ishr (v := ((nI aw) >>> (nI d))) 18 zC dX2_mouthsFor_17 (sr_of (by omega)) ?_
  refine v_ic (v := (nI 1)) 19 zC dX2_mouthsFor_18 (by decide +kernel) ?_
  refine v_iand (v := (bz (Nat.testBit aw d))) 20 zC dX2_mouthsFor_19 (tb_of _ (by omega)) ?_
  refine v_ifb_eq 25 23 zC dX2_mouthsFor_20 (fun h_3 => ?_) (fun h_3 => ?_)
  ·
    refine v_ic (v := (nI 0)) 26 zC dX2_mouthsFor_25 (by decide +kernel) ?_
    refine v_is_n (lv2 := [(2, .int (nI 0)), (0, .ref a0), (1, .int (nI d))]) 27 zC dX2_mouthsFor_26 (by rw [hnE]; decide) rfl ?_
    refine v_ic (v := (nI 0)) 28 zC dX2_mouthsFor_27 (by decide +kernel) ?_
    refine v_is_n (lv2 := [(3, .int (nI 0)), (2, .int (nI 0)), (0, .ref a0), (1, .int (nI d))]) 29 zC dX2_mouthsFor_28 (by rw [hnE]; decide) rfl ?_
    have lp29 : ∀ (mz : Nat) (x : Nat) (p : Nat), (x = mkn (fun p => !Nat.testBit sh p && (K d == 5 || Nat.testBit (ki p) d)) p) → (p ≤ n) → n - p = mz → VV E 0 0 29 [(3, .int (nI p)), (2, .int (nI x)), (0, .ref a0), (1, .int (nI d))] [] [(a0, .inr (2, [.int (nI n), .int (nI m), .int (nI sh), .int (nI aw), .ref a1, .ref a2, .ref a3, .ref a4, .ref a5, .ref a6])), (a1, .inl (cI, 7, .inl (nIf ki))), (a4, .inl (cI, 6, .inl (nIf K)))] := by
      intro mz
      induction mz using Nat.strongRecOn with
      | _ mz ih29 =>
      intro x p hx hp hm29
      refine v_il_n 30 zC dX2_mouthsFor_29 0 rfl ?_
      refine v_al_n 31 zC dX2_mouthsFor_30 2 rfl ?_
      refine v_gf 34 0 zC dX2_mouthsFor_31 gf_X2_30 rfl rfl ?_
      refine v_icmpn_ge 76 37 zC dX2_mouthsFor_34 (fun h_4 => ?_) (fun h_4 => ?_)
      ·
        refine v_il_n 77 zC dX2_mouthsFor_76 1 rfl ?_
        refine v_iret zC zT dX2_mouthsFor_77  ?_
        exact ⟨sn (by simp only [mfN]; rw [if_neg (by simp [*]), hx, show p = n by omega]), rfl⟩
      ·
        refine v_al_n 38 zC dX2_mouthsFor_37 2 rfl ?_
        refine v_il_n 39 zC dX2_mouthsFor_38 0 rfl ?_
        refine v_cV (As := [.int (nI p)]) (st := []) 42 0 [0] zC dX2_mouthsFor_39 hA (c_X2_isShut (ev_l E) (ev_D E) cI (a0 := a0) (a1 := a1) (a2 := a2) (a3 := a3) (a4 := a4) (a5 := a5) (a6 := a6) (n := n) (m := m) (sh := sh) (aw := aw) (p := p) (hp := (by first | omega | assumption | rfl | (simp only []; omega) | decide))) cf_X2_isShut lk_X2_63 rfl rfl rfl rfl rfl (by decide +kernel) (Nat.le_of_ble_eq_true rfl) (fun rv_5 wv_6 hp_7 hm_8 => ?_)
        clear hm_8
        obtain ⟨rfl, rfl⟩ := hp_7
        show VV E 0 0 42 [(3, .int (nI p)), (2, .int (nI x)), (0, .ref a0), (1, .int (nI d))] [.int (bz (Nat.testBit sh p))] [(a0, .inr (2, [.int (nI n), .int (nI m), .int (nI sh), .int (nI aw), .ref a1, .ref a2, .ref a3, .ref a4, .ref a5, .ref a6])), (a1, .inl (cI, 7, .inl (nIf ki))), (a4, .inl (cI, 6, .inl (nIf K)))]
        refine v_ifb_ne 70 45 zC dX2_mouthsFor_42 (fun h_9 => ?_) (fun h_9 => ?_)
        ·
          refine v_inc (v := (nI (p + 1))) (lv2 := [(3, .int (nI (p + 1))), (2, .int (nI x)), (0, .ref a0), (1, .int (nI d))]) 73 zC dX2_mouthsFor_70 (j := 0) rfl (nI_add _ 1) (by rw [hnE]; decide) rfl ?_
          refine v_goto 29 zC dX2_mouthsFor_73 ?_
          refine v_lvs (lv2 := [(3, .int (nI (p + 1))), (2, .int (nI x)), (0, .ref a0), (1, .int (nI d))]) [0, 1, 2, 3] rfl ?_
          exact ih29 _ (by omega) x (p + 1) (by first | exact (by rw [hx]; exact (mkn_1 (by first | assumption | simp [*])).symm) | exact (by rw [hx]; exact (mkn_0 (by first | assumption | simp [*])).symm)) (by first | omega | assumption | rfl | (simp only []; omega) | decide) rfl
        ·
          refine v_al_n 46 zC dX2_mouthsFor_45 2 rfl ?_
          refine v_gf 49 0 zC dX2_mouthsFor_46 gf_X2_21 rfl rfl ?_
          refine v_il_n 50 zC dX2_mouthsFor_49 3 rfl ?_
          refine v_ialn (v := (nI (K d))) 51 2 zC dX2_mouthsFor_50 rfl (by omega) rfl ?_
          have hb_10 := hK d
          refine v_ic (v := (nI 5)) 52 zC dX2_mouthsFor_51 (by decide +kernel) ?_
          refine v_icmpn_eq 64 55 zC dX2_mouthsFor_52 (fun h_11 => ?_) (fun h_11 => ?_)
          ·
            refine v_il_n 65 zC dX2_mouthsFor_64 1 rfl ?_
            refine v_ic (v := (nI 1)) 66 zC dX2_mouthsFor_65 (by decide +kernel) ?_
            refine v_il_n 67 zC dX2_mouthsFor_66 0 rfl ?_
            refine v_ishl (v := (nI (2 ^ p))) 68 zC dX2_mouthsFor_67 (b1n (by omega)) ?_
            refine v_ior (v := (nI (x ||| (2 ^ p)))) 69 zC dX2_mouthsFor_68 (fa_or _ _) ?_
            refine v_is_n (lv2 := [(2, .int (nI (x ||| (2 ^ p)))), (3, .int (nI p)), (0, .ref a0), (1, .int (nI d))]) 70 zC dX2_mouthsFor_69 (by rw [hnE]; decide) rfl ?_
            refine v_inc (v := (nI (p + 1))) (lv2 := [(3, .int (nI (p + 1))), (2, .int (nI (x ||| (2 ^ p)))), (0, .ref a0), (1, .int (nI d))]) 73 zC dX2_mouthsFor_70 (j := 1) rfl (nI_add _ 1) (by rw [hnE]; decide) rfl ?_
            refine v_goto 29 zC dX2_mouthsFor_73 ?_
            refine v_lvs (lv2 := [(3, .int (nI (p + 1))), (2, .int (nI (x ||| (2 ^ p)))), (0, .ref a0), (1, .int (nI d))]) [0, 1, 2, 3] rfl ?_
            exact ih29 _ (by omega) (x ||| (2 ^ p)) (p + 1) (by first | exact (by rw [hx]; exact (mkn_1 (by first | assumption | simp [*])).symm) | exact (by rw [hx]; exact (mkn_0 (by first | assumption | simp [*])).symm)) (by first | omega | assumption | rfl | (simp only []; omega) | decide) rfl
          ·
            refine v_al_n 56 zC dX2_mouthsFor_55 2 rfl ?_
            refine v_il_n 57 zC dX2_mouthsFor_56 0 rfl ?_
            refine v_il_n 58 zC dX2_mouthsFor_57 3 rfl ?_
            refine v_cV (As := [.int (nI p), .int (nI d)]) (st := []) 61 0 [0, 1] zC dX2_mouthsFor_58 hA (c_X2_isKin (ev_l E) (ev_D E) cI (a0 := a0) (a1 := a1) (a2 := a2) (a3 := a3) (a4 := a4) (a5 := a5) (a6 := a6) (n := n) (m := m) (sh := sh) (aw := aw) (ki := ki) (p := p) (x := d) (hn := (by first | omega | assumption | rfl | (simp only []; omega) | decide)) (hp := (by first | omega | assumption | rfl | (simp only []; omega) | decide)) (hx := (by first | omega | assumption | rfl | (simp only []; omega) | decide))) cf_X2_isKin lk_X2_67 rfl rfl rfl rfl rfl (by decide +kernel) (Nat.le_of_ble_eq_true rfl) (fun rv_12 wv_13 hp_14 hm_15 => ?_)
            clear hm_15
            obtain ⟨rfl, rfl⟩ := hp_14
            show VV E 0 0 61 [(3, .int (nI p)), (2, .int (nI x)), (0, .ref a0), (1, .int (nI d))] [.int (bz (Nat.testBit (ki p) d))] [(a0, .inr (2, [.int (nI n), .int (nI m), .int (nI sh), .int (nI aw), .ref a1, .ref a2, .ref a3, .ref a4, .ref a5, .ref a6])), (a1, .inl (cI, 7, .inl (nIf ki))), (a4, .inl (cI, 6, .inl (nIf K)))]
            refine v_ifb_eq 70 64 zC dX2_mouthsFor_61 (fun h_16 => ?_) (fun h_16 => ?_)
            ·
              refine v_inc (v := (nI (p + 1))) (lv2 := [(3, .int (nI (p + 1))), (2, .int (nI x)), (0, .ref a0), (1, .int (nI d))]) 73 zC dX2_mouthsFor_70 (j := 0) rfl (nI_add _ 1) (by rw [hnE]; decide) rfl ?_
              refine v_goto 29 zC dX2_mouthsFor_73 ?_
              refine v_lvs (lv2 := [(3, .int (nI (p + 1))), (2, .int (nI x)), (0, .ref a0), (1, .int (nI d))]) [0, 1, 2, 3] rfl ?_
              exact ih29 _ (by omega) x (p + 1) (by first | exact (by rw [hx]; exact (mkn_1 (by first | assumption | simp [*])).symm) | exact (by rw [hx]; exact (mkn_0 (by first | assumption | simp [*])).symm)) (by first | omega | assumption | rfl | (simp only []; omega) | decide) rfl
            ·
              refine v_il_n 65 zC dX2_mouthsFor_64 1 rfl ?_
              refine v_ic (v := (nI 1)) 66 zC dX2_mouthsFor_65 (by decide +kernel) ?_
              refine v_il_n 67 zC dX2_mouthsFor_66 0 rfl ?_
              refine v_ishl (v := (nI (2 ^ p))) 68 zC dX2_mouthsFor_67 (b1n (by omega)) ?_
              refine v_ior (v := (nI (x ||| (2 ^ p)))) 69 zC dX2_mouthsFor_68 (fa_or _ _) ?_
              refine v_is_n (lv2 := [(2, .int (nI (x ||| (2 ^ p)))), (3, .int (nI p)), (0, .ref a0), (1, .int (nI d))]) 70 zC dX2_mouthsFor_69 (by rw [hnE]; decide) rfl ?_
              refine v_inc (v := (nI (p + 1))) (lv2 := [(3, .int (nI (p + 1))), (2, .int (nI (x ||| (2 ^ p)))), (0, .ref a0), (1, .int (nI d))]) 73 zC dX2_mouthsFor_70 (j := 1) rfl (nI_add _ 1) (by rw [hnE]; decide) rfl ?_
              refine v_goto 29 zC dX2_mouthsFor_73 ?_
              refine v_lvs (lv2 := [(3, .int (nI (p + 1))), (2, .int (nI (x ||| (2 ^ p)))), (0, .ref a0), (1, .int (nI d))]) [0, 1, 2, 3] rfl ?_
              exact ih29 _ (by omega) (x ||| (2 ^ p)) (p + 1) (by first | exact (by rw [hx]; exact (mkn_1 (by first | assumption | simp [*])).symm) | exact (by rw [hx]; exact (mkn_0 (by first | assumption | simp [*])).symm)) (by first | omega | assumption | rfl | (simp only []; omega) | decide) rfl
    refine v_lvs (lv2 := [(3, .int (nI 0)), (2, .int (nI 0)), (0, .ref a0), (1, .int (nI d))]) [0, 1, 2, 3] rfl ?_
    exact lp29 _ 0 0 (by first | omega | assumption | rfl | (simp only []; omega) | decide) (by first | omega | assumption | rfl | (simp only []; omega) | decide) rfl
  ·
    refine v_ic (v := (nI 0)) 24 zC dX2_mouthsFor_23 (by decide +kernel) ?_
    refine v_iret zC zT dX2_mouthsFor_24  ?_
    exact ⟨sn (by simp only [mfN]; rw [if_pos (by simp [*])]), rfl⟩
set_option maxRecDepth 100000 in
set_option maxHeartbeats 4000000 in
theorem c_X2_isHisHour (l : Launch) (D : va_G) (cI : ClassId) (a0 a1 a2 a3 a4 a5 a6 : Nat) (n m sh aw : Nat) (K G : Nat → Nat) (d h : Nat) (hm : m ≤ 6) (hd : d < m) (hh : h < 24) (hK : ∀ z, K z < 6) (hG : ∀ z, G z < 10) : CT l yX2_isHisHour cX2_isHisHour 3 (some .boolean) { frames := 0, cells := 0, slots := 0, locals := 0 } D cI [.ref a0, .int (nI d), .int (nI h)] [(a0, .inr (2, [.int (nI n), .int (nI m), .int (nI sh), .int (nI aw), .ref a1, .ref a2, .ref a3, .ref a4, .ref a5, .ref a6])), (a4, .inl (cI, 6, .inl (nIf K))), (a5, .inl (cI, 6, .inl (nIf G)))] (fun zr zw => (zr = some (.int (bz (hhB (K d) (G d) h))) ∧ zw = [(a0, .inr (2, [.int (nI n), .int (nI m), .int (nI sh), .int (nI aw), .ref a1, .ref a2, .ref a3, .ref a4, .ref a5, .ref a6])), (a4, .inl (cI, 6, .inl (nIf K))), (a5, .inl (cI, 6, .inl (nIf G)))])) := by
  refine CT_of RX2 rfl (by decide +kernel) (Nat.le_of_ble_eq_true rfl) (fun E hnE zC zT => ?_)
  have hA : ∀ q, (ev_s E).heap.size ≤ q → ev_A E q := fun q h => by rw [zT.2]; exact Or.inr h
  show VV E 0 0 0 [(0, .ref a0), (1, .int (nI d)), (2, .int (nI h))] [] [(a0, .inr (2, [.int (nI n), .int (nI m), .int (nI sh), .int (nI aw), .ref a1, .ref a2, .ref a3, .ref a4, .ref a5, .ref a6])), (a4, .inl (cI, 6, .inl (nIf K))), (a5, .inl (cI, 6, .inl (nIf G)))]
  refine v_il_n 1 zC dX2_isHisHour_0 1 rfl ?_
  refine v_ifn_lt 12 4 zC dX2_isHisHour_1 (fun z => absurd z (Nat.not_lt_zero _)) (fun _ => ?_)
  refine v_il_n 5 zC dX2_isHisHour_4 1 rfl ?_
  refine v_al_n 6 zC dX2_isHisHour_5 0 rfl ?_
  refine v_gf 9 0 zC dX2_isHisHour_6 gf_X2_34 rfl rfl ?_
  refine v_icmpn_lt 14 12 zC dX2_isHisHour_9 (fun h_2 => ?_) (fun h_2 => False.elim (by omega))
  refine v_al_n 15 zC dX2_isHisHour_14 0 rfl ?_
  refine v_gf 18 0 zC dX2_isHisHour_15 gf_X2_21 rfl rfl ?_
  refine v_il_n 19 zC dX2_isHisHour_18 1 rfl ?_
  refine v_ialn (v := (nI (K d))) 20 1 zC dX2_isHisHour_19 rfl (by omega) rfl ?_
  have hb_3 := hK d
  have h_4 : (K d) = 0 ∨ (K d) = 1 ∨ (K d) = 2 ∨ (K d) = 3 ∨ (K d) = 4 ∨ (K d) = 5 := by omega
  rcases h_4 with h_4 | h_4 | h_4 | h_4 | h_4 | h_4
  ·
    rw [h_4]
    refine v_tsw (off := 63) 83 zC dX2_isHisHour_20 (Or.inr (by decide +kernel)) ?_
    refine v_ic (v := (nI 1)) 84 zC dX2_isHisHour_83 (by decide +kernel) ?_
    refine v_zret zC zT dX2_isHisHour_84 (by decide +kernel) ?_
    first | exact ⟨sb1 (by simp [hhB, *]; try omega), rfl⟩ | exact ⟨sb0 (by simp [hhB, *]; try omega), rfl⟩
  ·
    rw [h_4]
    refine v_tsw (off := 32) 52 zC dX2_isHisHour_20 (Or.inl (by decide +kernel)) ?_
    refine v_il_n 53 zC dX2_isHisHour_52 2 rfl ?_
    refine v_al_n 54 zC dX2_isHisHour_53 0 rfl ?_
    refine v_gf 57 0 zC dX2_isHisHour_54 gf_X2_24 rfl rfl ?_
    refine v_il_n 58 zC dX2_isHisHour_57 1 rfl ?_
    refine v_ialn (v := (nI (G d))) 59 2 zC dX2_isHisHour_58 rfl (by omega) rfl ?_
    have hb_5 := hG d
    refine v_iadd (v := (nI (h + (G d)))) 60 zC dX2_isHisHour_59 (nI_add _ _) ?_
    refine v_ic (v := (nI 1)) 61 zC dX2_isHisHour_60 (by decide +kernel) ?_
    refine v_iand (v := (nI ((h + (G d)) % 2))) 62 zC dX2_isHisHour_61 (and1 _) ?_
    refine v_ifn_ne 69 65 zC dX2_isHisHour_62 (fun h_6 => ?_) (fun h_6 => ?_)
    ·
      refine v_ic (v := (nI 0)) 70 zC dX2_isHisHour_69 (by decide +kernel) ?_
      refine v_zret zC zT dX2_isHisHour_70 (by decide +kernel) ?_
      first | exact ⟨sb1 (by simp [hhB, *]; try omega), rfl⟩ | exact ⟨sb0 (by simp [hhB, *]; try omega), rfl⟩
    ·
      refine v_ic (v := (nI 1)) 66 zC dX2_isHisHour_65 (by decide +kernel) ?_
      refine v_goto 70 zC dX2_isHisHour_66 ?_
      refine v_zret zC zT dX2_isHisHour_70 (by decide +kernel) ?_
      first | exact ⟨sb1 (by simp [hhB, *]; try omega), rfl⟩ | exact ⟨sb0 (by simp [hhB, *]; try omega), rfl⟩
  ·
    rw [h_4]
    refine v_tsw (off := 63) 83 zC dX2_isHisHour_20 (Or.inl (by decide +kernel)) ?_
    refine v_ic (v := (nI 1)) 84 zC dX2_isHisHour_83 (by decide +kernel) ?_
    refine v_zret zC zT dX2_isHisHour_84 (by decide +kernel) ?_
    first | exact ⟨sb1 (by simp [hhB, *]; try omega), rfl⟩ | exact ⟨sb0 (by simp [hhB, *]; try omega), rfl⟩
  ·
    rw [h_4]
    refine v_tsw (off := 32) 52 zC dX2_isHisHour_20 (Or.inl (by decide +kernel)) ?_
    refine v_il_n 53 zC dX2_isHisHour_52 2 rfl ?_
    refine v_al_n 54 zC dX2_isHisHour_53 0 rfl ?_
    refine v_gf 57 0 zC dX2_isHisHour_54 gf_X2_24 rfl rfl ?_
    refine v_il_n 58 zC dX2_isHisHour_57 1 rfl ?_
    refine v_ialn (v := (nI (G d))) 59 2 zC dX2_isHisHour_58 rfl (by omega) rfl ?_
    have hb_7 := hG d
    refine v_iadd (v := (nI (h + (G d)))) 60 zC dX2_isHisHour_59 (nI_add _ _) ?_
    refine v_ic (v := (nI 1)) 61 zC dX2_isHisHour_60 (by decide +kernel) ?_
    refine v_iand (v := (nI ((h + (G d)) % 2))) 62 zC dX2_isHisHour_61 (and1 _) ?_
    refine v_ifn_ne 69 65 zC dX2_isHisHour_62 (fun h_8 => ?_) (fun h_8 => ?_)
    ·
      refine v_ic (v := (nI 0)) 70 zC dX2_isHisHour_69 (by decide +kernel) ?_
      refine v_zret zC zT dX2_isHisHour_70 (by decide +kernel) ?_
      first | exact ⟨sb1 (by simp [hhB, *]; try omega), rfl⟩ | exact ⟨sb0 (by simp [hhB, *]; try omega), rfl⟩
    ·
      refine v_ic (v := (nI 1)) 66 zC dX2_isHisHour_65 (by decide +kernel) ?_
      refine v_goto 70 zC dX2_isHisHour_66 ?_
      refine v_zret zC zT dX2_isHisHour_70 (by decide +kernel) ?_
      first | exact ⟨sb1 (by simp [hhB, *]; try omega), rfl⟩ | exact ⟨sb0 (by simp [hhB, *]; try omega), rfl⟩
  ·
    rw [h_4]
    refine v_tsw (off := 51) 71 zC dX2_isHisHour_20 (Or.inl (by decide +kernel)) ?_
    refine v_il_n 72 zC dX2_isHisHour_71 2 rfl ?_
    refine v_bp (v := (nI 12)) 74 zC dX2_isHisHour_72 (by decide +kernel) ?_
    refine v_icmpn_lt 81 77 zC dX2_isHisHour_74 (fun h_9 => ?_) (fun h_9 => ?_)
    ·
      refine v_ic (v := (nI 0)) 82 zC dX2_isHisHour_81 (by decide +kernel) ?_
      refine v_zret zC zT dX2_isHisHour_82 (by decide +kernel) ?_
      first | exact ⟨sb1 (by simp [hhB, *]; try omega), rfl⟩ | exact ⟨sb0 (by simp [hhB, *]; try omega), rfl⟩
    ·
      refine v_ic (v := (nI 1)) 78 zC dX2_isHisHour_77 (by decide +kernel) ?_
      refine v_goto 82 zC dX2_isHisHour_78 ?_
      refine v_zret zC zT dX2_isHisHour_82 (by decide +kernel) ?_
      first | exact ⟨sb1 (by simp [hhB, *]; try omega), rfl⟩ | exact ⟨sb0 (by simp [hhB, *]; try omega), rfl⟩
  ·
    rw [h_4]
    refine v_tsw (off := 63) 83 zC dX2_isHisHour_20 (Or.inr (by decide +kernel)) ?_
    refine v_ic (v := (nI 1)) 84 zC dX2_isHisHour_83 (by decide +kernel) ?_
    refine v_zret zC zT dX2_isHisHour_84 (by decide +kernel) ?_
    first | exact ⟨sb1 (by simp [hhB, *]; try omega), rfl⟩ | exact ⟨sb0 (by simp [hhB, *]; try omega), rfl⟩
set_option maxRecDepth 100000 in
set_option maxHeartbeats 4000000 in
theorem c_X2_beside (l : Launch) (D : va_G) (cI : ClassId) (a0 a1 a2 a3 a4 a5 a6 : Nat) (n m sh aw : Nat) (s : Nat) (hn : n ≤ 7) (hs : s < 2 ^ n) : CT l yX2_beside cX2_beside 4 (some .int) { frames := 0, cells := 0, slots := 0, locals := 0 } D cI [.ref a0, .int (nI s)] [(a0, .inr (2, [.int (nI n), .int (nI m), .int (nI sh), .int (nI aw), .ref a1, .ref a2, .ref a3, .ref a4, .ref a5, .ref a6]))] (fun zr zw => (zr = some (.int (nI (besN n s))) ∧ zw = [(a0, .inr (2, [.int (nI n), .int (nI m), .int (nI sh), .int (nI aw), .ref a1, .ref a2, .ref a3, .ref a4, .ref a5, .ref a6]))])) := by
  refine CT_of RX2 rfl (by decide +kernel) (Nat.le_of_ble_eq_true rfl) (fun E hnE zC zT => ?_)
  have hA : ∀ q, (ev_s E).heap.size ≤ q → ev_A E q := fun q h => by rw [zT.2]; exact Or.inr h
  have hs7 : s < 128 := Nat.lt_of_lt_of_le hs (Nat.pow_le_pow_right (by decide) hn)
  show VV E 0 0 0 [(0, .ref a0), (1, .int (nI s))] [] [(a0, .inr (2, [.int (nI n), .int (nI m), .int (nI sh), .int (nI aw), .ref a1, .ref a2, .ref a3, .ref a4, .ref a5, .ref a6]))]
  refine v_al_n 1 zC dX2_beside_0 0 rfl ?_
  refine v_gf 4 0 zC dX2_beside_1 gf_X2_30 rfl rfl ?_
  refine v_ic (v := (nI 2)) 5 zC dX2_beside_4 (by decide +kernel) ?_
  refine v_icmpn_ge 10 8 zC dX2_beside_5 (fun h_1 => ?_) (fun h_1 => ?_)
  ·
    have hsh : s * 2 ^ (n - 1) < 2 ^ 32 := by
      have h6 : 2 ^ (n - 1) ≤ 2 ^ 6 := Nat.pow_le_pow_right (by decide) (by omega)
      have h7 : s * 2 ^ (n - 1) ≤ s * 2 ^ 6 := Nat.mul_le_mul_left s h6
      omega
    refine v_il_n 11 zC dX2_beside_10 1 rfl ?_
    refine v_ic (v := (nI 1)) 12 zC dX2_beside_11 (by decide +kernel) ?_
    refine v_ishl (v := (nI (s * 2 ^ 1))) 13 zC dX2_beside_12 (shln (by omega) (by omega)) ?_
    refine v_il_n 14 zC dX2_beside_13 1 rfl ?_
    refine v_al_n 15 zC dX2_beside_14 0 rfl ?_
    refine v_gf 18 0 zC dX2_beside_15 gf_X2_30 rfl rfl ?_
    refine v_ic (v := (nI 1)) 19 zC dX2_beside_18 (by decide +kernel) ?_
    refine v_isub (v := (nI (n - 1))) 20 zC dX2_beside_19 (pk_sub (by first | omega | exact Nat.one_le_two_pow)) ?_
    refine v_ishr (v := (nI (s / 2 ^ (n - 1)))) 21 zC dX2_beside_20 (shrn (by omega) (by omega)) ?_
    refine v_ior (v := (nI ((s * 2 ^ 1) ||| (s / 2 ^ (n - 1))))) 22 zC dX2_beside_21 (fa_or _ _) ?_
    refine v_is_n (lv2 := [(2, .int (nI ((s * 2 ^ 1) ||| (s / 2 ^ (n - 1))))), (0, .ref a0), (1, .int (nI s))]) 23 zC dX2_beside_22 (by rw [hnE]; decide) rfl ?_
    refine v_il_n 24 zC dX2_beside_23 2 rfl ?_
    refine v_ic (v := (nI 1)) 25 zC dX2_beside_24 (by decide +kernel) ?_
    refine v_ishr (v := (nI (s / 2 ^ 1))) 26 zC dX2_beside_25 (shrn (by omega) (by omega)) ?_
    refine v_il_n 27 zC dX2_beside_26 2 rfl ?_
    refine v_al_n 28 zC dX2_beside_27 1 rfl ?_
    refine v_gf 31 0 zC dX2_beside_28 gf_X2_30 rfl rfl ?_
    refine v_ic (v := (nI 1)) 32 zC dX2_beside_31 (by decide +kernel) ?_
    refine v_isub (v := (nI (n - 1))) 33 zC dX2_beside_32 (pk_sub (by first | omega | exact Nat.one_le_two_pow)) ?_
    refine v_ishl (v := (nI (s * 2 ^ (n - 1)))) 34 zC dX2_beside_33 (shln (by omega) (by omega)) ?_
    refine v_ior (v := (nI ((s / 2 ^ 1) ||| (s * 2 ^ (n - 1))))) 35 zC dX2_beside_34 (fa_or _ _) ?_
    refine v_is_n (lv2 := [(3, .int (nI ((s / 2 ^ 1) ||| (s * 2 ^ (n - 1))))), (2, .int (nI ((s * 2 ^ 1) ||| (s / 2 ^ (n - 1))))), (0, .ref a0), (1, .int (nI s))]) 36 zC dX2_beside_35 (by rw [hnE]; decide) rfl ?_
    refine v_il_n 37 zC dX2_beside_36 1 rfl ?_
    refine v_il_n 38 zC dX2_beside_37 0 rfl ?_
    refine v_ior (v := (nI (((s * 2 ^ 1) ||| (s / 2 ^ (n - 1))) ||| ((s / 2 ^ 1) ||| (s * 2 ^ (n - 1)))))) 39 zC dX2_beside_38 (fa_or _ _) ?_
    refine v_ic (v := (nI 1)) 40 zC dX2_beside_39 (by decide +kernel) ?_
    refine v_al_n 41 zC dX2_beside_40 2 rfl ?_
    refine v_gf 44 0 zC dX2_beside_41 gf_X2_30 rfl rfl ?_
    refine v_ishl (v := (nI (2 ^ n))) 45 zC dX2_beside_44 (b1n (by omega)) ?_
    refine v_ic (v := (nI 1)) 46 zC dX2_beside_45 (by decide +kernel) ?_
    refine v_isub (v := (nI ((2 ^ n) - 1))) 47 zC dX2_beside_46 (pk_sub (by first | omega | exact Nat.one_le_two_pow)) ?_
    refine v_iand (v := (nI ((((s * 2 ^ 1) ||| (s / 2 ^ (n - 1))) ||| ((s / 2 ^ 1) ||| (s * 2 ^ (n - 1)))) &&& ((2 ^ n) - 1)))) 48 zC dX2_beside_47 (fa_and _ _) ?_
    refine v_iret zC zT dX2_beside_48  ?_
    exact ⟨sn (besN_of hn (by omega) hs), rfl⟩
  ·
    refine v_ic (v := (nI 0)) 9 zC dX2_beside_8 (by decide +kernel) ?_
    refine v_iret zC zT dX2_beside_9  ?_
    exact ⟨sn (by rw [besN, if_pos (by omega)]), rfl⟩
set_option maxRecDepth 100000 in
set_option maxHeartbeats 4000000 in
theorem c_X2_firstFrom (l : Launch) (D : va_G) (cI : ClassId) (a0 a1 a2 a3 a4 a5 a6 : Nat) (n m sh aw : Nat) (g s : Nat) (hn : n ≤ 7) (hg : g < 10) (hs : s < 2 ^ n) : CT l yX2_firstFrom cX2_firstFrom 5 (some .int) { frames := 0, cells := 0, slots := 0, locals := 0 } D cI [.ref a0, .int (nI g), .int (nI s)] [(a0, .inr (2, [.int (nI n), .int (nI m), .int (nI sh), .int (nI aw), .ref a1, .ref a2, .ref a3, .ref a4, .ref a5, .ref a6]))] (fun zr zw => ((ffO n g s = none) ∧ zr = some (.int (-9)) ∧ zw = [(a0, .inr (2, [.int (nI n), .int (nI m), .int (nI sh), .int (nI aw), .ref a1, .ref a2, .ref a3, .ref a4, .ref a5, .ref a6]))]) ∨ (∃ w : Nat, (ffO n g s = some w) ∧ (w < n) ∧ zr = some (.int (nI w)) ∧ zw = [(a0, .inr (2, [.int (nI n), .int (nI m), .int (nI sh), .int (nI aw), .ref a1, .ref a2, .ref a3, .ref a4, .ref a5, .ref a6]))])) := by
  refine CT_of RX2 rfl (by decide +kernel) (Nat.le_of_ble_eq_true rfl) (fun E hnE zC zT => ?_)
  have hA : ∀ q, (ev_s E).heap.size ≤ q → ev_A E q := fun q h => by rw [zT.2]; exact Or.inr h
  have hs7 : s < 128 := Nat.lt_of_lt_of_le hs (Nat.pow_le_pow_right (by decide) hn)
  show VV E 0 0 0 [(0, .ref a0), (1, .int (nI g)), (2, .int (nI s))] [] [(a0, .inr (2, [.int (nI n), .int (nI m), .int (nI sh), .int (nI aw), .ref a1, .ref a2, .ref a3, .ref a4, .ref a5, .ref a6]))]
  refine v_il_n 1 zC dX2_firstFrom_0 2 rfl ?_
  refine v_ifn_eq 12 4 zC dX2_firstFrom_1 (fun h_1 => ?_) (fun h_1 => ?_)
  ·
    refine v_bp (v := (-9)) 14 zC dX2_firstFrom_12 (by decide +kernel) ?_
    refine v_iret zC zT dX2_firstFrom_14  ?_
    exact Or.inl ⟨by rw [show s = 0 by omega]; exact ffO_z _ _, rfl, rfl⟩
  ·
    refine v_al_n 5 zC dX2_firstFrom_4 0 rfl ?_
    refine v_gf 8 0 zC dX2_firstFrom_5 gf_X2_30 rfl rfl ?_
    refine v_ic (v := (nI 1)) 9 zC dX2_firstFrom_8 (by decide +kernel) ?_
    refine v_icmpn_ge 15 12 zC dX2_firstFrom_9 (fun h_2 => ?_) (fun h_2 => ?_)
    ·
      refine v_ic (v := (nI 0)) 16 zC dX2_firstFrom_15 (by decide +kernel) ?_
      refine v_is_n (lv2 := [(3, .int (nI 0)), (0, .ref a0), (1, .int (nI g)), (2, .int (nI s))]) 17 zC dX2_firstFrom_16 (by rw [hnE]; decide) rfl ?_
      have lp17 : ∀ (mz : Nat) (i : Nat), (i ≤ n) → (fs (fun i => Nat.testBit s ((g + i) % n)) i = none) → n - i = mz → VV E 0 0 17 [(3, .int (nI i)), (0, .ref a0), (1, .int (nI g)), (2, .int (nI s))] [] [(a0, .inr (2, [.int (nI n), .int (nI m), .int (nI sh), .int (nI aw), .ref a1, .ref a2, .ref a3, .ref a4, .ref a5, .ref a6]))] := by
        intro mz
        induction mz using Nat.strongRecOn with
        | _ mz ih17 =>
        intro i hi hq hm17
        refine v_il_n 18 zC dX2_firstFrom_17 0 rfl ?_
        refine v_al_n 19 zC dX2_firstFrom_18 1 rfl ?_
        refine v_gf 22 0 zC dX2_firstFrom_19 gf_X2_30 rfl rfl ?_
        refine v_icmpn_ge 53 25 zC dX2_firstFrom_22 (fun h_3 => ?_) (fun h_3 => ?_)
        ·
          refine v_bp (v := (-9)) 55 zC dX2_firstFrom_53 (by decide +kernel) ?_
          refine v_iret zC zT dX2_firstFrom_55  ?_
          exact Or.inl ⟨ffO_e hq hi (by omega), rfl, rfl⟩
        ·
          refine v_il_n 26 zC dX2_firstFrom_25 2 rfl ?_
          refine v_il_n 27 zC dX2_firstFrom_26 0 rfl ?_
          refine v_iadd (v := (nI (g + i))) 28 zC dX2_firstFrom_27 (nI_add _ _) ?_
          refine v_al_n 29 zC dX2_firstFrom_28 1 rfl ?_
          refine v_gf 32 0 zC dX2_firstFrom_29 gf_X2_30 rfl rfl ?_
          refine v_irem (v := (nI ((g + i) % n))) 33 zC dX2_firstFrom_32 (nI_ne0 (by omega) (by omega)) (pk_rem (by omega) (by omega) (by omega)) ?_
          have hmod := Nat.mod_lt (g + i) (show 0 < n by omega)
          refine v_is (lv2 := [(4, .int (nI ((g + i) % n))), (3, .int (nI i)), (0, .ref a0), (1, .int (nI g)), (2, .int (nI s))]) 35 zC dX2_firstFrom_33 (by rw [hnE]; decide) rfl ?_
          refine v_il_n 36 zC dX2_firstFrom_35 4 rfl ?_
          refine v_il 38 zC dX2_firstFrom_36 0 rfl ?_
          refine v_ishr (v := ((nI s) >>> (nI ((g + i) % n)))) 39 zC dX2_firstFrom_38 (sr_of (by omega)) ?_
          refine v_ic (v := (nI 1)) 40 zC dX2_firstFrom_39 (by decide +kernel) ?_
          refine v_iand (v := (bz (Nat.testBit s ((g + i) % n)))) 41 zC dX2_firstFrom_40 (tb_of _ (by omega)) ?_
          refine v_ifb_eq 47 44 zC dX2_firstFrom_41 (fun h_4 => ?_) (fun h_4 => ?_)
          ·
            refine v_inc (v := (nI (i + 1))) (lv2 := [(3, .int (nI (i + 1))), (4, .int (nI ((g + i) % n))), (0, .ref a0), (1, .int (nI g)), (2, .int (nI s))]) 50 zC dX2_firstFrom_47 (j := 1) rfl (nI_add _ 1) (by rw [hnE]; decide) rfl ?_
            refine v_goto 17 zC dX2_firstFrom_50 ?_
            refine v_lvs (lv2 := [(3, .int (nI (i + 1))), (0, .ref a0), (1, .int (nI g)), (2, .int (nI s))]) [0, 2, 3, 4] rfl ?_
            exact ih17 _ (by omega) (i + 1) (by first | omega | assumption | rfl | (simp only []; omega) | decide) (fs_0 hq (by assumption)) rfl
          ·
            refine v_il 46 zC dX2_firstFrom_44 0 rfl ?_
            refine v_iret zC zT dX2_firstFrom_46  ?_
            exact Or.inr ⟨_, ffO_s hq (by omega) (by assumption), hmod, rfl, rfl⟩
      refine v_lvs (lv2 := [(3, .int (nI 0)), (0, .ref a0), (1, .int (nI g)), (2, .int (nI s))]) [0, 1, 2, 3] rfl ?_
      exact lp17 _ 0 (by first | omega | assumption | rfl | (simp only []; omega) | decide) (by first | omega | assumption | rfl | (simp only []; omega) | decide) rfl
    ·
      refine v_bp (v := (-9)) 14 zC dX2_firstFrom_12 (by decide +kernel) ?_
      refine v_iret zC zT dX2_firstFrom_14  ?_
      exact Or.inl ⟨by rw [show n = 0 by omega]; rfl, rfl, rfl⟩
