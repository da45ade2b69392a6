theorem bst_1 {f v : Nat → Nat} {k x : Nat} {B : Option Nat} (e : x < f k) : bstS f v k (B, x) = (some (v k), f k) := if_pos e
theorem bst_0 {f v : Nat → Nat} {k x : Nat} {B : Option Nat} (e : f k ≤ x) : bstS f v k (B, x) = (B, x) := if_neg (Nat.not_lt.mpr e)
def SHB (s : SG) (j : Nat) (rw : Nat → Nat) (h : Nat) : Bool := if rw h = 10 then decide (SPT s j h = 0) else SAIDB s j (rw h) h
def q_sham (s : SG) (rw : Nat → Nat) (rs : Nat) (u : Int32) : Nat × Int32 := match IX (g_n s) u with
  | none => (1, -1)
  | some j => if (fs (fun i => decide (10 < rw i)) rs).isSome = true then (3, -3) else (0, mI (fs (fun h => !(SHB s j rw h)) rs))
theorem shb_10 {s : SG} {j h : Nat} {rw : Nat → Nat} (e : rw h = 10) : SHB s j rw h = decide (SPT s j h = 0) := if_pos e
theorem shb_f {s : SG} {j h : Nat} {rw : Nat → Nat} (e : rw h ≠ 10) : SHB s j rw h = SAIDB s j (rw h) h := if_neg e
theorem fs_no {P : Nat → Bool} : ∀ {n i : Nat}, fs P n = none → i < n → P i = false := by
  intro n i h hi
  cases e : P i with
  | false => rfl
  | true =>
    cases e2 : fs P i with
    | none =>
      have z := fs_m (Nat.succ_le_of_lt hi) (fs_1 e2 e)
      rw [h] at z
      cases z
    | some v =>
      have z := fs_m (Nat.le_of_lt hi) e2
      rw [h] at z
      cases z

set_option maxRecDepth 100000 in
set_option maxHeartbeats 4000000 in
theorem c_X4_seat (l : Launch) (D : va_G) (cI : ClassId) (x0 xp g0 s0 w0 y0 : Nat) (pd : Bool) (rs : Nat) (b0 b1 b2 b3 : Nat) (P Q : Nat) (mf : Nat → Nat) (M : Nat → Option Nat) (kn : Nat → Nat) (a0 a1 a2 a3 a4 a5 a6 : Nat) (n m sh : Nat) (ki op fa K G T : Nat → Nat) (c0 c1 c2 c3 c4 c5 c6 : Nat) (n1 m1 sh1 aw1 : Nat) (ki1 op1 fa1 K1 G1 T1 : Nat → Nat) (hw : FW n m sh ki op fa K G T) (hw1 : FW n1 m1 sh1 ki1 op1 fa1 K1 G1 T1) (hB : ∀ z, kn z < 1024) (hM : ∀ z v, M z = some v → v < 7)  : CT l yX4_seat cX4_seat 6 (some .int) { frames := 5, cells := 0, slots := 0, locals := 120 } D cI [.ref x0] [(x0, .inr (4, [.ref a0, .ref c0, .ref xp, .int (bz pd), .ref b0, .ref g0, .ref s0, .ref w0, .int (nI rs), .ref y0])), (a0, .inr (2, [.int (nI n), .int (nI m), .int (nI sh), .int (nI 0), .ref a1, .ref a2, .ref a3, .ref a4, .ref a5, .ref a6])), (a1, .inl (cI, 7, .inl (nIf ki))), (a2, .inl (cI, 7, .inl (nIf op))), (a3, .inl (cI, 7, .inl (nIf fa))), (a4, .inl (cI, 6, .inl (nIf K))), (a5, .inl (cI, 6, .inl (nIf G))), (a6, .inl (cI, 6, .inl (nIf T))), (c0, .inr (2, [.int (nI n1), .int (nI m1), .int (nI sh1), .int (nI aw1), .ref c1, .ref c2, .ref c3, .ref c4, .ref c5, .ref c6])), (c1, .inl (cI, 7, .inl (nIf ki1))), (c2, .inl (cI, 7, .inl (nIf op1))), (c3, .inl (cI, 7, .inl (nIf fa1))), (c4, .inl (cI, 6, .inl (nIf K1))), (c5, .inl (cI, 6, .inl (nIf G1))), (c6, .inl (cI, 6, .inl (nIf T1))), (b0, .inr (1, [.int (nI P), .int (nI Q), .ref b1, .ref b2, .ref b3])), (b1, .inl (cI, 6, .inl (nIf mf))), (b2, .inl (cI, 144, .inl (mIf M))), (b3, .inl (cI, 175, .inl (nIf kn)))] (fun zr zw => (∃ P1 : Nat, ∃ Q1 : Nat, ∃ mg : Nat → Nat, ∃ X : Nat → Nat, ∃ Y : Nat → Option Nat, ∃ n3 : Nat, ∃ m3 : Nat, ∃ s3 : Nat, ∃ w3 : Nat, ∃ ki3 : Nat → Nat, ∃ op3 : Nat → Nat, ∃ fa3 : Nat → Nat, ∃ K3 : Nat → Nat, ∃ G3 : Nat → Nat, ∃ T3 : Nat → Nat, (FW n3 m3 s3 ki3 op3 fa3 K3 G3 T3) ∧ (∀ z, X z < 1024) ∧ (∀ z v, Y z = some v → v < 7) ∧ zr = some (.int (mI ((SEAT (n, m, sh, 0, ki, op, fa, K, G, T)).2))) ∧ zw = [(x0, .inr (4, [.ref a0, .ref c0, .ref xp, .int (bz pd), .ref b0, .ref g0, .ref s0, .ref w0, .int (nI rs), .ref y0])), (a0, .inr (2, [.int (nI n), .int (nI m), .int (nI sh), .int (nI 0), .ref a1, .ref a2, .ref a3, .ref a4, .ref a5, .ref a6])), (a1, .inl (cI, 7, .inl (nIf ki))), (a2, .inl (cI, 7, .inl (nIf op))), (a3, .inl (cI, 7, .inl (nIf fa))), (a4, .inl (cI, 6, .inl (nIf K))), (a5, .inl (cI, 6, .inl (nIf G))), (a6, .inl (cI, 6, .inl (nIf T))), (c0, .inr (2, [.int (nI n3), .int (nI m3), .int (nI s3), .int (nI w3), .ref c1, .ref c2, .ref c3, .ref c4, .ref c5, .ref c6])), (c1, .inl (cI, 7, .inl (nIf ki3))), (c2, .inl (cI, 7, .inl (nIf op3))), (c3, .inl (cI, 7, .inl (nIf fa3))), (c4, .inl (cI, 6, .inl (nIf K3))), (c5, .inl (cI, 6, .inl (nIf G3))), (c6, .inl (cI, 6, .inl (nIf T3))), (b0, .inr (1, [.int (nI P1), .int (nI Q1), .ref b1, .ref b2, .ref b3])), (b1, .inl (cI, 6, .inl (nIf mg))), (b2, .inl (cI, 144, .inl (mIf Y))), (b3, .inl (cI, 175, .inl (nIf X)))])) := by
  refine CT_of RX4 rfl (by decide +kernel) (Nat.le_of_ble_eq_true rfl) (fun E hnE zC zT => ?_)
  have hA : ∀ q, (ev_s E).heap.size ≤ q → ev_A E q := fun q h => by rw [zT.2]; exact Or.inr h
  obtain ⟨hn, hm, hsh, hki, hop, hfa, hK, hG, hT, vki, vop, vfa, vK, vG, vT⟩ := id hw
  have h2n : 2 ^ n ≤ 2 ^ 7 := Nat.pow_le_pow_right (by decide) hn
  show VV E 0 0 0 [(0, .ref x0)] [] [(x0, .inr (4, [.ref a0, .ref c0, .ref xp, .int (bz pd), .ref b0, .ref g0, .ref s0, .ref w0, .int (nI rs), .ref y0])), (a0, .inr (2, [.int (nI n), .int (nI m), .int (nI sh), .int (nI 0), .ref a1, .ref a2, .ref a3, .ref a4, .ref a5, .ref a6])), (a1, .inl (cI, 7, .inl (nIf ki))), (a2, .inl (cI, 7, .inl (nIf op))), (a3, .inl (cI, 7, .inl (nIf fa))), (a4, .inl (cI, 6, .inl (nIf K))), (a5, .inl (cI, 6, .inl (nIf G))), (a6, .inl (cI, 6, .inl (nIf T))), (c0, .inr (2, [.int (nI n1), .int (nI m1), .int (nI sh1), .int (nI aw1), .ref c1, .ref c2, .ref c3, .ref c4, .ref c5, .ref c6])), (c1, .inl (cI, 7, .inl (nIf ki1))), (c2, .inl (cI, 7, .inl (nIf op1))), (c3, .inl (cI, 7, .inl (nIf fa1))), (c4, .inl (cI, 6, .inl (nIf K1))), (c5, .inl (cI, 6, .inl (nIf G1))), (c6, .inl (cI, 6, .inl (nIf T1))), (b0, .inr (1, [.int (nI P), .int (nI Q), .ref b1, .ref b2, .ref b3])), (b1, .inl (cI, 6, .inl (nIf mf))), (b2, .inl (cI, 144, .inl (mIf M))), (b3, .inl (cI, 175, .inl (nIf kn)))]
  refine v_al_n 1 zC dX4_seat_0 0 rfl ?_
  refine v_al_n 2 zC dX4_seat_1 0 rfl ?_
  refine v_gf 5 0 zC dX4_seat_2 gf_X4_12 rfl rfl ?_
  refine v_cV (As := [.ref a0]) (st := []) 8 0 [0, 1, 2, 3, 4, 5, 6, 7, 15, 16, 17, 18] zC dX4_seat_5 hA (c_X4_allOf (ev_l E) (ev_D E) cI (x0 := x0) (xn := a0) (xm := c0) (xp := xp) (g0 := g0) (s0 := s0) (w0 := w0) (y0 := y0) (pd := pd) (rs := rs) (b0 := b0) (b1 := b1) (b2 := b2) (b3 := b3) (P := P) (Q := Q) (mf := mf) (M := M) (kn := kn) (a0 := a0) (a1 := a1) (a2 := a2) (a3 := a3) (a4 := a4) (a5 := a5) (a6 := a6) (n := n) (m := m) (sh := sh) (aw := 0) (ki := ki) (op := op) (fa := fa) (K := K) (G := G) (T := T) (hw := hw) (hB := hB) (hM := hM)) cf_X4_allOf lk_X4_198 rfl rfl rfl rfl rfl (by decide +kernel) (Nat.le_of_ble_eq_true rfl) (fun rv_1 wv_2 hp_3 hm_4 => ?_)
  clear hm_4
  obtain ⟨mg_5, X_6, Y_7, hD_8, rfl, rfl⟩ := hp_3
  show VV E 0 0 8 [(0, .ref x0)] [.int (nI (ALL (n, m, sh, 0, ki, op, fa, K, G, T)))] [(x0, .inr (4, [.ref a0, .ref c0, .ref xp, .int (bz pd), .ref b0, .ref g0, .ref s0, .ref w0, .int (nI rs), .ref y0])), (a0, .inr (2, [.int (nI n), .int (nI m), .int (nI sh), .int (nI 0), .ref a1, .ref a2, .ref a3, .ref a4, .ref a5, .ref a6])), (a1, .inl (cI, 7, .inl (nIf ki))), (a2, .inl (cI, 7, .inl (nIf op))), (a3, .inl (cI, 7, .inl (nIf fa))), (a4, .inl (cI, 6, .inl (nIf K))), (a5, .inl (cI, 6, .inl (nIf G))), (a6, .inl (cI, 6, .inl (nIf T))), (c0, .inr (2, [.int (nI n1), .int (nI m1), .int (nI sh1), .int (nI aw1), .ref c1, .ref c2, .ref c3, .ref c4, .ref c5, .ref c6])), (c1, .inl (cI, 7, .inl (nIf ki1))), (c2, .inl (cI, 7, .inl (nIf op1))), (c3, .inl (cI, 7, .inl (nIf fa1))), (c4, .inl (cI, 6, .inl (nIf K1))), (c5, .inl (cI, 6, .inl (nIf G1))), (c6, .inl (cI, 6, .inl (nIf T1))), (b0, .inr (1, [.int (nI n), .int (nI m), .ref b1, .ref b2, .ref b3])), (b1, .inl (cI, 6, .inl (nIf mg_5))), (b2, .inl (cI, 144, .inl (mIf Y_7))), (b3, .inl (cI, 175, .inl (nIf X_6)))]
  have hD9 := hD_8
  have hB9 := hD9.2.2.1
  have hM9 := hD9.2.2.2
  have ha9 := all_le (s := (n, m, sh, 0, ki, op, fa, K, G, T)) hn (fun p => hD9.2.2.1 (24 * 7 + p)) hD9
  refine v_is_n (lv2 := [(1, .int (nI (ALL (n, m, sh, 0, ki, op, fa, K, G, T)))), (0, .ref x0)]) 9 zC dX4_seat_8 (by rw [hnE]; decide) rfl ?_
  refine v_bp (v := (-9)) 11 zC dX4_seat_9 (by decide +kernel) ?_
  refine v_is_n (lv2 := [(2, .int (-9)), (1, .int (nI (ALL (n, m, sh, 0, ki, op, fa, K, G, T)))), (0, .ref x0)]) 12 zC dX4_seat_11 (by rw [hnE]; decide) rfl ?_
  refine v_ic (v := (nI 0)) 13 zC dX4_seat_12 (by decide +kernel) ?_
  refine v_is_n (lv2 := [(3, .int (nI 0)), (2, .int (-9)), (1, .int (nI (ALL (n, m, sh, 0, ki, op, fa, K, G, T)))), (0, .ref x0)]) 14 zC dX4_seat_13 (by rw [hnE]; decide) rfl ?_
  have lp14 : ∀ (mz : Nat) (P2 : Nat) (Q2 : Nat) (mg : Nat → Nat) (Y : Nat → Option Nat) (X : Nat → Nat) (n4 : Nat) (m4 : Nat) (s4 : Nat) (w4 : Nat) (ki4 : Nat → Nat) (op4 : Nat → Nat) (fa4 : Nat → Nat) (K4 : Nat → Nat) (G4 : Nat → Nat) (T4 : Nat → Nat) (x : Nat) (B : Option Nat) (a : Nat), (∀ z, X z < 1024) → (∀ z v, Y z = some v → v < 7) → (FW n4 m4 s4 ki4 op4 fa4 K4 G4 T4) → ((x, B) = it (fun a x => it (seaS (n, m, sh, 0, ki, op, fa, K, G, T) a) x (g_n (n, m, sh, 0, ki, op, fa, K, G, T) - (a + 1))) (ALL (n, m, sh, 0, ki, op, fa, K, G, T), none) a) → (a ≤ n) → (x ≤ 70) → n - a = mz → VV E 0 0 14 [(3, .int (nI a)), (2, .int (mI B)), (1, .int (nI x)), (0, .ref x0)] [] [(x0, .inr (4, [.ref a0, .ref c0, .ref xp, .int (bz pd), .ref b0, .ref g0, .ref s0, .ref w0, .int (nI rs), .ref y0])), (a0, .inr (2, [.int (nI n), .int (nI m), .int (nI sh), .int (nI 0), .ref a1, .ref a2, .ref a3, .ref a4, .ref a5, .ref a6])), (a1, .inl (cI, 7, .inl (nIf ki))), (a2, .inl (cI, 7, .inl (nIf op))), (a3, .inl (cI, 7, .inl (nIf fa))), (a4, .inl (cI, 6, .inl (nIf K))), (a5, .inl (cI, 6, .inl (nIf G))), (a6, .inl (cI, 6, .inl (nIf T))), (c0, .inr (2, [.int (nI n4), .int (nI m4), .int (nI s4), .int (nI w4), .ref c1, .ref c2, .ref c3, .ref c4, .ref c5, .ref c6])), (c1, .inl (cI, 7, .inl (nIf ki4))), (c2, .inl (cI, 7, .inl (nIf op4))), (c3, .inl (cI, 7, .inl (nIf fa4))), (c4, .inl (cI, 6, .inl (nIf K4))), (c5, .inl (cI, 6, .inl (nIf G4))), (c6, .inl (cI, 6, .inl (nIf T4))), (b0, .inr (1, [.int (nI P2), .int (nI Q2), .ref b1, .ref b2, .ref b3])), (b1, .inl (cI, 6, .inl (nIf mg))), (b2, .inl (cI, 144, .inl (mIf Y))), (b3, .inl (cI, 175, .inl (nIf X)))] := by
    intro mz
    induction mz using Nat.strongRecOn with
    | _ mz ih14 =>
    intro P2 Q2 mg Y X n4 m4 s4 w4 ki4 op4 fa4 K4 G4 T4 x B a hB9 hM9 hF4 hs ha hx hm14
    refine v_il_n 15 zC dX4_seat_14 0 rfl ?_
    refine v_al_n 16 zC dX4_seat_15 3 rfl ?_
    refine v_gf 19 0 zC dX4_seat_16 gf_X4_12 rfl rfl ?_
    refine v_gf 22 1 zC dX4_seat_19 gf_X4_114 rfl rfl ?_
    refine v_icmpn_ge 102 25 zC dX4_seat_22 (fun h_9 => ?_) (fun h_9 => ?_)
    ·
      refine v_il_n 103 zC dX4_seat_102 1 rfl ?_
      refine v_iret zC zT dX4_seat_103  ?_
      exact ⟨_, _, _, _, _, _, _, _, _, _, _, _, _, _, _, hF4, hB9, hM9, by have e9 : n = a := (by omega); subst e9; exact congrArg (fun z => some (Value.int (mI z.2))) hs, rfl⟩
    ·
      refine v_il_n 26 zC dX4_seat_25 0 rfl ?_
      refine v_ic (v := (nI 1)) 27 zC dX4_seat_26 (by decide +kernel) ?_
      refine v_iadd (v := (nI (a + 1))) 28 zC dX4_seat_27 (nI_add _ _) ?_
      refine v_is (lv2 := [(4, .int (nI (a + 1))), (3, .int (nI a)), (2, .int (mI B)), (1, .int (nI x)), (0, .ref x0)]) 30 zC dX4_seat_28 (by rw [hnE]; decide) rfl ?_
      have lp30 : ∀ (mz : Nat) (P5 : Nat) (Q5 : Nat) (mg5 : Nat → Nat) (Y5 : Nat → Option Nat) (X5 : Nat → Nat) (n5 : Nat) (m5 : Nat) (s5 : Nat) (w5 : Nat) (ki5 : Nat → Nat) (op5 : Nat → Nat) (fa5 : Nat → Nat) (K5 : Nat → Nat) (G5 : Nat → Nat) (T5 : Nat → Nat) (x2 : Nat) (B2 : Option Nat) (b : Nat), (∀ z, X5 z < 1024) → (∀ z v, Y5 z = some v → v < 7) → (FW n5 m5 s5 ki5 op5 fa5 K5 G5 T5) → ((x2, B2) = it (seaS (n, m, sh, 0, ki, op, fa, K, G, T) a) (x, B) (b - (a + 1))) → (a + 1 ≤ b) → (b ≤ n) → (x2 ≤ 70) → n - b = mz → VV E 0 0 30 [(4, .int (nI b)), (3, .int (nI a)), (2, .int (mI B2)), (1, .int (nI x2)), (0, .ref x0)] [] [(x0, .inr (4, [.ref a0, .ref c0, .ref xp, .int (bz pd), .ref b0, .ref g0, .ref s0, .ref w0, .int (nI rs), .ref y0])), (a0, .inr (2, [.int (nI n), .int (nI m), .int (nI sh), .int (nI 0), .ref a1, .ref a2, .ref a3, .ref a4, .ref a5, .ref a6])), (a1, .inl (cI, 7, .inl (nIf ki))), (a2, .inl (cI, 7, .inl (nIf op))), (a3, .inl (cI, 7, .inl (nIf fa))), (a4, .inl (cI, 6, .inl (nIf K))), (a5, .inl (cI, 6, .inl (nIf G))), (a6, .inl (cI, 6, .inl (nIf T))), (c0, .inr (2, [.int (nI n5), .int (nI m5), .int (nI s5), .int (nI w5), .ref c1, .ref c2, .ref c3, .ref c4, .ref c5, .ref c6])), (c1, .inl (cI, 7, .inl (nIf ki5))), (c2, .inl (cI, 7, .inl (nIf op5))), (c3, .inl (cI, 7, .inl (nIf fa5))), (c4, .inl (cI, 6, .inl (nIf K5))), (c5, .inl (cI, 6, .inl (nIf G5))), (c6, .inl (cI, 6, .inl (nIf T5))), (b0, .inr (1, [.int (nI P5), .int (nI Q5), .ref b1, .ref b2, .ref b3])), (b1, .inl (cI, 6, .inl (nIf mg5))), (b2, .inl (cI, 144, .inl (mIf Y5))), (b3, .inl (cI, 175, .inl (nIf X5)))] := by
        intro mz
        induction mz using Nat.strongRecOn with
        | _ mz ih30 =>
        intro P5 Q5 mg5 Y5 X5 n5 m5 s5 w5 ki5 op5 fa5 K5 G5 T5 x2 B2 b hB10 hM10 hF5 hs2 hb1 hbm hx2 hm30
        refine v_il 32 zC dX4_seat_30 0 rfl ?_
        refine v_al_n 33 zC dX4_seat_32 4 rfl ?_
        refine v_gf 36 0 zC dX4_seat_33 gf_X4_12 rfl rfl ?_
        refine v_gf 39 1 zC dX4_seat_36 gf_X4_114 rfl rfl ?_
        refine v_icmpn_ge 96 42 zC dX4_seat_39 (fun h_10 => ?_) (fun h_10 => ?_)
        ·
          refine v_inc (v := (nI (a + 1))) (lv2 := [(3, .int (nI (a + 1))), (4, .int (nI b)), (2, .int (mI B2)), (1, .int (nI x2)), (0, .ref x0)]) 99 zC dX4_seat_96 (j := 1) rfl (nI_add _ 1) (by rw [hnE]; decide) rfl ?_
          refine v_goto 14 zC dX4_seat_99 ?_
          refine v_lvs (lv2 := [(3, .int (nI (a + 1))), (2, .int (mI B2)), (1, .int (nI x2)), (0, .ref x0)]) [0, 2, 3, 4] rfl ?_
          exact ih14 _ (by omega) P5 Q5 mg5 Y5 X5 n5 m5 s5 w5 ki5 op5 fa5 K5 G5 T5 x2 B2 (a + 1) hB10 hM10 hF5 (it_s hs (by show it (seaS (n, m, sh, 0, ki, op, fa, K, G, T) a) (x, B) (g_n (n, m, sh, 0, ki, op, fa, K, G, T) - (a + 1)) = _; rw [show g_n (n, m, sh, 0, ki, op, fa, K, G, T) = b from (by show n = b; omega)]; exact hs2.symm)) (by first | omega | assumption | rfl | (simp only []; omega) | decide) (by first | omega | assumption | rfl | (simp only []; omega) | decide) rfl
        ·
          refine v_al_n 43 zC dX4_seat_42 4 rfl ?_
          refine v_gf 46 0 zC dX4_seat_43 gf_X4_16 rfl rfl ?_
          refine v_al_n 47 zC dX4_seat_46 4 rfl ?_
          refine v_gf 50 0 zC dX4_seat_47 gf_X4_12 rfl rfl ?_
          refine v_cV (As := [.ref a0]) (st := []) 53 8 [8, 9, 10, 11, 12, 13, 14, 1, 2, 3, 4, 5, 6, 7] zC dX4_seat_50 hA (c_X2_become (ev_l E) (ev_D E) cI (a0 := a0) (a1 := a1) (a2 := a2) (a3 := a3) (a4 := a4) (a5 := a5) (a6 := a6) (n := n) (m := m) (sh := sh) (aw := 0) (ki := ki) (op := op) (fa := fa) (K := K) (G := G) (T := T) (c0 := c0) (c1 := c1) (c2 := c2) (c3 := c3) (c4 := c4) (c5 := c5) (c6 := c6) (n1 := n5) (m1 := m5) (sh1 := s5) (aw1 := w5) (ki1 := ki5) (op1 := op5) (fa1 := fa5) (K1 := K5) (G1 := G5) (T1 := T5) (hw := hw) (hw1 := hF5)) cf_X2_become lk_X4_65 rfl rfl rfl rfl rfl (by decide +kernel) (Nat.le_of_ble_eq_true rfl) (fun rv_11 wv_12 hp_13 hm_14 => ?_)
          clear hm_14
          obtain ⟨rfl, rfl⟩ := hp_13
          show VV E 0 0 53 [(4, .int (nI b)), (3, .int (nI a)), (2, .int (mI B2)), (1, .int (nI x2)), (0, .ref x0)] [] [(x0, .inr (4, [.ref a0, .ref c0, .ref xp, .int (bz pd), .ref b0, .ref g0, .ref s0, .ref w0, .int (nI rs), .ref y0])), (a0, .inr (2, [.int (nI n), .int (nI m), .int (nI sh), .int (nI 0), .ref a1, .ref a2, .ref a3, .ref a4, .ref a5, .ref a6])), (a1, .inl (cI, 7, .inl (nIf ki))), (a2, .inl (cI, 7, .inl (nIf op))), (a3, .inl (cI, 7, .inl (nIf fa))), (a4, .inl (cI, 6, .inl (nIf K))), (a5, .inl (cI, 6, .inl (nIf G))), (a6, .inl (cI, 6, .inl (nIf T))), (c0, .inr (2, [.int (nI n), .int (nI m), .int (nI sh), .int (nI 0), .ref c1, .ref c2, .ref c3, .ref c4, .ref c5, .ref c6])), (c1, .inl (cI, 7, .inl (nIf ki))), (c2, .inl (cI, 7, .inl (nIf op))), (c3, .inl (cI, 7, .inl (nIf fa))), (c4, .inl (cI, 6, .inl (nIf K))), (c5, .inl (cI, 6, .inl (nIf G))), (c6, .inl (cI, 6, .inl (nIf T))), (b0, .inr (1, [.int (nI P5), .int (nI Q5), .ref b1, .ref b2, .ref b3])), (b1, .inl (cI, 6, .inl (nIf mg5))), (b2, .inl (cI, 144, .inl (mIf Y5))), (b3, .inl (cI, 175, .inl (nIf X5)))]
          refine v_al_n 54 zC dX4_seat_53 4 rfl ?_
          refine v_gf 57 0 zC dX4_seat_54 gf_X4_16 rfl rfl ?_
          refine v_il_n 58 zC dX4_seat_57 1 rfl ?_
          refine v_il 60 zC dX4_seat_58 0 rfl ?_
          refine v_cV (As := [.int (nI a), .int (nI b)]) (st := []) 63 8 [8, 9, 10, 11] zC dX4_seat_60 hA (c_X2_changeSeats (ev_l E) (ev_D E) cI (a0 := c0) (a1 := c1) (a2 := c2) (a3 := c3) (a4 := c4) (a5 := c5) (a6 := c6) (n := n) (m := m) (sh := sh) (aw := 0) (ki := ki) (op := op) (fa := fa) (a := a) (b := b) (hn := (by first | omega | assumption | rfl | (simp only []; omega) | decide)) (ha := (by first | omega | assumption | rfl | (simp only []; omega) | decide)) (hb := (by first | omega | assumption | rfl | (simp only []; omega) | decide))) cf_X2_changeSeats lk_X4_215 rfl rfl rfl rfl rfl (by decide +kernel) (Nat.le_of_ble_eq_true rfl) (fun rv_15 wv_16 hp_17 hm_18 => ?_)
          clear hm_18
          obtain ⟨rfl, rfl⟩ := hp_17
          show VV E 0 0 63 [(4, .int (nI b)), (3, .int (nI a)), (2, .int (mI B2)), (1, .int (nI x2)), (0, .ref x0)] [] [(x0, .inr (4, [.ref a0, .ref c0, .ref xp, .int (bz pd), .ref b0, .ref g0, .ref s0, .ref w0, .int (nI rs), .ref y0])), (a0, .inr (2, [.int (nI n), .int (nI m), .int (nI sh), .int (nI 0), .ref a1, .ref a2, .ref a3, .ref a4, .ref a5, .ref a6])), (a1, .inl (cI, 7, .inl (nIf ki))), (a2, .inl (cI, 7, .inl (nIf op))), (a3, .inl (cI, 7, .inl (nIf fa))), (a4, .inl (cI, 6, .inl (nIf K))), (a5, .inl (cI, 6, .inl (nIf G))), (a6, .inl (cI, 6, .inl (nIf T))), (c0, .inr (2, [.int (nI n), .int (nI m), .int (nI (if Nat.testBit sh a = Nat.testBit sh b then sh else sh ^^^ (2 ^ a ||| 2 ^ b))), .int (nI 0), .ref c1, .ref c2, .ref c3, .ref c4, .ref c5, .ref c6])), (c1, .inl (cI, 7, .inl (nIf (sw ki a b)))), (c2, .inl (cI, 7, .inl (nIf (sw op a b)))), (c3, .inl (cI, 7, .inl (nIf (sw fa a b)))), (c4, .inl (cI, 6, .inl (nIf K))), (c5, .inl (cI, 6, .inl (nIf G))), (c6, .inl (cI, 6, .inl (nIf T))), (b0, .inr (1, [.int (nI P5), .int (nI Q5), .ref b1, .ref b2, .ref b3])), (b1, .inl (cI, 6, .inl (nIf mg5))), (b2, .inl (cI, 144, .inl (mIf Y5))), (b3, .inl (cI, 175, .inl (nIf X5)))]
          refine v_al_n 64 zC dX4_seat_63 4 rfl ?_
          refine v_al_n 65 zC dX4_seat_64 4 rfl ?_
          refine v_gf 68 0 zC dX4_seat_65 gf_X4_16 rfl rfl ?_
          refine v_cV (As := [.ref c0]) (st := []) 71 0 [0, 8, 9, 10, 11, 12, 13, 14, 15, 16, 17, 18] zC dX4_seat_68 hA (c_X4_allOf (ev_l E) (ev_D E) cI (x0 := x0) (xn := a0) (xm := c0) (xp := xp) (g0 := g0) (s0 := s0) (w0 := w0) (y0 := y0) (pd := pd) (rs := rs) (b0 := b0) (b1 := b1) (b2 := b2) (b3 := b3) (P := P5) (Q := Q5) (mf := mg5) (M := Y5) (kn := X5) (a0 := c0) (a1 := c1) (a2 := c2) (a3 := c3) (a4 := c4) (a5 := c5) (a6 := c6) (n := n) (m := m) (sh := (if Nat.testBit sh a = Nat.testBit sh b then sh else sh ^^^ (2 ^ a ||| 2 ^ b))) (aw := 0) (ki := (sw ki a b)) (op := (sw op a b)) (fa := (sw fa a b)) (K := K) (G := G) (T := T) (hw := ⟨hn, hm, sw_h hsh (by omega) (by omega), sw_b hki, sw_b hop, sw_b hfa, hK, hG, hT, sw_v vki (by omega) (by omega), sw_v vop (by omega) (by omega), sw_v vfa (by omega) (by omega), vK, vG, vT⟩) (hB := hB10) (hM := hM10)) cf_X4_allOf lk_X4_198 rfl rfl rfl rfl rfl (by decide +kernel) (Nat.le_of_ble_eq_true rfl) (fun rv_19 wv_20 hp_21 hm_22 => ?_)
          clear hm_22
          obtain ⟨mg_23, X_24, Y_25, hD_26, rfl, rfl⟩ := hp_21
          show VV E 0 0 71 [(4, .int (nI b)), (3, .int (nI a)), (2, .int (mI B2)), (1, .int (nI x2)), (0, .ref x0)] [.int (nI (ALL (n, m, (if Nat.testBit sh a = Nat.testBit sh b then sh else sh ^^^ (2 ^ a ||| 2 ^ b)), 0, (sw ki a b), (sw op a b), (sw fa a b), K, G, T)))] [(x0, .inr (4, [.ref a0, .ref c0, .ref xp, .int (bz pd), .ref b0, .ref g0, .ref s0, .ref w0, .int (nI rs), .ref y0])), (a0, .inr (2, [.int (nI n), .int (nI m), .int (nI sh), .int (nI 0), .ref a1, .ref a2, .ref a3, .ref a4, .ref a5, .ref a6])), (a1, .inl (cI, 7, .inl (nIf ki))), (a2, .inl (cI, 7, .inl (nIf op))), (a3, .inl (cI, 7, .inl (nIf fa))), (a4, .inl (cI, 6, .inl (nIf K))), (a5, .inl (cI, 6, .inl (nIf G))), (a6, .inl (cI, 6, .inl (nIf T))), (c0, .inr (2, [.int (nI n), .int (nI m), .int (nI (if Nat.testBit sh a = Nat.testBit sh b then sh else sh ^^^ (2 ^ a ||| 2 ^ b))), .int (nI 0), .ref c1, .ref c2, .ref c3, .ref c4, .ref c5, .ref c6])), (c1, .inl (cI, 7, .inl (nIf (sw ki a b)))), (c2, .inl (cI, 7, .inl (nIf (sw op a b)))), (c3, .inl (cI, 7, .inl (nIf (sw fa a b)))), (c4, .inl (cI, 6, .inl (nIf K))), (c5, .inl (cI, 6, .inl (nIf G))), (c6, .inl (cI, 6, .inl (nIf T))), (b0, .inr (1, [.int (nI n), .int (nI m), .ref b1, .ref b2, .ref b3])), (b1, .inl (cI, 6, .inl (nIf mg_23))), (b2, .inl (cI, 144, .inl (mIf Y_25))), (b3, .inl (cI, 175, .inl (nIf X_24)))]
          have hD9 := hD_26
          have hb9 := all_le (s := SWP (n, m, sh, 0, ki, op, fa, K, G, T) a b) hn (fun p => hD9.2.2.1 (24 * 7 + p)) hD9
          refine v_is (lv2 := [(5, .int (nI (ALL (n, m, (if Nat.testBit sh a = Nat.testBit sh b then sh else sh ^^^ (2 ^ a ||| 2 ^ b)), 0, (sw ki a b), (sw op a b), (sw fa a b), K, G, T)))), (4, .int (nI b)), (3, .int (nI a)), (2, .int (mI B2)), (1, .int (nI x2)), (0, .ref x0)]) 73 zC dX4_seat_71 (by rw [hnE]; decide) rfl ?_
          refine v_il 75 zC dX4_seat_73 0 rfl ?_
          refine v_il_n 76 zC dX4_seat_75 4 rfl ?_
          refine v_icmpn_le 90 79 zC dX4_seat_76 (fun h_27 => ?_) (fun h_27 => ?_)
          ·
            have hv9 := h_27
            refine v_inc (v := (nI (b + 1))) (lv2 := [(4, .int (nI (b + 1))), (5, .int (nI (ALL (n, m, (if Nat.testBit sh a = Nat.testBit sh b then sh else sh ^^^ (2 ^ a ||| 2 ^ b)), 0, (sw ki a b), (sw op a b), (sw fa a b), K, G, T)))), (3, .int (nI a)), (2, .int (mI B2)), (1, .int (nI x2)), (0, .ref x0)]) 93 zC dX4_seat_90 (j := 1) rfl (nI_add _ 1) (by rw [hnE]; decide) rfl ?_
            refine v_goto 30 zC dX4_seat_93 ?_
            refine v_lvs (lv2 := [(4, .int (nI (b + 1))), (3, .int (nI a)), (2, .int (mI B2)), (1, .int (nI x2)), (0, .ref x0)]) [0, 2, 3, 4, 5] rfl ?_
            exact ih30 _ (by omega) n m mg_23 Y_25 X_24 n m (if Nat.testBit sh a = Nat.testBit sh b then sh else sh ^^^ (2 ^ a ||| 2 ^ b)) 0 (sw ki a b) (sw op a b) (sw fa a b) K G T x2 B2 (b + 1) hD9.2.2.1 hD9.2.2.2 ⟨hn, hm, sw_h hsh (by omega) (by omega), sw_b hki, sw_b hop, sw_b hfa, hK, hG, hT, sw_v vki (by omega) (by omega), sw_v vop (by omega) (by omega), sw_v vfa (by omega) (by omega), vK, vG, vT⟩ (it_r hs2 hb1 (by first | exact sea_1 hb1 hu9 | exact sea_0 hb1 hv9)) (by first | omega | assumption | rfl | (simp only []; omega) | decide) (by first | omega | assumption | rfl | (simp only []; omega) | decide) (by first | omega | assumption | rfl | (simp only []; omega) | decide) rfl
          ·
            have hu9 := h_27
            refine v_il 81 zC dX4_seat_79 0 rfl ?_
            refine v_is_n (lv2 := [(1, .int (nI (ALL (n, m, (if Nat.testBit sh a = Nat.testBit sh b then sh else sh ^^^ (2 ^ a ||| 2 ^ b)), 0, (sw ki a b), (sw op a b), (sw fa a b), K, G, T)))), (5, .int (nI (ALL (n, m, (if Nat.testBit sh a = Nat.testBit sh b then sh else sh ^^^ (2 ^ a ||| 2 ^ b)), 0, (sw ki a b), (sw op a b), (sw fa a b), K, G, T)))), (4, .int (nI b)), (3, .int (nI a)), (2, .int (mI B2)), (0, .ref x0)]) 82 zC dX4_seat_81 (by rw [hnE]; decide) rfl ?_
            refine v_bp (v := (nI 10)) 84 zC dX4_seat_82 (by decide +kernel) ?_
            refine v_il_n 85 zC dX4_seat_84 3 rfl ?_
            refine v_imul (v := (nI (10 * a))) 86 zC dX4_seat_85 (pk_mul _ _) ?_
            refine v_il 88 zC dX4_seat_86 2 rfl ?_
            refine v_iadd (v := (nI ((10 * a) + b))) 89 zC dX4_seat_88 (nI_add _ _) ?_
            refine v_is_n (lv2 := [(2, .int (nI ((10 * a) + b))), (1, .int (nI (ALL (n, m, (if Nat.testBit sh a = Nat.testBit sh b then sh else sh ^^^ (2 ^ a ||| 2 ^ b)), 0, (sw ki a b), (sw op a b), (sw fa a b), K, G, T)))), (5, .int (nI (ALL (n, m, (if Nat.testBit sh a = Nat.testBit sh b then sh else sh ^^^ (2 ^ a ||| 2 ^ b)), 0, (sw ki a b), (sw op a b), (sw fa a b), K, G, T)))), (4, .int (nI b)), (3, .int (nI a)), (0, .ref x0)]) 90 zC dX4_seat_89 (by rw [hnE]; decide) rfl ?_
            refine v_inc (v := (nI (b + 1))) (lv2 := [(4, .int (nI (b + 1))), (2, .int (nI ((10 * a) + b))), (1, .int (nI (ALL (n, m, (if Nat.testBit sh a = Nat.testBit sh b then sh else sh ^^^ (2 ^ a ||| 2 ^ b)), 0, (sw ki a b), (sw op a b), (sw fa a b), K, G, T)))), (5, .int (nI (ALL (n, m, (if Nat.testBit sh a = Nat.testBit sh b then sh else sh ^^^ (2 ^ a ||| 2 ^ b)), 0, (sw ki a b), (sw op a b), (sw fa a b), K, G, T)))), (3, .int (nI a)), (0, .ref x0)]) 93 zC dX4_seat_90 (j := 3) rfl (nI_add _ 1) (by rw [hnE]; decide) rfl ?_
            refine v_goto 30 zC dX4_seat_93 ?_
            refine v_lvs (lv2 := [(4, .int (nI (b + 1))), (3, .int (nI a)), (2, .int (mI (some ((10 * a) + b)))), (1, .int (nI (ALL (n, m, (if Nat.testBit sh a = Nat.testBit sh b then sh else sh ^^^ (2 ^ a ||| 2 ^ b)), 0, (sw ki a b), (sw op a b), (sw fa a b), K, G, T)))), (0, .ref x0)]) [0, 4, 1, 2, 5] rfl ?_
            exact ih30 _ (by omega) n m mg_23 Y_25 X_24 n m (if Nat.testBit sh a = Nat.testBit sh b then sh else sh ^^^ (2 ^ a ||| 2 ^ b)) 0 (sw ki a b) (sw op a b) (sw fa a b) K G T (ALL (n, m, (if Nat.testBit sh a = Nat.testBit sh b then sh else sh ^^^ (2 ^ a ||| 2 ^ b)), 0, (sw ki a b), (sw op a b), (sw fa a b), K, G, T)) (some ((10 * a) + b)) (b + 1) hD9.2.2.1 hD9.2.2.2 ⟨hn, hm, sw_h hsh (by omega) (by omega), sw_b hki, sw_b hop, sw_b hfa, hK, hG, hT, sw_v vki (by omega) (by omega), sw_v vop (by omega) (by omega), sw_v vfa (by omega) (by omega), vK, vG, vT⟩ (it_r hs2 hb1 (by first | exact sea_1 hb1 hu9 | exact sea_0 hb1 hv9)) (by first | omega | assumption | rfl | (simp only []; omega) | decide) (by first | omega | assumption | rfl | (simp only []; omega) | decide) (by first | omega | assumption | rfl | (simp only []; omega) | decide) rfl
      refine v_lvs (lv2 := [(4, .int (nI (a + 1))), (3, .int (nI a)), (2, .int (mI B)), (1, .int (nI x)), (0, .ref x0)]) [0, 1, 2, 3, 4] rfl ?_
      exact lp30 _ P2 Q2 mg Y X n4 m4 s4 w4 ki4 op4 fa4 K4 G4 T4 x B (a + 1) hB9 hM9 hF4 it_z (by first | omega | assumption | rfl | (simp only []; omega) | decide) (by first | omega | assumption | rfl | (simp only []; omega) | decide) (by first | omega | assumption | rfl | (simp only []; omega) | decide) rfl
  refine v_lvs (lv2 := [(3, .int (nI 0)), (2, .int (mI none)), (1, .int (nI (ALL (n, m, sh, 0, ki, op, fa, K, G, T)))), (0, .ref x0)]) [0, 1, 2, 3] rfl ?_
  exact lp14 _ n m mg_5 Y_7 X_6 n1 m1 sh1 aw1 ki1 op1 fa1 K1 G1 T1 (ALL (n, m, sh, 0, ki, op, fa, K, G, T)) none 0 (by first | exact hD9.2.2.1 | exact hB) (by first | exact hD9.2.2.2 | exact hM) hw1 (by first | omega | assumption | rfl | (simp only []; omega) | decide) (by first | omega | assumption | rfl | (simp only []; omega) | decide) (by first | omega | assumption | rfl | (simp only []; omega) | decide) rfl
set_option maxRecDepth 100000 in
set_option maxHeartbeats 4000000 in
theorem c_X4_loudest (l : Launch) (D : va_G) (cI : ClassId) (x0 xm xp g0 s0 w0 y0 : Nat) (pd : Bool) (rs : Nat) (b0 b1 b2 b3 : Nat) (P Q : Nat) (mf : Nat → Nat) (M : Nat → Option Nat) (kn : Nat → Nat) (a0 a1 a2 a3 a4 a5 a6 : Nat) (n m sh : Nat) (ki op fa K G T : Nat → Nat) (R : Nat → Nat) (w : Int32) (hw : FW n m sh ki op fa K G T) (hB : ∀ z, kn z < 1024) (hM : ∀ z v, M z = some v → v < 7) : CT l yX4_loudest cX4_loudest 7 (some .int) { frames := 4, cells := 0, slots := 0, locals := 99 } D cI [.ref x0, .int w] [(x0, .inr (4, [.ref a0, .ref xm, .ref xp, .int (bz pd), .ref b0, .ref g0, .ref s0, .ref w0, .int (nI rs), .ref y0])), (a0, .inr (2, [.int (nI n), .int (nI m), .int (nI sh), .int (nI 0), .ref a1, .ref a2, .ref a3, .ref a4, .ref a5, .ref a6])), (a1, .inl (cI, 7, .inl (nIf ki))), (a2, .inl (cI, 7, .inl (nIf op))), (a3, .inl (cI, 7, .inl (nIf fa))), (a4, .inl (cI, 6, .inl (nIf K))), (a5, .inl (cI, 6, .inl (nIf G))), (a6, .inl (cI, 6, .inl (nIf T))), (b0, .inr (1, [.int (nI P), .int (nI Q), .ref b1, .ref b2, .ref b3])), (b1, .inl (cI, 6, .inl (nIf mf))), (b2, .inl (cI, 144, .inl (mIf M))), (b3, .inl (cI, 175, .inl (nIf kn))), (y0, .inl (cI, 7, .inl (nIf R)))] (fun zr zw => (∃ P1 : Nat, ∃ Q1 : Nat, ∃ mg : Nat → Nat, ∃ X : Nat → Nat, ∃ Y : Nat → Option Nat, ∃ rc : Nat, ∃ rv : Int32, (q_loudest (n, m, sh, 0, ki, op, fa, K, G, T) w = (rc, rv)) ∧ (∀ z, X z < 1024) ∧ (∀ z v, Y z = some v → v < 7) ∧ zr = some (.int rv) ∧ zw = [(x0, .inr (4, [.ref a0, .ref xm, .ref xp, .int (bz pd), .ref b0, .ref g0, .ref s0, .ref w0, .int (nI rs), .ref y0])), (a0, .inr (2, [.int (nI n), .int (nI m), .int (nI sh), .int (nI 0), .ref a1, .ref a2, .ref a3, .ref a4, .ref a5, .ref a6])), (a1, .inl (cI, 7, .inl (nIf ki))), (a2, .inl (cI, 7, .inl (nIf op))), (a3, .inl (cI, 7, .inl (nIf fa))), (a4, .inl (cI, 6, .inl (nIf K))), (a5, .inl (cI, 6, .inl (nIf G))), (a6, .inl (cI, 6, .inl (nIf T))), (b0, .inr (1, [.int (nI P1), .int (nI Q1), .ref b1, .ref b2, .ref b3])), (b1, .inl (cI, 6, .inl (nIf mg))), (b2, .inl (cI, 144, .inl (mIf Y))), (b3, .inl (cI, 175, .inl (nIf X))), (y0, .inl (cI, 7, .inl (nIf (rf R rc))))])) := by
  refine CT_of RX4 rfl (by decide +kernel) (Nat.le_of_ble_eq_true rfl) (fun E hnE zC zT => ?_)
  have hA : ∀ q, (ev_s E).heap.size ≤ q → ev_A E q := fun q h => by rw [zT.2]; exact Or.inr h
  obtain ⟨hn, hm, hsh, hki, hop, hfa, hK, hG, hT, vki, vop, vfa, vK, vG, vT⟩ := id hw
  show VV E 0 0 0 [(0, .ref x0), (1, .int w)] [] [(x0, .inr (4, [.ref a0, .ref xm, .ref xp, .int (bz pd), .ref b0, .ref g0, .ref s0, .ref w0, .int (nI rs), .ref y0])), (a0, .inr (2, [.int (nI n), .int (nI m), .int (nI sh), .int (nI 0), .ref a1, .ref a2, .ref a3, .ref a4, .ref a5, .ref a6])), (a1, .inl (cI, 7, .inl (nIf ki))), (a2, .inl (cI, 7, .inl (nIf op))), (a3, .inl (cI, 7, .inl (nIf fa))), (a4, .inl (cI, 6, .inl (nIf K))), (a5, .inl (cI, 6, .inl (nIf G))), (a6, .inl (cI, 6, .inl (nIf T))), (b0, .inr (1, [.int (nI P), .int (nI Q), .ref b1, .ref b2, .ref b3])), (b1, .inl (cI, 6, .inl (nIf mf))), (b2, .inl (cI, 144, .inl (mIf M))), (b3, .inl (cI, 175, .inl (nIf kn))), (y0, .inl (cI, 7, .inl (nIf R)))]
  refine v_il_n 1 zC dX4_loudest_0 1 rfl ?_
  refine v_ic (v := (nI 2)) 2 zC dX4_loudest_1 (by decide +kernel) ?_
  refine v_cS (As := [.int w, .int (nI 2)]) (st := []) 5 [] zC dX4_loudest_2 hA (c_X4_noWhat (ev_l E) (ev_D E) cI (p := w) (k := 2) (hk := (by first | omega | assumption | rfl | (simp only []; omega) | decide))) cf_X4_noWhat lk_X4_83 rfl rfl rfl (by decide +kernel) (Nat.le_of_ble_eq_true rfl) (fun rv_1 wv_2 hp_3 hm_4 => ?_)
  clear hm_4
  rcases hp_3 with ⟨hi_5, rfl, rfl⟩ | ⟨j_6, he_7, hi_8, hj_9, rfl, rfl⟩
  ·
    show VV E 0 0 5 [(0, .ref x0), (1, .int w)] [.int (nI 1)] [(x0, .inr (4, [.ref a0, .ref xm, .ref xp, .int (bz pd), .ref b0, .ref g0, .ref s0, .ref w0, .int (nI rs), .ref y0])), (a0, .inr (2, [.int (nI n), .int (nI m), .int (nI sh), .int (nI 0), .ref a1, .ref a2, .ref a3, .ref a4, .ref a5, .ref a6])), (a1, .inl (cI, 7, .inl (nIf ki))), (a2, .inl (cI, 7, .inl (nIf op))), (a3, .inl (cI, 7, .inl (nIf fa))), (a4, .inl (cI, 6, .inl (nIf K))), (a5, .inl (cI, 6, .inl (nIf G))), (a6, .inl (cI, 6, .inl (nIf T))), (b0, .inr (1, [.int (nI P), .int (nI Q), .ref b1, .ref b2, .ref b3])), (b1, .inl (cI, 6, .inl (nIf mf))), (b2, .inl (cI, 144, .inl (mIf M))), (b3, .inl (cI, 175, .inl (nIf kn))), (y0, .inl (cI, 7, .inl (nIf R)))]
    refine v_if_eq 15 8 zC dX4_loudest_5 (fun z => absurd z (by decide +kernel)) (fun _ => ?_)
    refine v_al_n 9 zC dX4_loudest_8 0 rfl ?_
    refine v_bp (v := (-2)) 11 zC dX4_loudest_9 (by decide +kernel) ?_
    refine v_cV (As := [.int (-2)]) (st := []) 14 0 [0, 12] zC dX4_loudest_11 hA (c_X4_refuse (ev_l E) (ev_D E) cI (x0 := x0) (xn := a0) (xm := xm) (xp := xp) (b0 := b0) (g0 := g0) (s0 := s0) (w0 := w0) (y0 := y0) (pd := pd) (rs := rs) (R := R) (v := (-2)) (j := 2) (hv := (by first | omega | assumption | rfl | (simp only []; omega) | decide)) (h1 := (by first | omega | assumption | rfl | (simp only []; omega) | decide)) (h6 := (by first | omega | assumption | rfl | (simp only []; omega) | decide))) cf_X4_refuse lk_X4_50 rfl rfl rfl rfl rfl (by decide +kernel) (Nat.le_of_ble_eq_true rfl) (fun rv_11 wv_12 hp_13 hm_14 => ?_)
    clear hm_14
    obtain ⟨rfl, rfl⟩ := hp_13
    show VV E 0 0 14 [(0, .ref x0), (1, .int w)] [.int (-2)] [(x0, .inr (4, [.ref a0, .ref xm, .ref xp, .int (bz pd), .ref b0, .ref g0, .ref s0, .ref w0, .int (nI rs), .ref y0])), (a0, .inr (2, [.int (nI n), .int (nI m), .int (nI sh), .int (nI 0), .ref a1, .ref a2, .ref a3, .ref a4, .ref a5, .ref a6])), (a1, .inl (cI, 7, .inl (nIf ki))), (a2, .inl (cI, 7, .inl (nIf op))), (a3, .inl (cI, 7, .inl (nIf fa))), (a4, .inl (cI, 6, .inl (nIf K))), (a5, .inl (cI, 6, .inl (nIf G))), (a6, .inl (cI, 6, .inl (nIf T))), (b0, .inr (1, [.int (nI P), .int (nI Q), .ref b1, .ref b2, .ref b3])), (b1, .inl (cI, 6, .inl (nIf mf))), (b2, .inl (cI, 144, .inl (mIf M))), (b3, .inl (cI, 175, .inl (nIf kn))), (y0, .inl (cI, 7, .inl (nIf (un R 2 (R 2 + 1)))))]
    refine v_iret zC zT dX4_loudest_14  ?_
    first | exact ⟨P, Q, mf, kn, M, 2, _, by simp [q_loudest, *], hB, hM, rfl, rfl⟩ | exact ⟨_, _, _, _, _, 0, _, by unfold q_loudest; rw [hi_w]; dsimp only; rw [show g_n (n, m, sh, 0, ki, op, fa, K, G, T) = p from (by show n = p; omega), ← hs]; first | rw [if_pos (by assumption)] | rw [if_neg (by assumption)], hD9.2.2.1, hD9.2.2.2, rfl, rfl⟩
  ·
    show VV E 0 0 5 [(0, .ref x0), (1, .int w)] [.int (nI 0)] [(x0, .inr (4, [.ref a0, .ref xm, .ref xp, .int (bz pd), .ref b0, .ref g0, .ref s0, .ref w0, .int (nI rs), .ref y0])), (a0, .inr (2, [.int (nI n), .int (nI m), .int (nI sh), .int (nI 0), .ref a1, .ref a2, .ref a3, .ref a4, .ref a5, .ref a6])), (a1, .inl (cI, 7, .inl (nIf ki))), (a2, .inl (cI, 7, .inl (nIf op))), (a3, .inl (cI, 7, .inl (nIf fa))), (a4, .inl (cI, 6, .inl (nIf K))), (a5, .inl (cI, 6, .inl (nIf G))), (a6, .inl (cI, 6, .inl (nIf T))), (b0, .inr (1, [.int (nI P), .int (nI Q), .ref b1, .ref b2, .ref b3])), (b1, .inl (cI, 6, .inl (nIf mf))), (b2, .inl (cI, 144, .inl (mIf M))), (b3, .inl (cI, 175, .inl (nIf kn))), (y0, .inl (cI, 7, .inl (nIf R)))]
    subst he_7
    have hi_w := hi_8
    refine v_if_eq 15 8 zC dX4_loudest_5 (fun _ => ?_) (fun z => absurd (by decide +kernel) z)
    refine v_al_n 16 zC dX4_loudest_15 0 rfl ?_
    refine v_gf 19 0 zC dX4_loudest_16 gf_X4_25 rfl rfl ?_
    refine v_al_n 20 zC dX4_loudest_19 0 rfl ?_
    refine v_gf 23 0 zC dX4_loudest_20 gf_X4_12 rfl rfl ?_
    refine v_cV (As := [.ref a0]) (st := []) 26 8 [8, 9, 10, 11, 1, 2, 3, 4, 5, 6, 7] zC dX4_loudest_23 hA (c_X1_live (ev_l E) (ev_D E) cI (b0 := b0) (b1 := b1) (b2 := b2) (b3 := b3) (P := P) (Q := Q) (mf := mf) (M := M) (kn := kn) (a0 := a0) (a1 := a1) (a2 := a2) (a3 := a3) (a4 := a4) (a5 := a5) (a6 := a6) (n := n) (m := m) (sh := sh) (aw := 0) (ki := ki) (op := op) (fa := fa) (K := K) (G := G) (T := T) (hn := (by first | omega | assumption | rfl | (simp only []; omega) | decide)) (hm := (by first | omega | assumption | rfl | (simp only []; omega) | decide)) (hK := (by first | omega | assumption | rfl | (simp only []; omega) | decide)) (hG := (by first | omega | assumption | rfl | (simp only []; omega) | decide)) (hT := (by first | omega | assumption | rfl | (simp only []; omega) | decide)) (hA2 := (by first | omega | assumption | rfl | (simp only []; omega) | decide)) (hB := (by first | omega | assumption | rfl | (simp only []; omega) | decide)) (hM := (by first | omega | assumption | rfl | (simp only []; omega) | decide))) cf_X1_live lk_X4_158 rfl rfl rfl rfl rfl (by decide +kernel) (Nat.le_of_ble_eq_true rfl) (fun rv_16 wv_17 hp_18 hm_19 => ?_)
    clear hm_19
    obtain ⟨mg_20, X_21, Y_22, hD_23, rfl, rfl⟩ := hp_18
    show VV E 0 0 26 [(0, .ref x0), (1, .int (nI j_6))] [] [(x0, .inr (4, [.ref a0, .ref xm, .ref xp, .int (bz pd), .ref b0, .ref g0, .ref s0, .ref w0, .int (nI rs), .ref y0])), (a0, .inr (2, [.int (nI n), .int (nI m), .int (nI sh), .int (nI 0), .ref a1, .ref a2, .ref a3, .ref a4, .ref a5, .ref a6])), (a1, .inl (cI, 7, .inl (nIf ki))), (a2, .inl (cI, 7, .inl (nIf op))), (a3, .inl (cI, 7, .inl (nIf fa))), (a4, .inl (cI, 6, .inl (nIf K))), (a5, .inl (cI, 6, .inl (nIf G))), (a6, .inl (cI, 6, .inl (nIf T))), (b0, .inr (1, [.int (nI n), .int (nI m), .ref b1, .ref b2, .ref b3])), (b1, .inl (cI, 6, .inl (nIf mg_20))), (b2, .inl (cI, 144, .inl (mIf Y_22))), (b3, .inl (cI, 175, .inl (nIf X_21))), (y0, .inl (cI, 7, .inl (nIf R)))]
    have hD9 := hD_23
    refine v_bp (v := (-9)) 28 zC dX4_loudest_26 (by decide +kernel) ?_
    refine v_is_n (lv2 := [(2, .int (-9)), (0, .ref x0), (1, .int (nI j_6))]) 29 zC dX4_loudest_28 (by rw [hnE]; decide) rfl ?_
    refine v_ic (v := (nI 0)) 30 zC dX4_loudest_29 (by decide +kernel) ?_
    refine v_is_n (lv2 := [(3, .int (nI 0)), (2, .int (-9)), (0, .ref x0), (1, .int (nI j_6))]) 31 zC dX4_loudest_30 (by rw [hnE]; decide) rfl ?_
    refine v_ic (v := (nI 0)) 32 zC dX4_loudest_31 (by decide +kernel) ?_
    refine v_is (lv2 := [(4, .int (nI 0)), (3, .int (nI 0)), (2, .int (-9)), (0, .ref x0), (1, .int (nI j_6))]) 34 zC dX4_loudest_32 (by rw [hnE]; decide) rfl ?_
    have lp34 : ∀ (mz : Nat) (B : Option Nat) (x : Nat) (p : Nat), ((B, x) = it (bstS (LOUD (n, m, sh, 0, ki, op, fa, K, G, T)) id) (none, 0) p) → (p ≤ n) → (x ≤ 144) → n - p = mz → VV E 0 0 34 [(4, .int (nI p)), (3, .int (nI x)), (2, .int (mI B)), (0, .ref x0), (1, .int (nI j_6))] [] [(x0, .inr (4, [.ref a0, .ref xm, .ref xp, .int (bz pd), .ref b0, .ref g0, .ref s0, .ref w0, .int (nI rs), .ref y0])), (a0, .inr (2, [.int (nI n), .int (nI m), .int (nI sh), .int (nI 0), .ref a1, .ref a2, .ref a3, .ref a4, .ref a5, .ref a6])), (a1, .inl (cI, 7, .inl (nIf ki))), (a2, .inl (cI, 7, .inl (nIf op))), (a3, .inl (cI, 7, .inl (nIf fa))), (a4, .inl (cI, 6, .inl (nIf K))), (a5, .inl (cI, 6, .inl (nIf G))), (a6, .inl (cI, 6, .inl (nIf T))), (b0, .inr (1, [.int (nI n), .int (nI m), .ref b1, .ref b2, .ref b3])), (b1, .inl (cI, 6, .inl (nIf mg_20))), (b2, .inl (cI, 144, .inl (mIf Y_22))), (b3, .inl (cI, 175, .inl (nIf X_21))), (y0, .inl (cI, 7, .inl (nIf R)))] := by
      intro mz
      induction mz using Nat.strongRecOn with
      | _ mz ih34 =>
      intro B x p hs hp hx hm34
      refine v_il 36 zC dX4_loudest_34 0 rfl ?_
      refine v_al_n 37 zC dX4_loudest_36 3 rfl ?_
      refine v_gf 40 0 zC dX4_loudest_37 gf_X4_12 rfl rfl ?_
      refine v_gf 43 1 zC dX4_loudest_40 gf_X4_114 rfl rfl ?_
      refine v_icmpn_ge 104 46 zC dX4_loudest_43 (fun h_24 => ?_) (fun h_24 => ?_)
      ·
        refine v_il_n 105 zC dX4_loudest_104 4 rfl ?_
        refine v_ifn_ne 112 108 zC dX4_loudest_105 (fun h_25 => ?_) (fun h_25 => ?_)
        ·
          refine v_il_n 113 zC dX4_loudest_112 1 rfl ?_
          refine v_iret zC zT dX4_loudest_113  ?_
          first | exact ⟨P, Q, mf, kn, M, 2, _, by simp [q_loudest, *], hB, hM, rfl, rfl⟩ | exact ⟨_, _, _, _, _, 0, _, by unfold q_loudest; rw [hi_w]; dsimp only; rw [show g_n (n, m, sh, 0, ki, op, fa, K, G, T) = p from (by show n = p; omega), ← hs]; first | rw [if_pos (by assumption)] | rw [if_neg (by assumption)], hD9.2.2.1, hD9.2.2.2, rfl, rfl⟩
        ·
          refine v_il_n 109 zC dX4_loudest_108 2 rfl ?_
          refine v_goto 113 zC dX4_loudest_109 ?_
          refine v_iret zC zT dX4_loudest_113  ?_
          first | exact ⟨P, Q, mf, kn, M, 2, _, by simp [q_loudest, *], hB, hM, rfl, rfl⟩ | exact ⟨_, _, _, _, _, 0, _, by unfold q_loudest; rw [hi_w]; dsimp only; rw [show g_n (n, m, sh, 0, ki, op, fa, K, G, T) = p from (by show n = p; omega), ← hs]; first | rw [if_pos (by assumption)] | rw [if_neg (by assumption)], hD9.2.2.1, hD9.2.2.2, rfl, rfl⟩
      ·
        refine v_ic (v := (nI 0)) 47 zC dX4_loudest_46 (by decide +kernel) ?_
        refine v_is (lv2 := [(5, .int (nI 0)), (4, .int (nI p)), (3, .int (nI x)), (2, .int (mI B)), (0, .ref x0), (1, .int (nI j_6))]) 49 zC dX4_loudest_47 (by rw [hnE]; decide) rfl ?_
        refine v_ic (v := (nI 0)) 50 zC dX4_loudest_49 (by decide +kernel) ?_
        refine v_is (lv2 := [(6, .int (nI 0)), (5, .int (nI 0)), (4, .int (nI p)), (3, .int (nI x)), (2, .int (mI B)), (0, .ref x0), (1, .int (nI j_6))]) 52 zC dX4_loudest_50 (by rw [hnE]; decide) rfl ?_
        have lp52 : ∀ (mz : Nat) (y : Nat) (d : Nat), (y = sm (fun d => THRU (n, m, sh, 0, ki, op, fa, K, G, T) d p) d) → (d ≤ m) → (y ≤ 24 * d) → m - d = mz → VV E 0 0 52 [(6, .int (nI d)), (5, .int (nI y)), (4, .int (nI p)), (3, .int (nI x)), (2, .int (mI B)), (0, .ref x0), (1, .int (nI j_6))] [] [(x0, .inr (4, [.ref a0, .ref xm, .ref xp, .int (bz pd), .ref b0, .ref g0, .ref s0, .ref w0, .int (nI rs), .ref y0])), (a0, .inr (2, [.int (nI n), .int (nI m), .int (nI sh), .int (nI 0), .ref a1, .ref a2, .ref a3, .ref a4, .ref a5, .ref a6])), (a1, .inl (cI, 7, .inl (nIf ki))), (a2, .inl (cI, 7, .inl (nIf op))), (a3, .inl (cI, 7, .inl (nIf fa))), (a4, .inl (cI, 6, .inl (nIf K))), (a5, .inl (cI, 6, .inl (nIf G))), (a6, .inl (cI, 6, .inl (nIf T))), (b0, .inr (1, [.int (nI n), .int (nI m), .ref b1, .ref b2, .ref b3])), (b1, .inl (cI, 6, .inl (nIf mg_20))), (b2, .inl (cI, 144, .inl (mIf Y_22))), (b3, .inl (cI, 175, .inl (nIf X_21))), (y0, .inl (cI, 7, .inl (nIf R)))] := by
          intro mz
          induction mz using Nat.strongRecOn with
          | _ mz ih52 =>
          intro y d hy hd hyl hm52
          refine v_il 54 zC dX4_loudest_52 0 rfl ?_
          refine v_al_n 55 zC dX4_loudest_54 5 rfl ?_
          refine v_gf 58 0 zC dX4_loudest_55 gf_X4_12 rfl rfl ?_
          refine v_gf 61 1 zC dX4_loudest_58 gf_X4_121 rfl rfl ?_
          refine v_icmpn_ge 86 64 zC dX4_loudest_61 (fun h_26 => ?_) (fun h_26 => ?_)
          ·
            have hy8 : LOUD (n, m, sh, 0, ki, op, fa, K, G, T) p = y := by rw [hy]; exact congrArg (sm _) (show m = d by omega)
            refine v_il 88 zC dX4_loudest_86 1 rfl ?_
            refine v_il_n 89 zC dX4_loudest_88 3 rfl ?_
            refine v_icmpn_le 98 92 zC dX4_loudest_89 (fun h_27 => ?_) (fun h_27 => ?_)
            ·
              have hv9 := Nat.le_trans (Nat.le_of_eq hy8) h_27
              refine v_inc (v := (nI (p + 1))) (lv2 := [(4, .int (nI (p + 1))), (6, .int (nI d)), (5, .int (nI y)), (3, .int (nI x)), (2, .int (mI B)), (0, .ref x0), (1, .int (nI j_6))]) 101 zC dX4_loudest_98 (j := 2) rfl (nI_add _ 1) (by rw [hnE]; decide) rfl ?_
              refine v_goto 34 zC dX4_loudest_101 ?_
              refine v_lvs (lv2 := [(4, .int (nI (p + 1))), (3, .int (nI x)), (2, .int (mI B)), (0, .ref x0), (1, .int (nI j_6))]) [0, 3, 4, 5, 6] rfl ?_
              exact ih34 _ (by omega) B x (p + 1) (it_s hs (by first | exact (bst_1 hu9).trans (by rw [hy8]; rfl) | exact bst_0 hv9)) (by first | omega | assumption | rfl | (simp only []; omega) | decide) (by first | omega | assumption | rfl | (simp only []; omega) | decide) rfl
            ·
              have hu9 := Nat.lt_of_lt_of_eq h_27 hy8.symm
              refine v_il 94 zC dX4_loudest_92 1 rfl ?_
              refine v_is_n (lv2 := [(3, .int (nI y)), (6, .int (nI d)), (5, .int (nI y)), (4, .int (nI p)), (2, .int (mI B)), (0, .ref x0), (1, .int (nI j_6))]) 95 zC dX4_loudest_94 (by rw [hnE]; decide) rfl ?_
              refine v_il 97 zC dX4_loudest_95 3 rfl ?_
              refine v_is_n (lv2 := [(2, .int (nI p)), (3, .int (nI y)), (6, .int (nI d)), (5, .int (nI y)), (4, .int (nI p)), (0, .ref x0), (1, .int (nI j_6))]) 98 zC dX4_loudest_97 (by rw [hnE]; decide) rfl ?_
              refine v_inc (v := (nI (p + 1))) (lv2 := [(4, .int (nI (p + 1))), (2, .int (nI p)), (3, .int (nI y)), (6, .int (nI d)), (5, .int (nI y)), (0, .ref x0), (1, .int (nI j_6))]) 101 zC dX4_loudest_98 (j := 4) rfl (nI_add _ 1) (by rw [hnE]; decide) rfl ?_
              refine v_goto 34 zC dX4_loudest_101 ?_
              refine v_lvs (lv2 := [(4, .int (nI (p + 1))), (3, .int (nI y)), (2, .int (mI (some p))), (0, .ref x0), (1, .int (nI j_6))]) [0, 2, 1, 5, 6] rfl ?_
              exact ih34 _ (by omega) (some p) y (p + 1) (it_s hs (by first | exact (bst_1 hu9).trans (by rw [hy8]; rfl) | exact bst_0 hv9)) (by first | omega | assumption | rfl | (simp only []; omega) | decide) (by first | omega | assumption | rfl | (simp only []; omega) | decide) rfl
          ·
            refine v_il 66 zC dX4_loudest_64 1 rfl ?_
            refine v_al_n 67 zC dX4_loudest_66 5 rfl ?_
            refine v_gf 70 0 zC dX4_loudest_67 gf_X4_25 rfl rfl ?_
            refine v_il 72 zC dX4_loudest_70 0 rfl ?_
            refine v_il 74 zC dX4_loudest_72 2 rfl ?_
            refine v_cV (As := [.int (nI d), .int (nI p)]) (st := [.int (nI y)]) 77 8 [8, 10] zC dX4_loudest_74 hA (c_X1_timesThrough (ev_l E) (ev_D E) cI (b0 := b0) (b1 := b1) (b2 := b2) (b3 := b3) (P := n) (Q := m) (M := Y_22) (d := d) (p := p) (hQ := (by first | omega | assumption | rfl | (simp only []; omega) | decide)) (hd := (by first | omega | assumption | rfl | (simp only []; omega) | decide)) (hp := (by first | omega | assumption | rfl | (simp only []; omega) | decide)) (hM := hD9.2.2.2)) cf_X1_timesThrough lk_X4_224 rfl rfl rfl rfl rfl (by decide +kernel) (Nat.le_of_ble_eq_true rfl) (fun rv_28 wv_29 hp_30 hm_31 => ?_)
            clear hm_31
            obtain ⟨rfl, rfl⟩ := hp_30
            show VV E 0 0 77 [(6, .int (nI d)), (5, .int (nI y)), (4, .int (nI p)), (3, .int (nI x)), (2, .int (mI B)), (0, .ref x0), (1, .int (nI j_6))] [.int (nI (ctn (fun z => Y_22 (z * 6 + d) == some p) 24)), .int (nI y)] [(x0, .inr (4, [.ref a0, .ref xm, .ref xp, .int (bz pd), .ref b0, .ref g0, .ref s0, .ref w0, .int (nI rs), .ref y0])), (a0, .inr (2, [.int (nI n), .int (nI m), .int (nI sh), .int (nI 0), .ref a1, .ref a2, .ref a3, .ref a4, .ref a5, .ref a6])), (a1, .inl (cI, 7, .inl (nIf ki))), (a2, .inl (cI, 7, .inl (nIf op))), (a3, .inl (cI, 7, .inl (nIf fa))), (a4, .inl (cI, 6, .inl (nIf K))), (a5, .inl (cI, 6, .inl (nIf G))), (a6, .inl (cI, 6, .inl (nIf T))), (b0, .inr (1, [.int (nI n), .int (nI m), .ref b1, .ref b2, .ref b3])), (b1, .inl (cI, 6, .inl (nIf mg_20))), (b2, .inl (cI, 144, .inl (mIf Y_22))), (b3, .inl (cI, 175, .inl (nIf X_21))), (y0, .inl (cI, 7, .inl (nIf R)))]
            rw [dk_thru hD9 (by omega)]
            have hc9 : THRU (n, m, sh, 0, ki, op, fa, K, G, T) d p ≤ 24 := ctn_le _ _
            refine v_iadd (v := (nI (y + (THRU (n, m, sh, 0, ki, op, fa, K, G, T) d p)))) 78 zC dX4_loudest_77 (nI_add _ _) ?_
            refine v_is (lv2 := [(5, .int (nI (y + (THRU (n, m, sh, 0, ki, op, fa, K, G, T) d p)))), (6, .int (nI d)), (4, .int (nI p)), (3, .int (nI x)), (2, .int (mI B)), (0, .ref x0), (1, .int (nI j_6))]) 80 zC dX4_loudest_78 (by rw [hnE]; decide) rfl ?_
            refine v_inc (v := (nI (d + 1))) (lv2 := [(6, .int (nI (d + 1))), (5, .int (nI (y + (THRU (n, m, sh, 0, ki, op, fa, K, G, T) d p)))), (4, .int (nI p)), (3, .int (nI x)), (2, .int (mI B)), (0, .ref x0), (1, .int (nI j_6))]) 83 zC dX4_loudest_80 (j := 1) rfl (nI_add _ 1) (by rw [hnE]; decide) rfl ?_
            refine v_goto 52 zC dX4_loudest_83 ?_
            refine v_lvs (lv2 := [(6, .int (nI (d + 1))), (5, .int (nI (y + (THRU (n, m, sh, 0, ki, op, fa, K, G, T) d p)))), (4, .int (nI p)), (3, .int (nI x)), (2, .int (mI B)), (0, .ref x0), (1, .int (nI j_6))]) [0, 1, 2, 3, 4, 5, 6] rfl ?_
            exact ih52 _ (by omega) (y + (THRU (n, m, sh, 0, ki, op, fa, K, G, T) d p)) (d + 1) (by rw [hy]; rfl) (by first | omega | assumption | rfl | (simp only []; omega) | decide) (by first | omega | assumption | rfl | (simp only []; omega) | decide) rfl
        refine v_lvs (lv2 := [(6, .int (nI 0)), (5, .int (nI 0)), (4, .int (nI p)), (3, .int (nI x)), (2, .int (mI B)), (0, .ref x0), (1, .int (nI j_6))]) [0, 1, 2, 3, 4, 5, 6] rfl ?_
        exact lp52 _ 0 0 (by first | omega | assumption | rfl | (simp only []; omega) | decide) (by first | omega | assumption | rfl | (simp only []; omega) | decide) (by first | omega | assumption | rfl | (simp only []; omega) | decide) rfl
    refine v_lvs (lv2 := [(4, .int (nI 0)), (3, .int (nI 0)), (2, .int (mI none)), (0, .ref x0), (1, .int (nI j_6))]) [0, 1, 2, 3, 4] rfl ?_
    exact lp34 _ none 0 0 (by first | omega | assumption | rfl | (simp only []; omega) | decide) (by first | omega | assumption | rfl | (simp only []; omega) | decide) (by first | omega | assumption | rfl | (simp only []; omega) | decide) rfl
set_option maxRecDepth 100000 in
set_option maxHeartbeats 4000000 in
theorem c_X4_sham (l : Launch) (D : va_G) (cI : ClassId) (x0 xm xp g0 s0 w0 y0 : Nat) (pd : Bool) (rs : Nat) (b0 b1 b2 b3 : Nat) (P Q : Nat) (mf : Nat → Nat) (M : Nat → Option Nat) (kn : Nat → Nat) (a0 a1 a2 a3 a4 a5 a6 : Nat) (n m sh : Nat) (ki op fa K G T : Nat → Nat) (R : Nat → Nat) (u : Int32) (rw : Nat → Nat) (hw : FW n m sh ki op fa K G T) (hB : ∀ z, kn z < 1024) (hM : ∀ z v, M z = some v → v < 7) (hr : rs ≤ 24) (hrw : ∀ z, rw z < 100) : CT l yX4_sham cX4_sham 4 (some .int) { frames := 4, cells := 0, slots := 0, locals := 99 } D cI [.ref x0, .int u] [(x0, .inr (4, [.ref a0, .ref xm, .ref xp, .int (bz pd), .ref b0, .ref g0, .ref s0, .ref w0, .int (nI rs), .ref y0])), (a0, .inr (2, [.int (nI n), .int (nI m), .int (nI sh), .int (nI 0), .ref a1, .ref a2, .ref a3, .ref a4, .ref a5, .ref a6])), (a1, .inl (cI, 7, .inl (nIf ki))), (a2, .inl (cI, 7, .inl (nIf op))), (a3, .inl (cI, 7, .inl (nIf fa))), (a4, .inl (cI, 6, .inl (nIf K))), (a5, .inl (cI, 6, .inl (nIf G))), (a6, .inl (cI, 6, .inl (nIf T))), (b0, .inr (1, [.int (nI P), .int (nI Q), .ref b1, .ref b2, .ref b3])), (b1, .inl (cI, 6, .inl (nIf mf))), (b2, .inl (cI, 144, .inl (mIf M))), (b3, .inl (cI, 175, .inl (nIf kn))), (y0, .inl (cI, 7, .inl (nIf R))), (w0, .inl (cI, 24, .inl (nIf rw)))] (fun zr zw => (∃ P1 : Nat, ∃ Q1 : Nat, ∃ mg : Nat → Nat, ∃ X : Nat → Nat, ∃ Y : Nat → Option Nat, ∃ rc : Nat, ∃ rv : Int32, (q_sham (n, m, sh, 0, ki, op, fa, K, G, T) rw rs u = (rc, rv)) ∧ (∀ z, X z < 1024) ∧ (∀ z v, Y z = some v → v < 7) ∧ zr = some (.int rv) ∧ zw = [(x0, .inr (4, [.ref a0, .ref xm, .ref xp, .int (bz pd), .ref b0, .ref g0, .ref s0, .ref w0, .int (nI rs), .ref y0])), (a0, .inr (2, [.int (nI n), .int (nI m), .int (nI sh), .int (nI 0), .ref a1, .ref a2, .ref a3, .ref a4, .ref a5, .ref a6])), (a1, .inl (cI, 7, .inl (nIf ki))), (a2, .inl (cI, 7, .inl (nIf op))), (a3, .inl (cI, 7, .inl (nIf fa))), (a4, .inl (cI, 6, .inl (nIf K))), (a5, .inl (cI, 6, .inl (nIf G))), (a6, .inl (cI, 6, .inl (nIf T))), (b0, .inr (1, [.int (nI P1), .int (nI Q1), .ref b1, .ref b2, .ref b3])), (b1, .inl (cI, 6, .inl (nIf mg))), (b2, .inl (cI, 144, .inl (mIf Y))), (b3, .inl (cI, 175, .inl (nIf X))), (y0, .inl (cI, 7, .inl (nIf (rf R rc)))), (w0, .inl (cI, 24, .inl (nIf rw)))])) := by
  refine CT_of RX4 rfl (by decide +kernel) (Nat.le_of_ble_eq_true rfl) (fun E hnE zC zT => ?_)
  have hA : ∀ q, (ev_s E).heap.size ≤ q → ev_A E q := fun q h => by rw [zT.2]; exact Or.inr h
  obtain ⟨hn, hm, hsh, hki, hop, hfa, hK, hG, hT, vki, vop, vfa, vK, vG, vT⟩ := id hw
  show VV E 0 0 0 [(0, .ref x0), (1, .int u)] [] [(x0, .inr (4, [.ref a0, .ref xm, .ref xp, .int (bz pd), .ref b0, .ref g0, .ref s0, .ref w0, .int (nI rs), .ref y0])), (a0, .inr (2, [.int (nI n), .int (nI m), .int (nI sh), .int (nI 0), .ref a1, .ref a2, .ref a3, .ref a4, .ref a5, .ref a6])), (a1, .inl (cI, 7, .inl (nIf ki))), (a2, .inl (cI, 7, .inl (nIf op))), (a3, .inl (cI, 7, .inl (nIf fa))), (a4, .inl (cI, 6, .inl (nIf K))), (a5, .inl (cI, 6, .inl (nIf G))), (a6, .inl (cI, 6, .inl (nIf T))), (b0, .inr (1, [.int (nI P), .int (nI Q), .ref b1, .ref b2, .ref b3])), (b1, .inl (cI, 6, .inl (nIf mf))), (b2, .inl (cI, 144, .inl (mIf M))), (b3, .inl (cI, 175, .inl (nIf kn))), (y0, .inl (cI, 7, .inl (nIf R))), (w0, .inl (cI, 24, .inl (nIf rw)))]
  refine v_al_n 1 zC dX4_sham_0 0 rfl ?_
  refine v_il_n 2 zC dX4_sham_1 1 rfl ?_
  refine v_cV (As := [.int u]) (st := []) 5 0 [0, 1] zC dX4_sham_2 hA (c_X4_noPerson (ev_l E) (ev_D E) cI (x0 := x0) (xm := xm) (xp := xp) (b0 := b0) (g0 := g0) (s0 := s0) (w0 := w0) (y0 := y0) (pd := pd) (rs := rs) (a0 := a0) (a1 := a1) (a2 := a2) (a3 := a3) (a4 := a4) (a5 := a5) (a6 := a6) (n := n) (m := m) (sh := sh) (p := u) (hn := (by first | omega | assumption | rfl | (simp only []; omega) | decide))) cf_X4_noPerson lk_X4_79 rfl rfl rfl rfl rfl (by decide +kernel) (Nat.le_of_ble_eq_true rfl) (fun rv_1 wv_2 hp_3 hm_4 => ?_)
  clear hm_4
  rcases hp_3 with ⟨hi_5, rfl, rfl⟩ | ⟨j_6, he_7, hi_8, hj_9, rfl, rfl⟩
  ·
    show VV E 0 0 5 [(0, .ref x0), (1, .int u)] [.int (nI 1)] [(x0, .inr (4, [.ref a0, .ref xm, .ref xp, .int (bz pd), .ref b0, .ref g0, .ref s0, .ref w0, .int (nI rs), .ref y0])), (a0, .inr (2, [.int (nI n), .int (nI m), .int (nI sh), .int (nI 0), .ref a1, .ref a2, .ref a3, .ref a4, .ref a5, .ref a6])), (a1, .inl (cI, 7, .inl (nIf ki))), (a2, .inl (cI, 7, .inl (nIf op))), (a3, .inl (cI, 7, .inl (nIf fa))), (a4, .inl (cI, 6, .inl (nIf K))), (a5, .inl (cI, 6, .inl (nIf G))), (a6, .inl (cI, 6, .inl (nIf T))), (b0, .inr (1, [.int (nI P), .int (nI Q), .ref b1, .ref b2, .ref b3])), (b1, .inl (cI, 6, .inl (nIf mf))), (b2, .inl (cI, 144, .inl (mIf M))), (b3, .inl (cI, 175, .inl (nIf kn))), (y0, .inl (cI, 7, .inl (nIf R))), (w0, .inl (cI, 24, .inl (nIf rw)))]
    refine v_if_eq 14 8 zC dX4_sham_5 (fun z => absurd z (by decide +kernel)) (fun _ => ?_)
    refine v_al_n 9 zC dX4_sham_8 0 rfl ?_
    refine v_ic (v := (-1)) 10 zC dX4_sham_9 (by decide +kernel) ?_
    refine v_cV (As := [.int (-1)]) (st := []) 13 0 [0, 12] zC dX4_sham_10 hA (c_X4_refuse (ev_l E) (ev_D E) cI (x0 := x0) (xn := a0) (xm := xm) (xp := xp) (b0 := b0) (g0 := g0) (s0 := s0) (w0 := w0) (y0 := y0) (pd := pd) (rs := rs) (R := R) (v := (-1)) (j := 1) (hv := (by first | omega | assumption | rfl | (simp only []; omega) | decide)) (h1 := (by first | omega | assumption | rfl | (simp only []; omega) | decide)) (h6 := (by first | omega | assumption | rfl | (simp only []; omega) | decide))) cf_X4_refuse lk_X4_50 rfl rfl rfl rfl rfl (by decide +kernel) (Nat.le_of_ble_eq_true rfl) (fun rv_11 wv_12 hp_13 hm_14 => ?_)
    clear hm_14
    obtain ⟨rfl, rfl⟩ := hp_13
    show VV E 0 0 13 [(0, .ref x0), (1, .int u)] [.int (-1)] [(x0, .inr (4, [.ref a0, .ref xm, .ref xp, .int (bz pd), .ref b0, .ref g0, .ref s0, .ref w0, .int (nI rs), .ref y0])), (a0, .inr (2, [.int (nI n), .int (nI m), .int (nI sh), .int (nI 0), .ref a1, .ref a2, .ref a3, .ref a4, .ref a5, .ref a6])), (a1, .inl (cI, 7, .inl (nIf ki))), (a2, .inl (cI, 7, .inl (nIf op))), (a3, .inl (cI, 7, .inl (nIf fa))), (a4, .inl (cI, 6, .inl (nIf K))), (a5, .inl (cI, 6, .inl (nIf G))), (a6, .inl (cI, 6, .inl (nIf T))), (b0, .inr (1, [.int (nI P), .int (nI Q), .ref b1, .ref b2, .ref b3])), (b1, .inl (cI, 6, .inl (nIf mf))), (b2, .inl (cI, 144, .inl (mIf M))), (b3, .inl (cI, 175, .inl (nIf kn))), (y0, .inl (cI, 7, .inl (nIf (un R 1 (R 1 + 1))))), (w0, .inl (cI, 24, .inl (nIf rw)))]
    refine v_iret zC zT dX4_sham_13  ?_
    first | exact ⟨P, Q, mf, kn, M, 1, _, by simp [q_sham, *], hB, hM, rfl, rfl⟩ | exact ⟨P, Q, mf, kn, M, 3, _, by simp [q_sham, *], hB, hM, rfl, rfl⟩ | exact ⟨_, _, _, _, _, 0, _, by unfold q_sham; rw [hi_u]; dsimp only; first | (rw [hz8, hfin9]; rfl) | (have hfin8 : fs (fun h => !(SHB (n, m, sh, 0, ki, op, fa, K, G, T) ju rw h)) rs = some h := fs_m (show h + 1 ≤ rs by omega) (fs_1 hq9 (congrArg not ((shb_10 he9).trans (decide_eq_false hk9)))); rw [hz8, hfin8]; rfl), hD9.2.2.1, hD9.2.2.2, rfl, rfl⟩
  ·
    show VV E 0 0 5 [(0, .ref x0), (1, .int u)] [.int (nI 0)] [(x0, .inr (4, [.ref a0, .ref xm, .ref xp, .int (bz pd), .ref b0, .ref g0, .ref s0, .ref w0, .int (nI rs), .ref y0])), (a0, .inr (2, [.int (nI n), .int (nI m), .int (nI sh), .int (nI 0), .ref a1, .ref a2, .ref a3, .ref a4, .ref a5, .ref a6])), (a1, .inl (cI, 7, .inl (nIf ki))), (a2, .inl (cI, 7, .inl (nIf op))), (a3, .inl (cI, 7, .inl (nIf fa))), (a4, .inl (cI, 6, .inl (nIf K))), (a5, .inl (cI, 6, .inl (nIf G))), (a6, .inl (cI, 6, .inl (nIf T))), (b0, .inr (1, [.int (nI P), .int (nI Q), .ref b1, .ref b2, .ref b3])), (b1, .inl (cI, 6, .inl (nIf mf))), (b2, .inl (cI, 144, .inl (mIf M))), (b3, .inl (cI, 175, .inl (nIf kn))), (y0, .inl (cI, 7, .inl (nIf R))), (w0, .inl (cI, 24, .inl (nIf rw)))]
    subst he_7
    have hi_u := hi_8
    obtain ⟨ju, hx_ju⟩ : ∃ z, z = j_6 := ⟨_, rfl⟩
    subst hx_ju
    refine v_if_eq 14 8 zC dX4_sham_5 (fun _ => ?_) (fun z => absurd (by decide +kernel) z)
    refine v_ic (v := (nI 0)) 15 zC dX4_sham_14 (by decide +kernel) ?_
    refine v_is_n (lv2 := [(2, .int (nI 0)), (0, .ref x0), (1, .int (nI ju))]) 16 zC dX4_sham_15 (by rw [hnE]; decide) rfl ?_
    have lp16 : ∀ (mz : Nat) (i : Nat), (fs (fun i => decide (10 < rw i)) i = none) → (i ≤ rs) → rs - i = mz → VV E 0 0 16 [(2, .int (nI i)), (0, .ref x0), (1, .int (nI ju))] [] [(x0, .inr (4, [.ref a0, .ref xm, .ref xp, .int (bz pd), .ref b0, .ref g0, .ref s0, .ref w0, .int (nI rs), .ref y0])), (a0, .inr (2, [.int (nI n), .int (nI m), .int (nI sh), .int (nI 0), .ref a1, .ref a2, .ref a3, .ref a4, .ref a5, .ref a6])), (a1, .inl (cI, 7, .inl (nIf ki))), (a2, .inl (cI, 7, .inl (nIf op))), (a3, .inl (cI, 7, .inl (nIf fa))), (a4, .inl (cI, 6, .inl (nIf K))), (a5, .inl (cI, 6, .inl (nIf G))), (a6, .inl (cI, 6, .inl (nIf T))), (b0, .inr (1, [.int (nI P), .int (nI Q), .ref b1, .ref b2, .ref b3])), (b1, .inl (cI, 6, .inl (nIf mf))), (b2, .inl (cI, 144, .inl (mIf M))), (b3, .inl (cI, 175, .inl (nIf kn))), (y0, .inl (cI, 7, .inl (nIf R))), (w0, .inl (cI, 24, .inl (nIf rw)))] := by
      intro mz
      induction mz using Nat.strongRecOn with
      | _ mz ih16 =>
      intro i hr1 hi hm16
      refine v_il_n 17 zC dX4_sham_16 0 rfl ?_
      refine v_al_n 18 zC dX4_sham_17 1 rfl ?_
      refine v_gf 21 0 zC dX4_sham_18 gf_X4_221 rfl rfl ?_
      refine v_icmpn_ge 48 24 zC dX4_sham_21 (fun h_16 => ?_) (fun h_16 => ?_)
      ·
        have hz8 : fs (fun i => decide (10 < rw i)) rs = none := by rw [show rs = i by omega]; exact hr1
        have hz7 : ∀ z, z < rs → rw z ≤ 10 := fun z hz => Nat.not_lt.mp (of_decide_eq_false (fs_no hz8 hz))
        refine v_al_n 49 zC dX4_sham_48 1 rfl ?_
        refine v_gf 52 0 zC dX4_sham_49 gf_X4_25 rfl rfl ?_
        refine v_al_n 53 zC dX4_sham_52 1 rfl ?_
        refine v_gf 56 0 zC dX4_sham_53 gf_X4_12 rfl rfl ?_
        refine v_cV (As := [.ref a0]) (st := []) 59 8 [8, 9, 10, 11, 1, 2, 3, 4, 5, 6, 7] zC dX4_sham_56 hA (c_X1_live (ev_l E) (ev_D E) cI (b0 := b0) (b1 := b1) (b2 := b2) (b3 := b3) (P := P) (Q := Q) (mf := mf) (M := M) (kn := kn) (a0 := a0) (a1 := a1) (a2 := a2) (a3 := a3) (a4 := a4) (a5 := a5) (a6 := a6) (n := n) (m := m) (sh := sh) (aw := 0) (ki := ki) (op := op) (fa := fa) (K := K) (G := G) (T := T) (hn := (by first | omega | assumption | rfl | (simp only []; omega) | decide)) (hm := (by first | omega | assumption | rfl | (simp only []; omega) | decide)) (hK := (by first | omega | assumption | rfl | (simp only []; omega) | decide)) (hG := (by first | omega | assumption | rfl | (simp only []; omega) | decide)) (hT := (by first | omega | assumption | rfl | (simp only []; omega) | decide)) (hA2 := (by first | omega | assumption | rfl | (simp only []; omega) | decide)) (hB := (by first | omega | assumption | rfl | (simp only []; omega) | decide)) (hM := (by first | omega | assumption | rfl | (simp only []; omega) | decide))) cf_X1_live lk_X4_158 rfl rfl rfl rfl rfl (by decide +kernel) (Nat.le_of_ble_eq_true rfl) (fun rv_17 wv_18 hp_19 hm_20 => ?_)
        clear hm_20
        obtain ⟨mg_21, X_22, Y_23, hD_24, rfl, rfl⟩ := hp_19
        show VV E 0 0 59 [(2, .int (nI i)), (0, .ref x0), (1, .int (nI ju))] [] [(x0, .inr (4, [.ref a0, .ref xm, .ref xp, .int (bz pd), .ref b0, .ref g0, .ref s0, .ref w0, .int (nI rs), .ref y0])), (a0, .inr (2, [.int (nI n), .int (nI m), .int (nI sh), .int (nI 0), .ref a1, .ref a2, .ref a3, .ref a4, .ref a5, .ref a6])), (a1, .inl (cI, 7, .inl (nIf ki))), (a2, .inl (cI, 7, .inl (nIf op))), (a3, .inl (cI, 7, .inl (nIf fa))), (a4, .inl (cI, 6, .inl (nIf K))), (a5, .inl (cI, 6, .inl (nIf G))), (a6, .inl (cI, 6, .inl (nIf T))), (b0, .inr (1, [.int (nI n), .int (nI m), .ref b1, .ref b2, .ref b3])), (b1, .inl (cI, 6, .inl (nIf mg_21))), (b2, .inl (cI, 144, .inl (mIf Y_23))), (b3, .inl (cI, 175, .inl (nIf X_22))), (y0, .inl (cI, 7, .inl (nIf R))), (w0, .inl (cI, 24, .inl (nIf rw)))]
        have hD9 := hD_24
        refine v_ic (v := (nI 0)) 60 zC dX4_sham_59 (by decide +kernel) ?_
        refine v_is_n (lv2 := [(2, .int (nI 0)), (0, .ref x0), (1, .int (nI ju))]) 61 zC dX4_sham_60 (by rw [hnE]; decide) rfl ?_
        have lp61 : ∀ (mz : Nat) (h : Nat), (fs (fun h => !(SHB (n, m, sh, 0, ki, op, fa, K, G, T) ju rw h)) h = none) → (h ≤ rs) → rs - h = mz → VV E 0 0 61 [(2, .int (nI h)), (0, .ref x0), (1, .int (nI ju))] [] [(x0, .inr (4, [.ref a0, .ref xm, .ref xp, .int (bz pd), .ref b0, .ref g0, .ref s0, .ref w0, .int (nI rs), .ref y0])), (a0, .inr (2, [.int (nI n), .int (nI m), .int (nI sh), .int (nI 0), .ref a1, .ref a2, .ref a3, .ref a4, .ref a5, .ref a6])), (a1, .inl (cI, 7, .inl (nIf ki))), (a2, .inl (cI, 7, .inl (nIf op))), (a3, .inl (cI, 7, .inl (nIf fa))), (a4, .inl (cI, 6, .inl (nIf K))), (a5, .inl (cI, 6, .inl (nIf G))), (a6, .inl (cI, 6, .inl (nIf T))), (b0, .inr (1, [.int (nI n), .int (nI m), .ref b1, .ref b2, .ref b3])), (b1, .inl (cI, 6, .inl (nIf mg_21))), (b2, .inl (cI, 144, .inl (mIf Y_23))), (b3, .inl (cI, 175, .inl (nIf X_22))), (y0, .inl (cI, 7, .inl (nIf R))), (w0, .inl (cI, 24, .inl (nIf rw)))] := by
          intro mz
          induction mz using Nat.strongRecOn with
          | _ mz ih61 =>
          intro h hq9 hh hm61
          refine v_il_n 62 zC dX4_sham_61 0 rfl ?_
          refine v_al_n 63 zC dX4_sham_62 1 rfl ?_
          refine v_gf 66 0 zC dX4_sham_63 gf_X4_221 rfl rfl ?_
          refine v_icmpn_ge 125 69 zC dX4_sham_66 (fun h_25 => ?_) (fun h_25 => ?_)
          ·
            have hfin9 : fs (fun h => !(SHB (n, m, sh, 0, ki, op, fa, K, G, T) ju rw h)) rs = none := by rw [show rs = h by omega]; exact hq9
            refine v_bp (v := (-9)) 127 zC dX4_sham_125 (by decide +kernel) ?_
            refine v_iret zC zT dX4_sham_127  ?_
            first | exact ⟨P, Q, mf, kn, M, 1, _, by simp [q_sham, *], hB, hM, rfl, rfl⟩ | exact ⟨P, Q, mf, kn, M, 3, _, by simp [q_sham, *], hB, hM, rfl, rfl⟩ | exact ⟨_, _, _, _, _, 0, _, by unfold q_sham; rw [hi_u]; dsimp only; first | (rw [hz8, hfin9]; rfl) | (have hfin8 : fs (fun h => !(SHB (n, m, sh, 0, ki, op, fa, K, G, T) ju rw h)) rs = some h := fs_m (show h + 1 ≤ rs by omega) (fs_1 hq9 (congrArg not ((shb_10 he9).trans (decide_eq_false hk9)))); rw [hz8, hfin8]; rfl), hD9.2.2.1, hD9.2.2.2, rfl, rfl⟩
          ·
            refine v_al_n 70 zC dX4_sham_69 1 rfl ?_
            refine v_gf 73 0 zC dX4_sham_70 gf_X4_43 rfl rfl ?_
            refine v_il_n 74 zC dX4_sham_73 0 rfl ?_
            refine v_ialn (v := (nI (rw h))) 75 13 zC dX4_sham_74 rfl (by omega) rfl ?_
            have hb_26 := hrw h
            refine v_bp (v := (nI 10)) 77 zC dX4_sham_75 (by decide +kernel) ?_
            refine v_icmpn_ne 100 80 zC dX4_sham_77 (fun h_27 => ?_) (fun h_27 => ?_)
            ·
              have hn9 := h_27
              refine v_al_n 101 zC dX4_sham_100 1 rfl ?_
              refine v_il_n 102 zC dX4_sham_101 2 rfl ?_
              refine v_al_n 103 zC dX4_sham_102 1 rfl ?_
              refine v_gf 106 0 zC dX4_sham_103 gf_X4_43 rfl rfl ?_
              refine v_il_n 107 zC dX4_sham_106 0 rfl ?_
              refine v_ialn (v := (nI (rw h))) 108 13 zC dX4_sham_107 rfl (by omega) rfl ?_
              have hb_28 := hrw h
              refine v_il_n 109 zC dX4_sham_108 0 rfl ?_
              refine v_cV (As := [.int (nI ju), .int (nI (rw h)), .int (nI h)]) (st := []) 112 0 [0, 1, 7, 8, 10] zC dX4_sham_109 hA (c_X4_saidThrough (ev_l E) (ev_D E) cI (x0 := x0) (xm := xm) (xp := xp) (g0 := g0) (s0 := s0) (w0 := w0) (y0 := y0) (pd := pd) (rs := rs) (b0 := b0) (b1 := b1) (b2 := b2) (b3 := b3) (M := Y_23) (a0 := a0) (a1 := a1) (a2 := a2) (a3 := a3) (a4 := a4) (a5 := a5) (a6 := a6) (n := n) (m := m) (sh := sh) (ki := ki) (op := op) (fa := fa) (K := K) (G := G) (T := T) (X := X_22) (p := ju) (f := (rw h)) (h := h) (hw := hw) (hD9 := hD9) (hp := (by first | omega | assumption | rfl | (simp only []; omega) | decide)) (hf := (by have := hz7 h (by omega); omega)) (hh := (by first | omega | assumption | rfl | (simp only []; omega) | decide))) cf_X4_saidThrough lk_X4_218 rfl rfl rfl rfl rfl (by decide +kernel) (Nat.le_of_ble_eq_true rfl) (fun rv_29 wv_30 hp_31 hm_32 => ?_)
              clear hm_32
              obtain ⟨rfl, rfl⟩ := hp_31
              show VV E 0 0 112 [(2, .int (nI h)), (0, .ref x0), (1, .int (nI ju))] [.int (bz (SAIDB (n, m, sh, 0, ki, op, fa, K, G, T) ju (rw h) h))] [(x0, .inr (4, [.ref a0, .ref xm, .ref xp, .int (bz pd), .ref b0, .ref g0, .ref s0, .ref w0, .int (nI rs), .ref y0])), (a0, .inr (2, [.int (nI n), .int (nI m), .int (nI sh), .int (nI 0), .ref a1, .ref a2, .ref a3, .ref a4, .ref a5, .ref a6])), (a1, .inl (cI, 7, .inl (nIf ki))), (a2, .inl (cI, 7, .inl (nIf op))), (a3, .inl (cI, 7, .inl (nIf fa))), (a4, .inl (cI, 6, .inl (nIf K))), (a5, .inl (cI, 6, .inl (nIf G))), (a6, .inl (cI, 6, .inl (nIf T))), (b0, .inr (1, [.int (nI n), .int (nI m), .ref b1, .ref b2, .ref b3])), (b1, .inl (cI, 6, .inl (nIf mg_21))), (b2, .inl (cI, 144, .inl (mIf Y_23))), (b3, .inl (cI, 175, .inl (nIf X_22))), (y0, .inl (cI, 7, .inl (nIf R))), (w0, .inl (cI, 24, .inl (nIf rw)))]
              refine v_is_n (lv2 := [(3, .int (bz (SAIDB (n, m, sh, 0, ki, op, fa, K, G, T) ju (rw h) h))), (2, .int (nI h)), (0, .ref x0), (1, .int (nI ju))]) 113 zC dX4_sham_112 (by rw [hnE]; decide) rfl ?_
              refine v_il_n 114 zC dX4_sham_113 0 rfl ?_
              refine v_ifb_ne 119 117 zC dX4_sham_114 (fun h_33 => ?_) (fun h_33 => ?_)
              ·
                have hw9 := h_33
                refine v_inc (v := (nI (h + 1))) (lv2 := [(2, .int (nI (h + 1))), (3, .int (bz (SAIDB (n, m, sh, 0, ki, op, fa, K, G, T) ju (rw h) h))), (0, .ref x0), (1, .int (nI ju))]) 122 zC dX4_sham_119 (j := 1) rfl (nI_add _ 1) (by rw [hnE]; decide) rfl ?_
                refine v_goto 61 zC dX4_sham_122 ?_
                refine v_lvs (lv2 := [(2, .int (nI (h + 1))), (0, .ref x0), (1, .int (nI ju))]) [0, 2, 3] rfl ?_
                exact ih61 _ (by omega) (h + 1) (fs_0 hq9 (by first | exact congrArg not ((shb_f hn9).trans hw9) | exact congrArg not ((shb_10 he9).trans (decide_eq_true hl9)))) (by first | omega | assumption | rfl | (simp only []; omega) | decide) rfl
              ·
                have hm9 := h_33
                have hfin9 : fs (fun h => !(SHB (n, m, sh, 0, ki, op, fa, K, G, T) ju rw h)) rs = some h := fs_m (show h + 1 ≤ rs by omega) (fs_1 hq9 (by first | exact congrArg not ((shb_f hn9).trans hm9) | exact congrArg not ((shb_10 he9).trans (decide_eq_false hk9)) | (exfalso; omega)))
                refine v_il_n 118 zC dX4_sham_117 1 rfl ?_
                refine v_iret zC zT dX4_sham_118  ?_
                first | exact ⟨P, Q, mf, kn, M, 1, _, by simp [q_sham, *], hB, hM, rfl, rfl⟩ | exact ⟨P, Q, mf, kn, M, 3, _, by simp [q_sham, *], hB, hM, rfl, rfl⟩ | exact ⟨_, _, _, _, _, 0, _, by unfold q_sham; rw [hi_u]; dsimp only; first | (rw [hz8, hfin9]; rfl) | (have hfin8 : fs (fun h => !(SHB (n, m, sh, 0, ki, op, fa, K, G, T) ju rw h)) rs = some h := fs_m (show h + 1 ≤ rs by omega) (fs_1 hq9 (congrArg not ((shb_10 he9).trans (decide_eq_false hk9)))); rw [hz8, hfin8]; rfl), hD9.2.2.1, hD9.2.2.2, rfl, rfl⟩
            ·
              have he9 := h_27
              refine v_al_n 81 zC dX4_sham_80 1 rfl ?_
              refine v_gf 84 0 zC dX4_sham_81 gf_X4_25 rfl rfl ?_
              refine v_il_n 85 zC dX4_sham_84 2 rfl ?_
              refine v_il_n 86 zC dX4_sham_85 0 rfl ?_
              refine v_cV (As := [.int (nI ju), .int (nI h)]) (st := []) 89 8 [8, 10] zC dX4_sham_86 hA (c_X1_speakersThrough (ev_l E) (ev_D E) cI (b0 := b0) (b1 := b1) (b2 := b2) (b3 := b3) (P := n) (Q := m) (M := Y_23) (v := ju) (h := h) (hQ := (by first | omega | assumption | rfl | (simp only []; omega) | decide)) (hv := (by first | omega | assumption | rfl | (simp only []; omega) | decide)) (hh := (by first | omega | assumption | rfl | (simp only []; omega) | decide)) (hM := hD9.2.2.2)) cf_X1_speakersThrough lk_X4_183 rfl rfl rfl rfl rfl (by decide +kernel) (Nat.le_of_ble_eq_true rfl) (fun rv_34 wv_35 hp_36 hm_37 => ?_)
              clear hm_37
              obtain ⟨rfl, rfl⟩ := hp_36
              show VV E 0 0 89 [(2, .int (nI h)), (0, .ref x0), (1, .int (nI ju))] [.int (nI (mkn (fun d => Y_23 (h * 6 + d) == some ju) m))] [(x0, .inr (4, [.ref a0, .ref xm, .ref xp, .int (bz pd), .ref b0, .ref g0, .ref s0, .ref w0, .int (nI rs), .ref y0])), (a0, .inr (2, [.int (nI n), .int (nI m), .int (nI sh), .int (nI 0), .ref a1, .ref a2, .ref a3, .ref a4, .ref a5, .ref a6])), (a1, .inl (cI, 7, .inl (nIf ki))), (a2, .inl (cI, 7, .inl (nIf op))), (a3, .inl (cI, 7, .inl (nIf fa))), (a4, .inl (cI, 6, .inl (nIf K))), (a5, .inl (cI, 6, .inl (nIf G))), (a6, .inl (cI, 6, .inl (nIf T))), (b0, .inr (1, [.int (nI n), .int (nI m), .ref b1, .ref b2, .ref b3])), (b1, .inl (cI, 6, .inl (nIf mg_21))), (b2, .inl (cI, 144, .inl (mIf Y_23))), (b3, .inl (cI, 175, .inl (nIf X_22))), (y0, .inl (cI, 7, .inl (nIf R))), (w0, .inl (cI, 24, .inl (nIf rw)))]
              rw [dk_spt hD9 (by omega)]
              have hs9b : SPT (n, m, sh, 0, ki, op, fa, K, G, T) ju h < 2 ^ 6 := Nat.lt_of_lt_of_le (mkn_lt _ _) (Nat.pow_le_pow_right (by decide) hm)
              refine v_ifn_ne 96 92 zC dX4_sham_89 (fun h_38 => ?_) (fun h_38 => ?_)
              ·
                have hk9 := h_38
                refine v_ic (v := (nI 0)) 97 zC dX4_sham_96 (by decide +kernel) ?_
                refine v_goto 112 zC dX4_sham_97 ?_
                refine v_is_n (lv2 := [(3, .int (nI 0)), (2, .int (nI h)), (0, .ref x0), (1, .int (nI ju))]) 113 zC dX4_sham_112 (by rw [hnE]; decide) rfl ?_
                refine v_il_n 114 zC dX4_sham_113 0 rfl ?_
                refine v_if_ne 119 117 zC dX4_sham_114 (fun z => absurd (by decide +kernel) z) (fun _ => ?_)
                refine v_il_n 118 zC dX4_sham_117 1 rfl ?_
                refine v_iret zC zT dX4_sham_118  ?_
                first | exact ⟨P, Q, mf, kn, M, 1, _, by simp [q_sham, *], hB, hM, rfl, rfl⟩ | exact ⟨P, Q, mf, kn, M, 3, _, by simp [q_sham, *], hB, hM, rfl, rfl⟩ | exact ⟨_, _, _, _, _, 0, _, by unfold q_sham; rw [hi_u]; dsimp only; first | (rw [hz8, hfin9]; rfl) | (have hfin8 : fs (fun h => !(SHB (n, m, sh, 0, ki, op, fa, K, G, T) ju rw h)) rs = some h := fs_m (show h + 1 ≤ rs by omega) (fs_1 hq9 (congrArg not ((shb_10 he9).trans (decide_eq_false hk9)))); rw [hz8, hfin8]; rfl), hD9.2.2.1, hD9.2.2.2, rfl, rfl⟩
              ·
                have hl9 := h_38
                refine v_ic (v := (nI 1)) 93 zC dX4_sham_92 (by decide +kernel) ?_
                refine v_goto 112 zC dX4_sham_93 ?_
                refine v_is_n (lv2 := [(3, .int (nI 1)), (2, .int (nI h)), (0, .ref x0), (1, .int (nI ju))]) 113 zC dX4_sham_112 (by rw [hnE]; decide) rfl ?_
                refine v_il_n 114 zC dX4_sham_113 0 rfl ?_
                refine v_if_ne 119 117 zC dX4_sham_114 (fun _ => ?_) (fun z => absurd z (by decide +kernel))
                refine v_inc (v := (nI (h + 1))) (lv2 := [(2, .int (nI (h + 1))), (3, .int (nI 1)), (0, .ref x0), (1, .int (nI ju))]) 122 zC dX4_sham_119 (j := 1) rfl (nI_add _ 1) (by rw [hnE]; decide) rfl ?_
                refine v_goto 61 zC dX4_sham_122 ?_
                refine v_lvs (lv2 := [(2, .int (nI (h + 1))), (0, .ref x0), (1, .int (nI ju))]) [0, 2, 3] rfl ?_
                exact ih61 _ (by omega) (h + 1) (fs_0 hq9 (by first | exact congrArg not ((shb_f hn9).trans hw9) | exact congrArg not ((shb_10 he9).trans (decide_eq_true hl9)))) (by first | omega | assumption | rfl | (simp only []; omega) | decide) rfl
        refine v_lvs (lv2 := [(2, .int (nI 0)), (0, .ref x0), (1, .int (nI ju))]) [0, 1, 2] rfl ?_
        exact lp61 _ 0 (by first | omega | assumption | rfl | (simp only []; omega) | decide) (by first | omega | assumption | rfl | (simp only []; omega) | decide) rfl
      ·
        refine v_al_n 25 zC dX4_sham_24 1 rfl ?_
        refine v_gf 28 0 zC dX4_sham_25 gf_X4_43 rfl rfl ?_
        refine v_il_n 29 zC dX4_sham_28 0 rfl ?_
        refine v_ialn (v := (nI (rw i))) 30 13 zC dX4_sham_29 rfl (by omega) rfl ?_
        have hb_41 := hrw i
        refine v_bp (v := (nI 10)) 32 zC dX4_sham_30 (by decide +kernel) ?_
        refine v_icmpn_le 42 35 zC dX4_sham_32 (fun h_42 => ?_) (fun h_42 => ?_)
        ·
          have ht9 := h_42
          refine v_inc (v := (nI (i + 1))) (lv2 := [(2, .int (nI (i + 1))), (0, .ref x0), (1, .int (nI ju))]) 45 zC dX4_sham_42 (j := 0) rfl (nI_add _ 1) (by rw [hnE]; decide) rfl ?_
          refine v_goto 16 zC dX4_sham_45 ?_
          refine v_lvs (lv2 := [(2, .int (nI (i + 1))), (0, .ref x0), (1, .int (nI ju))]) [0, 1, 2] rfl ?_
          exact ih16 _ (by omega) (i + 1) (fs_0 hr1 (decide_eq_false (Nat.not_lt.mpr ht9))) (by first | omega | assumption | rfl | (simp only []; omega) | decide) rfl
        ·
          have hc9 : fs (fun i => decide (10 < rw i)) rs = some i := fs_m (by omega) (fs_1 hr1 (decide_eq_true h_42))
          refine v_al_n 36 zC dX4_sham_35 1 rfl ?_
          refine v_bp (v := (-3)) 38 zC dX4_sham_36 (by decide +kernel) ?_
          refine v_cV (As := [.int (-3)]) (st := []) 41 0 [0, 12] zC dX4_sham_38 hA (c_X4_refuse (ev_l E) (ev_D E) cI (x0 := x0) (xn := a0) (xm := xm) (xp := xp) (b0 := b0) (g0 := g0) (s0 := s0) (w0 := w0) (y0 := y0) (pd := pd) (rs := rs) (R := R) (v := (-3)) (j := 3) (hv := (by first | omega | assumption | rfl | (simp only []; omega) | decide)) (h1 := (by first | omega | assumption | rfl | (simp only []; omega) | decide)) (h6 := (by first | omega | assumption | rfl | (simp only []; omega) | decide))) cf_X4_refuse lk_X4_50 rfl rfl rfl rfl rfl (by decide +kernel) (Nat.le_of_ble_eq_true rfl) (fun rv_43 wv_44 hp_45 hm_46 => ?_)
          clear hm_46
          obtain ⟨rfl, rfl⟩ := hp_45
          show VV E 0 0 41 [(2, .int (nI i)), (0, .ref x0), (1, .int (nI ju))] [.int (-3)] [(x0, .inr (4, [.ref a0, .ref xm, .ref xp, .int (bz pd), .ref b0, .ref g0, .ref s0, .ref w0, .int (nI rs), .ref y0])), (a0, .inr (2, [.int (nI n), .int (nI m), .int (nI sh), .int (nI 0), .ref a1, .ref a2, .ref a3, .ref a4, .ref a5, .ref a6])), (a1, .inl (cI, 7, .inl (nIf ki))), (a2, .inl (cI, 7, .inl (nIf op))), (a3, .inl (cI, 7, .inl (nIf fa))), (a4, .inl (cI, 6, .inl (nIf K))), (a5, .inl (cI, 6, .inl (nIf G))), (a6, .inl (cI, 6, .inl (nIf T))), (b0, .inr (1, [.int (nI P), .int (nI Q), .ref b1, .ref b2, .ref b3])), (b1, .inl (cI, 6, .inl (nIf mf))), (b2, .inl (cI, 144, .inl (mIf M))), (b3, .inl (cI, 175, .inl (nIf kn))), (y0, .inl (cI, 7, .inl (nIf (un R 3 (R 3 + 1))))), (w0, .inl (cI, 24, .inl (nIf rw)))]
          refine v_iret zC zT dX4_sham_41  ?_
          first | exact ⟨P, Q, mf, kn, M, 1, _, by simp [q_sham, *], hB, hM, rfl, rfl⟩ | exact ⟨P, Q, mf, kn, M, 3, _, by simp [q_sham, *], hB, hM, rfl, rfl⟩ | exact ⟨_, _, _, _, _, 0, _, by unfold q_sham; rw [hi_u]; dsimp only; first | (rw [hz8, hfin9]; rfl) | (have hfin8 : fs (fun h => !(SHB (n, m, sh, 0, ki, op, fa, K, G, T) ju rw h)) rs = some h := fs_m (show h + 1 ≤ rs by omega) (fs_1 hq9 (congrArg not ((shb_10 he9).trans (decide_eq_false hk9)))); rw [hz8, hfin8]; rfl), hD9.2.2.1, hD9.2.2.2, rfl, rfl⟩
    refine v_lvs (lv2 := [(2, .int (nI 0)), (0, .ref x0), (1, .int (nI ju))]) [0, 1, 2] rfl ?_
    exact lp16 _ 0 (by first | omega | assumption | rfl | (simp only []; omega) | decide) (by first | omega | assumption | rfl | (simp only []; omega) | decide) rfl
