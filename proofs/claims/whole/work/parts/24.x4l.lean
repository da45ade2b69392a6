def DYP (s : SG) (k : Nat) : Bool := !(DCH (wfa s (DAYN s k)))
def DAYK (s : SG) : Option Nat := fs (DYP s) 70
def DAYC' (s : SG) : Nat := match DAYK s with
  | none => 70
  | some k => k
def DAYF (s : SG) : Nat → Nat := match DAYK s with
  | none => DAYN s 70
  | some k => DAYN s (k + 1)
def q_days (s : SG) (w : Int32) : Nat × Int32 := if w = -1 then (0, nI (DAYC' s)) else match IX (g_n s) w with
  | none => (1, -1)
  | some j => (0, nI (DAYF s j))
theorem dyp_1 {s : SG} {k : Nat} (e : DCH (wfa s (DAYN s k)) = false) : DYP s k = true := by
  unfold DYP
  rw [e, Bool.not_false]
theorem dyp_0 {s : SG} {k : Nat} (e : DCH (wfa s (DAYN s k)) = true) : DYP s k = false := by
  unfold DYP
  rw [e, Bool.not_true]
theorem dyk_1 {s : SG} {k : Nat} (hq : fs (DYP s) k = none) (hk : k + 1 ≤ 70) (e : DCH (wfa s (DAYN s k)) = false) : DAYK s = some k := fs_m hk (fs_1 hq (dyp_1 e))
theorem dyk_0 {s : SG} {k : Nat} (hq : fs (DYP s) k = none) (hk : k = 70) : DAYK s = none := by
  unfold DAYK
  rw [← hk, hq]
theorem dyc_1 {s : SG} {k : Nat} (h : DAYK s = some k) : DAYC' s = k := by
  unfold DAYC'
  rw [h]
theorem dyc_0 {s : SG} {k : Nat} (h : DAYK s = none) (hk : k = 70) : DAYC' s = k := by
  unfold DAYC'
  rw [h, hk]
theorem dyf_1 {s : SG} {k : Nat} (h : DAYK s = some k) : DAYF s = DAYN s (k + 1) := by
  unfold DAYF
  rw [h]
theorem dyf_0 {s : SG} {k : Nat} (h : DAYK s = none) (hk : k = 70) : DAYF s = DAYN s k := by
  unfold DAYF
  rw [h, hk]

set_option maxRecDepth 100000 in
set_option maxHeartbeats 4000000 in
theorem c_X4_days (l : Launch) (D : va_G) (cI : ClassId) (x0 xp g0 s0 w0 y0 : Nat) (pd : Bool) (rs : Nat) (b0 b1 b2 b3 : Nat) (P Q : Nat) (mf : Nat → Nat) (M : Nat → Option Nat) (kn : Nat → Nat) (a0 a1 a2 a3 a4 a5 a6 : Nat) (n m sh : Nat) (ki op fa K G T : Nat → Nat) (c0 c1 c2 c3 c4 c5 c6 : Nat) (n1 m1 sh1 aw1 : Nat) (ki1 op1 fa1 K1 G1 T1 : Nat → Nat) (R : Nat → Nat) (u : Int32) (hw : FW n m sh ki op fa K G T) (hw1 : FW n1 m1 sh1 ki1 op1 fa1 K1 G1 T1) (hB : ∀ z, kn z < 1024) (hM : ∀ z v, M z = some v → v < 7)  : CT l yX4_days cX4_days 3 (some .int) { frames := 5, cells := 0, slots := 0, locals := 121 } D cI [.ref x0, .int u] [(x0, .inr (4, [.ref a0, .ref c0, .ref xp, .int (bz pd), .ref b0, .ref g0, .ref s0, .ref w0, .int (nI rs), .ref y0])), (a0, .inr (2, [.int (nI n), .int (nI m), .int (nI sh), .int (nI 0), .ref a1, .ref a2, .ref a3, .ref a4, .ref a5, .ref a6])), (a1, .inl (cI, 7, .inl (nIf ki))), (a2, .inl (cI, 7, .inl (nIf op))), (a3, .inl (cI, 7, .inl (nIf fa))), (a4, .inl (cI, 6, .inl (nIf K))), (a5, .inl (cI, 6, .inl (nIf G))), (a6, .inl (cI, 6, .inl (nIf T))), (c0, .inr (2, [.int (nI n1), .int (nI m1), .int (nI sh1), .int (nI aw1), .ref c1, .ref c2, .ref c3, .ref c4, .ref c5, .ref c6])), (c1, .inl (cI, 7, .inl (nIf ki1))), (c2, .inl (cI, 7, .inl (nIf op1))), (c3, .inl (cI, 7, .inl (nIf fa1))), (c4, .inl (cI, 6, .inl (nIf K1))), (c5, .inl (cI, 6, .inl (nIf G1))), (c6, .inl (cI, 6, .inl (nIf T1))), (b0, .inr (1, [.int (nI P), .int (nI Q), .ref b1, .ref b2, .ref b3])), (b1, .inl (cI, 6, .inl (nIf mf))), (b2, .inl (cI, 144, .inl (mIf M))), (b3, .inl (cI, 175, .inl (nIf kn))), (y0, .inl (cI, 7, .inl (nIf R)))] (fun zr zw => (∃ P1 : Nat, ∃ Q1 : Nat, ∃ mg : Nat → Nat, ∃ X : Nat → Nat, ∃ Y : Nat → Option Nat, ∃ n3 : Nat, ∃ m3 : Nat, ∃ s3 : Nat, ∃ w3 : Nat, ∃ ki3 : Nat → Nat, ∃ op3 : Nat → Nat, ∃ fa3 : Nat → Nat, ∃ K3 : Nat → Nat, ∃ G3 : Nat → Nat, ∃ T3 : Nat → Nat, ∃ rc : Nat, ∃ rv : Int32, (q_days (n, m, sh, 0, ki, op, fa, K, G, T) u = (rc, rv)) ∧ (FW n3 m3 s3 ki3 op3 fa3 K3 G3 T3) ∧ (∀ z, X z < 1024) ∧ (∀ z v, Y z = some v → v < 7) ∧ zr = some (.int rv) ∧ zw = [(x0, .inr (4, [.ref a0, .ref c0, .ref xp, .int (bz pd), .ref b0, .ref g0, .ref s0, .ref w0, .int (nI rs), .ref y0])), (a0, .inr (2, [.int (nI n), .int (nI m), .int (nI sh), .int (nI 0), .ref a1, .ref a2, .ref a3, .ref a4, .ref a5, .ref a6])), (a1, .inl (cI, 7, .inl (nIf ki))), (a2, .inl (cI, 7, .inl (nIf op))), (a3, .inl (cI, 7, .inl (nIf fa))), (a4, .inl (cI, 6, .inl (nIf K))), (a5, .inl (cI, 6, .inl (nIf G))), (a6, .inl (cI, 6, .inl (nIf T))), (c0, .inr (2, [.int (nI n3), .int (nI m3), .int (nI s3), .int (nI w3), .ref c1, .ref c2, .ref c3, .ref c4, .ref c5, .ref c6])), (c1, .inl (cI, 7, .inl (nIf ki3))), (c2, .inl (cI, 7, .inl (nIf op3))), (c3, .inl (cI, 7, .inl (nIf fa3))), (c4, .inl (cI, 6, .inl (nIf K3))), (c5, .inl (cI, 6, .inl (nIf G3))), (c6, .inl (cI, 6, .inl (nIf T3))), (b0, .inr (1, [.int (nI P1), .int (nI Q1), .ref b1, .ref b2, .ref b3])), (b1, .inl (cI, 6, .inl (nIf mg))), (b2, .inl (cI, 144, .inl (mIf Y))), (b3, .inl (cI, 175, .inl (nIf X))), (y0, .inl (cI, 7, .inl (nIf (rf R rc))))])) := by
  refine CT_of RX4 rfl (by decide +kernel) (Nat.le_of_ble_eq_true rfl) (fun E hnE zC zT => ?_)
  have hA : ∀ q, (ev_s E).heap.size ≤ q → ev_A E q := fun q h => by rw [zT.2]; exact Or.inr h
  obtain ⟨hn, hm, hsh, hki, hop, hfa, hK, hG, hT, vki, vop, vfa, vK, vG, vT⟩ := id hw
  have h2n : 2 ^ n ≤ 2 ^ 7 := Nat.pow_le_pow_right (by decide) hn
  show VV E 0 0 0 [(0, .ref x0), (1, .int u)] [] [(x0, .inr (4, [.ref a0, .ref c0, .ref xp, .int (bz pd), .ref b0, .ref g0, .ref s0, .ref w0, .int (nI rs), .ref y0])), (a0, .inr (2, [.int (nI n), .int (nI m), .int (nI sh), .int (nI 0), .ref a1, .ref a2, .ref a3, .ref a4, .ref a5, .ref a6])), (a1, .inl (cI, 7, .inl (nIf ki))), (a2, .inl (cI, 7, .inl (nIf op))), (a3, .inl (cI, 7, .inl (nIf fa))), (a4, .inl (cI, 6, .inl (nIf K))), (a5, .inl (cI, 6, .inl (nIf G))), (a6, .inl (cI, 6, .inl (nIf T))), (c0, .inr (2, [.int (nI n1), .int (nI m1), .int (nI sh1), .int (nI aw1), .ref c1, .ref c2, .ref c3, .ref c4, .ref c5, .ref c6])), (c1, .inl (cI, 7, .inl (nIf ki1))), (c2, .inl (cI, 7, .inl (nIf op1))), (c3, .inl (cI, 7, .inl (nIf fa1))), (c4, .inl (cI, 6, .inl (nIf K1))), (c5, .inl (cI, 6, .inl (nIf G1))), (c6, .inl (cI, 6, .inl (nIf T1))), (b0, .inr (1, [.int (nI P), .int (nI Q), .ref b1, .ref b2, .ref b3])), (b1, .inl (cI, 6, .inl (nIf mf))), (b2, .inl (cI, 144, .inl (mIf M))), (b3, .inl (cI, 175, .inl (nIf kn))), (y0, .inl (cI, 7, .inl (nIf R)))]
  refine v_il_n 1 zC dX4_days_0 1 rfl ?_
  refine v_ic (v := (-1)) 2 zC dX4_days_1 (by decide +kernel) ?_
  refine v_icmp_eq 19 5 zC dX4_days_2 (fun h_1 => ?_) (fun h_1 => ?_)
  ·
    have hwm := h_1
    refine v_al_n 20 zC dX4_days_19 0 rfl ?_
    refine v_gf 23 0 zC dX4_days_20 gf_X4_16 rfl rfl ?_
    refine v_al_n 24 zC dX4_days_23 0 rfl ?_
    refine v_gf 27 0 zC dX4_days_24 gf_X4_12 rfl rfl ?_
    refine v_cV (As := [.ref a0]) (st := []) 30 8 [8, 9, 10, 11, 12, 13, 14, 1, 2, 3, 4, 5, 6, 7] zC dX4_days_27 hA (c_X2_become (ev_l E) (ev_D E) cI (a0 := a0) (a1 := a1) (a2 := a2) (a3 := a3) (a4 := a4) (a5 := a5) (a6 := a6) (n := n) (m := m) (sh := sh) (aw := 0) (ki := ki) (op := op) (fa := fa) (K := K) (G := G) (T := T) (c0 := c0) (c1 := c1) (c2 := c2) (c3 := c3) (c4 := c4) (c5 := c5) (c6 := c6) (n1 := n1) (m1 := m1) (sh1 := sh1) (aw1 := aw1) (ki1 := ki1) (op1 := op1) (fa1 := fa1) (K1 := K1) (G1 := G1) (T1 := T1) (hw := hw) (hw1 := hw1)) cf_X2_become lk_X4_65 rfl rfl rfl rfl rfl (by decide +kernel) (Nat.le_of_ble_eq_true rfl) (fun rv_2 wv_3 hp_4 hm_5 => ?_)
    clear hm_5
    obtain ⟨rfl, rfl⟩ := hp_4
    show VV E 0 0 30 [(0, .ref x0), (1, .int u)] [] [(x0, .inr (4, [.ref a0, .ref c0, .ref xp, .int (bz pd), .ref b0, .ref g0, .ref s0, .ref w0, .int (nI rs), .ref y0])), (a0, .inr (2, [.int (nI n), .int (nI m), .int (nI sh), .int (nI 0), .ref a1, .ref a2, .ref a3, .ref a4, .ref a5, .ref a6])), (a1, .inl (cI, 7, .inl (nIf ki))), (a2, .inl (cI, 7, .inl (nIf op))), (a3, .inl (cI, 7, .inl (nIf fa))), (a4, .inl (cI, 6, .inl (nIf K))), (a5, .inl (cI, 6, .inl (nIf G))), (a6, .inl (cI, 6, .inl (nIf T))), (c0, .inr (2, [.int (nI n), .int (nI m), .int (nI sh), .int (nI 0), .ref c1, .ref c2, .ref c3, .ref c4, .ref c5, .ref c6])), (c1, .inl (cI, 7, .inl (nIf ki))), (c2, .inl (cI, 7, .inl (nIf op))), (c3, .inl (cI, 7, .inl (nIf fa))), (c4, .inl (cI, 6, .inl (nIf K))), (c5, .inl (cI, 6, .inl (nIf G))), (c6, .inl (cI, 6, .inl (nIf T))), (b0, .inr (1, [.int (nI P), .int (nI Q), .ref b1, .ref b2, .ref b3])), (b1, .inl (cI, 6, .inl (nIf mf))), (b2, .inl (cI, 144, .inl (mIf M))), (b3, .inl (cI, 175, .inl (nIf kn))), (y0, .inl (cI, 7, .inl (nIf R)))]
    refine v_ic (v := (nI 0)) 31 zC dX4_days_30 (by decide +kernel) ?_
    refine v_is_n (lv2 := [(2, .int (nI 0)), (0, .ref x0), (1, .int u)]) 32 zC dX4_days_31 (by rw [hnE]; decide) rfl ?_
    have lp32 : ∀ (mz : Nat) (P2 : Nat) (Q2 : Nat) (mg : Nat → Nat) (Y : Nat → Option Nat) (X : Nat → Nat) (A : Nat → Nat) (k : Nat), (∀ z, X z < 1024) → (∀ z v, Y z = some v → v < 7) → (A = DAYN (n, m, sh, 0, ki, op, fa, K, G, T) k) → (∀ z, A z < 1024) → (VZ 7 A) → (fs (DYP (n, m, sh, 0, ki, op, fa, K, G, T)) k = none) → (k ≤ 70) → 70 - k = mz → VV E 0 0 32 [(2, .int (nI k)), (0, .ref x0), (1, .int u)] [] [(x0, .inr (4, [.ref a0, .ref c0, .ref xp, .int (bz pd), .ref b0, .ref g0, .ref s0, .ref w0, .int (nI rs), .ref y0])), (a0, .inr (2, [.int (nI n), .int (nI m), .int (nI sh), .int (nI 0), .ref a1, .ref a2, .ref a3, .ref a4, .ref a5, .ref a6])), (a1, .inl (cI, 7, .inl (nIf ki))), (a2, .inl (cI, 7, .inl (nIf op))), (a3, .inl (cI, 7, .inl (nIf fa))), (a4, .inl (cI, 6, .inl (nIf K))), (a5, .inl (cI, 6, .inl (nIf G))), (a6, .inl (cI, 6, .inl (nIf T))), (c0, .inr (2, [.int (nI n), .int (nI m), .int (nI sh), .int (nI 0), .ref c1, .ref c2, .ref c3, .ref c4, .ref c5, .ref c6])), (c1, .inl (cI, 7, .inl (nIf ki))), (c2, .inl (cI, 7, .inl (nIf op))), (c3, .inl (cI, 7, .inl (nIf A))), (c4, .inl (cI, 6, .inl (nIf K))), (c5, .inl (cI, 6, .inl (nIf G))), (c6, .inl (cI, 6, .inl (nIf T))), (b0, .inr (1, [.int (nI P2), .int (nI Q2), .ref b1, .ref b2, .ref b3])), (b1, .inl (cI, 6, .inl (nIf mg))), (b2, .inl (cI, 144, .inl (mIf Y))), (b3, .inl (cI, 175, .inl (nIf X))), (y0, .inl (cI, 7, .inl (nIf R)))] := by
      intro mz
      induction mz using Nat.strongRecOn with
      | _ mz ih32 =>
      intro P2 Q2 mg Y X A k hB9 hM9 hAe hAb hAv hq9 hk hm32
      refine v_il_n 33 zC dX4_days_32 0 rfl ?_
      refine v_bp (v := (nI 70)) 35 zC dX4_days_33 (by decide +kernel) ?_
      refine v_icmpn_ge 55 38 zC dX4_days_35 (fun h_6 => ?_) (fun h_6 => ?_)
      ·
        have hz9 := dyk_0 hq9 (show k = 70 by omega)
        refine v_il_n 56 zC dX4_days_55 2 rfl ?_
        refine v_ic (v := (-1)) 57 zC dX4_days_56 (by decide +kernel) ?_
        refine v_icmp_ne 64 60 zC dX4_days_57 (fun h_7 => False.elim (by exact absurd hwm h_7)) (fun h_7 => ?_)
        refine v_il_n 61 zC dX4_days_60 0 rfl ?_
        refine v_goto 73 zC dX4_days_61 ?_
        refine v_iret zC zT dX4_days_73  ?_
        first | exact ⟨_, _, _, _, _, _, _, _, _, _, _, _, _, _, _, 1, _, by simp [q_days, *], hw1, (by first | exact hB9 | exact hD9.2.2.1 | exact hB), (by first | exact hM9 | exact hD9.2.2.2 | exact hM), rfl, rfl⟩ | exact ⟨_, _, _, _, _, _, _, _, _, _, _, _, _, _, _, 0, _, by unfold q_days; rw [if_pos hwm, dyc_0 hz9 (show k = 70 by omega)], ⟨hn, hm, hsh, hki, hop, hAb, hK, hG, hT, vki, vop, hAv, vK, vG, vT⟩, hB9, hM9, rfl, rfl⟩ | exact ⟨_, _, _, _, _, _, _, _, _, _, _, _, _, _, _, 0, _, by unfold q_days; rw [if_pos hwm, dyc_1 hz8], ⟨hn, hm, hsh, hki, hop, hPb, hK, hG, hT, vki, vop, pas_v, vK, vG, vT⟩, hB8, hM8, rfl, rfl⟩ | exact ⟨_, _, _, _, _, _, _, _, _, _, _, _, _, _, _, 0, _, by unfold q_days; rw [if_neg hwn, hi_u]; dsimp only; rw [dyf_0 hz9 (show k = 70 by omega), ← hAe], ⟨hn, hm, hsh, hki, hop, hAb, hK, hG, hT, vki, vop, hAv, vK, vG, vT⟩, hB9, hM9, rfl, rfl⟩ | exact ⟨_, _, _, _, _, _, _, _, _, _, _, _, _, _, _, 0, _, by unfold q_days; rw [if_neg hwn, hi_u]; dsimp only; rw [dyf_1 hz8, hAe]; rfl, ⟨hn, hm, hsh, hki, hop, hPb, hK, hG, hT, vki, vop, pas_v, vK, vG, vT⟩, hB8, hM8, rfl, rfl⟩
      ·
        refine v_al_n 39 zC dX4_days_38 1 rfl ?_
        refine v_al_n 40 zC dX4_days_39 1 rfl ?_
        refine v_gf 43 0 zC dX4_days_40 gf_X4_16 rfl rfl ?_
        refine v_cV (As := [.ref c0]) (st := []) 46 0 [0, 8, 9, 10, 11, 12, 13, 14, 15, 16, 17, 18] zC dX4_days_43 hA (c_X4_dayChanges (ev_l E) (ev_D E) cI (x0 := x0) (xn := a0) (xm := c0) (xp := xp) (g0 := g0) (s0 := s0) (w0 := w0) (y0 := y0) (pd := pd) (rs := rs) (b0 := b0) (b1 := b1) (b2 := b2) (b3 := b3) (P := P2) (Q := Q2) (mf := mg) (M := Y) (kn := X) (a0 := c0) (a1 := c1) (a2 := c2) (a3 := c3) (a4 := c4) (a5 := c5) (a6 := c6) (n := n) (m := m) (sh := sh) (aw := 0) (ki := ki) (op := op) (fa := A) (K := K) (G := G) (T := T) (hw := ⟨hn, hm, hsh, hki, hop, hAb, hK, hG, hT, vki, vop, hAv, vK, vG, vT⟩) (hB := hB9) (hM := hM9)) cf_X4_dayChanges lk_X4_256 rfl rfl rfl rfl rfl (by decide +kernel) (Nat.le_of_ble_eq_true rfl) (fun rv_8 wv_9 hp_10 hm_11 => ?_)
        clear hm_11
        obtain ⟨P1_12, Q1_13, mg_14, X_15, Y_16, hb1_17, hB1_18, hM1_19, rfl, rfl⟩ := hp_10
        show VV E 0 0 46 [(2, .int (nI k)), (0, .ref x0), (1, .int u)] [.int (bz (DCH (n, m, sh, 0, ki, op, A, K, G, T)))] [(x0, .inr (4, [.ref a0, .ref c0, .ref xp, .int (bz pd), .ref b0, .ref g0, .ref s0, .ref w0, .int (nI rs), .ref y0])), (a0, .inr (2, [.int (nI n), .int (nI m), .int (nI sh), .int (nI 0), .ref a1, .ref a2, .ref a3, .ref a4, .ref a5, .ref a6])), (a1, .inl (cI, 7, .inl (nIf ki))), (a2, .inl (cI, 7, .inl (nIf op))), (a3, .inl (cI, 7, .inl (nIf fa))), (a4, .inl (cI, 6, .inl (nIf K))), (a5, .inl (cI, 6, .inl (nIf G))), (a6, .inl (cI, 6, .inl (nIf T))), (c0, .inr (2, [.int (nI n), .int (nI m), .int (nI sh), .int (nI 0), .ref c1, .ref c2, .ref c3, .ref c4, .ref c5, .ref c6])), (c1, .inl (cI, 7, .inl (nIf ki))), (c2, .inl (cI, 7, .inl (nIf op))), (c3, .inl (cI, 7, .inl (nIf (PASF (n, m, sh, 0, ki, op, A, K, G, T))))), (c4, .inl (cI, 6, .inl (nIf K))), (c5, .inl (cI, 6, .inl (nIf G))), (c6, .inl (cI, 6, .inl (nIf T))), (b0, .inr (1, [.int (nI P1_12), .int (nI Q1_13), .ref b1, .ref b2, .ref b3])), (b1, .inl (cI, 6, .inl (nIf mg_14))), (b2, .inl (cI, 144, .inl (mIf Y_16))), (b3, .inl (cI, 175, .inl (nIf X_15))), (y0, .inl (cI, 7, .inl (nIf R)))]
        have hPb := hb1_17
        have hB8 := hB1_18
        have hM8 := hM1_19
        refine v_ifb_eq 55 49 zC dX4_days_46 (fun h_20 => ?_) (fun h_20 => ?_)
        ·
          have hd9 : DCH (wfa (n, m, sh, 0, ki, op, fa, K, G, T) (DAYN (n, m, sh, 0, ki, op, fa, K, G, T) k)) = false := (by rw [← hAe]; exact h_20)
          have hz8 := dyk_1 hq9 (show k + 1 ≤ 70 by omega) hd9
          refine v_il_n 56 zC dX4_days_55 2 rfl ?_
          refine v_ic (v := (-1)) 57 zC dX4_days_56 (by decide +kernel) ?_
          refine v_icmp_ne 64 60 zC dX4_days_57 (fun h_21 => False.elim (by exact absurd hwm h_21)) (fun h_21 => ?_)
          refine v_il_n 61 zC dX4_days_60 0 rfl ?_
          refine v_goto 73 zC dX4_days_61 ?_
          refine v_iret zC zT dX4_days_73  ?_
          first | exact ⟨_, _, _, _, _, _, _, _, _, _, _, _, _, _, _, 1, _, by simp [q_days, *], hw1, (by first | exact hB9 | exact hD9.2.2.1 | exact hB), (by first | exact hM9 | exact hD9.2.2.2 | exact hM), rfl, rfl⟩ | exact ⟨_, _, _, _, _, _, _, _, _, _, _, _, _, _, _, 0, _, by unfold q_days; rw [if_pos hwm, dyc_0 hz9 (show k = 70 by omega)], ⟨hn, hm, hsh, hki, hop, hAb, hK, hG, hT, vki, vop, hAv, vK, vG, vT⟩, hB9, hM9, rfl, rfl⟩ | exact ⟨_, _, _, _, _, _, _, _, _, _, _, _, _, _, _, 0, _, by unfold q_days; rw [if_pos hwm, dyc_1 hz8], ⟨hn, hm, hsh, hki, hop, hPb, hK, hG, hT, vki, vop, pas_v, vK, vG, vT⟩, hB8, hM8, rfl, rfl⟩ | exact ⟨_, _, _, _, _, _, _, _, _, _, _, _, _, _, _, 0, _, by unfold q_days; rw [if_neg hwn, hi_u]; dsimp only; rw [dyf_0 hz9 (show k = 70 by omega), ← hAe], ⟨hn, hm, hsh, hki, hop, hAb, hK, hG, hT, vki, vop, hAv, vK, vG, vT⟩, hB9, hM9, rfl, rfl⟩ | exact ⟨_, _, _, _, _, _, _, _, _, _, _, _, _, _, _, 0, _, by unfold q_days; rw [if_neg hwn, hi_u]; dsimp only; rw [dyf_1 hz8, hAe]; rfl, ⟨hn, hm, hsh, hki, hop, hPb, hK, hG, hT, vki, vop, pas_v, vK, vG, vT⟩, hB8, hM8, rfl, rfl⟩
        ·
          have hd9 : DCH (wfa (n, m, sh, 0, ki, op, fa, K, G, T) (DAYN (n, m, sh, 0, ki, op, fa, K, G, T) k)) = true := (by rw [← hAe]; exact h_20)
          refine v_inc (v := (nI (k + 1))) (lv2 := [(2, .int (nI (k + 1))), (0, .ref x0), (1, .int u)]) 52 zC dX4_days_49 (j := 0) rfl (nI_add _ 1) (by rw [hnE]; decide) rfl ?_
          refine v_goto 32 zC dX4_days_52 ?_
          refine v_lvs (lv2 := [(2, .int (nI (k + 1))), (0, .ref x0), (1, .int u)]) [0, 1, 2] rfl ?_
          exact ih32 _ (by omega) P1_12 Q1_13 mg_14 Y_16 X_15 (PASF (n, m, sh, 0, ki, op, A, K, G, T)) (k + 1) hB8 hM8 (by rw [hAe]; rfl) hPb pas_v (fs_0 hq9 (dyp_0 hd9)) (by first | omega | assumption | rfl | (simp only []; omega) | decide) rfl
    refine v_lvs (lv2 := [(2, .int (nI 0)), (0, .ref x0), (1, .int u)]) [0, 1, 2] rfl ?_
    exact lp32 _ P Q mf M kn fa 0 (by first | exact hD9.2.2.1 | exact hB) (by first | exact hD9.2.2.2 | exact hM) rfl hfa vfa (by first | omega | assumption | rfl | (simp only []; omega) | decide) (by first | omega | assumption | rfl | (simp only []; omega) | decide) rfl
  ·
    have hwn := h_1
    refine v_al_n 6 zC dX4_days_5 0 rfl ?_
    refine v_il_n 7 zC dX4_days_6 1 rfl ?_
    refine v_cV (As := [.int u]) (st := []) 10 0 [0, 1] zC dX4_days_7 hA (c_X4_noPerson (ev_l E) (ev_D E) cI (x0 := x0) (xm := c0) (xp := xp) (b0 := b0) (g0 := g0) (s0 := s0) (w0 := w0) (y0 := y0) (pd := pd) (rs := rs) (a0 := a0) (a1 := a1) (a2 := a2) (a3 := a3) (a4 := a4) (a5 := a5) (a6 := a6) (n := n) (m := m) (sh := sh) (p := u) (hn := (by first | omega | assumption | rfl | (simp only []; omega) | decide))) cf_X4_noPerson lk_X4_79 rfl rfl rfl rfl rfl (by decide +kernel) (Nat.le_of_ble_eq_true rfl) (fun rv_22 wv_23 hp_24 hm_25 => ?_)
    clear hm_25
    rcases hp_24 with ⟨hi_26, rfl, rfl⟩ | ⟨j_27, he_28, hi_29, hj_30, rfl, rfl⟩
    ·
      show VV E 0 0 10 [(0, .ref x0), (1, .int u)] [.int (nI 1)] [(x0, .inr (4, [.ref a0, .ref c0, .ref xp, .int (bz pd), .ref b0, .ref g0, .ref s0, .ref w0, .int (nI rs), .ref y0])), (a0, .inr (2, [.int (nI n), .int (nI m), .int (nI sh), .int (nI 0), .ref a1, .ref a2, .ref a3, .ref a4, .ref a5, .ref a6])), (a1, .inl (cI, 7, .inl (nIf ki))), (a2, .inl (cI, 7, .inl (nIf op))), (a3, .inl (cI, 7, .inl (nIf fa))), (a4, .inl (cI, 6, .inl (nIf K))), (a5, .inl (cI, 6, .inl (nIf G))), (a6, .inl (cI, 6, .inl (nIf T))), (c0, .inr (2, [.int (nI n1), .int (nI m1), .int (nI sh1), .int (nI aw1), .ref c1, .ref c2, .ref c3, .ref c4, .ref c5, .ref c6])), (c1, .inl (cI, 7, .inl (nIf ki1))), (c2, .inl (cI, 7, .inl (nIf op1))), (c3, .inl (cI, 7, .inl (nIf fa1))), (c4, .inl (cI, 6, .inl (nIf K1))), (c5, .inl (cI, 6, .inl (nIf G1))), (c6, .inl (cI, 6, .inl (nIf T1))), (b0, .inr (1, [.int (nI P), .int (nI Q), .ref b1, .ref b2, .ref b3])), (b1, .inl (cI, 6, .inl (nIf mf))), (b2, .inl (cI, 144, .inl (mIf M))), (b3, .inl (cI, 175, .inl (nIf kn))), (y0, .inl (cI, 7, .inl (nIf R)))]
      refine v_if_eq 19 13 zC dX4_days_10 (fun z => absurd z (by decide +kernel)) (fun _ => ?_)
      refine v_al_n 14 zC dX4_days_13 0 rfl ?_
      refine v_ic (v := (-1)) 15 zC dX4_days_14 (by decide +kernel) ?_
      refine v_cV (As := [.int (-1)]) (st := []) 18 0 [0, 19] zC dX4_days_15 hA (c_X4_refuse (ev_l E) (ev_D E) cI (x0 := x0) (xn := a0) (xm := c0) (xp := xp) (b0 := b0) (g0 := g0) (s0 := s0) (w0 := w0) (y0 := y0) (pd := pd) (rs := rs) (R := R) (v := (-1)) (j := 1) (hv := (by first | omega | assumption | rfl | (simp only []; omega) | decide)) (h1 := (by first | omega | assumption | rfl | (simp only []; omega) | decide)) (h6 := (by first | omega | assumption | rfl | (simp only []; omega) | decide))) cf_X4_refuse lk_X4_50 rfl rfl rfl rfl rfl (by decide +kernel) (Nat.le_of_ble_eq_true rfl) (fun rv_32 wv_33 hp_34 hm_35 => ?_)
      clear hm_35
      obtain ⟨rfl, rfl⟩ := hp_34
      show VV E 0 0 18 [(0, .ref x0), (1, .int u)] [.int (-1)] [(x0, .inr (4, [.ref a0, .ref c0, .ref xp, .int (bz pd), .ref b0, .ref g0, .ref s0, .ref w0, .int (nI rs), .ref y0])), (a0, .inr (2, [.int (nI n), .int (nI m), .int (nI sh), .int (nI 0), .ref a1, .ref a2, .ref a3, .ref a4, .ref a5, .ref a6])), (a1, .inl (cI, 7, .inl (nIf ki))), (a2, .inl (cI, 7, .inl (nIf op))), (a3, .inl (cI, 7, .inl (nIf fa))), (a4, .inl (cI, 6, .inl (nIf K))), (a5, .inl (cI, 6, .inl (nIf G))), (a6, .inl (cI, 6, .inl (nIf T))), (c0, .inr (2, [.int (nI n1), .int (nI m1), .int (nI sh1), .int (nI aw1), .ref c1, .ref c2, .ref c3, .ref c4, .ref c5, .ref c6])), (c1, .inl (cI, 7, .inl (nIf ki1))), (c2, .inl (cI, 7, .inl (nIf op1))), (c3, .inl (cI, 7, .inl (nIf fa1))), (c4, .inl (cI, 6, .inl (nIf K1))), (c5, .inl (cI, 6, .inl (nIf G1))), (c6, .inl (cI, 6, .inl (nIf T1))), (b0, .inr (1, [.int (nI P), .int (nI Q), .ref b1, .ref b2, .ref b3])), (b1, .inl (cI, 6, .inl (nIf mf))), (b2, .inl (cI, 144, .inl (mIf M))), (b3, .inl (cI, 175, .inl (nIf kn))), (y0, .inl (cI, 7, .inl (nIf (un R 1 (R 1 + 1)))))]
      refine v_iret zC zT dX4_days_18  ?_
      first | exact ⟨_, _, _, _, _, _, _, _, _, _, _, _, _, _, _, 1, _, by simp [q_days, *], hw1, (by first | exact hB9 | exact hD9.2.2.1 | exact hB), (by first | exact hM9 | exact hD9.2.2.2 | exact hM), rfl, rfl⟩ | exact ⟨_, _, _, _, _, _, _, _, _, _, _, _, _, _, _, 0, _, by unfold q_days; rw [if_pos hwm, dyc_0 hz9 (show k = 70 by omega)], ⟨hn, hm, hsh, hki, hop, hAb, hK, hG, hT, vki, vop, hAv, vK, vG, vT⟩, hB9, hM9, rfl, rfl⟩ | exact ⟨_, _, _, _, _, _, _, _, _, _, _, _, _, _, _, 0, _, by unfold q_days; rw [if_pos hwm, dyc_1 hz8], ⟨hn, hm, hsh, hki, hop, hPb, hK, hG, hT, vki, vop, pas_v, vK, vG, vT⟩, hB8, hM8, rfl, rfl⟩ | exact ⟨_, _, _, _, _, _, _, _, _, _, _, _, _, _, _, 0, _, by unfold q_days; rw [if_neg hwn, hi_u]; dsimp only; rw [dyf_0 hz9 (show k = 70 by omega), ← hAe], ⟨hn, hm, hsh, hki, hop, hAb, hK, hG, hT, vki, vop, hAv, vK, vG, vT⟩, hB9, hM9, rfl, rfl⟩ | exact ⟨_, _, _, _, _, _, _, _, _, _, _, _, _, _, _, 0, _, by unfold q_days; rw [if_neg hwn, hi_u]; dsimp only; rw [dyf_1 hz8, hAe]; rfl, ⟨hn, hm, hsh, hki, hop, hPb, hK, hG, hT, vki, vop, pas_v, vK, vG, vT⟩, hB8, hM8, rfl, rfl⟩
    ·
      show VV E 0 0 10 [(0, .ref x0), (1, .int u)] [.int (nI 0)] [(x0, .inr (4, [.ref a0, .ref c0, .ref xp, .int (bz pd), .ref b0, .ref g0, .ref s0, .ref w0, .int (nI rs), .ref y0])), (a0, .inr (2, [.int (nI n), .int (nI m), .int (nI sh), .int (nI 0), .ref a1, .ref a2, .ref a3, .ref a4, .ref a5, .ref a6])), (a1, .inl (cI, 7, .inl (nIf ki))), (a2, .inl (cI, 7, .inl (nIf op))), (a3, .inl (cI, 7, .inl (nIf fa))), (a4, .inl (cI, 6, .inl (nIf K))), (a5, .inl (cI, 6, .inl (nIf G))), (a6, .inl (cI, 6, .inl (nIf T))), (c0, .inr (2, [.int (nI n1), .int (nI m1), .int (nI sh1), .int (nI aw1), .ref c1, .ref c2, .ref c3, .ref c4, .ref c5, .ref c6])), (c1, .inl (cI, 7, .inl (nIf ki1))), (c2, .inl (cI, 7, .inl (nIf op1))), (c3, .inl (cI, 7, .inl (nIf fa1))), (c4, .inl (cI, 6, .inl (nIf K1))), (c5, .inl (cI, 6, .inl (nIf G1))), (c6, .inl (cI, 6, .inl (nIf T1))), (b0, .inr (1, [.int (nI P), .int (nI Q), .ref b1, .ref b2, .ref b3])), (b1, .inl (cI, 6, .inl (nIf mf))), (b2, .inl (cI, 144, .inl (mIf M))), (b3, .inl (cI, 175, .inl (nIf kn))), (y0, .inl (cI, 7, .inl (nIf R)))]
      subst he_28
      have hi_u := hi_29
      obtain ⟨ju, hx_ju⟩ : ∃ z, z = j_27 := ⟨_, rfl⟩
      subst hx_ju
      refine v_if_eq 19 13 zC dX4_days_10 (fun _ => ?_) (fun z => absurd (by decide +kernel) z)
      refine v_al_n 20 zC dX4_days_19 0 rfl ?_
      refine v_gf 23 0 zC dX4_days_20 gf_X4_16 rfl rfl ?_
      refine v_al_n 24 zC dX4_days_23 0 rfl ?_
      refine v_gf 27 0 zC dX4_days_24 gf_X4_12 rfl rfl ?_
      refine v_cV (As := [.ref a0]) (st := []) 30 8 [8, 9, 10, 11, 12, 13, 14, 1, 2, 3, 4, 5, 6, 7] zC dX4_days_27 hA (c_X2_become (ev_l E) (ev_D E) cI (a0 := a0) (a1 := a1) (a2 := a2) (a3 := a3) (a4 := a4) (a5 := a5) (a6 := a6) (n := n) (m := m) (sh := sh) (aw := 0) (ki := ki) (op := op) (fa := fa) (K := K) (G := G) (T := T) (c0 := c0) (c1 := c1) (c2 := c2) (c3 := c3) (c4 := c4) (c5 := c5) (c6 := c6) (n1 := n1) (m1 := m1) (sh1 := sh1) (aw1 := aw1) (ki1 := ki1) (op1 := op1) (fa1 := fa1) (K1 := K1) (G1 := G1) (T1 := T1) (hw := hw) (hw1 := hw1)) cf_X2_become lk_X4_65 rfl rfl rfl rfl rfl (by decide +kernel) (Nat.le_of_ble_eq_true rfl) (fun rv_37 wv_38 hp_39 hm_40 => ?_)
      clear hm_40
      obtain ⟨rfl, rfl⟩ := hp_39
      show VV E 0 0 30 [(0, .ref x0), (1, .int (nI ju))] [] [(x0, .inr (4, [.ref a0, .ref c0, .ref xp, .int (bz pd), .ref b0, .ref g0, .ref s0, .ref w0, .int (nI rs), .ref y0])), (a0, .inr (2, [.int (nI n), .int (nI m), .int (nI sh), .int (nI 0), .ref a1, .ref a2, .ref a3, .ref a4, .ref a5, .ref a6])), (a1, .inl (cI, 7, .inl (nIf ki))), (a2, .inl (cI, 7, .inl (nIf op))), (a3, .inl (cI, 7, .inl (nIf fa))), (a4, .inl (cI, 6, .inl (nIf K))), (a5, .inl (cI, 6, .inl (nIf G))), (a6, .inl (cI, 6, .inl (nIf T))), (c0, .inr (2, [.int (nI n), .int (nI m), .int (nI sh), .int (nI 0), .ref c1, .ref c2, .ref c3, .ref c4, .ref c5, .ref c6])), (c1, .inl (cI, 7, .inl (nIf ki))), (c2, .inl (cI, 7, .inl (nIf op))), (c3, .inl (cI, 7, .inl (nIf fa))), (c4, .inl (cI, 6, .inl (nIf K))), (c5, .inl (cI, 6, .inl (nIf G))), (c6, .inl (cI, 6, .inl (nIf T))), (b0, .inr (1, [.int (nI P), .int (nI Q), .ref b1, .ref b2, .ref b3])), (b1, .inl (cI, 6, .inl (nIf mf))), (b2, .inl (cI, 144, .inl (mIf M))), (b3, .inl (cI, 175, .inl (nIf kn))), (y0, .inl (cI, 7, .inl (nIf R)))]
      refine v_ic (v := (nI 0)) 31 zC dX4_days_30 (by decide +kernel) ?_
      refine v_is_n (lv2 := [(2, .int (nI 0)), (0, .ref x0), (1, .int (nI ju))]) 32 zC dX4_days_31 (by rw [hnE]; decide) rfl ?_
      have lp32 : ∀ (mz : Nat) (P2 : Nat) (Q2 : Nat) (mg : Nat → Nat) (Y : Nat → Option Nat) (X : Nat → Nat) (A : Nat → Nat) (k : Nat), (∀ z, X z < 1024) → (∀ z v, Y z = some v → v < 7) → (A = DAYN (n, m, sh, 0, ki, op, fa, K, G, T) k) → (∀ z, A z < 1024) → (VZ 7 A) → (fs (DYP (n, m, sh, 0, ki, op, fa, K, G, T)) k = none) → (k ≤ 70) → 70 - k = mz → VV E 0 0 32 [(2, .int (nI k)), (0, .ref x0), (1, .int (nI ju))] [] [(x0, .inr (4, [.ref a0, .ref c0, .ref xp, .int (bz pd), .ref b0, .ref g0, .ref s0, .ref w0, .int (nI rs), .ref y0])), (a0, .inr (2, [.int (nI n), .int (nI m), .int (nI sh), .int (nI 0), .ref a1, .ref a2, .ref a3, .ref a4, .ref a5, .ref a6])), (a1, .inl (cI, 7, .inl (nIf ki))), (a2, .inl (cI, 7, .inl (nIf op))), (a3, .inl (cI, 7, .inl (nIf fa))), (a4, .inl (cI, 6, .inl (nIf K))), (a5, .inl (cI, 6, .inl (nIf G))), (a6, .inl (cI, 6, .inl (nIf T))), (c0, .inr (2, [.int (nI n), .int (nI m), .int (nI sh), .int (nI 0), .ref c1, .ref c2, .ref c3, .ref c4, .ref c5, .ref c6])), (c1, .inl (cI, 7, .inl (nIf ki))), (c2, .inl (cI, 7, .inl (nIf op))), (c3, .inl (cI, 7, .inl (nIf A))), (c4, .inl (cI, 6, .inl (nIf K))), (c5, .inl (cI, 6, .inl (nIf G))), (c6, .inl (cI, 6, .inl (nIf T))), (b0, .inr (1, [.int (nI P2), .int (nI Q2), .ref b1, .ref b2, .ref b3])), (b1, .inl (cI, 6, .inl (nIf mg))), (b2, .inl (cI, 144, .inl (mIf Y))), (b3, .inl (cI, 175, .inl (nIf X))), (y0, .inl (cI, 7, .inl (nIf R)))] := by
        intro mz
        induction mz using Nat.strongRecOn with
        | _ mz ih32 =>
        intro P2 Q2 mg Y X A k hB9 hM9 hAe hAb hAv hq9 hk hm32
        refine v_il_n 33 zC dX4_days_32 0 rfl ?_
        refine v_bp (v := (nI 70)) 35 zC dX4_days_33 (by decide +kernel) ?_
        refine v_icmpn_ge 55 38 zC dX4_days_35 (fun h_41 => ?_) (fun h_41 => ?_)
        ·
          have hz9 := dyk_0 hq9 (show k = 70 by omega)
          refine v_il_n 56 zC dX4_days_55 2 rfl ?_
          refine v_ic (v := (-1)) 57 zC dX4_days_56 (by decide +kernel) ?_
          refine v_icmp_ne 64 60 zC dX4_days_57 (fun h_42 => ?_) (fun h_42 => False.elim (by exact absurd h_42 hwn))
          refine v_al_n 65 zC dX4_days_64 1 rfl ?_
          refine v_gf 68 0 zC dX4_days_65 gf_X4_16 rfl rfl ?_
          refine v_gf 71 8 zC dX4_days_68 gf_X4_96 rfl rfl ?_
          refine v_il_n 72 zC dX4_days_71 2 rfl ?_
          refine v_ialn (v := (nI (A ju))) 73 11 zC dX4_days_72 rfl (by omega) rfl ?_
          refine v_iret zC zT dX4_days_73  ?_
          first | exact ⟨_, _, _, _, _, _, _, _, _, _, _, _, _, _, _, 1, _, by simp [q_days, *], hw1, (by first | exact hB9 | exact hD9.2.2.1 | exact hB), (by first | exact hM9 | exact hD9.2.2.2 | exact hM), rfl, rfl⟩ | exact ⟨_, _, _, _, _, _, _, _, _, _, _, _, _, _, _, 0, _, by unfold q_days; rw [if_pos hwm, dyc_0 hz9 (show k = 70 by omega)], ⟨hn, hm, hsh, hki, hop, hAb, hK, hG, hT, vki, vop, hAv, vK, vG, vT⟩, hB9, hM9, rfl, rfl⟩ | exact ⟨_, _, _, _, _, _, _, _, _, _, _, _, _, _, _, 0, _, by unfold q_days; rw [if_pos hwm, dyc_1 hz8], ⟨hn, hm, hsh, hki, hop, hPb, hK, hG, hT, vki, vop, pas_v, vK, vG, vT⟩, hB8, hM8, rfl, rfl⟩ | exact ⟨_, _, _, _, _, _, _, _, _, _, _, _, _, _, _, 0, _, by unfold q_days; rw [if_neg hwn, hi_u]; dsimp only; rw [dyf_0 hz9 (show k = 70 by omega), ← hAe], ⟨hn, hm, hsh, hki, hop, hAb, hK, hG, hT, vki, vop, hAv, vK, vG, vT⟩, hB9, hM9, rfl, rfl⟩ | exact ⟨_, _, _, _, _, _, _, _, _, _, _, _, _, _, _, 0, _, by unfold q_days; rw [if_neg hwn, hi_u]; dsimp only; rw [dyf_1 hz8, hAe]; rfl, ⟨hn, hm, hsh, hki, hop, hPb, hK, hG, hT, vki, vop, pas_v, vK, vG, vT⟩, hB8, hM8, rfl, rfl⟩
        ·
          refine v_al_n 39 zC dX4_days_38 1 rfl ?_
          refine v_al_n 40 zC dX4_days_39 1 rfl ?_
          refine v_gf 43 0 zC dX4_days_40 gf_X4_16 rfl rfl ?_
          refine v_cV (As := [.ref c0]) (st := []) 46 0 [0, 8, 9, 10, 11, 12, 13, 14, 15, 16, 17, 18] zC dX4_days_43 hA (c_X4_dayChanges (ev_l E) (ev_D E) cI (x0 := x0) (xn := a0) (xm := c0) (xp := xp) (g0 := g0) (s0 := s0) (w0 := w0) (y0 := y0) (pd := pd) (rs := rs) (b0 := b0) (b1 := b1) (b2 := b2) (b3 := b3) (P := P2) (Q := Q2) (mf := mg) (M := Y) (kn := X) (a0 := c0) (a1 := c1) (a2 := c2) (a3 := c3) (a4 := c4) (a5 := c5) (a6 := c6) (n := n) (m := m) (sh := sh) (aw := 0) (ki := ki) (op := op) (fa := A) (K := K) (G := G) (T := T) (hw := ⟨hn, hm, hsh, hki, hop, hAb, hK, hG, hT, vki, vop, hAv, vK, vG, vT⟩) (hB := hB9) (hM := hM9)) cf_X4_dayChanges lk_X4_256 rfl rfl rfl rfl rfl (by decide +kernel) (Nat.le_of_ble_eq_true rfl) (fun rv_43 wv_44 hp_45 hm_46 => ?_)
          clear hm_46
          obtain ⟨P1_47, Q1_48, mg_49, X_50, Y_51, hb1_52, hB1_53, hM1_54, rfl, rfl⟩ := hp_45
          show VV E 0 0 46 [(2, .int (nI k)), (0, .ref x0), (1, .int (nI ju))] [.int (bz (DCH (n, m, sh, 0, ki, op, A, K, G, T)))] [(x0, .inr (4, [.ref a0, .ref c0, .ref xp, .int (bz pd), .ref b0, .ref g0, .ref s0, .ref w0, .int (nI rs), .ref y0])), (a0, .inr (2, [.int (nI n), .int (nI m), .int (nI sh), .int (nI 0), .ref a1, .ref a2, .ref a3, .ref a4, .ref a5, .ref a6])), (a1, .inl (cI, 7, .inl (nIf ki))), (a2, .inl (cI, 7, .inl (nIf op))), (a3, .inl (cI, 7, .inl (nIf fa))), (a4, .inl (cI, 6, .inl (nIf K))), (a5, .inl (cI, 6, .inl (nIf G))), (a6, .inl (cI, 6, .inl (nIf T))), (c0, .inr (2, [.int (nI n), .int (nI m), .int (nI sh), .int (nI 0), .ref c1, .ref c2, .ref c3, .ref c4, .ref c5, .ref c6])), (c1, .inl (cI, 7, .inl (nIf ki))), (c2, .inl (cI, 7, .inl (nIf op))), (c3, .inl (cI, 7, .inl (nIf (PASF (n, m, sh, 0, ki, op, A, K, G, T))))), (c4, .inl (cI, 6, .inl (nIf K))), (c5, .inl (cI, 6, .inl (nIf G))), (c6, .inl (cI, 6, .inl (nIf T))), (b0, .inr (1, [.int (nI P1_47), .int (nI Q1_48), .ref b1, .ref b2, .ref b3])), (b1, .inl (cI, 6, .inl (nIf mg_49))), (b2, .inl (cI, 144, .inl (mIf Y_51))), (b3, .inl (cI, 175, .inl (nIf X_50))), (y0, .inl (cI, 7, .inl (nIf R)))]
          have hPb := hb1_52
          have hB8 := hB1_53
          have hM8 := hM1_54
          refine v_ifb_eq 55 49 zC dX4_days_46 (fun h_55 => ?_) (fun h_55 => ?_)
          ·
            have hd9 : DCH (wfa (n, m, sh, 0, ki, op, fa, K, G, T) (DAYN (n, m, sh, 0, ki, op, fa, K, G, T) k)) = false := (by rw [← hAe]; exact h_55)
            have hz8 := dyk_1 hq9 (show k + 1 ≤ 70 by omega) hd9
            refine v_il_n 56 zC dX4_days_55 2 rfl ?_
            refine v_ic (v := (-1)) 57 zC dX4_days_56 (by decide +kernel) ?_
            refine v_icmp_ne 64 60 zC dX4_days_57 (fun h_56 => ?_) (fun h_56 => False.elim (by exact absurd h_56 hwn))
            refine v_al_n 65 zC dX4_days_64 1 rfl ?_
            refine v_gf 68 0 zC dX4_days_65 gf_X4_16 rfl rfl ?_
            refine v_gf 71 8 zC dX4_days_68 gf_X4_96 rfl rfl ?_
            refine v_il_n 72 zC dX4_days_71 2 rfl ?_
            refine v_ialn (v := (nI ((PASF (n, m, sh, 0, ki, op, A, K, G, T)) ju))) 73 11 zC dX4_days_72 rfl (by omega) rfl ?_
            refine v_iret zC zT dX4_days_73  ?_
            first | exact ⟨_, _, _, _, _, _, _, _, _, _, _, _, _, _, _, 1, _, by simp [q_days, *], hw1, (by first | exact hB9 | exact hD9.2.2.1 | exact hB), (by first | exact hM9 | exact hD9.2.2.2 | exact hM), rfl, rfl⟩ | exact ⟨_, _, _, _, _, _, _, _, _, _, _, _, _, _, _, 0, _, by unfold q_days; rw [if_pos hwm, dyc_0 hz9 (show k = 70 by omega)], ⟨hn, hm, hsh, hki, hop, hAb, hK, hG, hT, vki, vop, hAv, vK, vG, vT⟩, hB9, hM9, rfl, rfl⟩ | exact ⟨_, _, _, _, _, _, _, _, _, _, _, _, _, _, _, 0, _, by unfold q_days; rw [if_pos hwm, dyc_1 hz8], ⟨hn, hm, hsh, hki, hop, hPb, hK, hG, hT, vki, vop, pas_v, vK, vG, vT⟩, hB8, hM8, rfl, rfl⟩ | exact ⟨_, _, _, _, _, _, _, _, _, _, _, _, _, _, _, 0, _, by unfold q_days; rw [if_neg hwn, hi_u]; dsimp only; rw [dyf_0 hz9 (show k = 70 by omega), ← hAe], ⟨hn, hm, hsh, hki, hop, hAb, hK, hG, hT, vki, vop, hAv, vK, vG, vT⟩, hB9, hM9, rfl, rfl⟩ | exact ⟨_, _, _, _, _, _, _, _, _, _, _, _, _, _, _, 0, _, by unfold q_days; rw [if_neg hwn, hi_u]; dsimp only; rw [dyf_1 hz8, hAe]; rfl, ⟨hn, hm, hsh, hki, hop, hPb, hK, hG, hT, vki, vop, pas_v, vK, vG, vT⟩, hB8, hM8, rfl, rfl⟩
          ·
            have hd9 : DCH (wfa (n, m, sh, 0, ki, op, fa, K, G, T) (DAYN (n, m, sh, 0, ki, op, fa, K, G, T) k)) = true := (by rw [← hAe]; exact h_55)
            refine v_inc (v := (nI (k + 1))) (lv2 := [(2, .int (nI (k + 1))), (0, .ref x0), (1, .int (nI ju))]) 52 zC dX4_days_49 (j := 0) rfl (nI_add _ 1) (by rw [hnE]; decide) rfl ?_
            refine v_goto 32 zC dX4_days_52 ?_
            refine v_lvs (lv2 := [(2, .int (nI (k + 1))), (0, .ref x0), (1, .int (nI ju))]) [0, 1, 2] rfl ?_
            exact ih32 _ (by omega) P1_47 Q1_48 mg_49 Y_51 X_50 (PASF (n, m, sh, 0, ki, op, A, K, G, T)) (k + 1) hB8 hM8 (by rw [hAe]; rfl) hPb pas_v (fs_0 hq9 (dyp_0 hd9)) (by first | omega | assumption | rfl | (simp only []; omega) | decide) rfl
      refine v_lvs (lv2 := [(2, .int (nI 0)), (0, .ref x0), (1, .int (nI ju))]) [0, 1, 2] rfl ?_
      exact lp32 _ P Q mf M kn fa 0 (by first | exact hD9.2.2.1 | exact hB) (by first | exact hD9.2.2.2 | exact hM) rfl hfa vfa (by first | omega | assumption | rfl | (simp only []; omega) | decide) (by first | omega | assumption | rfl | (simp only []; omega) | decide) rfl
