def DINS (s : SG) (k f : Nat) : Nat := sm (fun i => pcn (SPK s (f + i))) k
def dinS (s : SG) (k f : Nat) (x : Option Nat × Nat) : Option Nat × Nat := if x.1.isSome = false ∨ DINS s k f < x.2 then (some f, DINS s k f) else x
def q_dinner (s : SG) (k w : Int32) : Nat × Int32 := if k < nI 1 then (4, -4) else if nI 12 < k then (6, -6) else match IX 2 w with
  | none => (2, -2)
  | some e => (0, if e = 0 then mI (it (dinS s k.toNatClampNeg) (none, 0) (25 - k.toNatClampNeg)).1 else nI (it (dinS s k.toNatClampNeg) (none, 0) (25 - k.toNatClampNeg)).2)
theorem din_1 {s : SG} {k f x : Nat} {B : Option Nat} (e : B.isSome = false) : dinS s k f (B, x) = (some f, DINS s k f) := if_pos (Or.inl e)
theorem din_2 {s : SG} {k f x : Nat} {B : Option Nat} (e : DINS s k f < x) : dinS s k f (B, x) = (some f, DINS s k f) := if_pos (Or.inr e)
theorem din_0 {s : SG} {k f x : Nat} {B : Option Nat} (e1 : B.isSome = true) (e2 : x ≤ DINS s k f) : dinS s k f (B, x) = (B, x) := if_neg (fun q => q.elim (fun w => by rw [e1] at w; exact absurd w (by decide)) (fun w => absurd w (Nat.not_lt.mpr e2)))
theorem din_s {s : SG} {y h f : Nat} (hy : y = sm (fun i => pcn (SPK s (f + i))) (h - f)) (hb : f ≤ h) : y + pcn (SPK s h) = sm (fun i => pcn (SPK s (f + i))) (h + 1 - f) := by
  rw [show h + 1 - f = (h - f) + 1 by omega]
  show _ = sm (fun i => pcn (SPK s (f + i))) (h - f) + pcn (SPK s (f + (h - f)))
  rw [← hy, show f + (h - f) = h by omega]
theorem din_z {s : SG} {f : Nat} : 0 = sm (fun i => pcn (SPK s (f + i))) (f - f) := by
  rw [Nat.sub_self]
  rfl

set_option maxRecDepth 100000 in
set_option maxHeartbeats 4000000 in
theorem c_X4_dinner (l : Launch) (D : va_G) (cI : ClassId) (x0 xm xp g0 s0 w0 y0 : Nat) (pd : Bool) (rs : Nat) (b0 b1 b2 b3 : Nat) (P Q : Nat) (mf : Nat → Nat) (M : Nat → Option Nat) (kn : Nat → Nat) (a0 a1 a2 a3 a4 a5 a6 : Nat) (n m sh : Nat) (ki op fa K G T : Nat → Nat) (R : Nat → Nat) (k w : Int32) (hw : FW n m sh ki op fa K G T) (hB : ∀ z, kn z < 1024) (hM : ∀ z v, M z = some v → v < 7) : CT l yX4_dinner cX4_dinner 8 (some .int) { frames := 4, cells := 0, slots := 0, locals := 99 } D cI [.ref x0, .int k, .int w] [(x0, .inr (4, [.ref a0, .ref xm, .ref xp, .int (bz pd), .ref b0, .ref g0, .ref s0, .ref w0, .int (nI rs), .ref y0])), (a0, .inr (2, [.int (nI n), .int (nI m), .int (nI sh), .int (nI 0), .ref a1, .ref a2, .ref a3, .ref a4, .ref a5, .ref a6])), (a1, .inl (cI, 7, .inl (nIf ki))), (a2, .inl (cI, 7, .inl (nIf op))), (a3, .inl (cI, 7, .inl (nIf fa))), (a4, .inl (cI, 6, .inl (nIf K))), (a5, .inl (cI, 6, .inl (nIf G))), (a6, .inl (cI, 6, .inl (nIf T))), (b0, .inr (1, [.int (nI P), .int (nI Q), .ref b1, .ref b2, .ref b3])), (b1, .inl (cI, 6, .inl (nIf mf))), (b2, .inl (cI, 144, .inl (mIf M))), (b3, .inl (cI, 175, .inl (nIf kn))), (y0, .inl (cI, 7, .inl (nIf R)))] (fun zr zw => (∃ P1 : Nat, ∃ Q1 : Nat, ∃ mg : Nat → Nat, ∃ X : Nat → Nat, ∃ Y : Nat → Option Nat, ∃ rc : Nat, ∃ rv : Int32, (q_dinner (n, m, sh, 0, ki, op, fa, K, G, T) k w = (rc, rv)) ∧ (∀ z, X z < 1024) ∧ (∀ z v, Y z = some v → v < 7) ∧ zr = some (.int rv) ∧ zw = [(x0, .inr (4, [.ref a0, .ref xm, .ref xp, .int (bz pd), .ref b0, .ref g0, .ref s0, .ref w0, .int (nI rs), .ref y0])), (a0, .inr (2, [.int (nI n), .int (nI m), .int (nI sh), .int (nI 0), .ref a1, .ref a2, .ref a3, .ref a4, .ref a5, .ref a6])), (a1, .inl (cI, 7, .inl (nIf ki))), (a2, .inl (cI, 7, .inl (nIf op))), (a3, .inl (cI, 7, .inl (nIf fa))), (a4, .inl (cI, 6, .inl (nIf K))), (a5, .inl (cI, 6, .inl (nIf G))), (a6, .inl (cI, 6, .inl (nIf T))), (b0, .inr (1, [.int (nI P1), .int (nI Q1), .ref b1, .ref b2, .ref b3])), (b1, .inl (cI, 6, .inl (nIf mg))), (b2, .inl (cI, 144, .inl (mIf Y))), (b3, .inl (cI, 175, .inl (nIf X))), (y0, .inl (cI, 7, .inl (nIf (rf R rc))))])) := by
  refine CT_of RX4 rfl (by decide +kernel) (Nat.le_of_ble_eq_true rfl) (fun E hnE zC zT => ?_)
  have hA : ∀ q, (ev_s E).heap.size ≤ q → ev_A E q := fun q h => by rw [zT.2]; exact Or.inr h
  obtain ⟨hn, hm, hsh, hki, hop, hfa, hK, hG, hT, vki, vop, vfa, vK, vG, vT⟩ := id hw
  show VV E 0 0 0 [(0, .ref x0), (1, .int k), (2, .int w)] [] [(x0, .inr (4, [.ref a0, .ref xm, .ref xp, .int (bz pd), .ref b0, .ref g0, .ref s0, .ref w0, .int (nI rs), .ref y0])), (a0, .inr (2, [.int (nI n), .int (nI m), .int (nI sh), .int (nI 0), .ref a1, .ref a2, .ref a3, .ref a4, .ref a5, .ref a6])), (a1, .inl (cI, 7, .inl (nIf ki))), (a2, .inl (cI, 7, .inl (nIf op))), (a3, .inl (cI, 7, .inl (nIf fa))), (a4, .inl (cI, 6, .inl (nIf K))), (a5, .inl (cI, 6, .inl (nIf G))), (a6, .inl (cI, 6, .inl (nIf T))), (b0, .inr (1, [.int (nI P), .int (nI Q), .ref b1, .ref b2, .ref b3])), (b1, .inl (cI, 6, .inl (nIf mf))), (b2, .inl (cI, 144, .inl (mIf M))), (b3, .inl (cI, 175, .inl (nIf kn))), (y0, .inl (cI, 7, .inl (nIf R)))]
  refine v_il_n 1 zC dX4_dinner_0 1 rfl ?_
  refine v_ic (v := (nI 1)) 2 zC dX4_dinner_1 (by decide +kernel) ?_
  refine v_icmp_ge 12 5 zC dX4_dinner_2 (fun h_1 => ?_) (fun h_1 => ?_)
  ·
    have hge : ¬ k < nI 1 := Int32.not_lt.mpr h_1
    refine v_il_n 13 zC dX4_dinner_12 1 rfl ?_
    refine v_bp (v := (nI 12)) 15 zC dX4_dinner_13 (by decide +kernel) ?_
    refine v_icmp_le 25 18 zC dX4_dinner_15 (fun h_2 => ?_) (fun h_2 => ?_)
    ·
      have hle := Int32.not_lt.mpr h_2
      obtain ⟨jk, hk1, hk2, he_jk⟩ := ofR2 hge hle (by decide) (by decide)
      subst he_jk
      refine v_il_n 26 zC dX4_dinner_25 2 rfl ?_
      refine v_ic (v := (nI 2)) 27 zC dX4_dinner_26 (by decide +kernel) ?_
      refine v_cS (As := [.int w, .int (nI 2)]) (st := []) 30 [] zC dX4_dinner_27 hA (c_X4_noWhat (ev_l E) (ev_D E) cI (p := w) (k := 2) (hk := (by first | omega | assumption | rfl | (simp only []; omega) | decide))) cf_X4_noWhat lk_X4_83 rfl rfl rfl (by decide +kernel) (Nat.le_of_ble_eq_true rfl) (fun rv_3 wv_4 hp_5 hm_6 => ?_)
      clear hm_6
      rcases hp_5 with ⟨hi_7, rfl, rfl⟩ | ⟨j_8, he_9, hi_10, hj_11, rfl, rfl⟩
      ·
        show VV E 0 0 30 [(0, .ref x0), (1, .int (nI jk)), (2, .int w)] [.int (nI 1)] [(x0, .inr (4, [.ref a0, .ref xm, .ref xp, .int (bz pd), .ref b0, .ref g0, .ref s0, .ref w0, .int (nI rs), .ref y0])), (a0, .inr (2, [.int (nI n), .int (nI m), .int (nI sh), .int (nI 0), .ref a1, .ref a2, .ref a3, .ref a4, .ref a5, .ref a6])), (a1, .inl (cI, 7, .inl (nIf ki))), (a2, .inl (cI, 7, .inl (nIf op))), (a3, .inl (cI, 7, .inl (nIf fa))), (a4, .inl (cI, 6, .inl (nIf K))), (a5, .inl (cI, 6, .inl (nIf G))), (a6, .inl (cI, 6, .inl (nIf T))), (b0, .inr (1, [.int (nI P), .int (nI Q), .ref b1, .ref b2, .ref b3])), (b1, .inl (cI, 6, .inl (nIf mf))), (b2, .inl (cI, 144, .inl (mIf M))), (b3, .inl (cI, 175, .inl (nIf kn))), (y0, .inl (cI, 7, .inl (nIf R)))]
        have hi_w := hi_7
        refine v_if_eq 40 33 zC dX4_dinner_30 (fun z => absurd z (by decide +kernel)) (fun _ => ?_)
        refine v_al_n 34 zC dX4_dinner_33 0 rfl ?_
        refine v_bp (v := (-2)) 36 zC dX4_dinner_34 (by decide +kernel) ?_
        refine v_cV (As := [.int (-2)]) (st := []) 39 0 [0, 12] zC dX4_dinner_36 hA (c_X4_refuse (ev_l E) (ev_D E) cI (x0 := x0) (xn := a0) (xm := xm) (xp := xp) (b0 := b0) (g0 := g0) (s0 := s0) (w0 := w0) (y0 := y0) (pd := pd) (rs := rs) (R := R) (v := (-2)) (j := 2) (hv := (by first | omega | assumption | rfl | (simp only []; omega) | decide)) (h1 := (by first | omega | assumption | rfl | (simp only []; omega) | decide)) (h6 := (by first | omega | assumption | rfl | (simp only []; omega) | decide))) cf_X4_refuse lk_X4_50 rfl rfl rfl rfl rfl (by decide +kernel) (Nat.le_of_ble_eq_true rfl) (fun rv_13 wv_14 hp_15 hm_16 => ?_)
        clear hm_16
        obtain ⟨rfl, rfl⟩ := hp_15
        show VV E 0 0 39 [(0, .ref x0), (1, .int (nI jk)), (2, .int w)] [.int (-2)] [(x0, .inr (4, [.ref a0, .ref xm, .ref xp, .int (bz pd), .ref b0, .ref g0, .ref s0, .ref w0, .int (nI rs), .ref y0])), (a0, .inr (2, [.int (nI n), .int (nI m), .int (nI sh), .int (nI 0), .ref a1, .ref a2, .ref a3, .ref a4, .ref a5, .ref a6])), (a1, .inl (cI, 7, .inl (nIf ki))), (a2, .inl (cI, 7, .inl (nIf op))), (a3, .inl (cI, 7, .inl (nIf fa))), (a4, .inl (cI, 6, .inl (nIf K))), (a5, .inl (cI, 6, .inl (nIf G))), (a6, .inl (cI, 6, .inl (nIf T))), (b0, .inr (1, [.int (nI P), .int (nI Q), .ref b1, .ref b2, .ref b3])), (b1, .inl (cI, 6, .inl (nIf mf))), (b2, .inl (cI, 144, .inl (mIf M))), (b3, .inl (cI, 175, .inl (nIf kn))), (y0, .inl (cI, 7, .inl (nIf (un R 2 (R 2 + 1)))))]
        refine v_iret zC zT dX4_dinner_39  ?_
        first | exact ⟨P, Q, mf, kn, M, 4, _, by unfold q_dinner; rw [if_pos hlt9], hB, hM, rfl, rfl⟩ | exact ⟨P, Q, mf, kn, M, 6, _, by unfold q_dinner; rw [if_neg hge, if_pos hgt9], hB, hM, rfl, rfl⟩ | exact ⟨P, Q, mf, kn, M, 2, _, by unfold q_dinner; rw [if_neg hge, if_neg hle, hi_w], hB, hM, rfl, rfl⟩ | exact ⟨_, _, _, _, _, 0, _, by unfold q_dinner; rw [if_neg hge, if_neg hle, hi_w]; dsimp only; rw [nI_clamp (show jk < 2 ^ 31 by omega), show 25 - jk = f by omega, ← hs]; first | rw [if_pos (by assumption)] | rw [if_neg (by assumption)], hD9.2.2.1, hD9.2.2.2, rfl, rfl⟩
      ·
        show VV E 0 0 30 [(0, .ref x0), (1, .int (nI jk)), (2, .int w)] [.int (nI 0)] [(x0, .inr (4, [.ref a0, .ref xm, .ref xp, .int (bz pd), .ref b0, .ref g0, .ref s0, .ref w0, .int (nI rs), .ref y0])), (a0, .inr (2, [.int (nI n), .int (nI m), .int (nI sh), .int (nI 0), .ref a1, .ref a2, .ref a3, .ref a4, .ref a5, .ref a6])), (a1, .inl (cI, 7, .inl (nIf ki))), (a2, .inl (cI, 7, .inl (nIf op))), (a3, .inl (cI, 7, .inl (nIf fa))), (a4, .inl (cI, 6, .inl (nIf K))), (a5, .inl (cI, 6, .inl (nIf G))), (a6, .inl (cI, 6, .inl (nIf T))), (b0, .inr (1, [.int (nI P), .int (nI Q), .ref b1, .ref b2, .ref b3])), (b1, .inl (cI, 6, .inl (nIf mf))), (b2, .inl (cI, 144, .inl (mIf M))), (b3, .inl (cI, 175, .inl (nIf kn))), (y0, .inl (cI, 7, .inl (nIf R)))]
        subst he_9
        have hi_w := hi_10
        refine v_if_eq 40 33 zC dX4_dinner_30 (fun _ => ?_) (fun z => absurd (by decide +kernel) z)
        refine v_al_n 41 zC dX4_dinner_40 0 rfl ?_
        refine v_gf 44 0 zC dX4_dinner_41 gf_X4_25 rfl rfl ?_
        refine v_al_n 45 zC dX4_dinner_44 0 rfl ?_
        refine v_gf 48 0 zC dX4_dinner_45 gf_X4_12 rfl rfl ?_
        refine v_cV (As := [.ref a0]) (st := []) 51 8 [8, 9, 10, 11, 1, 2, 3, 4, 5, 6, 7] zC dX4_dinner_48 hA (c_X1_live (ev_l E) (ev_D E) cI (b0 := b0) (b1 := b1) (b2 := b2) (b3 := b3) (P := P) (Q := Q) (mf := mf) (M := M) (kn := kn) (a0 := a0) (a1 := a1) (a2 := a2) (a3 := a3) (a4 := a4) (a5 := a5) (a6 := a6) (n := n) (m := m) (sh := sh) (aw := 0) (ki := ki) (op := op) (fa := fa) (K := K) (G := G) (T := T) (hn := (by first | omega | assumption | rfl | (simp only []; omega) | decide)) (hm := (by first | omega | assumption | rfl | (simp only []; omega) | decide)) (hK := (by first | omega | assumption | rfl | (simp only []; omega) | decide)) (hG := (by first | omega | assumption | rfl | (simp only []; omega) | decide)) (hT := (by first | omega | assumption | rfl | (simp only []; omega) | decide)) (hA2 := (by first | omega | assumption | rfl | (simp only []; omega) | decide)) (hB := (by first | omega | assumption | rfl | (simp only []; omega) | decide)) (hM := (by first | omega | assumption | rfl | (simp only []; omega) | decide))) cf_X1_live lk_X4_158 rfl rfl rfl rfl rfl (by decide +kernel) (Nat.le_of_ble_eq_true rfl) (fun rv_18 wv_19 hp_20 hm_21 => ?_)
        clear hm_21
        obtain ⟨mg_22, X_23, Y_24, hD_25, rfl, rfl⟩ := hp_20
        show VV E 0 0 51 [(0, .ref x0), (1, .int (nI jk)), (2, .int (nI j_8))] [] [(x0, .inr (4, [.ref a0, .ref xm, .ref xp, .int (bz pd), .ref b0, .ref g0, .ref s0, .ref w0, .int (nI rs), .ref y0])), (a0, .inr (2, [.int (nI n), .int (nI m), .int (nI sh), .int (nI 0), .ref a1, .ref a2, .ref a3, .ref a4, .ref a5, .ref a6])), (a1, .inl (cI, 7, .inl (nIf ki))), (a2, .inl (cI, 7, .inl (nIf op))), (a3, .inl (cI, 7, .inl (nIf fa))), (a4, .inl (cI, 6, .inl (nIf K))), (a5, .inl (cI, 6, .inl (nIf G))), (a6, .inl (cI, 6, .inl (nIf T))), (b0, .inr (1, [.int (nI n), .int (nI m), .ref b1, .ref b2, .ref b3])), (b1, .inl (cI, 6, .inl (nIf mg_22))), (b2, .inl (cI, 144, .inl (mIf Y_24))), (b3, .inl (cI, 175, .inl (nIf X_23))), (y0, .inl (cI, 7, .inl (nIf R)))]
        have hD9 := hD_25
        refine v_bp (v := (-9)) 53 zC dX4_dinner_51 (by decide +kernel) ?_
        refine v_is_n (lv2 := [(3, .int (-9)), (0, .ref x0), (1, .int (nI jk)), (2, .int (nI j_8))]) 54 zC dX4_dinner_53 (by rw [hnE]; decide) rfl ?_
        refine v_ic (v := (nI 0)) 55 zC dX4_dinner_54 (by decide +kernel) ?_
        refine v_is (lv2 := [(4, .int (nI 0)), (3, .int (-9)), (0, .ref x0), (1, .int (nI jk)), (2, .int (nI j_8))]) 57 zC dX4_dinner_55 (by rw [hnE]; decide) rfl ?_
        refine v_ic (v := (nI 0)) 58 zC dX4_dinner_57 (by decide +kernel) ?_
        refine v_is (lv2 := [(5, .int (nI 0)), (4, .int (nI 0)), (3, .int (-9)), (0, .ref x0), (1, .int (nI jk)), (2, .int (nI j_8))]) 60 zC dX4_dinner_58 (by rw [hnE]; decide) rfl ?_
        have lp60 : ∀ (mz : Nat) (B : Option Nat) (x : Nat) (f : Nat), ((B, x) = it (dinS (n, m, sh, 0, ki, op, fa, K, G, T) jk) (none, 0) f) → (f ≤ 25 - jk) → (x ≤ 72) → (∀ v, B = some v → v ≤ 24) → 25 - jk - f = mz → VV E 0 0 60 [(5, .int (nI f)), (4, .int (nI x)), (3, .int (mI B)), (0, .ref x0), (1, .int (nI jk)), (2, .int (nI j_8))] [] [(x0, .inr (4, [.ref a0, .ref xm, .ref xp, .int (bz pd), .ref b0, .ref g0, .ref s0, .ref w0, .int (nI rs), .ref y0])), (a0, .inr (2, [.int (nI n), .int (nI m), .int (nI sh), .int (nI 0), .ref a1, .ref a2, .ref a3, .ref a4, .ref a5, .ref a6])), (a1, .inl (cI, 7, .inl (nIf ki))), (a2, .inl (cI, 7, .inl (nIf op))), (a3, .inl (cI, 7, .inl (nIf fa))), (a4, .inl (cI, 6, .inl (nIf K))), (a5, .inl (cI, 6, .inl (nIf G))), (a6, .inl (cI, 6, .inl (nIf T))), (b0, .inr (1, [.int (nI n), .int (nI m), .ref b1, .ref b2, .ref b3])), (b1, .inl (cI, 6, .inl (nIf mg_22))), (b2, .inl (cI, 144, .inl (mIf Y_24))), (b3, .inl (cI, 175, .inl (nIf X_23))), (y0, .inl (cI, 7, .inl (nIf R)))] := by
          intro mz
          induction mz using Nat.strongRecOn with
          | _ mz ih60 =>
          intro B x f hs hf hx hBl hm60
          refine v_il 62 zC dX4_dinner_60 0 rfl ?_
          refine v_bp (v := (nI 24)) 64 zC dX4_dinner_62 (by decide +kernel) ?_
          refine v_il_n 65 zC dX4_dinner_64 4 rfl ?_
          refine v_isub (v := (nI (24 - jk))) 66 zC dX4_dinner_65 (pk_sub (by first | omega | exact Nat.one_le_two_pow)) ?_
          refine v_icmpn_gt 132 69 zC dX4_dinner_66 (fun h_26 => ?_) (fun h_26 => ?_)
          ·
            refine v_il_n 133 zC dX4_dinner_132 5 rfl ?_
            refine v_ifn_ne 140 136 zC dX4_dinner_133 (fun h_27 => ?_) (fun h_27 => ?_)
            ·
              refine v_il 142 zC dX4_dinner_140 1 rfl ?_
              refine v_iret zC zT dX4_dinner_142  ?_
              first | exact ⟨P, Q, mf, kn, M, 4, _, by unfold q_dinner; rw [if_pos hlt9], hB, hM, rfl, rfl⟩ | exact ⟨P, Q, mf, kn, M, 6, _, by unfold q_dinner; rw [if_neg hge, if_pos hgt9], hB, hM, rfl, rfl⟩ | exact ⟨P, Q, mf, kn, M, 2, _, by unfold q_dinner; rw [if_neg hge, if_neg hle, hi_w], hB, hM, rfl, rfl⟩ | exact ⟨_, _, _, _, _, 0, _, by unfold q_dinner; rw [if_neg hge, if_neg hle, hi_w]; dsimp only; rw [nI_clamp (show jk < 2 ^ 31 by omega), show 25 - jk = f by omega, ← hs]; first | rw [if_pos (by assumption)] | rw [if_neg (by assumption)], hD9.2.2.1, hD9.2.2.2, rfl, rfl⟩
            ·
              refine v_il_n 137 zC dX4_dinner_136 2 rfl ?_
              refine v_goto 142 zC dX4_dinner_137 ?_
              refine v_iret zC zT dX4_dinner_142  ?_
              first | exact ⟨P, Q, mf, kn, M, 4, _, by unfold q_dinner; rw [if_pos hlt9], hB, hM, rfl, rfl⟩ | exact ⟨P, Q, mf, kn, M, 6, _, by unfold q_dinner; rw [if_neg hge, if_pos hgt9], hB, hM, rfl, rfl⟩ | exact ⟨P, Q, mf, kn, M, 2, _, by unfold q_dinner; rw [if_neg hge, if_neg hle, hi_w], hB, hM, rfl, rfl⟩ | exact ⟨_, _, _, _, _, 0, _, by unfold q_dinner; rw [if_neg hge, if_neg hle, hi_w]; dsimp only; rw [nI_clamp (show jk < 2 ^ 31 by omega), show 25 - jk = f by omega, ← hs]; first | rw [if_pos (by assumption)] | rw [if_neg (by assumption)], hD9.2.2.1, hD9.2.2.2, rfl, rfl⟩
          ·
            refine v_ic (v := (nI 0)) 70 zC dX4_dinner_69 (by decide +kernel) ?_
            refine v_is (lv2 := [(6, .int (nI 0)), (5, .int (nI f)), (4, .int (nI x)), (3, .int (mI B)), (0, .ref x0), (1, .int (nI jk)), (2, .int (nI j_8))]) 72 zC dX4_dinner_70 (by rw [hnE]; decide) rfl ?_
            refine v_il 74 zC dX4_dinner_72 1 rfl ?_
            refine v_is (lv2 := [(7, .int (nI f)), (6, .int (nI 0)), (5, .int (nI f)), (4, .int (nI x)), (3, .int (mI B)), (0, .ref x0), (1, .int (nI jk)), (2, .int (nI j_8))]) 76 zC dX4_dinner_74 (by rw [hnE]; decide) rfl ?_
            have lp76 : ∀ (mz : Nat) (y : Nat) (h : Nat), (y = sm (fun i => pcn (SPK (n, m, sh, 0, ki, op, fa, K, G, T) (f + i))) (h - f)) → (f ≤ h) → (h ≤ f + jk) → (y ≤ 6 * (h - f)) → f + jk - h = mz → VV E 0 0 76 [(7, .int (nI h)), (6, .int (nI y)), (5, .int (nI f)), (4, .int (nI x)), (3, .int (mI B)), (0, .ref x0), (1, .int (nI jk)), (2, .int (nI j_8))] [] [(x0, .inr (4, [.ref a0, .ref xm, .ref xp, .int (bz pd), .ref b0, .ref g0, .ref s0, .ref w0, .int (nI rs), .ref y0])), (a0, .inr (2, [.int (nI n), .int (nI m), .int (nI sh), .int (nI 0), .ref a1, .ref a2, .ref a3, .ref a4, .ref a5, .ref a6])), (a1, .inl (cI, 7, .inl (nIf ki))), (a2, .inl (cI, 7, .inl (nIf op))), (a3, .inl (cI, 7, .inl (nIf fa))), (a4, .inl (cI, 6, .inl (nIf K))), (a5, .inl (cI, 6, .inl (nIf G))), (a6, .inl (cI, 6, .inl (nIf T))), (b0, .inr (1, [.int (nI n), .int (nI m), .ref b1, .ref b2, .ref b3])), (b1, .inl (cI, 6, .inl (nIf mg_22))), (b2, .inl (cI, 144, .inl (mIf Y_24))), (b3, .inl (cI, 175, .inl (nIf X_23))), (y0, .inl (cI, 7, .inl (nIf R)))] := by
              intro mz
              induction mz using Nat.strongRecOn with
              | _ mz ih76 =>
              intro y h hy hb1 hh hyl hm76
              refine v_il 78 zC dX4_dinner_76 0 rfl ?_
              refine v_il 80 zC dX4_dinner_78 2 rfl ?_
              refine v_il_n 81 zC dX4_dinner_80 6 rfl ?_
              refine v_iadd (v := (nI (f + jk))) 82 zC dX4_dinner_81 (nI_add _ _) ?_
              refine v_icmpn_ge 108 85 zC dX4_dinner_82 (fun h_28 => ?_) (fun h_28 => ?_)
              ·
                have hy8 : DINS (n, m, sh, 0, ki, op, fa, K, G, T) jk f = y := by rw [hy, show h - f = jk by omega]; rfl
                refine v_il_n 109 zC dX4_dinner_108 4 rfl ?_
                refine v_ifo_lt 119 112 zC dX4_dinner_109 (fun v e => by have := hBl v e; omega) (fun h_29 => ?_) (fun h_29 => ?_)
                ·
                  have hp9 := h_29
                  refine v_il 121 zC dX4_dinner_119 1 rfl ?_
                  refine v_is (lv2 := [(4, .int (nI y)), (7, .int (nI h)), (6, .int (nI y)), (5, .int (nI f)), (3, .int (mI B)), (0, .ref x0), (1, .int (nI jk)), (2, .int (nI j_8))]) 123 zC dX4_dinner_121 (by rw [hnE]; decide) rfl ?_
                  refine v_il 125 zC dX4_dinner_123 3 rfl ?_
                  refine v_is_n (lv2 := [(3, .int (nI f)), (4, .int (nI y)), (7, .int (nI h)), (6, .int (nI y)), (5, .int (nI f)), (0, .ref x0), (1, .int (nI jk)), (2, .int (nI j_8))]) 126 zC dX4_dinner_125 (by rw [hnE]; decide) rfl ?_
                  refine v_inc (v := (nI (f + 1))) (lv2 := [(5, .int (nI (f + 1))), (3, .int (nI f)), (4, .int (nI y)), (7, .int (nI h)), (6, .int (nI y)), (0, .ref x0), (1, .int (nI jk)), (2, .int (nI j_8))]) 129 zC dX4_dinner_126 (j := 4) rfl (nI_add _ 1) (by rw [hnE]; decide) rfl ?_
                  refine v_goto 60 zC dX4_dinner_129 ?_
                  refine v_lvs (lv2 := [(5, .int (nI (f + 1))), (4, .int (nI y)), (3, .int (mI (some f))), (0, .ref x0), (1, .int (nI jk)), (2, .int (nI j_8))]) [0, 2, 1, 5, 6, 7] rfl ?_
                  exact ih60 _ (by omega) (some f) y (f + 1) (it_s hs (by first | exact (din_1 hp9).trans (by rw [hy8]) | exact (din_2 hu9).trans (by rw [hy8]) | exact din_0 hq9 hv9)) (by first | omega | assumption | rfl | (simp only []; omega) | decide) (by first | omega | assumption | rfl | (simp only []; omega) | decide) (fun v e => by first | exact hBl v e | (cases e; omega)) rfl
                ·
                  have hq9 := h_29
                  refine v_il 114 zC dX4_dinner_112 1 rfl ?_
                  refine v_il 116 zC dX4_dinner_114 3 rfl ?_
                  refine v_icmpn_ge 126 119 zC dX4_dinner_116 (fun h_30 => ?_) (fun h_30 => ?_)
                  ·
                    have hv9 := Nat.le_trans h_30 (Nat.le_of_eq hy8.symm)
                    refine v_inc (v := (nI (f + 1))) (lv2 := [(5, .int (nI (f + 1))), (7, .int (nI h)), (6, .int (nI y)), (4, .int (nI x)), (3, .int (mI B)), (0, .ref x0), (1, .int (nI jk)), (2, .int (nI j_8))]) 129 zC dX4_dinner_126 (j := 2) rfl (nI_add _ 1) (by rw [hnE]; decide) rfl ?_
                    refine v_goto 60 zC dX4_dinner_129 ?_
                    refine v_lvs (lv2 := [(5, .int (nI (f + 1))), (4, .int (nI x)), (3, .int (mI B)), (0, .ref x0), (1, .int (nI jk)), (2, .int (nI j_8))]) [0, 3, 4, 5, 6, 7] rfl ?_
                    exact ih60 _ (by omega) B x (f + 1) (it_s hs (by first | exact (din_1 hp9).trans (by rw [hy8]) | exact (din_2 hu9).trans (by rw [hy8]) | exact din_0 hq9 hv9)) (by first | omega | assumption | rfl | (simp only []; omega) | decide) (by first | omega | assumption | rfl | (simp only []; omega) | decide) (fun v e => by first | exact hBl v e | (cases e; omega)) rfl
                  ·
                    have hu9 := Nat.lt_of_le_of_lt (Nat.le_of_eq hy8) h_30
                    refine v_il 121 zC dX4_dinner_119 1 rfl ?_
                    refine v_is (lv2 := [(4, .int (nI y)), (7, .int (nI h)), (6, .int (nI y)), (5, .int (nI f)), (3, .int (mI B)), (0, .ref x0), (1, .int (nI jk)), (2, .int (nI j_8))]) 123 zC dX4_dinner_121 (by rw [hnE]; decide) rfl ?_
                    refine v_il 125 zC dX4_dinner_123 3 rfl ?_
                    refine v_is_n (lv2 := [(3, .int (nI f)), (4, .int (nI y)), (7, .int (nI h)), (6, .int (nI y)), (5, .int (nI f)), (0, .ref x0), (1, .int (nI jk)), (2, .int (nI j_8))]) 126 zC dX4_dinner_125 (by rw [hnE]; decide) rfl ?_
                    refine v_inc (v := (nI (f + 1))) (lv2 := [(5, .int (nI (f + 1))), (3, .int (nI f)), (4, .int (nI y)), (7, .int (nI h)), (6, .int (nI y)), (0, .ref x0), (1, .int (nI jk)), (2, .int (nI j_8))]) 129 zC dX4_dinner_126 (j := 4) rfl (nI_add _ 1) (by rw [hnE]; decide) rfl ?_
                    refine v_goto 60 zC dX4_dinner_129 ?_
                    refine v_lvs (lv2 := [(5, .int (nI (f + 1))), (4, .int (nI y)), (3, .int (mI (some f))), (0, .ref x0), (1, .int (nI jk)), (2, .int (nI j_8))]) [0, 2, 1, 5, 6, 7] rfl ?_
                    exact ih60 _ (by omega) (some f) y (f + 1) (it_s hs (by first | exact (din_1 hp9).trans (by rw [hy8]) | exact (din_2 hu9).trans (by rw [hy8]) | exact din_0 hq9 hv9)) (by first | omega | assumption | rfl | (simp only []; omega) | decide) (by first | omega | assumption | rfl | (simp only []; omega) | decide) (fun v e => by first | exact hBl v e | (cases e; omega)) rfl
              ·
                refine v_il 87 zC dX4_dinner_85 1 rfl ?_
                refine v_al_n 88 zC dX4_dinner_87 5 rfl ?_
                refine v_gf 91 0 zC dX4_dinner_88 gf_X4_25 rfl rfl ?_
                refine v_il 93 zC dX4_dinner_91 0 rfl ?_
                refine v_cV (As := [.int (nI h)]) (st := [.int (nI y)]) 96 8 [8, 10] zC dX4_dinner_93 hA (c_X1_speakers (ev_l E) (ev_D E) cI (b0 := b0) (b1 := b1) (b2 := b2) (b3 := b3) (P := n) (Q := m) (M := Y_24) (h := h) (hQ := (by first | omega | assumption | rfl | (simp only []; omega) | decide)) (hh := (by first | omega | assumption | rfl | (simp only []; omega) | decide)) (hM := hD9.2.2.2)) cf_X1_speakers lk_X4_175 rfl rfl rfl rfl rfl (by decide +kernel) (Nat.le_of_ble_eq_true rfl) (fun rv_31 wv_32 hp_33 hm_34 => ?_)
                clear hm_34
                obtain ⟨rfl, rfl⟩ := hp_33
                show VV E 0 0 96 [(7, .int (nI h)), (6, .int (nI y)), (5, .int (nI f)), (4, .int (nI x)), (3, .int (mI B)), (0, .ref x0), (1, .int (nI jk)), (2, .int (nI j_8))] [.int (nI (mkn (fun d => (Y_24 (h * 6 + d)).isSome) m)), .int (nI y)] [(x0, .inr (4, [.ref a0, .ref xm, .ref xp, .int (bz pd), .ref b0, .ref g0, .ref s0, .ref w0, .int (nI rs), .ref y0])), (a0, .inr (2, [.int (nI n), .int (nI m), .int (nI sh), .int (nI 0), .ref a1, .ref a2, .ref a3, .ref a4, .ref a5, .ref a6])), (a1, .inl (cI, 7, .inl (nIf ki))), (a2, .inl (cI, 7, .inl (nIf op))), (a3, .inl (cI, 7, .inl (nIf fa))), (a4, .inl (cI, 6, .inl (nIf K))), (a5, .inl (cI, 6, .inl (nIf G))), (a6, .inl (cI, 6, .inl (nIf T))), (b0, .inr (1, [.int (nI n), .int (nI m), .ref b1, .ref b2, .ref b3])), (b1, .inl (cI, 6, .inl (nIf mg_22))), (b2, .inl (cI, 144, .inl (mIf Y_24))), (b3, .inl (cI, 175, .inl (nIf X_23))), (y0, .inl (cI, 7, .inl (nIf R)))]
                rw [dk_spk hD9 (by omega)]
                have hs9 : SPK (n, m, sh, 0, ki, op, fa, K, G, T) h < 2 ^ 6 := Nat.lt_of_lt_of_le (mkn_lt _ _) (Nat.pow_le_pow_right (by decide) hm)
                refine v_cS (As := [.int (nI (SPK (n, m, sh, 0, ki, op, fa, K, G, T) h))]) (st := [.int (nI y)]) 99 [] zC dX4_dinner_96 hA (c_J6_bitCount_0f7a4 (ev_l E) (ev_D E) cI (x := (SPK (n, m, sh, 0, ki, op, fa, K, G, T) h)) (hx := (Nat.lt_trans hs9 (by decide)))) cf_J6_bitCount_0f7a4 lk_X4_178 rfl rfl rfl (by decide +kernel) (Nat.le_of_ble_eq_true rfl) (fun rv_35 wv_36 hp_37 hm_38 => ?_)
                clear hm_38
                obtain ⟨rfl, rfl⟩ := hp_37
                show VV E 0 0 99 [(7, .int (nI h)), (6, .int (nI y)), (5, .int (nI f)), (4, .int (nI x)), (3, .int (mI B)), (0, .ref x0), (1, .int (nI jk)), (2, .int (nI j_8))] [.int (nI (pcn (SPK (n, m, sh, 0, ki, op, fa, K, G, T) h))), .int (nI y)] [(x0, .inr (4, [.ref a0, .ref xm, .ref xp, .int (bz pd), .ref b0, .ref g0, .ref s0, .ref w0, .int (nI rs), .ref y0])), (a0, .inr (2, [.int (nI n), .int (nI m), .int (nI sh), .int (nI 0), .ref a1, .ref a2, .ref a3, .ref a4, .ref a5, .ref a6])), (a1, .inl (cI, 7, .inl (nIf ki))), (a2, .inl (cI, 7, .inl (nIf op))), (a3, .inl (cI, 7, .inl (nIf fa))), (a4, .inl (cI, 6, .inl (nIf K))), (a5, .inl (cI, 6, .inl (nIf G))), (a6, .inl (cI, 6, .inl (nIf T))), (b0, .inr (1, [.int (nI n), .int (nI m), .ref b1, .ref b2, .ref b3])), (b1, .inl (cI, 6, .inl (nIf mg_22))), (b2, .inl (cI, 144, .inl (mIf Y_24))), (b3, .inl (cI, 175, .inl (nIf X_23))), (y0, .inl (cI, 7, .inl (nIf R)))]
                have hc9 : pcn (SPK (n, m, sh, 0, ki, op, fa, K, G, T) h) ≤ 6 := pcn_k 6 _ hs9
                refine v_iadd (v := (nI (y + (pcn (SPK (n, m, sh, 0, ki, op, fa, K, G, T) h))))) 100 zC dX4_dinner_99 (nI_add _ _) ?_
                refine v_is (lv2 := [(6, .int (nI (y + (pcn (SPK (n, m, sh, 0, ki, op, fa, K, G, T) h))))), (7, .int (nI h)), (5, .int (nI f)), (4, .int (nI x)), (3, .int (mI B)), (0, .ref x0), (1, .int (nI jk)), (2, .int (nI j_8))]) 102 zC dX4_dinner_100 (by rw [hnE]; decide) rfl ?_
                refine v_inc (v := (nI (h + 1))) (lv2 := [(7, .int (nI (h + 1))), (6, .int (nI (y + (pcn (SPK (n, m, sh, 0, ki, op, fa, K, G, T) h))))), (5, .int (nI f)), (4, .int (nI x)), (3, .int (mI B)), (0, .ref x0), (1, .int (nI jk)), (2, .int (nI j_8))]) 105 zC dX4_dinner_102 (j := 1) rfl (nI_add _ 1) (by rw [hnE]; decide) rfl ?_
                refine v_goto 76 zC dX4_dinner_105 ?_
                refine v_lvs (lv2 := [(7, .int (nI (h + 1))), (6, .int (nI (y + (pcn (SPK (n, m, sh, 0, ki, op, fa, K, G, T) h))))), (5, .int (nI f)), (4, .int (nI x)), (3, .int (mI B)), (0, .ref x0), (1, .int (nI jk)), (2, .int (nI j_8))]) [0, 1, 2, 3, 4, 5, 6, 7] rfl ?_
                exact ih76 _ (by omega) (y + (pcn (SPK (n, m, sh, 0, ki, op, fa, K, G, T) h))) (h + 1) (din_s hy hb1) (by first | omega | assumption | rfl | (simp only []; omega) | decide) (by first | omega | assumption | rfl | (simp only []; omega) | decide) (by first | omega | assumption | rfl | (simp only []; omega) | decide) rfl
            refine v_lvs (lv2 := [(7, .int (nI f)), (6, .int (nI 0)), (5, .int (nI f)), (4, .int (nI x)), (3, .int (mI B)), (0, .ref x0), (1, .int (nI jk)), (2, .int (nI j_8))]) [0, 1, 2, 3, 4, 5, 6, 7] rfl ?_
            exact lp76 _ 0 f din_z (by first | omega | assumption | rfl | (simp only []; omega) | decide) (by first | omega | assumption | rfl | (simp only []; omega) | decide) (by first | omega | assumption | rfl | (simp only []; omega) | decide) rfl
        refine v_lvs (lv2 := [(5, .int (nI 0)), (4, .int (nI 0)), (3, .int (mI none)), (0, .ref x0), (1, .int (nI jk)), (2, .int (nI j_8))]) [0, 1, 2, 3, 4, 5] rfl ?_
        exact lp60 _ none 0 0 (by first | omega | assumption | rfl | (simp only []; omega) | decide) (by first | omega | assumption | rfl | (simp only []; omega) | decide) (by first | omega | assumption | rfl | (simp only []; omega) | decide) (fun v e => by cases e) rfl
    ·
      have hgt9 : nI 12 < k := Int32.not_le.mp h_2
      refine v_al_n 19 zC dX4_dinner_18 0 rfl ?_
      refine v_bp (v := (-6)) 21 zC dX4_dinner_19 (by decide +kernel) ?_
      refine v_cV (As := [.int (-6)]) (st := []) 24 0 [0, 12] zC dX4_dinner_21 hA (c_X4_refuse (ev_l E) (ev_D E) cI (x0 := x0) (xn := a0) (xm := xm) (xp := xp) (b0 := b0) (g0 := g0) (s0 := s0) (w0 := w0) (y0 := y0) (pd := pd) (rs := rs) (R := R) (v := (-6)) (j := 6) (hv := (by first | omega | assumption | rfl | (simp only []; omega) | decide)) (h1 := (by first | omega | assumption | rfl | (simp only []; omega) | decide)) (h6 := (by first | omega | assumption | rfl | (simp only []; omega) | decide))) cf_X4_refuse lk_X4_50 rfl rfl rfl rfl rfl (by decide +kernel) (Nat.le_of_ble_eq_true rfl) (fun rv_39 wv_40 hp_41 hm_42 => ?_)
      clear hm_42
      obtain ⟨rfl, rfl⟩ := hp_41
      show VV E 0 0 24 [(0, .ref x0), (1, .int k), (2, .int w)] [.int (-6)] [(x0, .inr (4, [.ref a0, .ref xm, .ref xp, .int (bz pd), .ref b0, .ref g0, .ref s0, .ref w0, .int (nI rs), .ref y0])), (a0, .inr (2, [.int (nI n), .int (nI m), .int (nI sh), .int (nI 0), .ref a1, .ref a2, .ref a3, .ref a4, .ref a5, .ref a6])), (a1, .inl (cI, 7, .inl (nIf ki))), (a2, .inl (cI, 7, .inl (nIf op))), (a3, .inl (cI, 7, .inl (nIf fa))), (a4, .inl (cI, 6, .inl (nIf K))), (a5, .inl (cI, 6, .inl (nIf G))), (a6, .inl (cI, 6, .inl (nIf T))), (b0, .inr (1, [.int (nI P), .int (nI Q), .ref b1, .ref b2, .ref b3])), (b1, .inl (cI, 6, .inl (nIf mf))), (b2, .inl (cI, 144, .inl (mIf M))), (b3, .inl (cI, 175, .inl (nIf kn))), (y0, .inl (cI, 7, .inl (nIf (un R 6 (R 6 + 1)))))]
      refine v_iret zC zT dX4_dinner_24  ?_
      first | exact ⟨P, Q, mf, kn, M, 4, _, by unfold q_dinner; rw [if_pos hlt9], hB, hM, rfl, rfl⟩ | exact ⟨P, Q, mf, kn, M, 6, _, by unfold q_dinner; rw [if_neg hge, if_pos hgt9], hB, hM, rfl, rfl⟩ | exact ⟨P, Q, mf, kn, M, 2, _, by unfold q_dinner; rw [if_neg hge, if_neg hle, hi_w], hB, hM, rfl, rfl⟩ | exact ⟨_, _, _, _, _, 0, _, by unfold q_dinner; rw [if_neg hge, if_neg hle, hi_w]; dsimp only; rw [nI_clamp (show jk < 2 ^ 31 by omega), show 25 - jk = f by omega, ← hs]; first | rw [if_pos (by assumption)] | rw [if_neg (by assumption)], hD9.2.2.1, hD9.2.2.2, rfl, rfl⟩
  ·
    have hlt9 : k < nI 1 := Int32.not_le.mp h_1
    refine v_al_n 6 zC dX4_dinner_5 0 rfl ?_
    refine v_bp (v := (-4)) 8 zC dX4_dinner_6 (by decide +kernel) ?_
    refine v_cV (As := [.int (-4)]) (st := []) 11 0 [0, 12] zC dX4_dinner_8 hA (c_X4_refuse (ev_l E) (ev_D E) cI (x0 := x0) (xn := a0) (xm := xm) (xp := xp) (b0 := b0) (g0 := g0) (s0 := s0) (w0 := w0) (y0 := y0) (pd := pd) (rs := rs) (R := R) (v := (-4)) (j := 4) (hv := (by first | omega | assumption | rfl | (simp only []; omega) | decide)) (h1 := (by first | omega | assumption | rfl | (simp only []; omega) | decide)) (h6 := (by first | omega | assumption | rfl | (simp only []; omega) | decide))) cf_X4_refuse lk_X4_50 rfl rfl rfl rfl rfl (by decide +kernel) (Nat.le_of_ble_eq_true rfl) (fun rv_43 wv_44 hp_45 hm_46 => ?_)
    clear hm_46
    obtain ⟨rfl, rfl⟩ := hp_45
    show VV E 0 0 11 [(0, .ref x0), (1, .int k), (2, .int w)] [.int (-4)] [(x0, .inr (4, [.ref a0, .ref xm, .ref xp, .int (bz pd), .ref b0, .ref g0, .ref s0, .ref w0, .int (nI rs), .ref y0])), (a0, .inr (2, [.int (nI n), .int (nI m), .int (nI sh), .int (nI 0), .ref a1, .ref a2, .ref a3, .ref a4, .ref a5, .ref a6])), (a1, .inl (cI, 7, .inl (nIf ki))), (a2, .inl (cI, 7, .inl (nIf op))), (a3, .inl (cI, 7, .inl (nIf fa))), (a4, .inl (cI, 6, .inl (nIf K))), (a5, .inl (cI, 6, .inl (nIf G))), (a6, .inl (cI, 6, .inl (nIf T))), (b0, .inr (1, [.int (nI P), .int (nI Q), .ref b1, .ref b2, .ref b3])), (b1, .inl (cI, 6, .inl (nIf mf))), (b2, .inl (cI, 144, .inl (mIf M))), (b3, .inl (cI, 175, .inl (nIf kn))), (y0, .inl (cI, 7, .inl (nIf (un R 4 (R 4 + 1)))))]
    refine v_iret zC zT dX4_dinner_11  ?_
    first | exact ⟨P, Q, mf, kn, M, 4, _, by unfold q_dinner; rw [if_pos hlt9], hB, hM, rfl, rfl⟩ | exact ⟨P, Q, mf, kn, M, 6, _, by unfold q_dinner; rw [if_neg hge, if_pos hgt9], hB, hM, rfl, rfl⟩ | exact ⟨P, Q, mf, kn, M, 2, _, by unfold q_dinner; rw [if_neg hge, if_neg hle, hi_w], hB, hM, rfl, rfl⟩ | exact ⟨_, _, _, _, _, 0, _, by unfold q_dinner; rw [if_neg hge, if_neg hle, hi_w]; dsimp only; rw [nI_clamp (show jk < 2 ^ 31 by omega), show 25 - jk = f by omega, ← hs]; first | rw [if_pos (by assumption)] | rw [if_neg (by assumption)], hD9.2.2.1, hD9.2.2.2, rfl, rfl⟩
