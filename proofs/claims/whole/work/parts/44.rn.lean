set_option maxRecDepth 100000 in
set_option maxHeartbeats 4000000 in
theorem lawc_0 {E : EV} {cI : ClassId} {b L i : Nat} {xs : Nat → Int32} (x0 a0 a1 a2 a3 a4 a5 a6 c0 c1 c2 c3 c4 c5 c6 e0 e1 e2 e3 e4 e5 e6 b0 b1 b2 b3 g0 g1 g2 g3 s0 s1 w0 y0 r0 k1 k2 k3 k4 k6 k7 k8 k10 k12 k13 k14 k15 k16 k21 k22 k23 k24 k25 k30 k31 k33 : Nat) (zC : CX E cL_law RL (some .boolean) cI room_1) (hA : ∀ q, (ev_s E).heap.size ≤ q → ev_A E q) (hX : XS E b L xs) (hL : L ≤ 2560) (hi : i + 5 ≤ L) (kk : LGO E cI 1756 b i x0 a0 a1 a2 a3 a4 a5 a6 c0 c1 c2 c3 c4 c5 c6 e0 e1 e2 e3 e4 e5 e6 b0 b1 b2 b3 g0 g1 g2 g3 s0 s1 w0 y0 r0 k1 k2 k3 k4 k6 k7 k8 k10 k12 k13 k14 k15 k16 k21 k22 k23 k24 k25 k30 k31 k33) : LGO E cI 280 b i x0 a0 a1 a2 a3 a4 a5 a6 c0 c1 c2 c3 c4 c5 c6 e0 e1 e2 e3 e4 e5 e6 b0 b1 b2 b3 g0 g1 g2 g3 s0 s1 w0 y0 r0 k1 k2 k3 k4 k6 k7 k8 k10 k12 k13 k14 k15 k16 k21 k22 k23 k24 k25 k30 k31 k33 := by
  intro n m sh n5 m5 sh5 aw5 n2 m2 sh2 aw2 P Q cs ls rs ap sq pl ki op fa K G T ki5 op5 fa5 K5 G5 T5 ki2 op2 fa2 K2 G2 T2 mf kn so wh va sg rw R kw kr mw pi tl kp im tu to M Mr lo pd bd tk kv sd hI
  obtain ⟨hw, hw5, hw2, hB, hM, hcs, hH, hl, hsg, hr, hrw, hkw, hkr, hMr, hE9⟩ := hI
  obtain ⟨hn, hm, hsh, hki, hop, hfa, hK, hG, hT, -⟩ := id hw
  refine v_al_n 281 zC dL_law_280 2 rfl ?_
  refine v_al_n 282 zC dL_law_281 3 rfl ?_
  refine v_il_n 283 zC dL_law_282 0 rfl ?_
  refine v_ic (v := (nI 1)) 284 zC dL_law_283 (by decide +kernel) ?_
  refine v_iadd (v := (nI (i + 1))) 285 zC dL_law_284 (nI_add _ _) ?_
  refine v_sld 286 zC hX dL_law_285 (by omega) hL ?_
  refine v_cV2 (As := [.int (xs (i + 1))]) (st := []) 289 0 [0, 17, 18, 12] zC dL_law_286 hA (c_X4_feed (ev_l E) (ev_D E) cI (x0 := x0) (xn := a0) (xm := c0) (xp := e0) (b0 := b0) (g0 := g0) (s0 := s0) (w0 := w0) (y0 := y0) (pd := pd) (rs := rs) (s1 := s1) (ls := ls) (sg := sg) (R := R) (v := (xs (i + 1))) (hl := hl)) cf_X4_feed lk_L_13 rfl rfl rfl rfl rfl (by decide +kernel) (Nat.le_of_ble_eq_true rfl) (fun rv_1 wv_2 hp_3 hm_4 => ?_)
  clear hm_4
  rcases hp_3 with ⟨hq_5, rfl, rfl⟩ | ⟨hq_6, hq2_7, rfl, rfl⟩ | ⟨k_8, hk_9, hr_10, rfl, rfl⟩
  ·
    rw [sa_0]
    refine v_al_n 290 zC dL_law_289 1 rfl ?_
    refine v_al_n 291 zC dL_law_290 3 rfl ?_
    refine v_il_n 292 zC dL_law_291 0 rfl ?_
    refine v_ic (v := (nI 1)) 293 zC dL_law_292 (by decide +kernel) ?_
    refine v_iadd (v := (nI (i + 1))) 294 zC dL_law_293 (nI_add _ _) ?_
    refine v_sld 295 zC hX dL_law_294 (by omega) hL ?_
    refine v_swap ?_
    refine v_cV2 (As := [.int (xs (i + 1))]) (st := [.int (-4)]) 298 0 [0, 14, 12] zC dL_law_295 hA (c_X5_feed (ev_l E) (ev_D E) cI (r0 := r0) (k1 := k1) (k2 := k2) (k3 := k3) (k4 := k4) (k6 := k6) (k7 := k7) (k8 := k8) (k10 := k10) (k12 := k12) (k13 := k13) (k14 := k14) (k15 := k15) (k16 := k16) (k21 := k21) (k22 := k22) (k23 := k23) (k24 := k24) (k25 := k25) (k30 := k30) (k31 := k31) (k33 := k33) (n := n) (m := m) (ls := ls) (ap := ap) (sq := sq) (pl := pl) (tz := cs) (rs := rs) (bd := bd) (pd := pd) (tk := tk) (kv := kv) (sd := sd) (sg := sg) (R := R) (v := (xs (i + 1))) (hl := hl)) cf_X5_feed lk_L_17 rfl rfl rfl rfl rfl (by decide +kernel) (Nat.le_of_ble_eq_true rfl) (fun rv_11 wv_12 hp_13 hm_14 => ?_)
    clear hm_14
    rcases hp_13 with ⟨hq_15, rfl, rfl⟩ | ⟨hq_16, hq2_17, rfl, rfl⟩ | ⟨k_18, hk_19, hr_20, rfl, rfl⟩
    ·
      rw [sa_1]
      refine v_eqi 1756 zC dL_law_298 (by first | rfl | assumption) ?_
      refine v_swap ?_
      exact kk n m sh n5 m5 sh5 aw5 n2 m2 sh2 aw2 P Q cs ls rs ap sq pl ki op fa K G T ki5 op5 fa5 K5 G5 T5 ki2 op2 fa2 K2 G2 T2 mf kn so wh va sg rw (un R 4 (R 4 + 1)) kw kr mw pi tl kp im tu to M Mr lo pd bd tk kv sd ⟨(by first | assumption | exact trivial | omega | exact hf9 | exact hH9), (by first | assumption | exact trivial | omega | exact hf9 | exact hH9), (by first | assumption | exact trivial | omega | exact hf9 | exact hH9), (by first | assumption | exact trivial | omega | exact hf9 | exact hH9), (by first | assumption | exact trivial | omega | exact hf9 | exact hH9), (by first | assumption | exact trivial | omega | exact hf9 | exact hH9), (by first | assumption | exact trivial | omega | exact hf9 | exact hH9), (by first | assumption | exact trivial | omega | exact hf9 | exact hH9), (by first | assumption | exact trivial | omega | exact hf9 | exact hH9), (by first | assumption | exact trivial | omega | exact hf9 | exact hH9), (by first | assumption | exact trivial | omega | exact hf9 | exact hH9), (by first | assumption | exact trivial | omega | exact hf9 | exact hH9), (by first | assumption | exact trivial | omega | exact hf9 | exact hH9), (by first | assumption | exact trivial | omega | exact hf9 | exact hH9), (by first | assumption | exact trivial | omega | exact hf9 | exact hH9)⟩
    ·
      rw [sa_1]
      exact (no_feed_0_1 hq_5 hq_16 hq2_17).elim
    ·
      rw [sa_1]
      exact (no_feed_0_2 hq_5 hk_19 hr_20).elim
  ·
    rw [sa_0]
    refine v_al_n 290 zC dL_law_289 1 rfl ?_
    refine v_al_n 291 zC dL_law_290 3 rfl ?_
    refine v_il_n 292 zC dL_law_291 0 rfl ?_
    refine v_ic (v := (nI 1)) 293 zC dL_law_292 (by decide +kernel) ?_
    refine v_iadd (v := (nI (i + 1))) 294 zC dL_law_293 (nI_add _ _) ?_
    refine v_sld 295 zC hX dL_law_294 (by omega) hL ?_
    refine v_swap ?_
    refine v_cV2 (As := [.int (xs (i + 1))]) (st := [.int (-6)]) 298 0 [0, 14, 12] zC dL_law_295 hA (c_X5_feed (ev_l E) (ev_D E) cI (r0 := r0) (k1 := k1) (k2 := k2) (k3 := k3) (k4 := k4) (k6 := k6) (k7 := k7) (k8 := k8) (k10 := k10) (k12 := k12) (k13 := k13) (k14 := k14) (k15 := k15) (k16 := k16) (k21 := k21) (k22 := k22) (k23 := k23) (k24 := k24) (k25 := k25) (k30 := k30) (k31 := k31) (k33 := k33) (n := n) (m := m) (ls := ls) (ap := ap) (sq := sq) (pl := pl) (tz := cs) (rs := rs) (bd := bd) (pd := pd) (tk := tk) (kv := kv) (sd := sd) (sg := sg) (R := R) (v := (xs (i + 1))) (hl := hl)) cf_X5_feed lk_L_17 rfl rfl rfl rfl rfl (by decide +kernel) (Nat.le_of_ble_eq_true rfl) (fun rv_21 wv_22 hp_23 hm_24 => ?_)
    clear hm_24
    rcases hp_23 with ⟨hq_25, rfl, rfl⟩ | ⟨hq_26, hq2_27, rfl, rfl⟩ | ⟨k_28, hk_29, hr_30, rfl, rfl⟩
    ·
      rw [sa_1]
      exact (no_feed_1_0 hq_6 hq2_7 hq_25).elim
    ·
      rw [sa_1]
      refine v_eqi 1756 zC dL_law_298 (by first | rfl | assumption) ?_
      refine v_swap ?_
      exact kk n m sh n5 m5 sh5 aw5 n2 m2 sh2 aw2 P Q cs ls rs ap sq pl ki op fa K G T ki5 op5 fa5 K5 G5 T5 ki2 op2 fa2 K2 G2 T2 mf kn so wh va sg rw (un R 6 (R 6 + 1)) kw kr mw pi tl kp im tu to M Mr lo pd bd tk kv sd ⟨(by first | assumption | exact trivial | omega | exact hf9 | exact hH9), (by first | assumption | exact trivial | omega | exact hf9 | exact hH9), (by first | assumption | exact trivial | omega | exact hf9 | exact hH9), (by first | assumption | exact trivial | omega | exact hf9 | exact hH9), (by first | assumption | exact trivial | omega | exact hf9 | exact hH9), (by first | assumption | exact trivial | omega | exact hf9 | exact hH9), (by first | assumption | exact trivial | omega | exact hf9 | exact hH9), (by first | assumption | exact trivial | omega | exact hf9 | exact hH9), (by first | assumption | exact trivial | omega | exact hf9 | exact hH9), (by first | assumption | exact trivial | omega | exact hf9 | exact hH9), (by first | assumption | exact trivial | omega | exact hf9 | exact hH9), (by first | assumption | exact trivial | omega | exact hf9 | exact hH9), (by first | assumption | exact trivial | omega | exact hf9 | exact hH9), (by first | assumption | exact trivial | omega | exact hf9 | exact hH9), (by first | assumption | exact trivial | omega | exact hf9 | exact hH9)⟩
    ·
      rw [sa_1]
      exact (no_feed_1_2 hq_6 hq2_7 hk_29 hr_30).elim
  ·
    rw [sa_0]
    refine v_al_n 290 zC dL_law_289 1 rfl ?_
    refine v_al_n 291 zC dL_law_290 3 rfl ?_
    refine v_il_n 292 zC dL_law_291 0 rfl ?_
    refine v_ic (v := (nI 1)) 293 zC dL_law_292 (by decide +kernel) ?_
    refine v_iadd (v := (nI (i + 1))) 294 zC dL_law_293 (nI_add _ _) ?_
    refine v_sld 295 zC hX dL_law_294 (by omega) hL ?_
    refine v_swap ?_
    refine v_cV2 (As := [.int (xs (i + 1))]) (st := [.int (nI (ls + 1))]) 298 0 [0, 14, 12] zC dL_law_295 hA (c_X5_feed (ev_l E) (ev_D E) cI (r0 := r0) (k1 := k1) (k2 := k2) (k3 := k3) (k4 := k4) (k6 := k6) (k7 := k7) (k8 := k8) (k10 := k10) (k12 := k12) (k13 := k13) (k14 := k14) (k15 := k15) (k16 := k16) (k21 := k21) (k22 := k22) (k23 := k23) (k24 := k24) (k25 := k25) (k30 := k30) (k31 := k31) (k33 := k33) (n := n) (m := m) (ls := ls) (ap := ap) (sq := sq) (pl := pl) (tz := cs) (rs := rs) (bd := bd) (pd := pd) (tk := tk) (kv := kv) (sd := sd) (sg := sg) (R := R) (v := (xs (i + 1))) (hl := hl)) cf_X5_feed lk_L_17 rfl rfl rfl rfl rfl (by decide +kernel) (Nat.le_of_ble_eq_true rfl) (fun rv_31 wv_32 hp_33 hm_34 => ?_)
    clear hm_34
    rcases hp_33 with ⟨hq_35, rfl, rfl⟩ | ⟨hq_36, hq2_37, rfl, rfl⟩ | ⟨k_38, hk_39, hr_40, rfl, rfl⟩
    ·
      rw [sa_1]
      exact (no_feed_2_0 hk_9 hr_10 hq_35).elim
    ·
      rw [sa_1]
      exact (no_feed_2_1 hk_9 hr_10 hq_36 hq2_37).elim
    ·
      rw [sa_1]
      have ez := Option.some.inj (hk_9.symm.trans hk_39)
      subst ez
      have hs9 : ∀ z, un sg ls k_8 z < 256 := un_b hsg (ix_lt (by omega) hk_9)
      refine v_eqi 1756 zC dL_law_298 (by first | rfl | assumption) ?_
      refine v_swap ?_
      exact kk n m sh n5 m5 sh5 aw5 n2 m2 sh2 aw2 P Q cs (ls + 1) rs ap sq pl ki op fa K G T ki5 op5 fa5 K5 G5 T5 ki2 op2 fa2 K2 G2 T2 mf kn so wh va (un sg ls k_8) rw R kw kr mw pi tl kp im tu to M Mr lo pd bd tk kv sd ⟨(by first | assumption | exact trivial | omega | exact hf9 | exact hH9), (by first | assumption | exact trivial | omega | exact hf9 | exact hH9), (by first | assumption | exact trivial | omega | exact hf9 | exact hH9), (by first | assumption | exact trivial | omega | exact hf9 | exact hH9), (by first | assumption | exact trivial | omega | exact hf9 | exact hH9), (by first | assumption | exact trivial | omega | exact hf9 | exact hH9), (by first | assumption | exact trivial | omega | exact hf9 | exact hH9), (by first | assumption | exact trivial | omega | exact hf9 | exact hH9), (by first | assumption | exact trivial | omega | exact hf9 | exact hH9), (by first | assumption | exact trivial | omega | exact hf9 | exact hH9), (by first | assumption | exact trivial | omega | exact hf9 | exact hH9), (by first | assumption | exact trivial | omega | exact hf9 | exact hH9), (by first | assumption | exact trivial | omega | exact hf9 | exact hH9), (by first | assumption | exact trivial | omega | exact hf9 | exact hH9), (by first | assumption | exact trivial | omega | exact hf9 | exact hH9)⟩
set_option maxRecDepth 100000 in
set_option maxHeartbeats 4000000 in
theorem lawc_1 {E : EV} {cI : ClassId} {b L i : Nat} {xs : Nat → Int32} (x0 a0 a1 a2 a3 a4 a5 a6 c0 c1 c2 c3 c4 c5 c6 e0 e1 e2 e3 e4 e5 e6 b0 b1 b2 b3 g0 g1 g2 g3 s0 s1 w0 y0 r0 k1 k2 k3 k4 k6 k7 k8 k10 k12 k13 k14 k15 k16 k21 k22 k23 k24 k25 k30 k31 k33 : Nat) (zC : CX E cL_law RL (some .boolean) cI room_1) (hA : ∀ q, (ev_s E).heap.size ≤ q → ev_A E q) (hX : XS E b L xs) (hL : L ≤ 2560) (hi : i + 5 ≤ L) (kk : LGO E cI 1756 b i x0 a0 a1 a2 a3 a4 a5 a6 c0 c1 c2 c3 c4 c5 c6 e0 e1 e2 e3 e4 e5 e6 b0 b1 b2 b3 g0 g1 g2 g3 s0 s1 w0 y0 r0 k1 k2 k3 k4 k6 k7 k8 k10 k12 k13 k14 k15 k16 k21 k22 k23 k24 k25 k30 k31 k33) : LGO E cI 303 b i x0 a0 a1 a2 a3 a4 a5 a6 c0 c1 c2 c3 c4 c5 c6 e0 e1 e2 e3 e4 e5 e6 b0 b1 b2 b3 g0 g1 g2 g3 s0 s1 w0 y0 r0 k1 k2 k3 k4 k6 k7 k8 k10 k12 k13 k14 k15 k16 k21 k22 k23 k24 k25 k30 k31 k33 := by
  intro n m sh n5 m5 sh5 aw5 n2 m2 sh2 aw2 P Q cs ls rs ap sq pl ki op fa K G T ki5 op5 fa5 K5 G5 T5 ki2 op2 fa2 K2 G2 T2 mf kn so wh va sg rw R kw kr mw pi tl kp im tu to M Mr lo pd bd tk kv sd hI
  obtain ⟨hw, hw5, hw2, hB, hM, hcs, hH, hl, hsg, hr, hrw, hkw, hkr, hMr, hE9⟩ := hI
  obtain ⟨hn, hm, hsh, hki, hop, hfa, hK, hG, hT, -⟩ := id hw
  refine v_al_n 304 zC dL_law_303 2 rfl ?_
  refine v_cV2 (As := []) (st := []) 307 0 [0, 1, 2, 3, 4, 5, 6, 7, 20, 21, 22, 23, 24, 25, 26, 17, 18, 13] zC dL_law_304 hA (c_X4_family (ev_l E) (ev_D E) cI (x0 := x0) (xp := e0) (b0 := b0) (w0 := w0) (y0 := y0) (pd := pd) (rs := rs) (a0 := a0) (a1 := a1) (a2 := a2) (a3 := a3) (a4 := a4) (a5 := a5) (a6 := a6) (n := n) (m := m) (sh := sh) (ki := ki) (op := op) (fa := fa) (K := K) (G := G) (T := T) (c0 := c0) (c1 := c1) (c2 := c2) (c3 := c3) (c4 := c4) (c5 := c5) (c6 := c6) (n1 := n5) (m1 := m5) (sh1 := sh5) (aw1 := aw5) (ki1 := ki5) (op1 := op5) (fa1 := fa5) (K1 := K5) (G1 := G5) (T1 := T5) (s0 := s0) (s1 := s1) (ls := ls) (sg := sg) (g0 := g0) (g1 := g1) (g2 := g2) (g3 := g3) (cs := cs) (hw := hw) (hw1 := hw5) (hl := hl) (hsg := hsg)) cf_X4_family lk_L_18 rfl rfl rfl rfl rfl (by decide +kernel) (Nat.le_of_ble_eq_true rfl) (fun rv_1 wv_2 hp_3 hm_4 => ?_)
  clear hm_4
  rcases hp_3 with ⟨b_5, hq_6, hb_7, rfl, rfl⟩ | ⟨b_8, n3_9, m3_10, s3_11, ki3_12, op3_13, fa3_14, K3_15, G3_16, T3_17, hq_18, ht_19, hb_20, hF_21, rfl, rfl⟩ | ⟨c_22, n3_23, m3_24, s3_25, ki3_26, op3_27, fa3_28, K3_29, G3_30, T3_31, hq_32, ht_33, hF_34, rfl, rfl⟩
  ·
    rw [sa_2]
    refine v_al_n 308 zC dL_law_307 1 rfl ?_
    refine v_swap ?_
    refine v_cV2 (As := []) (st := [.int ((-1000) - (nI b_5))]) 311 0 [0, 1, 2, 3, 4, 5, 6, 7, 14, 15, 16, 17, 13] zC dL_law_308 hA (c_X5_family (ev_l E) (ev_D E) cI (r0 := r0) (k1 := k1) (k2 := k2) (k3 := k3) (k4 := k4) (k6 := k6) (k7 := k7) (k8 := k8) (k10 := k10) (k12 := k12) (k13 := k13) (k14 := k14) (k15 := k15) (k16 := k16) (k21 := k21) (k22 := k22) (k23 := k23) (k24 := k24) (k25 := k25) (k30 := k30) (k31 := k31) (k33 := k33) (n := n) (m := m) (ls := ls) (ap := ap) (sq := sq) (pl := pl) (tz := cs) (rs := rs) (bd := bd) (pd := pd) (tk := tk) (kv := kv) (sd := sd) (ki := ki) (op := op) (fa := fa) (K := K) (G := G) (T := T) (sh := sh) (sg := sg) (pi := pi) (tl := tl) (kp := kp) (lo := lo) (hw := hw) (hl := hl) (hsg := hsg)) cf_X5_family lk_L_22 rfl rfl rfl rfl rfl (by decide +kernel) (Nat.le_of_ble_eq_true rfl) (fun rv_35 wv_36 hp_37 hm_38 => ?_)
    clear hm_38
    rcases hp_37 with ⟨b_39, q1_40, p2_41, l2_42, t2_43, hq_44, hb_45, rfl, rfl⟩ | ⟨b_46, a1_47, q1_48, p2_49, l2_50, t2_51, kp1_52, hq_53, ht_54, hb_55, rfl, rfl⟩ | ⟨c_56, n3_57, m3_58, s3_59, ki3_60, op3_61, fa3_62, K3_63, G3_64, T3_65, a1_66, p2_67, l2_68, t2_69, kp1_70, hq_71, ht_72, hF_73, rfl, rfl⟩
    ·
      rw [sa_3]
      have ez := Option.some.inj (hq_6.symm.trans hq_44)
      subst ez
      refine v_eqi 1756 zC dL_law_311 (by first | rfl | assumption) ?_
      refine v_swap ?_
      exact kk n m sh n5 m5 sh5 aw5 n2 m2 sh2 aw2 P Q cs 0 rs b_5 q1_40 pl ki op fa K G T ki5 op5 fa5 K5 G5 T5 ki2 op2 fa2 K2 G2 T2 mf kn so wh va sg rw R kw kr mw p2_41 t2_43 kp im tu to M Mr l2_42 pd true tk kv sd ⟨(by first | assumption | exact trivial | omega | exact hf9 | exact hH9), (by first | assumption | exact trivial | omega | exact hf9 | exact hH9), (by first | assumption | exact trivial | omega | exact hf9 | exact hH9), (by first | assumption | exact trivial | omega | exact hf9 | exact hH9), (by first | assumption | exact trivial | omega | exact hf9 | exact hH9), (by first | assumption | exact trivial | omega | exact hf9 | exact hH9), (by first | assumption | exact trivial | omega | exact hf9 | exact hH9), (by first | assumption | exact trivial | omega | exact hf9 | exact hH9), (by first | assumption | exact trivial | omega | exact hf9 | exact hH9), (by first | assumption | exact trivial | omega | exact hf9 | exact hH9), (by first | assumption | exact trivial | omega | exact hf9 | exact hH9), (by first | assumption | exact trivial | omega | exact hf9 | exact hH9), (by first | assumption | exact trivial | omega | exact hf9 | exact hH9), (by first | assumption | exact trivial | omega | exact hf9 | exact hH9), (by first | assumption | exact trivial | omega | exact hf9 | exact hH9)⟩
    ·
      rw [sa_3]
      exact (no_family_0_1 hq_6 hq_53 ht_54).elim
    ·
      rw [sa_3]
      exact (no_family_0_2 hq_6 hq_71 ht_72).elim
  ·
    rw [sa_2]
    refine v_al_n 308 zC dL_law_307 1 rfl ?_
    refine v_swap ?_
    refine v_cV2 (As := []) (st := [.int ((-2000) - (nI b_8))]) 311 0 [0, 1, 2, 3, 4, 5, 6, 7, 14, 15, 16, 17, 13] zC dL_law_308 hA (c_X5_family (ev_l E) (ev_D E) cI (r0 := r0) (k1 := k1) (k2 := k2) (k3 := k3) (k4 := k4) (k6 := k6) (k7 := k7) (k8 := k8) (k10 := k10) (k12 := k12) (k13 := k13) (k14 := k14) (k15 := k15) (k16 := k16) (k21 := k21) (k22 := k22) (k23 := k23) (k24 := k24) (k25 := k25) (k30 := k30) (k31 := k31) (k33 := k33) (n := n) (m := m) (ls := ls) (ap := ap) (sq := sq) (pl := pl) (tz := cs) (rs := rs) (bd := bd) (pd := pd) (tk := tk) (kv := kv) (sd := sd) (ki := ki) (op := op) (fa := fa) (K := K) (G := G) (T := T) (sh := sh) (sg := sg) (pi := pi) (tl := tl) (kp := kp) (lo := lo) (hw := hw) (hl := hl) (hsg := hsg)) cf_X5_family lk_L_22 rfl rfl rfl rfl rfl (by decide +kernel) (Nat.le_of_ble_eq_true rfl) (fun rv_74 wv_75 hp_76 hm_77 => ?_)
    clear hm_77
    rcases hp_76 with ⟨b_78, q1_79, p2_80, l2_81, t2_82, hq_83, hb_84, rfl, rfl⟩ | ⟨b_85, a1_86, q1_87, p2_88, l2_89, t2_90, kp1_91, hq_92, ht_93, hb_94, rfl, rfl⟩ | ⟨c_95, n3_96, m3_97, s3_98, ki3_99, op3_100, fa3_101, K3_102, G3_103, T3_104, a1_105, p2_106, l2_107, t2_108, kp1_109, hq_110, ht_111, hF_112, rfl, rfl⟩
    ·
      rw [sa_3]
      exact (no_family_1_0 hq_18 ht_19 hq_83).elim
    ·
      rw [sa_3]
      have ez := (Prod.mk.inj (ht_19.symm.trans ht_93)).2
      subst ez
      refine v_eqi 1756 zC dL_law_311 (by first | rfl | assumption) ?_
      refine v_swap ?_
      exact kk n m sh n3_9 m3_10 s3_11 0 n2 m2 sh2 aw2 P Q cs 0 rs a1_86 q1_87 48 ki op fa K G T ki3_12 op3_13 fa3_14 K3_15 G3_16 T3_17 ki2 op2 fa2 K2 G2 T2 mf kn so wh va sg rw R kw kr mw p2_88 t2_90 kp1_91 im tu to M Mr l2_89 pd false false (.ref k24 : Value) sd ⟨(by first | assumption | exact trivial | omega | exact hf9 | exact hH9), (by first | assumption | exact trivial | omega | exact hf9 | exact hH9), (by first | assumption | exact trivial | omega | exact hf9 | exact hH9), (by first | assumption | exact trivial | omega | exact hf9 | exact hH9), (by first | assumption | exact trivial | omega | exact hf9 | exact hH9), (by first | assumption | exact trivial | omega | exact hf9 | exact hH9), (by first | assumption | exact trivial | omega | exact hf9 | exact hH9), (by first | assumption | exact trivial | omega | exact hf9 | exact hH9), (by first | assumption | exact trivial | omega | exact hf9 | exact hH9), (by first | assumption | exact trivial | omega | exact hf9 | exact hH9), (by first | assumption | exact trivial | omega | exact hf9 | exact hH9), (by first | assumption | exact trivial | omega | exact hf9 | exact hH9), (by first | assumption | exact trivial | omega | exact hf9 | exact hH9), (by first | assumption | exact trivial | omega | exact hf9 | exact hH9), (by first | assumption | exact trivial | omega | exact hf9 | exact hH9)⟩
    ·
      rw [sa_3]
      exact (no_family_1_2 hq_18 ht_19 hq_110 ht_111).elim
  ·
    rw [sa_2]
    refine v_al_n 308 zC dL_law_307 1 rfl ?_
    refine v_swap ?_
    refine v_cV2 (As := []) (st := [.int (nI c_22)]) 311 0 [0, 1, 2, 3, 4, 5, 6, 7, 14, 15, 16, 17, 13] zC dL_law_308 hA (c_X5_family (ev_l E) (ev_D E) cI (r0 := r0) (k1 := k1) (k2 := k2) (k3 := k3) (k4 := k4) (k6 := k6) (k7 := k7) (k8 := k8) (k10 := k10) (k12 := k12) (k13 := k13) (k14 := k14) (k15 := k15) (k16 := k16) (k21 := k21) (k22 := k22) (k23 := k23) (k24 := k24) (k25 := k25) (k30 := k30) (k31 := k31) (k33 := k33) (n := n) (m := m) (ls := ls) (ap := ap) (sq := sq) (pl := pl) (tz := cs) (rs := rs) (bd := bd) (pd := pd) (tk := tk) (kv := kv) (sd := sd) (ki := ki) (op := op) (fa := fa) (K := K) (G := G) (T := T) (sh := sh) (sg := sg) (pi := pi) (tl := tl) (kp := kp) (lo := lo) (hw := hw) (hl := hl) (hsg := hsg)) cf_X5_family lk_L_22 rfl rfl rfl rfl rfl (by decide +kernel) (Nat.le_of_ble_eq_true rfl) (fun rv_113 wv_114 hp_115 hm_116 => ?_)
    clear hm_116
    rcases hp_115 with ⟨b_117, q1_118, p2_119, l2_120, t2_121, hq_122, hb_123, rfl, rfl⟩ | ⟨b_124, a1_125, q1_126, p2_127, l2_128, t2_129, kp1_130, hq_131, ht_132, hb_133, rfl, rfl⟩ | ⟨c_134, n3_135, m3_136, s3_137, ki3_138, op3_139, fa3_140, K3_141, G3_142, T3_143, a1_144, p2_145, l2_146, t2_147, kp1_148, hq_149, ht_150, hF_151, rfl, rfl⟩
    ·
      rw [sa_3]
      exact (no_family_2_0 hq_32 ht_33 hq_122).elim
    ·
      rw [sa_3]
      exact (no_family_2_1 hq_32 ht_33 hq_131 ht_132).elim
    ·
      rw [sa_3]
      have ey := Prod.mk.inj (ht_33.symm.trans ht_150)
      have ex0 := Option.some.inj ey.1
      obtain ⟨ez0, ex1⟩ := Prod.mk.inj ex0
      obtain ⟨ez1, ex2⟩ := Prod.mk.inj ex1
      obtain ⟨ez2, ex3⟩ := Prod.mk.inj ex2
      obtain ⟨ez3, ex4⟩ := Prod.mk.inj ex3
      obtain ⟨ez4, ex5⟩ := Prod.mk.inj ex4
      obtain ⟨ez5, ex6⟩ := Prod.mk.inj ex5
      obtain ⟨ez6, ex7⟩ := Prod.mk.inj ex6
      obtain ⟨ez7, ex8⟩ := Prod.mk.inj ex7
      obtain ⟨ez8, ex9⟩ := Prod.mk.inj ex8
      have ez10 := ey.2
      clear ey ex0 ex1 ex2 ex3 ex4 ex5 ex6 ex7 ex8
      subst ez0
      subst ez1
      subst ez2
      subst ez4
      subst ez5
      subst ez6
      subst ez7
      subst ez8
      subst ex9
      subst ez10
      refine v_eqi 1756 zC dL_law_311 (by first | rfl | assumption) ?_
      refine v_swap ?_
      exact kk n3_23 m3_24 s3_25 n3_23 m3_24 s3_25 0 n2 m2 sh2 aw2 P Q 0 0 rs a1_144 c_22 48 ki3_26 op3_27 fa3_28 K3_29 G3_30 T3_31 ki3_26 op3_27 fa3_28 K3_29 G3_30 T3_31 ki2 op2 fa2 K2 G2 T2 mf kn so wh va sg rw R kw kr mw p2_145 t2_147 kp1_148 im tu to M Mr l2_146 pd false true (.ref k24 : Value) sd ⟨(by first | assumption | exact trivial | omega | exact hf9 | exact hH9), (by first | assumption | exact trivial | omega | exact hf9 | exact hH9), (by first | assumption | exact trivial | omega | exact hf9 | exact hH9), (by first | assumption | exact trivial | omega | exact hf9 | exact hH9), (by first | assumption | exact trivial | omega | exact hf9 | exact hH9), (by first | assumption | exact trivial | omega | exact hf9 | exact hH9), (by first | assumption | exact trivial | omega | exact hf9 | exact hH9), (by first | assumption | exact trivial | omega | exact hf9 | exact hH9), (by first | assumption | exact trivial | omega | exact hf9 | exact hH9), (by first | assumption | exact trivial | omega | exact hf9 | exact hH9), (by first | assumption | exact trivial | omega | exact hf9 | exact hH9), (by first | assumption | exact trivial | omega | exact hf9 | exact hH9), (by first | assumption | exact trivial | omega | exact hf9 | exact hH9), (by first | assumption | exact trivial | omega | exact hf9 | exact hH9), (by first | assumption | exact trivial | omega | exact hf9 | exact hH9)⟩
set_option maxRecDepth 100000 in
set_option maxHeartbeats 4000000 in
theorem lawc_2 {E : EV} {cI : ClassId} {b L i : Nat} {xs : Nat → Int32} (x0 a0 a1 a2 a3 a4 a5 a6 c0 c1 c2 c3 c4 c5 c6 e0 e1 e2 e3 e4 e5 e6 b0 b1 b2 b3 g0 g1 g2 g3 s0 s1 w0 y0 r0 k1 k2 k3 k4 k6 k7 k8 k10 k12 k13 k14 k15 k16 k21 k22 k23 k24 k25 k30 k31 k33 : Nat) (zC : CX E cL_law RL (some .boolean) cI room_1) (hA : ∀ q, (ev_s E).heap.size ≤ q → ev_A E q) (hX : XS E b L xs) (hL : L ≤ 2560) (hi : i + 5 ≤ L) (kk : LGO E cI 1756 b i x0 a0 a1 a2 a3 a4 a5 a6 c0 c1 c2 c3 c4 c5 c6 e0 e1 e2 e3 e4 e5 e6 b0 b1 b2 b3 g0 g1 g2 g3 s0 s1 w0 y0 r0 k1 k2 k3 k4 k6 k7 k8 k10 k12 k13 k14 k15 k16 k21 k22 k23 k24 k25 k30 k31 k33) : LGO E cI 316 b i x0 a0 a1 a2 a3 a4 a5 a6 c0 c1 c2 c3 c4 c5 c6 e0 e1 e2 e3 e4 e5 e6 b0 b1 b2 b3 g0 g1 g2 g3 s0 s1 w0 y0 r0 k1 k2 k3 k4 k6 k7 k8 k10 k12 k13 k14 k15 k16 k21 k22 k23 k24 k25 k30 k31 k33 := by
  intro n m sh n5 m5 sh5 aw5 n2 m2 sh2 aw2 P Q cs ls rs ap sq pl ki op fa K G T ki5 op5 fa5 K5 G5 T5 ki2 op2 fa2 K2 G2 T2 mf kn so wh va sg rw R kw kr mw pi tl kp im tu to M Mr lo pd bd tk kv sd hI
  obtain ⟨hw, hw5, hw2, hB, hM, hcs, hH, hl, hsg, hr, hrw, hkw, hkr, hMr, hE9⟩ := hI
  obtain ⟨hn, hm, hsh, hki, hop, hfa, hK, hG, hT, -⟩ := id hw
  refine v_al_n 317 zC dL_law_316 2 rfl ?_
  refine v_al_n 318 zC dL_law_317 3 rfl ?_
  refine v_il_n 319 zC dL_law_318 0 rfl ?_
  refine v_ic (v := (nI 1)) 320 zC dL_law_319 (by decide +kernel) ?_
  refine v_iadd (v := (nI (i + 1))) 321 zC dL_law_320 (nI_add _ _) ?_
  refine v_sld 322 zC hX dL_law_321 (by omega) hL ?_
  refine v_al_n 323 zC dL_law_322 3 rfl ?_
  refine v_il_n 324 zC dL_law_323 0 rfl ?_
  refine v_ic (v := (nI 2)) 325 zC dL_law_324 (by decide +kernel) ?_
  refine v_iadd (v := (nI (i + 2))) 326 zC dL_law_325 (nI_add _ _) ?_
  refine v_sld 327 zC hX dL_law_326 (by omega) hL ?_
  refine v_cV2 (As := [.int (xs (i + 1)), .int (xs (i + 2))]) (st := []) 330 0 [0, 1, 2, 3, 4, 12] zC dL_law_327 hA (c_X4_person (ev_l E) (ev_D E) cI (x0 := x0) (xm := c0) (xp := e0) (b0 := b0) (g0 := g0) (s0 := s0) (w0 := w0) (y0 := y0) (pd := pd) (rs := rs) (a0 := a0) (a1 := a1) (a2 := a2) (a3 := a3) (a4 := a4) (a5 := a5) (a6 := a6) (n := n) (m := m) (sh := sh) (ki := ki) (op := op) (fa := fa) (K := K) (G := G) (T := T) (R := R) (p := (xs (i + 1))) (w := (xs (i + 2))) (hn := hn)) cf_X4_person lk_L_23 rfl rfl rfl rfl rfl (by decide +kernel) (Nat.le_of_ble_eq_true rfl) (fun rv_1 wv_2 hp_3 hm_4 => ?_)
  clear hm_4
  obtain ⟨rc_5, rv_6, hq_7, rfl, rfl⟩ := hp_3
  rw [sa_4]
  refine v_al_n 331 zC dL_law_330 1 rfl ?_
  refine v_al_n 332 zC dL_law_331 3 rfl ?_
  refine v_il_n 333 zC dL_law_332 0 rfl ?_
  refine v_ic (v := (nI 1)) 334 zC dL_law_333 (by decide +kernel) ?_
  refine v_iadd (v := (nI (i + 1))) 335 zC dL_law_334 (nI_add _ _) ?_
  refine v_sld 336 zC hX dL_law_335 (by omega) hL ?_
  refine v_al_n 337 zC dL_law_336 3 rfl ?_
  refine v_il_n 338 zC dL_law_337 0 rfl ?_
  refine v_ic (v := (nI 2)) 339 zC dL_law_338 (by decide +kernel) ?_
  refine v_iadd (v := (nI (i + 2))) 340 zC dL_law_339 (nI_add _ _) ?_
  refine v_sld 341 zC hX dL_law_340 (by omega) hL ?_
  refine v_swap ?_
  refine v_cV2 (As := [.int (xs (i + 1)), .int (xs (i + 2))]) (st := [.int rv_6]) 344 0 [0, 1, 2, 3, 4, 12] zC dL_law_341 hA (c_X5_person (ev_l E) (ev_D E) cI (r0 := r0) (k1 := k1) (k2 := k2) (k3 := k3) (k4 := k4) (k6 := k6) (k7 := k7) (k8 := k8) (k10 := k10) (k12 := k12) (k13 := k13) (k14 := k14) (k15 := k15) (k16 := k16) (k21 := k21) (k22 := k22) (k23 := k23) (k24 := k24) (k25 := k25) (k30 := k30) (k31 := k31) (k33 := k33) (n := n) (m := m) (ls := ls) (ap := ap) (sq := sq) (pl := pl) (tz := cs) (rs := rs) (bd := bd) (pd := pd) (tk := tk) (kv := kv) (sd := sd) (ki := ki) (op := op) (fa := fa) (K := K) (G := G) (T := T) (sh := sh) (R := R) (p := (xs (i + 1))) (w := (xs (i + 2))) (hn := hn)) cf_X5_person lk_L_27 rfl rfl rfl rfl rfl (by decide +kernel) (Nat.le_of_ble_eq_true rfl) (fun rv_8 wv_9 hp_10 hm_11 => ?_)
  clear hm_11
  obtain ⟨rc_12, rv_13, hq_14, rfl, rfl⟩ := hp_10
  rw [sa_5]
  obtain ⟨ez, ey⟩ := Prod.mk.inj (hq_7.symm.trans hq_14)
  subst ez
  have ez := ey
  subst ez
  refine v_eqi 1756 zC dL_law_344 (by first | rfl | assumption) ?_
  refine v_swap ?_
  exact kk n m sh n5 m5 sh5 aw5 n2 m2 sh2 aw2 P Q cs ls rs ap sq pl ki op fa K G T ki5 op5 fa5 K5 G5 T5 ki2 op2 fa2 K2 G2 T2 mf kn so wh va sg rw (rf R rc_5) kw kr mw pi tl kp im tu to M Mr lo pd bd tk kv sd ⟨(by first | assumption | exact trivial | omega | exact hf9 | exact hH9), (by first | assumption | exact trivial | omega | exact hf9 | exact hH9), (by first | assumption | exact trivial | omega | exact hf9 | exact hH9), (by first | assumption | exact trivial | omega | exact hf9 | exact hH9), (by first | assumption | exact trivial | omega | exact hf9 | exact hH9), (by first | assumption | exact trivial | omega | exact hf9 | exact hH9), (by first | assumption | exact trivial | omega | exact hf9 | exact hH9), (by first | assumption | exact trivial | omega | exact hf9 | exact hH9), (by first | assumption | exact trivial | omega | exact hf9 | exact hH9), (by first | assumption | exact trivial | omega | exact hf9 | exact hH9), (by first | assumption | exact trivial | omega | exact hf9 | exact hH9), (by first | assumption | exact trivial | omega | exact hf9 | exact hH9), (by first | assumption | exact trivial | omega | exact hf9 | exact hH9), (by first | assumption | exact trivial | omega | exact hf9 | exact hH9), (by first | assumption | exact trivial | omega | exact hf9 | exact hH9)⟩
set_option maxRecDepth 100000 in
set_option maxHeartbeats 4000000 in
theorem lawc_3 {E : EV} {cI : ClassId} {b L i : Nat} {xs : Nat → Int32} (x0 a0 a1 a2 a3 a4 a5 a6 c0 c1 c2 c3 c4 c5 c6 e0 e1 e2 e3 e4 e5 e6 b0 b1 b2 b3 g0 g1 g2 g3 s0 s1 w0 y0 r0 k1 k2 k3 k4 k6 k7 k8 k10 k12 k13 k14 k15 k16 k21 k22 k23 k24 k25 k30 k31 k33 : Nat) (zC : CX E cL_law RL (some .boolean) cI room_1) (hA : ∀ q, (ev_s E).heap.size ≤ q → ev_A E q) (hX : XS E b L xs) (hL : L ≤ 2560) (hi : i + 5 ≤ L) (kk : LGO E cI 1756 b i x0 a0 a1 a2 a3 a4 a5 a6 c0 c1 c2 c3 c4 c5 c6 e0 e1 e2 e3 e4 e5 e6 b0 b1 b2 b3 g0 g1 g2 g3 s0 s1 w0 y0 r0 k1 k2 k3 k4 k6 k7 k8 k10 k12 k13 k14 k15 k16 k21 k22 k23 k24 k25 k30 k31 k33) : LGO E cI 349 b i x0 a0 a1 a2 a3 a4 a5 a6 c0 c1 c2 c3 c4 c5 c6 e0 e1 e2 e3 e4 e5 e6 b0 b1 b2 b3 g0 g1 g2 g3 s0 s1 w0 y0 r0 k1 k2 k3 k4 k6 k7 k8 k10 k12 k13 k14 k15 k16 k21 k22 k23 k24 k25 k30 k31 k33 := by
  intro n m sh n5 m5 sh5 aw5 n2 m2 sh2 aw2 P Q cs ls rs ap sq pl ki op fa K G T ki5 op5 fa5 K5 G5 T5 ki2 op2 fa2 K2 G2 T2 mf kn so wh va sg rw R kw kr mw pi tl kp im tu to M Mr lo pd bd tk kv sd hI
  obtain ⟨hw, hw5, hw2, hB, hM, hcs, hH, hl, hsg, hr, hrw, hkw, hkr, hMr, hE9⟩ := hI
  obtain ⟨hn, hm, hsh, hki, hop, hfa, hK, hG, hT, -⟩ := id hw
  refine v_al_n 350 zC dL_law_349 2 rfl ?_
  refine v_al_n 351 zC dL_law_350 3 rfl ?_
  refine v_il_n 352 zC dL_law_351 0 rfl ?_
  refine v_ic (v := (nI 1)) 353 zC dL_law_352 (by decide +kernel) ?_
  refine v_iadd (v := (nI (i + 1))) 354 zC dL_law_353 (nI_add _ _) ?_
  refine v_sld 355 zC hX dL_law_354 (by omega) hL ?_
  refine v_al_n 356 zC dL_law_355 3 rfl ?_
  refine v_il_n 357 zC dL_law_356 0 rfl ?_
  refine v_ic (v := (nI 2)) 358 zC dL_law_357 (by decide +kernel) ?_
  refine v_iadd (v := (nI (i + 2))) 359 zC dL_law_358 (nI_add _ _) ?_
  refine v_sld 360 zC hX dL_law_359 (by omega) hL ?_
  refine v_cV2 (As := [.int (xs (i + 1)), .int (xs (i + 2))]) (st := []) 363 0 [0, 1, 5, 6, 7, 12] zC dL_law_360 hA (c_X4_dead (ev_l E) (ev_D E) cI (x0 := x0) (xm := c0) (xp := e0) (b0 := b0) (g0 := g0) (s0 := s0) (w0 := w0) (y0 := y0) (pd := pd) (rs := rs) (a0 := a0) (a1 := a1) (a2 := a2) (a3 := a3) (a4 := a4) (a5 := a5) (a6 := a6) (n := n) (m := m) (sh := sh) (ki := ki) (op := op) (fa := fa) (K := K) (G := G) (T := T) (R := R) (d := (xs (i + 1))) (w := (xs (i + 2))) (hm := hm)) cf_X4_dead lk_L_28 rfl rfl rfl rfl rfl (by decide +kernel) (Nat.le_of_ble_eq_true rfl) (fun rv_1 wv_2 hp_3 hm_4 => ?_)
  clear hm_4
  obtain ⟨rc_5, rv_6, hq_7, rfl, rfl⟩ := hp_3
  rw [sa_6]
  refine v_al_n 364 zC dL_law_363 1 rfl ?_
  refine v_al_n 365 zC dL_law_364 3 rfl ?_
  refine v_il_n 366 zC dL_law_365 0 rfl ?_
  refine v_ic (v := (nI 1)) 367 zC dL_law_366 (by decide +kernel) ?_
  refine v_iadd (v := (nI (i + 1))) 368 zC dL_law_367 (nI_add _ _) ?_
  refine v_sld 369 zC hX dL_law_368 (by omega) hL ?_
  refine v_al_n 370 zC dL_law_369 3 rfl ?_
  refine v_il_n 371 zC dL_law_370 0 rfl ?_
  refine v_ic (v := (nI 2)) 372 zC dL_law_371 (by decide +kernel) ?_
  refine v_iadd (v := (nI (i + 2))) 373 zC dL_law_372 (nI_add _ _) ?_
  refine v_sld 374 zC hX dL_law_373 (by omega) hL ?_
  refine v_swap ?_
  refine v_cV2 (As := [.int (xs (i + 1)), .int (xs (i + 2))]) (st := [.int rv_6]) 377 0 [0, 5, 6, 7, 12] zC dL_law_374 hA (c_X5_dead (ev_l E) (ev_D E) cI (r0 := r0) (k1 := k1) (k2 := k2) (k3 := k3) (k4 := k4) (k6 := k6) (k7 := k7) (k8 := k8) (k10 := k10) (k12 := k12) (k13 := k13) (k14 := k14) (k15 := k15) (k16 := k16) (k21 := k21) (k22 := k22) (k23 := k23) (k24 := k24) (k25 := k25) (k30 := k30) (k31 := k31) (k33 := k33) (n := n) (m := m) (ls := ls) (ap := ap) (sq := sq) (pl := pl) (tz := cs) (rs := rs) (bd := bd) (pd := pd) (tk := tk) (kv := kv) (sd := sd) (ki := ki) (op := op) (fa := fa) (K := K) (G := G) (T := T) (sh := sh) (R := R) (d := (xs (i + 1))) (w := (xs (i + 2))) (hm := hm)) cf_X5_dead lk_L_31 rfl rfl rfl rfl rfl (by decide +kernel) (Nat.le_of_ble_eq_true rfl) (fun rv_8 wv_9 hp_10 hm_11 => ?_)
  clear hm_11
  obtain ⟨rc_12, rv_13, hq_14, rfl, rfl⟩ := hp_10
  rw [sa_7]
  obtain ⟨ez, ey⟩ := Prod.mk.inj (hq_7.symm.trans hq_14)
  subst ez
  have ez := ey
  subst ez
  refine v_eqi 1756 zC dL_law_377 (by first | rfl | assumption) ?_
  refine v_swap ?_
  exact kk n m sh n5 m5 sh5 aw5 n2 m2 sh2 aw2 P Q cs ls rs ap sq pl ki op fa K G T ki5 op5 fa5 K5 G5 T5 ki2 op2 fa2 K2 G2 T2 mf kn so wh va sg rw (rf R rc_5) kw kr mw pi tl kp im tu to M Mr lo pd bd tk kv sd ⟨(by first | assumption | exact trivial | omega | exact hf9 | exact hH9), (by first | assumption | exact trivial | omega | exact hf9 | exact hH9), (by first | assumption | exact trivial | omega | exact hf9 | exact hH9), (by first | assumption | exact trivial | omega | exact hf9 | exact hH9), (by first | assumption | exact trivial | omega | exact hf9 | exact hH9), (by first | assumption | exact trivial | omega | exact hf9 | exact hH9), (by first | assumption | exact trivial | omega | exact hf9 | exact hH9), (by first | assumption | exact trivial | omega | exact hf9 | exact hH9), (by first | assumption | exact trivial | omega | exact hf9 | exact hH9), (by first | assumption | exact trivial | omega | exact hf9 | exact hH9), (by first | assumption | exact trivial | omega | exact hf9 | exact hH9), (by first | assumption | exact trivial | omega | exact hf9 | exact hH9), (by first | assumption | exact trivial | omega | exact hf9 | exact hH9), (by first | assumption | exact trivial | omega | exact hf9 | exact hH9), (by first | assumption | exact trivial | omega | exact hf9 | exact hH9)⟩
set_option maxRecDepth 100000 in
set_option maxHeartbeats 4000000 in
theorem lawc_4 {E : EV} {cI : ClassId} {b L i : Nat} {xs : Nat → Int32} (x0 a0 a1 a2 a3 a4 a5 a6 c0 c1 c2 c3 c4 c5 c6 e0 e1 e2 e3 e4 e5 e6 b0 b1 b2 b3 g0 g1 g2 g3 s0 s1 w0 y0 r0 k1 k2 k3 k4 k6 k7 k8 k10 k12 k13 k14 k15 k16 k21 k22 k23 k24 k25 k30 k31 k33 : Nat) (zC : CX E cL_law RL (some .boolean) cI room_1) (hA : ∀ q, (ev_s E).heap.size ≤ q → ev_A E q) (hX : XS E b L xs) (hL : L ≤ 2560) (hi : i + 5 ≤ L) (kk : LGO E cI 1756 b i x0 a0 a1 a2 a3 a4 a5 a6 c0 c1 c2 c3 c4 c5 c6 e0 e1 e2 e3 e4 e5 e6 b0 b1 b2 b3 g0 g1 g2 g3 s0 s1 w0 y0 r0 k1 k2 k3 k4 k6 k7 k8 k10 k12 k13 k14 k15 k16 k21 k22 k23 k24 k25 k30 k31 k33) : LGO E cI 382 b i x0 a0 a1 a2 a3 a4 a5 a6 c0 c1 c2 c3 c4 c5 c6 e0 e1 e2 e3 e4 e5 e6 b0 b1 b2 b3 g0 g1 g2 g3 s0 s1 w0 y0 r0 k1 k2 k3 k4 k6 k7 k8 k10 k12 k13 k14 k15 k16 k21 k22 k23 k24 k25 k30 k31 k33 := by
  intro n m sh n5 m5 sh5 aw5 n2 m2 sh2 aw2 P Q cs ls rs ap sq pl ki op fa K G T ki5 op5 fa5 K5 G5 T5 ki2 op2 fa2 K2 G2 T2 mf kn so wh va sg rw R kw kr mw pi tl kp im tu to M Mr lo pd bd tk kv sd hI
  obtain ⟨hw, hw5, hw2, hB, hM, hcs, hH, hl, hsg, hr, hrw, hkw, hkr, hMr, hE9⟩ := hI
  obtain ⟨hn, hm, hsh, hki, hop, hfa, hK, hG, hT, -⟩ := id hw
  refine v_al_n 383 zC dL_law_382 2 rfl ?_
  refine v_al_n 384 zC dL_law_383 3 rfl ?_
  refine v_il_n 385 zC dL_law_384 0 rfl ?_
  refine v_ic (v := (nI 1)) 386 zC dL_law_385 (by decide +kernel) ?_
  refine v_iadd (v := (nI (i + 1))) 387 zC dL_law_386 (nI_add _ _) ?_
  refine v_sld 388 zC hX dL_law_387 (by omega) hL ?_
  refine v_cV2 (As := [.int (xs (i + 1))]) (st := []) 391 0 [0, 1, 2, 3, 4, 13, 12] zC dL_law_388 hA (c_X4_comes (ev_l E) (ev_D E) cI (x0 := x0) (xm := c0) (xp := e0) (y0 := y0) (pd := pd) (rs := rs) (b0 := b0) (s0 := s0) (w0 := w0) (a0 := a0) (a1 := a1) (a2 := a2) (a3 := a3) (a4 := a4) (a5 := a5) (a6 := a6) (n := n) (m := m) (sh := sh) (ki := ki) (op := op) (fa := fa) (g0 := g0) (g1 := g1) (g2 := g2) (g3 := g3) (cs := cs) (R := R) (v := (xs (i + 1))) (hn := hn) (hsh := (by first | exact hsh | exact hsh7))) cf_X4_comes lk_L_32 rfl rfl rfl rfl rfl (by decide +kernel) (Nat.le_of_ble_eq_true rfl) (fun rv_1 wv_2 hp_3 hm_4 => ?_)
  clear hm_4
  rcases hp_3 with ⟨hq_5, rfl, rfl⟩ | ⟨hq_6, hq2_7, rfl, rfl⟩ | ⟨k_8, hk_9, hr_10, rfl, rfl⟩
  ·
    rw [sa_8]
    refine v_al_n 392 zC dL_law_391 1 rfl ?_
    refine v_al_n 393 zC dL_law_392 3 rfl ?_
    refine v_il_n 394 zC dL_law_393 0 rfl ?_
    refine v_ic (v := (nI 1)) 395 zC dL_law_394 (by decide +kernel) ?_
    refine v_iadd (v := (nI (i + 1))) 396 zC dL_law_395 (nI_add _ _) ?_
    refine v_sld 397 zC hX dL_law_396 (by omega) hL ?_
    refine v_swap ?_
    refine v_cV2 (As := [.int (xs (i + 1))]) (st := [.int (-4)]) 400 0 [0, 1, 2, 3, 4, 12] zC dL_law_397 hA (c_X5_comes (ev_l E) (ev_D E) cI (r0 := r0) (k1 := k1) (k2 := k2) (k3 := k3) (k4 := k4) (k6 := k6) (k7 := k7) (k8 := k8) (k10 := k10) (k12 := k12) (k13 := k13) (k14 := k14) (k15 := k15) (k16 := k16) (k21 := k21) (k22 := k22) (k23 := k23) (k24 := k24) (k25 := k25) (k30 := k30) (k31 := k31) (k33 := k33) (n := n) (m := m) (ls := ls) (ap := ap) (sq := sq) (pl := pl) (tz := cs) (rs := rs) (bd := bd) (pd := pd) (tk := tk) (kv := kv) (sd := sd) (ki := ki) (op := op) (fa := fa) (sh := sh) (R := R) (v := (xs (i + 1))) (hn := hn) (hsh := hsh)) cf_X5_comes lk_L_35 rfl rfl rfl rfl rfl (by decide +kernel) (Nat.le_of_ble_eq_true rfl) (fun rv_11 wv_12 hp_13 hm_14 => ?_)
    clear hm_14
    rcases hp_13 with ⟨hq_15, rfl, rfl⟩ | ⟨hq_16, hq2_17, rfl, rfl⟩ | ⟨k_18, hk_19, hr_20, rfl, rfl⟩
    ·
      rw [sa_5]
      refine v_eqi 1756 zC dL_law_400 (by first | rfl | assumption) ?_
      refine v_swap ?_
      exact kk n m sh n5 m5 sh5 aw5 n2 m2 sh2 aw2 P Q cs ls rs ap sq pl ki op fa K G T ki5 op5 fa5 K5 G5 T5 ki2 op2 fa2 K2 G2 T2 mf kn so wh va sg rw (un R 4 (R 4 + 1)) kw kr mw pi tl kp im tu to M Mr lo pd bd tk kv sd ⟨(by first | assumption | exact trivial | omega | exact hf9 | exact hH9), (by first | assumption | exact trivial | omega | exact hf9 | exact hH9), (by first | assumption | exact trivial | omega | exact hf9 | exact hH9), (by first | assumption | exact trivial | omega | exact hf9 | exact hH9), (by first | assumption | exact trivial | omega | exact hf9 | exact hH9), (by first | assumption | exact trivial | omega | exact hf9 | exact hH9), (by first | assumption | exact trivial | omega | exact hf9 | exact hH9), (by first | assumption | exact trivial | omega | exact hf9 | exact hH9), (by first | assumption | exact trivial | omega | exact hf9 | exact hH9), (by first | assumption | exact trivial | omega | exact hf9 | exact hH9), (by first | assumption | exact trivial | omega | exact hf9 | exact hH9), (by first | assumption | exact trivial | omega | exact hf9 | exact hH9), (by first | assumption | exact trivial | omega | exact hf9 | exact hH9), (by first | assumption | exact trivial | omega | exact hf9 | exact hH9), (by first | assumption | exact trivial | omega | exact hf9 | exact hH9)⟩
    ·
      rw [sa_5]
      exact (no_comes_0_1 hq_5 hq_16 hq2_17).elim
    ·
      rw [sa_5]
      exact (no_comes_0_2 hq_5 hk_19 hr_20).elim
  ·
    rw [sa_8]
    refine v_al_n 392 zC dL_law_391 1 rfl ?_
    refine v_al_n 393 zC dL_law_392 3 rfl ?_
    refine v_il_n 394 zC dL_law_393 0 rfl ?_
    refine v_ic (v := (nI 1)) 395 zC dL_law_394 (by decide +kernel) ?_
    refine v_iadd (v := (nI (i + 1))) 396 zC dL_law_395 (nI_add _ _) ?_
    refine v_sld 397 zC hX dL_law_396 (by omega) hL ?_
    refine v_swap ?_
    refine v_cV2 (As := [.int (xs (i + 1))]) (st := [.int (-6)]) 400 0 [0, 1, 2, 3, 4, 12] zC dL_law_397 hA (c_X5_comes (ev_l E) (ev_D E) cI (r0 := r0) (k1 := k1) (k2 := k2) (k3 := k3) (k4 := k4) (k6 := k6) (k7 := k7) (k8 := k8) (k10 := k10) (k12 := k12) (k13 := k13) (k14 := k14) (k15 := k15) (k16 := k16) (k21 := k21) (k22 := k22) (k23 := k23) (k24 := k24) (k25 := k25) (k30 := k30) (k31 := k31) (k33 := k33) (n := n) (m := m) (ls := ls) (ap := ap) (sq := sq) (pl := pl) (tz := cs) (rs := rs) (bd := bd) (pd := pd) (tk := tk) (kv := kv) (sd := sd) (ki := ki) (op := op) (fa := fa) (sh := sh) (R := R) (v := (xs (i + 1))) (hn := hn) (hsh := hsh)) cf_X5_comes lk_L_35 rfl rfl rfl rfl rfl (by decide +kernel) (Nat.le_of_ble_eq_true rfl) (fun rv_21 wv_22 hp_23 hm_24 => ?_)
    clear hm_24
    rcases hp_23 with ⟨hq_25, rfl, rfl⟩ | ⟨hq_26, hq2_27, rfl, rfl⟩ | ⟨k_28, hk_29, hr_30, rfl, rfl⟩
    ·
      rw [sa_5]
      exact (no_comes_1_0 hq_6 hq2_7 hq_25).elim
    ·
      rw [sa_5]
      refine v_eqi 1756 zC dL_law_400 (by first | rfl | assumption) ?_
      refine v_swap ?_
      exact kk n m sh n5 m5 sh5 aw5 n2 m2 sh2 aw2 P Q cs ls rs ap sq pl ki op fa K G T ki5 op5 fa5 K5 G5 T5 ki2 op2 fa2 K2 G2 T2 mf kn so wh va sg rw (un R 6 (R 6 + 1)) kw kr mw pi tl kp im tu to M Mr lo pd bd tk kv sd ⟨(by first | assumption | exact trivial | omega | exact hf9 | exact hH9), (by first | assumption | exact trivial | omega | exact hf9 | exact hH9), (by first | assumption | exact trivial | omega | exact hf9 | exact hH9), (by first | assumption | exact trivial | omega | exact hf9 | exact hH9), (by first | assumption | exact trivial | omega | exact hf9 | exact hH9), (by first | assumption | exact trivial | omega | exact hf9 | exact hH9), (by first | assumption | exact trivial | omega | exact hf9 | exact hH9), (by first | assumption | exact trivial | omega | exact hf9 | exact hH9), (by first | assumption | exact trivial | omega | exact hf9 | exact hH9), (by first | assumption | exact trivial | omega | exact hf9 | exact hH9), (by first | assumption | exact trivial | omega | exact hf9 | exact hH9), (by first | assumption | exact trivial | omega | exact hf9 | exact hH9), (by first | assumption | exact trivial | omega | exact hf9 | exact hH9), (by first | assumption | exact trivial | omega | exact hf9 | exact hH9), (by first | assumption | exact trivial | omega | exact hf9 | exact hH9)⟩
    ·
      rw [sa_5]
      exact (no_comes_1_2 hq_6 hq2_7 hk_29 hr_30).elim
  ·
    rw [sa_8]
    refine v_al_n 392 zC dL_law_391 1 rfl ?_
    refine v_al_n 393 zC dL_law_392 3 rfl ?_
    refine v_il_n 394 zC dL_law_393 0 rfl ?_
    refine v_ic (v := (nI 1)) 395 zC dL_law_394 (by decide +kernel) ?_
    refine v_iadd (v := (nI (i + 1))) 396 zC dL_law_395 (nI_add _ _) ?_
    refine v_sld 397 zC hX dL_law_396 (by omega) hL ?_
    refine v_swap ?_
    refine v_cV2 (As := [.int (xs (i + 1))]) (st := [.int (nI n)]) 400 0 [0, 1, 2, 3, 4, 12] zC dL_law_397 hA (c_X5_comes (ev_l E) (ev_D E) cI (r0 := r0) (k1 := k1) (k2 := k2) (k3 := k3) (k4 := k4) (k6 := k6) (k7 := k7) (k8 := k8) (k10 := k10) (k12 := k12) (k13 := k13) (k14 := k14) (k15 := k15) (k16 := k16) (k21 := k21) (k22 := k22) (k23 := k23) (k24 := k24) (k25 := k25) (k30 := k30) (k31 := k31) (k33 := k33) (n := n) (m := m) (ls := ls) (ap := ap) (sq := sq) (pl := pl) (tz := cs) (rs := rs) (bd := bd) (pd := pd) (tk := tk) (kv := kv) (sd := sd) (ki := ki) (op := op) (fa := fa) (sh := sh) (R := R) (v := (xs (i + 1))) (hn := hn) (hsh := hsh)) cf_X5_comes lk_L_35 rfl rfl rfl rfl rfl (by decide +kernel) (Nat.le_of_ble_eq_true rfl) (fun rv_31 wv_32 hp_33 hm_34 => ?_)
    clear hm_34
    rcases hp_33 with ⟨hq_35, rfl, rfl⟩ | ⟨hq_36, hq2_37, rfl, rfl⟩ | ⟨k_38, hk_39, hr_40, rfl, rfl⟩
    ·
      rw [sa_5]
      exact (no_comes_2_0 hk_9 hr_10 hq_35).elim
    ·
      rw [sa_5]
      exact (no_comes_2_1 hk_9 hr_10 hq_36 hq2_37).elim
    ·
      rw [sa_5]
      have ez := Option.some.inj (hk_9.symm.trans hk_39)
      subst ez
      have hw9 := fw_come hw hr_10 (ix_lt (by omega) hk_9)
      refine v_eqi 1756 zC dL_law_400 (by first | rfl | assumption) ?_
      refine v_swap ?_
      exact kk (n + 1) m sh n5 m5 sh5 aw5 n2 m2 sh2 aw2 P Q 0 ls rs ap sq pl (un ki n k_8) (un op n 0) (un fa n 0) K G T ki5 op5 fa5 K5 G5 T5 ki2 op2 fa2 K2 G2 T2 mf kn so wh va sg rw R kw kr mw pi tl kp im tu to M Mr lo pd bd tk kv sd ⟨(by first | assumption | exact trivial | omega | exact hf9 | exact hH9), (by first | assumption | exact trivial | omega | exact hf9 | exact hH9), (by first | assumption | exact trivial | omega | exact hf9 | exact hH9), (by first | assumption | exact trivial | omega | exact hf9 | exact hH9), (by first | assumption | exact trivial | omega | exact hf9 | exact hH9), (by first | assumption | exact trivial | omega | exact hf9 | exact hH9), (by first | assumption | exact trivial | omega | exact hf9 | exact hH9), (by first | assumption | exact trivial | omega | exact hf9 | exact hH9), (by first | assumption | exact trivial | omega | exact hf9 | exact hH9), (by first | assumption | exact trivial | omega | exact hf9 | exact hH9), (by first | assumption | exact trivial | omega | exact hf9 | exact hH9), (by first | assumption | exact trivial | omega | exact hf9 | exact hH9), (by first | assumption | exact trivial | omega | exact hf9 | exact hH9), (by first | assumption | exact trivial | omega | exact hf9 | exact hH9), (by first | assumption | exact trivial | omega | exact hf9 | exact hH9)⟩
set_option maxRecDepth 100000 in
set_option maxHeartbeats 4000000 in
theorem lawc_5 {E : EV} {cI : ClassId} {b L i : Nat} {xs : Nat → Int32} (x0 a0 a1 a2 a3 a4 a5 a6 c0 c1 c2 c3 c4 c5 c6 e0 e1 e2 e3 e4 e5 e6 b0 b1 b2 b3 g0 g1 g2 g3 s0 s1 w0 y0 r0 k1 k2 k3 k4 k6 k7 k8 k10 k12 k13 k14 k15 k16 k21 k22 k23 k24 k25 k30 k31 k33 : Nat) (zC : CX E cL_law RL (some .boolean) cI room_1) (hA : ∀ q, (ev_s E).heap.size ≤ q → ev_A E q) (hX : XS E b L xs) (hL : L ≤ 2560) (hi : i + 5 ≤ L) (kk : LGO E cI 1756 b i x0 a0 a1 a2 a3 a4 a5 a6 c0 c1 c2 c3 c4 c5 c6 e0 e1 e2 e3 e4 e5 e6 b0 b1 b2 b3 g0 g1 g2 g3 s0 s1 w0 y0 r0 k1 k2 k3 k4 k6 k7 k8 k10 k12 k13 k14 k15 k16 k21 k22 k23 k24 k25 k30 k31 k33) : LGO E cI 405 b i x0 a0 a1 a2 a3 a4 a5 a6 c0 c1 c2 c3 c4 c5 c6 e0 e1 e2 e3 e4 e5 e6 b0 b1 b2 b3 g0 g1 g2 g3 s0 s1 w0 y0 r0 k1 k2 k3 k4 k6 k7 k8 k10 k12 k13 k14 k15 k16 k21 k22 k23 k24 k25 k30 k31 k33 := by
  intro n m sh n5 m5 sh5 aw5 n2 m2 sh2 aw2 P Q cs ls rs ap sq pl ki op fa K G T ki5 op5 fa5 K5 G5 T5 ki2 op2 fa2 K2 G2 T2 mf kn so wh va sg rw R kw kr mw pi tl kp im tu to M Mr lo pd bd tk kv sd hI
  obtain ⟨hw, hw5, hw2, hB, hM, hcs, hH, hl, hsg, hr, hrw, hkw, hkr, hMr, hE9⟩ := hI
  obtain ⟨hn, hm, hsh, hki, hop, hfa, hK, hG, hT, -⟩ := id hw
  refine v_al_n 406 zC dL_law_405 2 rfl ?_
  refine v_al_n 407 zC dL_law_406 3 rfl ?_
  refine v_il_n 408 zC dL_law_407 0 rfl ?_
  refine v_ic (v := (nI 1)) 409 zC dL_law_408 (by decide +kernel) ?_
  refine v_iadd (v := (nI (i + 1))) 410 zC dL_law_409 (nI_add _ _) ?_
  refine v_sld 411 zC hX dL_law_410 (by omega) hL ?_
  refine v_al_n 412 zC dL_law_411 3 rfl ?_
  refine v_il_n 413 zC dL_law_412 0 rfl ?_
  refine v_ic (v := (nI 2)) 414 zC dL_law_413 (by decide +kernel) ?_
  refine v_iadd (v := (nI (i + 2))) 415 zC dL_law_414 (nI_add _ _) ?_
  refine v_sld 416 zC hX dL_law_415 (by omega) hL ?_
  refine v_al_n 417 zC dL_law_416 3 rfl ?_
  refine v_il_n 418 zC dL_law_417 0 rfl ?_
  refine v_ic (v := (nI 3)) 419 zC dL_law_418 (by decide +kernel) ?_
  refine v_iadd (v := (nI (i + 3))) 420 zC dL_law_419 (nI_add _ _) ?_
  refine v_sld 421 zC hX dL_law_420 (by omega) hL ?_
  refine v_cV2 (As := [.int (xs (i + 1)), .int (xs (i + 2)), .int (xs (i + 3))]) (st := []) 424 0 [0, 1, 5, 6, 7, 13, 12] zC dL_law_421 hA (c_X4_dies (ev_l E) (ev_D E) cI (x0 := x0) (xm := c0) (xp := e0) (y0 := y0) (pd := pd) (rs := rs) (b0 := b0) (s0 := s0) (w0 := w0) (a0 := a0) (a1 := a1) (a2 := a2) (a3 := a3) (a4 := a4) (a5 := a5) (a6 := a6) (n := n) (m := m) (sh := sh) (K := K) (G := G) (T := T) (g0 := g0) (g1 := g1) (g2 := g2) (g3 := g3) (cs := cs) (R := R) (k := (xs (i + 1))) (g := (xs (i + 2))) (t := (xs (i + 3))) (hm := hm)) cf_X4_dies lk_L_36 rfl rfl rfl rfl rfl (by decide +kernel) (Nat.le_of_ble_eq_true rfl) (fun rv_1 wv_2 hp_3 hm_4 => ?_)
  clear hm_4
  rcases hp_3 with ⟨hq_5, rfl, rfl⟩ | ⟨hq_6, hq2_7, rfl, rfl⟩ | ⟨hq_8, hq2_9, hq3_10, rfl, rfl⟩ | ⟨kk_11, gg_12, tt_13, h1_14, h2_15, h3_16, hr_17, rfl, rfl⟩
  ·
    rw [sa_9]
    refine v_al_n 425 zC dL_law_424 1 rfl ?_
    refine v_al_n 426 zC dL_law_425 3 rfl ?_
    refine v_il_n 427 zC dL_law_426 0 rfl ?_
    refine v_ic (v := (nI 1)) 428 zC dL_law_427 (by decide +kernel) ?_
    refine v_iadd (v := (nI (i + 1))) 429 zC dL_law_428 (nI_add _ _) ?_
    refine v_sld 430 zC hX dL_law_429 (by omega) hL ?_
    refine v_al_n 431 zC dL_law_430 3 rfl ?_
    refine v_il_n 432 zC dL_law_431 0 rfl ?_
    refine v_ic (v := (nI 2)) 433 zC dL_law_432 (by decide +kernel) ?_
    refine v_iadd (v := (nI (i + 2))) 434 zC dL_law_433 (nI_add _ _) ?_
    refine v_sld 435 zC hX dL_law_434 (by omega) hL ?_
    refine v_al_n 436 zC dL_law_435 3 rfl ?_
    refine v_il_n 437 zC dL_law_436 0 rfl ?_
    refine v_ic (v := (nI 3)) 438 zC dL_law_437 (by decide +kernel) ?_
    refine v_iadd (v := (nI (i + 3))) 439 zC dL_law_438 (nI_add _ _) ?_
    refine v_sld 440 zC hX dL_law_439 (by omega) hL ?_
    refine v_swap ?_
    refine v_cV2 (As := [.int (xs (i + 1)), .int (xs (i + 2)), .int (xs (i + 3))]) (st := [.int (-2)]) 443 0 [0, 5, 6, 7, 12] zC dL_law_440 hA (c_X5_dies (ev_l E) (ev_D E) cI (r0 := r0) (k1 := k1) (k2 := k2) (k3 := k3) (k4 := k4) (k6 := k6) (k7 := k7) (k8 := k8) (k10 := k10) (k12 := k12) (k13 := k13) (k14 := k14) (k15 := k15) (k16 := k16) (k21 := k21) (k22 := k22) (k23 := k23) (k24 := k24) (k25 := k25) (k30 := k30) (k31 := k31) (k33 := k33) (n := n) (m := m) (ls := ls) (ap := ap) (sq := sq) (pl := pl) (tz := cs) (rs := rs) (bd := bd) (pd := pd) (tk := tk) (kv := kv) (sd := sd) (K := K) (G := G) (T := T) (R := R) (k := (xs (i + 1))) (g := (xs (i + 2))) (t := (xs (i + 3))) (hm := hm)) cf_X5_dies lk_L_40 rfl rfl rfl rfl rfl (by decide +kernel) (Nat.le_of_ble_eq_true rfl) (fun rv_18 wv_19 hp_20 hm_21 => ?_)
    clear hm_21
    rcases hp_20 with ⟨hq_22, rfl, rfl⟩ | ⟨hq_23, hq2_24, rfl, rfl⟩ | ⟨hq_25, hq2_26, hq3_27, rfl, rfl⟩ | ⟨kk_28, gg_29, tt_30, h1_31, h2_32, h3_33, hr_34, rfl, rfl⟩
    ·
      rw [sa_7]
      refine v_eqi 1756 zC dL_law_443 (by first | rfl | assumption) ?_
      refine v_swap ?_
      exact kk n m sh n5 m5 sh5 aw5 n2 m2 sh2 aw2 P Q cs ls rs ap sq pl ki op fa K G T ki5 op5 fa5 K5 G5 T5 ki2 op2 fa2 K2 G2 T2 mf kn so wh va sg rw (un R 2 (R 2 + 1)) kw kr mw pi tl kp im tu to M Mr lo pd bd tk kv sd ⟨(by first | assumption | exact trivial | omega | exact hf9 | exact hH9), (by first | assumption | exact trivial | omega | exact hf9 | exact hH9), (by first | assumption | exact trivial | omega | exact hf9 | exact hH9), (by first | assumption | exact trivial | omega | exact hf9 | exact hH9), (by first | assumption | exact trivial | omega | exact hf9 | exact hH9), (by first | assumption | exact trivial | omega | exact hf9 | exact hH9), (by first | assumption | exact trivial | omega | exact hf9 | exact hH9), (by first | assumption | exact trivial | omega | exact hf9 | exact hH9), (by first | assumption | exact trivial | omega | exact hf9 | exact hH9), (by first | assumption | exact trivial | omega | exact hf9 | exact hH9), (by first | assumption | exact trivial | omega | exact hf9 | exact hH9), (by first | assumption | exact trivial | omega | exact hf9 | exact hH9), (by first | assumption | exact trivial | omega | exact hf9 | exact hH9), (by first | assumption | exact trivial | omega | exact hf9 | exact hH9), (by first | assumption | exact trivial | omega | exact hf9 | exact hH9)⟩
    ·
      rw [sa_7]
      exact (no_dies_0_1 hq_5 hq_23 hq2_24).elim
    ·
      rw [sa_7]
      exact (no_dies_0_2 hq_5 hq_25 hq2_26 hq3_27).elim
    ·
      rw [sa_7]
      exact (no_dies_0_3 hq_5 h1_31 h2_32 h3_33 hr_34).elim
  ·
    rw [sa_9]
    refine v_al_n 425 zC dL_law_424 1 rfl ?_
    refine v_al_n 426 zC dL_law_425 3 rfl ?_
    refine v_il_n 427 zC dL_law_426 0 rfl ?_
    refine v_ic (v := (nI 1)) 428 zC dL_law_427 (by decide +kernel) ?_
    refine v_iadd (v := (nI (i + 1))) 429 zC dL_law_428 (nI_add _ _) ?_
    refine v_sld 430 zC hX dL_law_429 (by omega) hL ?_
    refine v_al_n 431 zC dL_law_430 3 rfl ?_
    refine v_il_n 432 zC dL_law_431 0 rfl ?_
    refine v_ic (v := (nI 2)) 433 zC dL_law_432 (by decide +kernel) ?_
    refine v_iadd (v := (nI (i + 2))) 434 zC dL_law_433 (nI_add _ _) ?_
    refine v_sld 435 zC hX dL_law_434 (by omega) hL ?_
    refine v_al_n 436 zC dL_law_435 3 rfl ?_
    refine v_il_n 437 zC dL_law_436 0 rfl ?_
    refine v_ic (v := (nI 3)) 438 zC dL_law_437 (by decide +kernel) ?_
    refine v_iadd (v := (nI (i + 3))) 439 zC dL_law_438 (nI_add _ _) ?_
    refine v_sld 440 zC hX dL_law_439 (by omega) hL ?_
    refine v_swap ?_
    refine v_cV2 (As := [.int (xs (i + 1)), .int (xs (i + 2)), .int (xs (i + 3))]) (st := [.int (-4)]) 443 0 [0, 5, 6, 7, 12] zC dL_law_440 hA (c_X5_dies (ev_l E) (ev_D E) cI (r0 := r0) (k1 := k1) (k2 := k2) (k3 := k3) (k4 := k4) (k6 := k6) (k7 := k7) (k8 := k8) (k10 := k10) (k12 := k12) (k13 := k13) (k14 := k14) (k15 := k15) (k16 := k16) (k21 := k21) (k22 := k22) (k23 := k23) (k24 := k24) (k25 := k25) (k30 := k30) (k31 := k31) (k33 := k33) (n := n) (m := m) (ls := ls) (ap := ap) (sq := sq) (pl := pl) (tz := cs) (rs := rs) (bd := bd) (pd := pd) (tk := tk) (kv := kv) (sd := sd) (K := K) (G := G) (T := T) (R := R) (k := (xs (i + 1))) (g := (xs (i + 2))) (t := (xs (i + 3))) (hm := hm)) cf_X5_dies lk_L_40 rfl rfl rfl rfl rfl (by decide +kernel) (Nat.le_of_ble_eq_true rfl) (fun rv_35 wv_36 hp_37 hm_38 => ?_)
    clear hm_38
    rcases hp_37 with ⟨hq_39, rfl, rfl⟩ | ⟨hq_40, hq2_41, rfl, rfl⟩ | ⟨hq_42, hq2_43, hq3_44, rfl, rfl⟩ | ⟨kk_45, gg_46, tt_47, h1_48, h2_49, h3_50, hr_51, rfl, rfl⟩
    ·
      rw [sa_7]
      exact (no_dies_1_0 hq_6 hq2_7 hq_39).elim
    ·
      rw [sa_7]
      refine v_eqi 1756 zC dL_law_443 (by first | rfl | assumption) ?_
      refine v_swap ?_
      exact kk n m sh n5 m5 sh5 aw5 n2 m2 sh2 aw2 P Q cs ls rs ap sq pl ki op fa K G T ki5 op5 fa5 K5 G5 T5 ki2 op2 fa2 K2 G2 T2 mf kn so wh va sg rw (un R 4 (R 4 + 1)) kw kr mw pi tl kp im tu to M Mr lo pd bd tk kv sd ⟨(by first | assumption | exact trivial | omega | exact hf9 | exact hH9), (by first | assumption | exact trivial | omega | exact hf9 | exact hH9), (by first | assumption | exact trivial | omega | exact hf9 | exact hH9), (by first | assumption | exact trivial | omega | exact hf9 | exact hH9), (by first | assumption | exact trivial | omega | exact hf9 | exact hH9), (by first | assumption | exact trivial | omega | exact hf9 | exact hH9), (by first | assumption | exact trivial | omega | exact hf9 | exact hH9), (by first | assumption | exact trivial | omega | exact hf9 | exact hH9), (by first | assumption | exact trivial | omega | exact hf9 | exact hH9), (by first | assumption | exact trivial | omega | exact hf9 | exact hH9), (by first | assumption | exact trivial | omega | exact hf9 | exact hH9), (by first | assumption | exact trivial | omega | exact hf9 | exact hH9), (by first | assumption | exact trivial | omega | exact hf9 | exact hH9), (by first | assumption | exact trivial | omega | exact hf9 | exact hH9), (by first | assumption | exact trivial | omega | exact hf9 | exact hH9)⟩
    ·
      rw [sa_7]
      exact (no_dies_1_2 hq_6 hq2_7 hq_42 hq2_43 hq3_44).elim
    ·
      rw [sa_7]
      exact (no_dies_1_3 hq_6 hq2_7 h1_48 h2_49 h3_50 hr_51).elim
  ·
    rw [sa_9]
    refine v_al_n 425 zC dL_law_424 1 rfl ?_
    refine v_al_n 426 zC dL_law_425 3 rfl ?_
    refine v_il_n 427 zC dL_law_426 0 rfl ?_
    refine v_ic (v := (nI 1)) 428 zC dL_law_427 (by decide +kernel) ?_
    refine v_iadd (v := (nI (i + 1))) 429 zC dL_law_428 (nI_add _ _) ?_
    refine v_sld 430 zC hX dL_law_429 (by omega) hL ?_
    refine v_al_n 431 zC dL_law_430 3 rfl ?_
    refine v_il_n 432 zC dL_law_431 0 rfl ?_
    refine v_ic (v := (nI 2)) 433 zC dL_law_432 (by decide +kernel) ?_
    refine v_iadd (v := (nI (i + 2))) 434 zC dL_law_433 (nI_add _ _) ?_
    refine v_sld 435 zC hX dL_law_434 (by omega) hL ?_
    refine v_al_n 436 zC dL_law_435 3 rfl ?_
    refine v_il_n 437 zC dL_law_436 0 rfl ?_
    refine v_ic (v := (nI 3)) 438 zC dL_law_437 (by decide +kernel) ?_
    refine v_iadd (v := (nI (i + 3))) 439 zC dL_law_438 (nI_add _ _) ?_
    refine v_sld 440 zC hX dL_law_439 (by omega) hL ?_
    refine v_swap ?_
    refine v_cV2 (As := [.int (xs (i + 1)), .int (xs (i + 2)), .int (xs (i + 3))]) (st := [.int (-6)]) 443 0 [0, 5, 6, 7, 12] zC dL_law_440 hA (c_X5_dies (ev_l E) (ev_D E) cI (r0 := r0) (k1 := k1) (k2 := k2) (k3 := k3) (k4 := k4) (k6 := k6) (k7 := k7) (k8 := k8) (k10 := k10) (k12 := k12) (k13 := k13) (k14 := k14) (k15 := k15) (k16 := k16) (k21 := k21) (k22 := k22) (k23 := k23) (k24 := k24) (k25 := k25) (k30 := k30) (k31 := k31) (k33 := k33) (n := n) (m := m) (ls := ls) (ap := ap) (sq := sq) (pl := pl) (tz := cs) (rs := rs) (bd := bd) (pd := pd) (tk := tk) (kv := kv) (sd := sd) (K := K) (G := G) (T := T) (R := R) (k := (xs (i + 1))) (g := (xs (i + 2))) (t := (xs (i + 3))) (hm := hm)) cf_X5_dies lk_L_40 rfl rfl rfl rfl rfl (by decide +kernel) (Nat.le_of_ble_eq_true rfl) (fun rv_52 wv_53 hp_54 hm_55 => ?_)
    clear hm_55
    rcases hp_54 with ⟨hq_56, rfl, rfl⟩ | ⟨hq_57, hq2_58, rfl, rfl⟩ | ⟨hq_59, hq2_60, hq3_61, rfl, rfl⟩ | ⟨kk_62, gg_63, tt_64, h1_65, h2_66, h3_67, hr_68, rfl, rfl⟩
    ·
      rw [sa_7]
      exact (no_dies_2_0 hq_8 hq2_9 hq3_10 hq_56).elim
    ·
      rw [sa_7]
      exact (no_dies_2_1 hq_8 hq2_9 hq3_10 hq_57 hq2_58).elim
    ·
      rw [sa_7]
      refine v_eqi 1756 zC dL_law_443 (by first | rfl | assumption) ?_
      refine v_swap ?_
      exact kk n m sh n5 m5 sh5 aw5 n2 m2 sh2 aw2 P Q cs ls rs ap sq pl ki op fa K G T ki5 op5 fa5 K5 G5 T5 ki2 op2 fa2 K2 G2 T2 mf kn so wh va sg rw (un R 6 (R 6 + 1)) kw kr mw pi tl kp im tu to M Mr lo pd bd tk kv sd ⟨(by first | assumption | exact trivial | omega | exact hf9 | exact hH9), (by first | assumption | exact trivial | omega | exact hf9 | exact hH9), (by first | assumption | exact trivial | omega | exact hf9 | exact hH9), (by first | assumption | exact trivial | omega | exact hf9 | exact hH9), (by first | assumption | exact trivial | omega | exact hf9 | exact hH9), (by first | assumption | exact trivial | omega | exact hf9 | exact hH9), (by first | assumption | exact trivial | omega | exact hf9 | exact hH9), (by first | assumption | exact trivial | omega | exact hf9 | exact hH9), (by first | assumption | exact trivial | omega | exact hf9 | exact hH9), (by first | assumption | exact trivial | omega | exact hf9 | exact hH9), (by first | assumption | exact trivial | omega | exact hf9 | exact hH9), (by first | assumption | exact trivial | omega | exact hf9 | exact hH9), (by first | assumption | exact trivial | omega | exact hf9 | exact hH9), (by first | assumption | exact trivial | omega | exact hf9 | exact hH9), (by first | assumption | exact trivial | omega | exact hf9 | exact hH9)⟩
    ·
      rw [sa_7]
      exact (no_dies_2_3 hq_8 hq2_9 hq3_10 h1_65 h2_66 h3_67 hr_68).elim
  ·
    rw [sa_9]
    refine v_al_n 425 zC dL_law_424 1 rfl ?_
    refine v_al_n 426 zC dL_law_425 3 rfl ?_
    refine v_il_n 427 zC dL_law_426 0 rfl ?_
    refine v_ic (v := (nI 1)) 428 zC dL_law_427 (by decide +kernel) ?_
    refine v_iadd (v := (nI (i + 1))) 429 zC dL_law_428 (nI_add _ _) ?_
    refine v_sld 430 zC hX dL_law_429 (by omega) hL ?_
    refine v_al_n 431 zC dL_law_430 3 rfl ?_
    refine v_il_n 432 zC dL_law_431 0 rfl ?_
    refine v_ic (v := (nI 2)) 433 zC dL_law_432 (by decide +kernel) ?_
    refine v_iadd (v := (nI (i + 2))) 434 zC dL_law_433 (nI_add _ _) ?_
    refine v_sld 435 zC hX dL_law_434 (by omega) hL ?_
    refine v_al_n 436 zC dL_law_435 3 rfl ?_
    refine v_il_n 437 zC dL_law_436 0 rfl ?_
    refine v_ic (v := (nI 3)) 438 zC dL_law_437 (by decide +kernel) ?_
    refine v_iadd (v := (nI (i + 3))) 439 zC dL_law_438 (nI_add _ _) ?_
    refine v_sld 440 zC hX dL_law_439 (by omega) hL ?_
    refine v_swap ?_
    refine v_cV2 (As := [.int (xs (i + 1)), .int (xs (i + 2)), .int (xs (i + 3))]) (st := [.int (nI m)]) 443 0 [0, 5, 6, 7, 12] zC dL_law_440 hA (c_X5_dies (ev_l E) (ev_D E) cI (r0 := r0) (k1 := k1) (k2 := k2) (k3 := k3) (k4 := k4) (k6 := k6) (k7 := k7) (k8 := k8) (k10 := k10) (k12 := k12) (k13 := k13) (k14 := k14) (k15 := k15) (k16 := k16) (k21 := k21) (k22 := k22) (k23 := k23) (k24 := k24) (k25 := k25) (k30 := k30) (k31 := k31) (k33 := k33) (n := n) (m := m) (ls := ls) (ap := ap) (sq := sq) (pl := pl) (tz := cs) (rs := rs) (bd := bd) (pd := pd) (tk := tk) (kv := kv) (sd := sd) (K := K) (G := G) (T := T) (R := R) (k := (xs (i + 1))) (g := (xs (i + 2))) (t := (xs (i + 3))) (hm := hm)) cf_X5_dies lk_L_40 rfl rfl rfl rfl rfl (by decide +kernel) (Nat.le_of_ble_eq_true rfl) (fun rv_69 wv_70 hp_71 hm_72 => ?_)
    clear hm_72
    rcases hp_71 with ⟨hq_73, rfl, rfl⟩ | ⟨hq_74, hq2_75, rfl, rfl⟩ | ⟨hq_76, hq2_77, hq3_78, rfl, rfl⟩ | ⟨kk_79, gg_80, tt_81, h1_82, h2_83, h3_84, hr_85, rfl, rfl⟩
    ·
      rw [sa_7]
      exact (no_dies_3_0 h1_14 h2_15 h3_16 hr_17 hq_73).elim
    ·
      rw [sa_7]
      exact (no_dies_3_1 h1_14 h2_15 h3_16 hr_17 hq_74 hq2_75).elim
    ·
      rw [sa_7]
      exact (no_dies_3_2 h1_14 h2_15 h3_16 hr_17 hq_76 hq2_77 hq3_78).elim
    ·
      rw [sa_7]
      have ez := Option.some.inj (h1_14.symm.trans h1_82)
      subst ez
      have ez := Option.some.inj (h2_15.symm.trans h2_83)
      subst ez
      have ez := Option.some.inj (h3_16.symm.trans h3_84)
      subst ez
      have hw9 := fw_die hw hr_17 (ix_lt (by omega) h1_14) (ix_lt (by omega) h2_15) (ix_lt (by omega) h3_16)
      refine v_eqi 1756 zC dL_law_443 (by first | rfl | assumption) ?_
      refine v_swap ?_
      exact kk n (m + 1) sh n5 m5 sh5 aw5 n2 m2 sh2 aw2 P Q 0 ls rs ap sq pl ki op fa (un K m kk_11) (un G m gg_12) (un T m tt_13) ki5 op5 fa5 K5 G5 T5 ki2 op2 fa2 K2 G2 T2 mf kn so wh va sg rw R kw kr mw pi tl kp im tu to M Mr lo pd bd tk kv sd ⟨(by first | assumption | exact trivial | omega | exact hf9 | exact hH9), (by first | assumption | exact trivial | omega | exact hf9 | exact hH9), (by first | assumption | exact trivial | omega | exact hf9 | exact hH9), (by first | assumption | exact trivial | omega | exact hf9 | exact hH9), (by first | assumption | exact trivial | omega | exact hf9 | exact hH9), (by first | assumption | exact trivial | omega | exact hf9 | exact hH9), (by first | assumption | exact trivial | omega | exact hf9 | exact hH9), (by first | assumption | exact trivial | omega | exact hf9 | exact hH9), (by first | assumption | exact trivial | omega | exact hf9 | exact hH9), (by first | assumption | exact trivial | omega | exact hf9 | exact hH9), (by first | assumption | exact trivial | omega | exact hf9 | exact hH9), (by first | assumption | exact trivial | omega | exact hf9 | exact hH9), (by first | assumption | exact trivial | omega | exact hf9 | exact hH9), (by first | assumption | exact trivial | omega | exact hf9 | exact hH9), (by first | assumption | exact trivial | omega | exact hf9 | exact hH9)⟩
set_option maxRecDepth 100000 in
set_option maxHeartbeats 4000000 in
theorem lawc_6 {E : EV} {cI : ClassId} {b L i : Nat} {xs : Nat → Int32} (x0 a0 a1 a2 a3 a4 a5 a6 c0 c1 c2 c3 c4 c5 c6 e0 e1 e2 e3 e4 e5 e6 b0 b1 b2 b3 g0 g1 g2 g3 s0 s1 w0 y0 r0 k1 k2 k3 k4 k6 k7 k8 k10 k12 k13 k14 k15 k16 k21 k22 k23 k24 k25 k30 k31 k33 : Nat) (zC : CX E cL_law RL (some .boolean) cI room_1) (hA : ∀ q, (ev_s E).heap.size ≤ q → ev_A E q) (hX : XS E b L xs) (hL : L ≤ 2560) (hi : i + 5 ≤ L) (kk : LGO E cI 1756 b i x0 a0 a1 a2 a3 a4 a5 a6 c0 c1 c2 c3 c4 c5 c6 e0 e1 e2 e3 e4 e5 e6 b0 b1 b2 b3 g0 g1 g2 g3 s0 s1 w0 y0 r0 k1 k2 k3 k4 k6 k7 k8 k10 k12 k13 k14 k15 k16 k21 k22 k23 k24 k25 k30 k31 k33) : LGO E cI 448 b i x0 a0 a1 a2 a3 a4 a5 a6 c0 c1 c2 c3 c4 c5 c6 e0 e1 e2 e3 e4 e5 e6 b0 b1 b2 b3 g0 g1 g2 g3 s0 s1 w0 y0 r0 k1 k2 k3 k4 k6 k7 k8 k10 k12 k13 k14 k15 k16 k21 k22 k23 k24 k25 k30 k31 k33 := by
  intro n m sh n5 m5 sh5 aw5 n2 m2 sh2 aw2 P Q cs ls rs ap sq pl ki op fa K G T ki5 op5 fa5 K5 G5 T5 ki2 op2 fa2 K2 G2 T2 mf kn so wh va sg rw R kw kr mw pi tl kp im tu to M Mr lo pd bd tk kv sd hI
  obtain ⟨hw, hw5, hw2, hB, hM, hcs, hH, hl, hsg, hr, hrw, hkw, hkr, hMr, hE9⟩ := hI
  obtain ⟨hn, hm, hsh, hki, hop, hfa, hK, hG, hT, -⟩ := id hw
  refine v_al_n 449 zC dL_law_448 2 rfl ?_
  refine v_al_n 450 zC dL_law_449 3 rfl ?_
  refine v_il_n 451 zC dL_law_450 0 rfl ?_
  refine v_ic (v := (nI 1)) 452 zC dL_law_451 (by decide +kernel) ?_
  refine v_iadd (v := (nI (i + 1))) 453 zC dL_law_452 (nI_add _ _) ?_
  refine v_sld 454 zC hX dL_law_453 (by omega) hL ?_
  refine v_al_n 455 zC dL_law_454 3 rfl ?_
  refine v_il_n 456 zC dL_law_455 0 rfl ?_
  refine v_ic (v := (nI 2)) 457 zC dL_law_456 (by decide +kernel) ?_
  refine v_iadd (v := (nI (i + 2))) 458 zC dL_law_457 (nI_add _ _) ?_
  refine v_sld 459 zC hX dL_law_458 (by omega) hL ?_
  refine v_cV2 (As := [.int (xs (i + 1)), .int (xs (i + 2))]) (st := []) 462 0 [0, 1, 2, 3, 4, 5, 6, 7, 13, 14, 15, 16, 12] zC dL_law_459 hA (c_X4_open (ev_l E) (ev_D E) cI (x0 := x0) (xm := c0) (xp := e0) (y0 := y0) (pd := pd) (rs := rs) (b0 := b0) (s0 := s0) (w0 := w0) (a0 := a0) (a1 := a1) (a2 := a2) (a3 := a3) (a4 := a4) (a5 := a5) (a6 := a6) (n := n) (m := m) (sh := sh) (ki := ki) (op := op) (fa := fa) (K := K) (G := G) (T := T) (g0 := g0) (g1 := g1) (g2 := g2) (g3 := g3) (cs := cs) (so := so) (wh := wh) (va := va) (R := R) (p := (xs (i + 1))) (h := (xs (i + 2))) (hw := hw) (hc := hcs)) cf_X4_open lk_L_41 rfl rfl rfl rfl rfl (by decide +kernel) (Nat.le_of_ble_eq_true rfl) (fun rv_1 wv_2 hp_3 hm_4 => ?_)
  clear hm_4
  rcases hp_3 with ⟨hq_5, rfl, rfl⟩ | ⟨j_6, k_7, hj_8, hk_9, rfl, rfl⟩
  ·
    rw [sa_10]
    refine v_al_n 463 zC dL_law_462 1 rfl ?_
    refine v_al_n 464 zC dL_law_463 3 rfl ?_
    refine v_il_n 465 zC dL_law_464 0 rfl ?_
    refine v_ic (v := (nI 1)) 466 zC dL_law_465 (by decide +kernel) ?_
    refine v_iadd (v := (nI (i + 1))) 467 zC dL_law_466 (nI_add _ _) ?_
    refine v_sld 468 zC hX dL_law_467 (by omega) hL ?_
    refine v_al_n 469 zC dL_law_468 3 rfl ?_
    refine v_il_n 470 zC dL_law_469 0 rfl ?_
    refine v_ic (v := (nI 2)) 471 zC dL_law_470 (by decide +kernel) ?_
    refine v_iadd (v := (nI (i + 2))) 472 zC dL_law_471 (nI_add _ _) ?_
    refine v_sld 473 zC hX dL_law_472 (by omega) hL ?_
    refine v_swap ?_
    refine v_cV2 (As := [.int (xs (i + 1)), .int (xs (i + 2))]) (st := [.int (-1)]) 476 0 [0, 1, 2, 3, 4, 5, 6, 7, 19, 20, 12] zC dL_law_473 hA (c_X5_open (ev_l E) (ev_D E) cI (r0 := r0) (k1 := k1) (k2 := k2) (k3 := k3) (k4 := k4) (k6 := k6) (k7 := k7) (k8 := k8) (k10 := k10) (k12 := k12) (k13 := k13) (k14 := k14) (k15 := k15) (k16 := k16) (k21 := k21) (k22 := k22) (k23 := k23) (k24 := k24) (k25 := k25) (k30 := k30) (k31 := k31) (k33 := k33) (n := n) (m := m) (ls := ls) (ap := ap) (sq := sq) (pl := pl) (tz := cs) (rs := rs) (bd := bd) (pd := pd) (tk := tk) (kv := kv) (sd := sd) (ki := ki) (op := op) (fa := fa) (K := K) (G := G) (T := T) (sh := sh) (tu := tu) (to := to) (R := R) (p := (xs (i + 1))) (h := (xs (i + 2))) (hw := hw) (ht := hcs)) cf_X5_open lk_L_44 rfl rfl rfl rfl rfl (by decide +kernel) (Nat.le_of_ble_eq_true rfl) (fun rv_10 wv_11 hp_12 hm_13 => ?_)
    clear hm_13
    rcases hp_12 with ⟨hq_14, rfl, rfl⟩ | ⟨j_15, k_16, t1_17, u1_18, o1_19, hj_20, hk_21, hK_22, ht1_23, rfl, rfl⟩
    ·
      rw [sa_11]
      refine v_eqi 1756 zC dL_law_476 (by first | rfl | assumption) ?_
      refine v_swap ?_
      exact kk n m sh n5 m5 sh5 aw5 n2 m2 sh2 aw2 P Q cs ls rs ap sq pl ki op fa K G T ki5 op5 fa5 K5 G5 T5 ki2 op2 fa2 K2 G2 T2 mf kn so wh va sg rw (un R 1 (R 1 + 1)) kw kr mw pi tl kp im tu to M Mr lo pd bd tk kv sd ⟨(by first | assumption | exact trivial | omega | exact hf9 | exact hH9), (by first | assumption | exact trivial | omega | exact hf9 | exact hH9), (by first | assumption | exact trivial | omega | exact hf9 | exact hH9), (by first | assumption | exact trivial | omega | exact hf9 | exact hH9), (by first | assumption | exact trivial | omega | exact hf9 | exact hH9), (by first | assumption | exact trivial | omega | exact hf9 | exact hH9), (by first | assumption | exact trivial | omega | exact hf9 | exact hH9), (by first | assumption | exact trivial | omega | exact hf9 | exact hH9), (by first | assumption | exact trivial | omega | exact hf9 | exact hH9), (by first | assumption | exact trivial | omega | exact hf9 | exact hH9), (by first | assumption | exact trivial | omega | exact hf9 | exact hH9), (by first | assumption | exact trivial | omega | exact hf9 | exact hH9), (by first | assumption | exact trivial | omega | exact hf9 | exact hH9), (by first | assumption | exact trivial | omega | exact hf9 | exact hH9), (by first | assumption | exact trivial | omega | exact hf9 | exact hH9)⟩
    ·
      rw [sa_11]
      exact (no_open_0_1 hq_5 hj_20 hk_21).elim
  ·
    rw [sa_10]
    refine v_al_n 463 zC dL_law_462 1 rfl ?_
    refine v_al_n 464 zC dL_law_463 3 rfl ?_
    refine v_il_n 465 zC dL_law_464 0 rfl ?_
    refine v_ic (v := (nI 1)) 466 zC dL_law_465 (by decide +kernel) ?_
    refine v_iadd (v := (nI (i + 1))) 467 zC dL_law_466 (nI_add _ _) ?_
    refine v_sld 468 zC hX dL_law_467 (by omega) hL ?_
    refine v_al_n 469 zC dL_law_468 3 rfl ?_
    refine v_il_n 470 zC dL_law_469 0 rfl ?_
    refine v_ic (v := (nI 2)) 471 zC dL_law_470 (by decide +kernel) ?_
    refine v_iadd (v := (nI (i + 2))) 472 zC dL_law_471 (nI_add _ _) ?_
    refine v_sld 473 zC hX dL_law_472 (by omega) hL ?_
    refine v_swap ?_
    refine v_cV2 (As := [.int (xs (i + 1)), .int (xs (i + 2))]) (st := [.int (bz (Nat.testBit (un op j_6 (op j_6 ^^^ 2 ^ k_7) j_6) k_7))]) 476 0 [0, 1, 2, 3, 4, 5, 6, 7, 19, 20, 12] zC dL_law_473 hA (c_X5_open (ev_l E) (ev_D E) cI (r0 := r0) (k1 := k1) (k2 := k2) (k3 := k3) (k4 := k4) (k6 := k6) (k7 := k7) (k8 := k8) (k10 := k10) (k12 := k12) (k13 := k13) (k14 := k14) (k15 := k15) (k16 := k16) (k21 := k21) (k22 := k22) (k23 := k23) (k24 := k24) (k25 := k25) (k30 := k30) (k31 := k31) (k33 := k33) (n := n) (m := m) (ls := ls) (ap := ap) (sq := sq) (pl := pl) (tz := cs) (rs := rs) (bd := bd) (pd := pd) (tk := tk) (kv := kv) (sd := sd) (ki := ki) (op := op) (fa := fa) (K := K) (G := G) (T := T) (sh := sh) (tu := tu) (to := to) (R := R) (p := (xs (i + 1))) (h := (xs (i + 2))) (hw := hw) (ht := hcs)) cf_X5_open lk_L_44 rfl rfl rfl rfl rfl (by decide +kernel) (Nat.le_of_ble_eq_true rfl) (fun rv_24 wv_25 hp_26 hm_27 => ?_)
    clear hm_27
    rcases hp_26 with ⟨hq_28, rfl, rfl⟩ | ⟨j_29, k_30, t1_31, u1_32, o1_33, hj_34, hk_35, hK_36, ht1_37, rfl, rfl⟩
    ·
      rw [sa_11]
      exact (no_open_1_0 hj_8 hk_9 hq_28).elim
    ·
      rw [sa_11]
      have ez := Option.some.inj (hj_8.symm.trans hj_34)
      subst ez
      have ez := Option.some.inj (hk_9.symm.trans hk_35)
      subst ez
      have hj9 := ix_lt (by omega) hj_8
      have hk9 := ix_lt (by omega) hk_9
      have hw9 := fw_op hw hj9 hk9
      obtain ⟨ez, hH9⟩ := hist_push (s2 := (n, m, sh, 0, ki, un op j_6 (op j_6 ^^^ 2 ^ k_7), fa, K, G, T)) (k := 0) (j := j_6) (v := k_7) hH hw (Or.inl ⟨rfl, hj9, hk9⟩) (congrArg (fun z => ((n, m, sh, 0, ki, z, fa, K, G, T) : SG)) un_xx) hK_36
      subst ez
      refine v_eqi 1756 zC dL_law_476 (by first | rfl | assumption) ?_
      refine v_swap ?_
      exact kk n m sh n5 m5 sh5 aw5 n2 m2 sh2 aw2 P Q (csz cs) ls rs ap sq 48 ki (un op j_6 (op j_6 ^^^ 2 ^ k_7)) fa K G T ki5 op5 fa5 K5 G5 T5 ki2 op2 fa2 K2 G2 T2 mf kn (shp so cs 0) (shp wh cs j_6) (shp va cs k_7) sg rw R kw kr mw pi tl kp im u1_32 o1_33 M Mr lo pd bd true (.ref k31 : Value) sd ⟨(by first | assumption | exact trivial | omega | exact hf9 | exact hH9), (by first | assumption | exact trivial | omega | exact hf9 | exact hH9), (by first | assumption | exact trivial | omega | exact hf9 | exact hH9), (by first | assumption | exact trivial | omega | exact hf9 | exact hH9), (by first | assumption | exact trivial | omega | exact hf9 | exact hH9), (by first | assumption | exact trivial | omega | exact hf9 | exact hH9), (by first | assumption | exact trivial | omega | exact hf9 | exact hH9), (by first | assumption | exact trivial | omega | exact hf9 | exact hH9), (by first | assumption | exact trivial | omega | exact hf9 | exact hH9), (by first | assumption | exact trivial | omega | exact hf9 | exact hH9), (by first | assumption | exact trivial | omega | exact hf9 | exact hH9), (by first | assumption | exact trivial | omega | exact hf9 | exact hH9), (by first | assumption | exact trivial | omega | exact hf9 | exact hH9), (by first | assumption | exact trivial | omega | exact hf9 | exact hH9), (by first | assumption | exact trivial | omega | exact hf9 | exact hH9)⟩
set_option maxRecDepth 100000 in
set_option maxHeartbeats 4000000 in
theorem lawc_7 {E : EV} {cI : ClassId} {b L i : Nat} {xs : Nat → Int32} (x0 a0 a1 a2 a3 a4 a5 a6 c0 c1 c2 c3 c4 c5 c6 e0 e1 e2 e3 e4 e5 e6 b0 b1 b2 b3 g0 g1 g2 g3 s0 s1 w0 y0 r0 k1 k2 k3 k4 k6 k7 k8 k10 k12 k13 k14 k15 k16 k21 k22 k23 k24 k25 k30 k31 k33 : Nat) (zC : CX E cL_law RL (some .boolean) cI room_1) (hA : ∀ q, (ev_s E).heap.size ≤ q → ev_A E q) (hX : XS E b L xs) (hL : L ≤ 2560) (hi : i + 5 ≤ L) (kk : LGO E cI 1756 b i x0 a0 a1 a2 a3 a4 a5 a6 c0 c1 c2 c3 c4 c5 c6 e0 e1 e2 e3 e4 e5 e6 b0 b1 b2 b3 g0 g1 g2 g3 s0 s1 w0 y0 r0 k1 k2 k3 k4 k6 k7 k8 k10 k12 k13 k14 k15 k16 k21 k22 k23 k24 k25 k30 k31 k33) : LGO E cI 481 b i x0 a0 a1 a2 a3 a4 a5 a6 c0 c1 c2 c3 c4 c5 c6 e0 e1 e2 e3 e4 e5 e6 b0 b1 b2 b3 g0 g1 g2 g3 s0 s1 w0 y0 r0 k1 k2 k3 k4 k6 k7 k8 k10 k12 k13 k14 k15 k16 k21 k22 k23 k24 k25 k30 k31 k33 := by
  intro n m sh n5 m5 sh5 aw5 n2 m2 sh2 aw2 P Q cs ls rs ap sq pl ki op fa K G T ki5 op5 fa5 K5 G5 T5 ki2 op2 fa2 K2 G2 T2 mf kn so wh va sg rw R kw kr mw pi tl kp im tu to M Mr lo pd bd tk kv sd hI
  obtain ⟨hw, hw5, hw2, hB, hM, hcs, hH, hl, hsg, hr, hrw, hkw, hkr, hMr, hE9⟩ := hI
  obtain ⟨hn, hm, hsh, hki, hop, hfa, hK, hG, hT, -⟩ := id hw
  refine v_al_n 482 zC dL_law_481 2 rfl ?_
  refine v_al_n 483 zC dL_law_482 3 rfl ?_
  refine v_il_n 484 zC dL_law_483 0 rfl ?_
  refine v_ic (v := (nI 1)) 485 zC dL_law_484 (by decide +kernel) ?_
  refine v_iadd (v := (nI (i + 1))) 486 zC dL_law_485 (nI_add _ _) ?_
  refine v_sld 487 zC hX dL_law_486 (by omega) hL ?_
  refine v_cV2 (As := [.int (xs (i + 1))]) (st := []) 490 0 [0, 1, 2, 3, 4, 5, 6, 7, 13, 14, 15, 16, 12] zC dL_law_487 hA (c_X4_shut (ev_l E) (ev_D E) cI (x0 := x0) (xm := c0) (xp := e0) (y0 := y0) (pd := pd) (rs := rs) (b0 := b0) (s0 := s0) (w0 := w0) (a0 := a0) (a1 := a1) (a2 := a2) (a3 := a3) (a4 := a4) (a5 := a5) (a6 := a6) (n := n) (m := m) (sh := sh) (ki := ki) (op := op) (fa := fa) (K := K) (G := G) (T := T) (g0 := g0) (g1 := g1) (g2 := g2) (g3 := g3) (cs := cs) (so := so) (wh := wh) (va := va) (R := R) (p := (xs (i + 1))) (hw := hw) (hc := hcs)) cf_X4_shut lk_L_45 rfl rfl rfl rfl rfl (by decide +kernel) (Nat.le_of_ble_eq_true rfl) (fun rv_1 wv_2 hp_3 hm_4 => ?_)
  clear hm_4
  rcases hp_3 with ⟨hq_5, rfl, rfl⟩ | ⟨j_6, hj_7, rfl, rfl⟩
  ·
    rw [sa_10]
    refine v_al_n 491 zC dL_law_490 1 rfl ?_
    refine v_al_n 492 zC dL_law_491 3 rfl ?_
    refine v_il_n 493 zC dL_law_492 0 rfl ?_
    refine v_ic (v := (nI 1)) 494 zC dL_law_493 (by decide +kernel) ?_
    refine v_iadd (v := (nI (i + 1))) 495 zC dL_law_494 (nI_add _ _) ?_
    refine v_sld 496 zC hX dL_law_495 (by omega) hL ?_
    refine v_swap ?_
    refine v_cV2 (As := [.int (xs (i + 1))]) (st := [.int (-1)]) 499 0 [0, 1, 2, 3, 4, 5, 6, 7, 19, 20, 12] zC dL_law_496 hA (c_X5_shut (ev_l E) (ev_D E) cI (r0 := r0) (k1 := k1) (k2 := k2) (k3 := k3) (k4 := k4) (k6 := k6) (k7 := k7) (k8 := k8) (k10 := k10) (k12 := k12) (k13 := k13) (k14 := k14) (k15 := k15) (k16 := k16) (k21 := k21) (k22 := k22) (k23 := k23) (k24 := k24) (k25 := k25) (k30 := k30) (k31 := k31) (k33 := k33) (n := n) (m := m) (ls := ls) (ap := ap) (sq := sq) (pl := pl) (tz := cs) (rs := rs) (bd := bd) (pd := pd) (tk := tk) (kv := kv) (sd := sd) (ki := ki) (op := op) (fa := fa) (K := K) (G := G) (T := T) (sh := sh) (tu := tu) (to := to) (R := R) (p := (xs (i + 1))) (hw := hw) (ht := hcs)) cf_X5_shut lk_L_48 rfl rfl rfl rfl rfl (by decide +kernel) (Nat.le_of_ble_eq_true rfl) (fun rv_8 wv_9 hp_10 hm_11 => ?_)
    clear hm_11
    rcases hp_10 with ⟨hq_12, rfl, rfl⟩ | ⟨j_13, t1_14, u1_15, o1_16, hj_17, hK_18, ht1_19, rfl, rfl⟩
    ·
      rw [sa_11]
      refine v_eqi 1756 zC dL_law_499 (by first | rfl | assumption) ?_
      refine v_swap ?_
      exact kk n m sh n5 m5 sh5 aw5 n2 m2 sh2 aw2 P Q cs ls rs ap sq pl ki op fa K G T ki5 op5 fa5 K5 G5 T5 ki2 op2 fa2 K2 G2 T2 mf kn so wh va sg rw (un R 1 (R 1 + 1)) kw kr mw pi tl kp im tu to M Mr lo pd bd tk kv sd ⟨(by first | assumption | exact trivial | omega | exact hf9 | exact hH9), (by first | assumption | exact trivial | omega | exact hf9 | exact hH9), (by first | assumption | exact trivial | omega | exact hf9 | exact hH9), (by first | assumption | exact trivial | omega | exact hf9 | exact hH9), (by first | assumption | exact trivial | omega | exact hf9 | exact hH9), (by first | assumption | exact trivial | omega | exact hf9 | exact hH9), (by first | assumption | exact trivial | omega | exact hf9 | exact hH9), (by first | assumption | exact trivial | omega | exact hf9 | exact hH9), (by first | assumption | exact trivial | omega | exact hf9 | exact hH9), (by first | assumption | exact trivial | omega | exact hf9 | exact hH9), (by first | assumption | exact trivial | omega | exact hf9 | exact hH9), (by first | assumption | exact trivial | omega | exact hf9 | exact hH9), (by first | assumption | exact trivial | omega | exact hf9 | exact hH9), (by first | assumption | exact trivial | omega | exact hf9 | exact hH9), (by first | assumption | exact trivial | omega | exact hf9 | exact hH9)⟩
    ·
      rw [sa_11]
      exact (no_shut_0_1 hq_5 hj_17).elim
  ·
    rw [sa_10]
    refine v_al_n 491 zC dL_law_490 1 rfl ?_
    refine v_al_n 492 zC dL_law_491 3 rfl ?_
    refine v_il_n 493 zC dL_law_492 0 rfl ?_
    refine v_ic (v := (nI 1)) 494 zC dL_law_493 (by decide +kernel) ?_
    refine v_iadd (v := (nI (i + 1))) 495 zC dL_law_494 (nI_add _ _) ?_
    refine v_sld 496 zC hX dL_law_495 (by omega) hL ?_
    refine v_swap ?_
    refine v_cV2 (As := [.int (xs (i + 1))]) (st := [.int (bz (Nat.testBit (sh ^^^ 2 ^ j_6) j_6))]) 499 0 [0, 1, 2, 3, 4, 5, 6, 7, 19, 20, 12] zC dL_law_496 hA (c_X5_shut (ev_l E) (ev_D E) cI (r0 := r0) (k1 := k1) (k2 := k2) (k3 := k3) (k4 := k4) (k6 := k6) (k7 := k7) (k8 := k8) (k10 := k10) (k12 := k12) (k13 := k13) (k14 := k14) (k15 := k15) (k16 := k16) (k21 := k21) (k22 := k22) (k23 := k23) (k24 := k24) (k25 := k25) (k30 := k30) (k31 := k31) (k33 := k33) (n := n) (m := m) (ls := ls) (ap := ap) (sq := sq) (pl := pl) (tz := cs) (rs := rs) (bd := bd) (pd := pd) (tk := tk) (kv := kv) (sd := sd) (ki := ki) (op := op) (fa := fa) (K := K) (G := G) (T := T) (sh := sh) (tu := tu) (to := to) (R := R) (p := (xs (i + 1))) (hw := hw) (ht := hcs)) cf_X5_shut lk_L_48 rfl rfl rfl rfl rfl (by decide +kernel) (Nat.le_of_ble_eq_true rfl) (fun rv_20 wv_21 hp_22 hm_23 => ?_)
    clear hm_23
    rcases hp_22 with ⟨hq_24, rfl, rfl⟩ | ⟨j_25, t1_26, u1_27, o1_28, hj_29, hK_30, ht1_31, rfl, rfl⟩
    ·
      rw [sa_11]
      exact (no_shut_1_0 hj_7 hq_24).elim
    ·
      rw [sa_11]
      have ez := Option.some.inj (hj_7.symm.trans hj_29)
      subst ez
      have hj9 := ix_lt (by omega) hj_7
      have hw9 := fw_sh hw hj9
      obtain ⟨ez, hH9⟩ := hist_push (s2 := (n, m, sh ^^^ 2 ^ j_6, 0, ki, op, fa, K, G, T)) (k := 1) (j := j_6) (v := 0) hH hw (Or.inr (Or.inl ⟨rfl, hj9⟩)) (congrArg (fun z => ((n, m, z, 0, ki, op, fa, K, G, T) : SG)) xx_sh) hK_30
      subst ez
      refine v_eqi 1756 zC dL_law_499 (by first | rfl | assumption) ?_
      refine v_swap ?_
      exact kk n m (sh ^^^ 2 ^ j_6) n5 m5 sh5 aw5 n2 m2 sh2 aw2 P Q (csz cs) ls rs ap sq 48 ki op fa K G T ki5 op5 fa5 K5 G5 T5 ki2 op2 fa2 K2 G2 T2 mf kn (shp so cs 1) (shp wh cs j_6) (shp va cs 0) sg rw R kw kr mw pi tl kp im u1_27 o1_28 M Mr lo pd bd true (.ref k31 : Value) sd ⟨(by first | assumption | exact trivial | omega | exact hf9 | exact hH9), (by first | assumption | exact trivial | omega | exact hf9 | exact hH9), (by first | assumption | exact trivial | omega | exact hf9 | exact hH9), (by first | assumption | exact trivial | omega | exact hf9 | exact hH9), (by first | assumption | exact trivial | omega | exact hf9 | exact hH9), (by first | assumption | exact trivial | omega | exact hf9 | exact hH9), (by first | assumption | exact trivial | omega | exact hf9 | exact hH9), (by first | assumption | exact trivial | omega | exact hf9 | exact hH9), (by first | assumption | exact trivial | omega | exact hf9 | exact hH9), (by first | assumption | exact trivial | omega | exact hf9 | exact hH9), (by first | assumption | exact trivial | omega | exact hf9 | exact hH9), (by first | assumption | exact trivial | omega | exact hf9 | exact hH9), (by first | assumption | exact trivial | omega | exact hf9 | exact hH9), (by first | assumption | exact trivial | omega | exact hf9 | exact hH9), (by first | assumption | exact trivial | omega | exact hf9 | exact hH9)⟩
set_option maxRecDepth 100000 in
set_option maxHeartbeats 4000000 in
theorem lawc_8 {E : EV} {cI : ClassId} {b L i : Nat} {xs : Nat → Int32} (x0 a0 a1 a2 a3 a4 a5 a6 c0 c1 c2 c3 c4 c5 c6 e0 e1 e2 e3 e4 e5 e6 b0 b1 b2 b3 g0 g1 g2 g3 s0 s1 w0 y0 r0 k1 k2 k3 k4 k6 k7 k8 k10 k12 k13 k14 k15 k16 k21 k22 k23 k24 k25 k30 k31 k33 : Nat) (zC : CX E cL_law RL (some .boolean) cI room_1) (hA : ∀ q, (ev_s E).heap.size ≤ q → ev_A E q) (hX : XS E b L xs) (hL : L ≤ 2560) (hi : i + 5 ≤ L) (kk : LGO E cI 1756 b i x0 a0 a1 a2 a3 a4 a5 a6 c0 c1 c2 c3 c4 c5 c6 e0 e1 e2 e3 e4 e5 e6 b0 b1 b2 b3 g0 g1 g2 g3 s0 s1 w0 y0 r0 k1 k2 k3 k4 k6 k7 k8 k10 k12 k13 k14 k15 k16 k21 k22 k23 k24 k25 k30 k31 k33) : LGO E cI 504 b i x0 a0 a1 a2 a3 a4 a5 a6 c0 c1 c2 c3 c4 c5 c6 e0 e1 e2 e3 e4 e5 e6 b0 b1 b2 b3 g0 g1 g2 g3 s0 s1 w0 y0 r0 k1 k2 k3 k4 k6 k7 k8 k10 k12 k13 k14 k15 k16 k21 k22 k23 k24 k25 k30 k31 k33 := by
  intro n m sh n5 m5 sh5 aw5 n2 m2 sh2 aw2 P Q cs ls rs ap sq pl ki op fa K G T ki5 op5 fa5 K5 G5 T5 ki2 op2 fa2 K2 G2 T2 mf kn so wh va sg rw R kw kr mw pi tl kp im tu to M Mr lo pd bd tk kv sd hI
  obtain ⟨hw, hw5, hw2, hB, hM, hcs, hH, hl, hsg, hr, hrw, hkw, hkr, hMr, hE9⟩ := hI
  obtain ⟨hn, hm, hsh, hki, hop, hfa, hK, hG, hT, -⟩ := id hw
  refine v_al_n 505 zC dL_law_504 2 rfl ?_
  refine v_al_n 506 zC dL_law_505 3 rfl ?_
  refine v_il_n 507 zC dL_law_506 0 rfl ?_
  refine v_ic (v := (nI 1)) 508 zC dL_law_507 (by decide +kernel) ?_
  refine v_iadd (v := (nI (i + 1))) 509 zC dL_law_508 (nI_add _ _) ?_
  refine v_sld 510 zC hX dL_law_509 (by omega) hL ?_
  refine v_al_n 511 zC dL_law_510 3 rfl ?_
  refine v_il_n 512 zC dL_law_511 0 rfl ?_
  refine v_ic (v := (nI 2)) 513 zC dL_law_512 (by decide +kernel) ?_
  refine v_iadd (v := (nI (i + 2))) 514 zC dL_law_513 (nI_add _ _) ?_
  refine v_sld 515 zC hX dL_law_514 (by omega) hL ?_
  refine v_cV2 (As := [.int (xs (i + 1)), .int (xs (i + 2))]) (st := []) 518 0 [0, 1, 2, 3, 4, 5, 6, 7, 13, 14, 15, 16, 12] zC dL_law_515 hA (c_X4_kin (ev_l E) (ev_D E) cI (x0 := x0) (xm := c0) (xp := e0) (y0 := y0) (pd := pd) (rs := rs) (b0 := b0) (s0 := s0) (w0 := w0) (a0 := a0) (a1 := a1) (a2 := a2) (a3 := a3) (a4 := a4) (a5 := a5) (a6 := a6) (n := n) (m := m) (sh := sh) (ki := ki) (op := op) (fa := fa) (K := K) (G := G) (T := T) (g0 := g0) (g1 := g1) (g2 := g2) (g3 := g3) (cs := cs) (so := so) (wh := wh) (va := va) (R := R) (p := (xs (i + 1))) (h := (xs (i + 2))) (hw := hw) (hc := hcs)) cf_X4_kin lk_L_49 rfl rfl rfl rfl rfl (by decide +kernel) (Nat.le_of_ble_eq_true rfl) (fun rv_1 wv_2 hp_3 hm_4 => ?_)
  clear hm_4
  rcases hp_3 with ⟨hq_5, rfl, rfl⟩ | ⟨j_6, k_7, hj_8, hk_9, rfl, rfl⟩
  ·
    rw [sa_10]
    refine v_al_n 519 zC dL_law_518 1 rfl ?_
    refine v_al_n 520 zC dL_law_519 3 rfl ?_
    refine v_il_n 521 zC dL_law_520 0 rfl ?_
    refine v_ic (v := (nI 1)) 522 zC dL_law_521 (by decide +kernel) ?_
    refine v_iadd (v := (nI (i + 1))) 523 zC dL_law_522 (nI_add _ _) ?_
    refine v_sld 524 zC hX dL_law_523 (by omega) hL ?_
    refine v_al_n 525 zC dL_law_524 3 rfl ?_
    refine v_il_n 526 zC dL_law_525 0 rfl ?_
    refine v_ic (v := (nI 2)) 527 zC dL_law_526 (by decide +kernel) ?_
    refine v_iadd (v := (nI (i + 2))) 528 zC dL_law_527 (nI_add _ _) ?_
    refine v_sld 529 zC hX dL_law_528 (by omega) hL ?_
    refine v_swap ?_
    refine v_cV2 (As := [.int (xs (i + 1)), .int (xs (i + 2))]) (st := [.int (-1)]) 532 0 [0, 1, 2, 3, 4, 5, 6, 7, 19, 20, 12] zC dL_law_529 hA (c_X5_kin (ev_l E) (ev_D E) cI (r0 := r0) (k1 := k1) (k2 := k2) (k3 := k3) (k4 := k4) (k6 := k6) (k7 := k7) (k8 := k8) (k10 := k10) (k12 := k12) (k13 := k13) (k14 := k14) (k15 := k15) (k16 := k16) (k21 := k21) (k22 := k22) (k23 := k23) (k24 := k24) (k25 := k25) (k30 := k30) (k31 := k31) (k33 := k33) (n := n) (m := m) (ls := ls) (ap := ap) (sq := sq) (pl := pl) (tz := cs) (rs := rs) (bd := bd) (pd := pd) (tk := tk) (kv := kv) (sd := sd) (ki := ki) (op := op) (fa := fa) (K := K) (G := G) (T := T) (sh := sh) (tu := tu) (to := to) (R := R) (p := (xs (i + 1))) (h := (xs (i + 2))) (hw := hw) (ht := hcs)) cf_X5_kin lk_L_52 rfl rfl rfl rfl rfl (by decide +kernel) (Nat.le_of_ble_eq_true rfl) (fun rv_10 wv_11 hp_12 hm_13 => ?_)
    clear hm_13
    rcases hp_12 with ⟨hq_14, rfl, rfl⟩ | ⟨j_15, k_16, t1_17, u1_18, o1_19, hj_20, hk_21, hK_22, ht1_23, rfl, rfl⟩
    ·
      rw [sa_11]
      refine v_eqi 1756 zC dL_law_532 (by first | rfl | assumption) ?_
      refine v_swap ?_
      exact kk n m sh n5 m5 sh5 aw5 n2 m2 sh2 aw2 P Q cs ls rs ap sq pl ki op fa K G T ki5 op5 fa5 K5 G5 T5 ki2 op2 fa2 K2 G2 T2 mf kn so wh va sg rw (un R 1 (R 1 + 1)) kw kr mw pi tl kp im tu to M Mr lo pd bd tk kv sd ⟨(by first | assumption | exact trivial | omega | exact hf9 | exact hH9), (by first | assumption | exact trivial | omega | exact hf9 | exact hH9), (by first | assumption | exact trivial | omega | exact hf9 | exact hH9), (by first | assumption | exact trivial | omega | exact hf9 | exact hH9), (by first | assumption | exact trivial | omega | exact hf9 | exact hH9), (by first | assumption | exact trivial | omega | exact hf9 | exact hH9), (by first | assumption | exact trivial | omega | exact hf9 | exact hH9), (by first | assumption | exact trivial | omega | exact hf9 | exact hH9), (by first | assumption | exact trivial | omega | exact hf9 | exact hH9), (by first | assumption | exact trivial | omega | exact hf9 | exact hH9), (by first | assumption | exact trivial | omega | exact hf9 | exact hH9), (by first | assumption | exact trivial | omega | exact hf9 | exact hH9), (by first | assumption | exact trivial | omega | exact hf9 | exact hH9), (by first | assumption | exact trivial | omega | exact hf9 | exact hH9), (by first | assumption | exact trivial | omega | exact hf9 | exact hH9)⟩
    ·
      rw [sa_11]
      exact (no_kin_0_1 hq_5 hj_20 hk_21).elim
  ·
    rw [sa_10]
    refine v_al_n 519 zC dL_law_518 1 rfl ?_
    refine v_al_n 520 zC dL_law_519 3 rfl ?_
    refine v_il_n 521 zC dL_law_520 0 rfl ?_
    refine v_ic (v := (nI 1)) 522 zC dL_law_521 (by decide +kernel) ?_
    refine v_iadd (v := (nI (i + 1))) 523 zC dL_law_522 (nI_add _ _) ?_
    refine v_sld 524 zC hX dL_law_523 (by omega) hL ?_
    refine v_al_n 525 zC dL_law_524 3 rfl ?_
    refine v_il_n 526 zC dL_law_525 0 rfl ?_
    refine v_ic (v := (nI 2)) 527 zC dL_law_526 (by decide +kernel) ?_
    refine v_iadd (v := (nI (i + 2))) 528 zC dL_law_527 (nI_add _ _) ?_
    refine v_sld 529 zC hX dL_law_528 (by omega) hL ?_
    refine v_swap ?_
    refine v_cV2 (As := [.int (xs (i + 1)), .int (xs (i + 2))]) (st := [.int (bz (Nat.testBit (un ki j_6 (ki j_6 ^^^ 2 ^ k_7) j_6) k_7))]) 532 0 [0, 1, 2, 3, 4, 5, 6, 7, 19, 20, 12] zC dL_law_529 hA (c_X5_kin (ev_l E) (ev_D E) cI (r0 := r0) (k1 := k1) (k2 := k2) (k3 := k3) (k4 := k4) (k6 := k6) (k7 := k7) (k8 := k8) (k10 := k10) (k12 := k12) (k13 := k13) (k14 := k14) (k15 := k15) (k16 := k16) (k21 := k21) (k22 := k22) (k23 := k23) (k24 := k24) (k25 := k25) (k30 := k30) (k31 := k31) (k33 := k33) (n := n) (m := m) (ls := ls) (ap := ap) (sq := sq) (pl := pl) (tz := cs) (rs := rs) (bd := bd) (pd := pd) (tk := tk) (kv := kv) (sd := sd) (ki := ki) (op := op) (fa := fa) (K := K) (G := G) (T := T) (sh := sh) (tu := tu) (to := to) (R := R) (p := (xs (i + 1))) (h := (xs (i + 2))) (hw := hw) (ht := hcs)) cf_X5_kin lk_L_52 rfl rfl rfl rfl rfl (by decide +kernel) (Nat.le_of_ble_eq_true rfl) (fun rv_24 wv_25 hp_26 hm_27 => ?_)
    clear hm_27
    rcases hp_26 with ⟨hq_28, rfl, rfl⟩ | ⟨j_29, k_30, t1_31, u1_32, o1_33, hj_34, hk_35, hK_36, ht1_37, rfl, rfl⟩
    ·
      rw [sa_11]
      exact (no_kin_1_0 hj_8 hk_9 hq_28).elim
    ·
      rw [sa_11]
      have ez := Option.some.inj (hj_8.symm.trans hj_34)
      subst ez
      have ez := Option.some.inj (hk_9.symm.trans hk_35)
      subst ez
      have hj9 := ix_lt (by omega) hj_8
      have hk9 := ix_lt (by omega) hk_9
      have hw9 := fw_ki hw hj9 (Nat.lt_of_lt_of_le hk9 hm)
      obtain ⟨ez, hH9⟩ := hist_push (s2 := (n, m, sh, 0, un ki j_6 (ki j_6 ^^^ 2 ^ k_7), op, fa, K, G, T)) (k := 2) (j := j_6) (v := k_7) hH hw (Or.inr (Or.inr (Or.inl ⟨rfl, hj9, by omega⟩))) (congrArg (fun z => ((n, m, sh, 0, z, op, fa, K, G, T) : SG)) un_xx) hK_36
      subst ez
      refine v_eqi 1756 zC dL_law_532 (by first | rfl | assumption) ?_
      refine v_swap ?_
      exact kk n m sh n5 m5 sh5 aw5 n2 m2 sh2 aw2 P Q (csz cs) ls rs ap sq 48 (un ki j_6 (ki j_6 ^^^ 2 ^ k_7)) op fa K G T ki5 op5 fa5 K5 G5 T5 ki2 op2 fa2 K2 G2 T2 mf kn (shp so cs 2) (shp wh cs j_6) (shp va cs k_7) sg rw R kw kr mw pi tl kp im u1_32 o1_33 M Mr lo pd bd true (.ref k31 : Value) sd ⟨(by first | assumption | exact trivial | omega | exact hf9 | exact hH9), (by first | assumption | exact trivial | omega | exact hf9 | exact hH9), (by first | assumption | exact trivial | omega | exact hf9 | exact hH9), (by first | assumption | exact trivial | omega | exact hf9 | exact hH9), (by first | assumption | exact trivial | omega | exact hf9 | exact hH9), (by first | assumption | exact trivial | omega | exact hf9 | exact hH9), (by first | assumption | exact trivial | omega | exact hf9 | exact hH9), (by first | assumption | exact trivial | omega | exact hf9 | exact hH9), (by first | assumption | exact trivial | omega | exact hf9 | exact hH9), (by first | assumption | exact trivial | omega | exact hf9 | exact hH9), (by first | assumption | exact trivial | omega | exact hf9 | exact hH9), (by first | assumption | exact trivial | omega | exact hf9 | exact hH9), (by first | assumption | exact trivial | omega | exact hf9 | exact hH9), (by first | assumption | exact trivial | omega | exact hf9 | exact hH9), (by first | assumption | exact trivial | omega | exact hf9 | exact hH9)⟩
set_option maxRecDepth 100000 in
set_option maxHeartbeats 4000000 in
theorem lawc_9 {E : EV} {cI : ClassId} {b L i : Nat} {xs : Nat → Int32} (x0 a0 a1 a2 a3 a4 a5 a6 c0 c1 c2 c3 c4 c5 c6 e0 e1 e2 e3 e4 e5 e6 b0 b1 b2 b3 g0 g1 g2 g3 s0 s1 w0 y0 r0 k1 k2 k3 k4 k6 k7 k8 k10 k12 k13 k14 k15 k16 k21 k22 k23 k24 k25 k30 k31 k33 : Nat) (zC : CX E cL_law RL (some .boolean) cI room_1) (hA : ∀ q, (ev_s E).heap.size ≤ q → ev_A E q) (hX : XS E b L xs) (hL : L ≤ 2560) (hi : i + 5 ≤ L) (kk : LGO E cI 1756 b i x0 a0 a1 a2 a3 a4 a5 a6 c0 c1 c2 c3 c4 c5 c6 e0 e1 e2 e3 e4 e5 e6 b0 b1 b2 b3 g0 g1 g2 g3 s0 s1 w0 y0 r0 k1 k2 k3 k4 k6 k7 k8 k10 k12 k13 k14 k15 k16 k21 k22 k23 k24 k25 k30 k31 k33) : LGO E cI 537 b i x0 a0 a1 a2 a3 a4 a5 a6 c0 c1 c2 c3 c4 c5 c6 e0 e1 e2 e3 e4 e5 e6 b0 b1 b2 b3 g0 g1 g2 g3 s0 s1 w0 y0 r0 k1 k2 k3 k4 k6 k7 k8 k10 k12 k13 k14 k15 k16 k21 k22 k23 k24 k25 k30 k31 k33 := by
  intro n m sh n5 m5 sh5 aw5 n2 m2 sh2 aw2 P Q cs ls rs ap sq pl ki op fa K G T ki5 op5 fa5 K5 G5 T5 ki2 op2 fa2 K2 G2 T2 mf kn so wh va sg rw R kw kr mw pi tl kp im tu to M Mr lo pd bd tk kv sd hI
  obtain ⟨hw, hw5, hw2, hB, hM, hcs, hH, hl, hsg, hr, hrw, hkw, hkr, hMr, hE9⟩ := hI
  obtain ⟨hn, hm, hsh, hki, hop, hfa, hK, hG, hT, -⟩ := id hw
  refine v_al_n 538 zC dL_law_537 2 rfl ?_
  refine v_al_n 539 zC dL_law_538 3 rfl ?_
  refine v_il_n 540 zC dL_law_539 0 rfl ?_
  refine v_ic (v := (nI 1)) 541 zC dL_law_540 (by decide +kernel) ?_
  refine v_iadd (v := (nI (i + 1))) 542 zC dL_law_541 (nI_add _ _) ?_
  refine v_sld 543 zC hX dL_law_542 (by omega) hL ?_
  refine v_al_n 544 zC dL_law_543 3 rfl ?_
  refine v_il_n 545 zC dL_law_544 0 rfl ?_
  refine v_ic (v := (nI 2)) 546 zC dL_law_545 (by decide +kernel) ?_
  refine v_iadd (v := (nI (i + 2))) 547 zC dL_law_546 (nI_add _ _) ?_
  refine v_sld 548 zC hX dL_law_547 (by omega) hL ?_
  refine v_cV2 (As := [.int (xs (i + 1)), .int (xs (i + 2))]) (st := []) 551 0 [0, 1, 2, 3, 4, 5, 6, 7, 13, 14, 15, 16, 12] zC dL_law_548 hA (c_X4_leans (ev_l E) (ev_D E) cI (x0 := x0) (xm := c0) (xp := e0) (y0 := y0) (pd := pd) (rs := rs) (b0 := b0) (s0 := s0) (w0 := w0) (a0 := a0) (a1 := a1) (a2 := a2) (a3 := a3) (a4 := a4) (a5 := a5) (a6 := a6) (n := n) (m := m) (sh := sh) (ki := ki) (op := op) (fa := fa) (K := K) (G := G) (T := T) (g0 := g0) (g1 := g1) (g2 := g2) (g3 := g3) (cs := cs) (so := so) (wh := wh) (va := va) (R := R) (d := (xs (i + 1))) (v := (xs (i + 2))) (hw := hw) (hc := hcs)) cf_X4_leans lk_L_53 rfl rfl rfl rfl rfl (by decide +kernel) (Nat.le_of_ble_eq_true rfl) (fun rv_1 wv_2 hp_3 hm_4 => ?_)
  clear hm_4
  rcases hp_3 with ⟨hq_5, rfl, rfl⟩ | ⟨hq_6, hv_7, rfl, rfl⟩ | ⟨hq_8, hv_9, hv2_10, rfl, rfl⟩ | ⟨j_11, k_12, hj_13, hk_14, rfl, rfl⟩
  ·
    rw [sa_10]
    refine v_al_n 552 zC dL_law_551 1 rfl ?_
    refine v_al_n 553 zC dL_law_552 3 rfl ?_
    refine v_il_n 554 zC dL_law_553 0 rfl ?_
    refine v_ic (v := (nI 1)) 555 zC dL_law_554 (by decide +kernel) ?_
    refine v_iadd (v := (nI (i + 1))) 556 zC dL_law_555 (nI_add _ _) ?_
    refine v_sld 557 zC hX dL_law_556 (by omega) hL ?_
    refine v_al_n 558 zC dL_law_557 3 rfl ?_
    refine v_il_n 559 zC dL_law_558 0 rfl ?_
    refine v_ic (v := (nI 2)) 560 zC dL_law_559 (by decide +kernel) ?_
    refine v_iadd (v := (nI (i + 2))) 561 zC dL_law_560 (nI_add _ _) ?_
    refine v_sld 562 zC hX dL_law_561 (by omega) hL ?_
    refine v_swap ?_
    refine v_cV2 (As := [.int (xs (i + 1)), .int (xs (i + 2))]) (st := [.int (-1)]) 565 0 [0, 1, 2, 3, 4, 5, 6, 7, 19, 20, 12] zC dL_law_562 hA (c_X5_leans (ev_l E) (ev_D E) cI (r0 := r0) (k1 := k1) (k2 := k2) (k3 := k3) (k4 := k4) (k6 := k6) (k7 := k7) (k8 := k8) (k10 := k10) (k12 := k12) (k13 := k13) (k14 := k14) (k15 := k15) (k16 := k16) (k21 := k21) (k22 := k22) (k23 := k23) (k24 := k24) (k25 := k25) (k30 := k30) (k31 := k31) (k33 := k33) (n := n) (m := m) (ls := ls) (ap := ap) (sq := sq) (pl := pl) (tz := cs) (rs := rs) (bd := bd) (pd := pd) (tk := tk) (kv := kv) (sd := sd) (ki := ki) (op := op) (fa := fa) (K := K) (G := G) (T := T) (sh := sh) (tu := tu) (to := to) (R := R) (d := (xs (i + 1))) (v := (xs (i + 2))) (hw := hw) (ht := hcs)) cf_X5_leans lk_L_56 rfl rfl rfl rfl rfl (by decide +kernel) (Nat.le_of_ble_eq_true rfl) (fun rv_15 wv_16 hp_17 hm_18 => ?_)
    clear hm_18
    rcases hp_17 with ⟨hq_19, rfl, rfl⟩ | ⟨hq_20, hv_21, rfl, rfl⟩ | ⟨hq_22, hv_23, hv2_24, rfl, rfl⟩ | ⟨j_25, k_26, t1_27, u1_28, o1_29, hj_30, hk_31, hK_32, ht1_33, rfl, rfl⟩
    ·
      rw [sa_11]
      refine v_eqi 1756 zC dL_law_565 (by first | rfl | assumption) ?_
      refine v_swap ?_
      exact kk n m sh n5 m5 sh5 aw5 n2 m2 sh2 aw2 P Q cs ls rs ap sq pl ki op fa K G T ki5 op5 fa5 K5 G5 T5 ki2 op2 fa2 K2 G2 T2 mf kn so wh va sg rw (un R 1 (R 1 + 1)) kw kr mw pi tl kp im tu to M Mr lo pd bd tk kv sd ⟨(by first | assumption | exact trivial | omega | exact hf9 | exact hH9), (by first | assumption | exact trivial | omega | exact hf9 | exact hH9), (by first | assumption | exact trivial | omega | exact hf9 | exact hH9), (by first | assumption | exact trivial | omega | exact hf9 | exact hH9), (by first | assumption | exact trivial | omega | exact hf9 | exact hH9), (by first | assumption | exact trivial | omega | exact hf9 | exact hH9), (by first | assumption | exact trivial | omega | exact hf9 | exact hH9), (by first | assumption | exact trivial | omega | exact hf9 | exact hH9), (by first | assumption | exact trivial | omega | exact hf9 | exact hH9), (by first | assumption | exact trivial | omega | exact hf9 | exact hH9), (by first | assumption | exact trivial | omega | exact hf9 | exact hH9), (by first | assumption | exact trivial | omega | exact hf9 | exact hH9), (by first | assumption | exact trivial | omega | exact hf9 | exact hH9), (by first | assumption | exact trivial | omega | exact hf9 | exact hH9), (by first | assumption | exact trivial | omega | exact hf9 | exact hH9)⟩
    ·
      rw [sa_11]
      exact (no_leans_0_1 hq_5 hq_20 hv_21).elim
    ·
      rw [sa_11]
      exact (no_leans_0_2 hq_5 hq_22 hv_23 hv2_24).elim
    ·
      rw [sa_11]
      exact (no_leans_0_3 hq_5 hj_30 hk_31).elim
  ·
    rw [sa_10]
    refine v_al_n 552 zC dL_law_551 1 rfl ?_
    refine v_al_n 553 zC dL_law_552 3 rfl ?_
    refine v_il_n 554 zC dL_law_553 0 rfl ?_
    refine v_ic (v := (nI 1)) 555 zC dL_law_554 (by decide +kernel) ?_
    refine v_iadd (v := (nI (i + 1))) 556 zC dL_law_555 (nI_add _ _) ?_
    refine v_sld 557 zC hX dL_law_556 (by omega) hL ?_
    refine v_al_n 558 zC dL_law_557 3 rfl ?_
    refine v_il_n 559 zC dL_law_558 0 rfl ?_
    refine v_ic (v := (nI 2)) 560 zC dL_law_559 (by decide +kernel) ?_
    refine v_iadd (v := (nI (i + 2))) 561 zC dL_law_560 (nI_add _ _) ?_
    refine v_sld 562 zC hX dL_law_561 (by omega) hL ?_
    refine v_swap ?_
    refine v_cV2 (As := [.int (xs (i + 1)), .int (xs (i + 2))]) (st := [.int (-4)]) 565 0 [0, 1, 2, 3, 4, 5, 6, 7, 19, 20, 12] zC dL_law_562 hA (c_X5_leans (ev_l E) (ev_D E) cI (r0 := r0) (k1 := k1) (k2 := k2) (k3 := k3) (k4 := k4) (k6 := k6) (k7 := k7) (k8 := k8) (k10 := k10) (k12 := k12) (k13 := k13) (k14 := k14) (k15 := k15) (k16 := k16) (k21 := k21) (k22 := k22) (k23 := k23) (k24 := k24) (k25 := k25) (k30 := k30) (k31 := k31) (k33 := k33) (n := n) (m := m) (ls := ls) (ap := ap) (sq := sq) (pl := pl) (tz := cs) (rs := rs) (bd := bd) (pd := pd) (tk := tk) (kv := kv) (sd := sd) (ki := ki) (op := op) (fa := fa) (K := K) (G := G) (T := T) (sh := sh) (tu := tu) (to := to) (R := R) (d := (xs (i + 1))) (v := (xs (i + 2))) (hw := hw) (ht := hcs)) cf_X5_leans lk_L_56 rfl rfl rfl rfl rfl (by decide +kernel) (Nat.le_of_ble_eq_true rfl) (fun rv_34 wv_35 hp_36 hm_37 => ?_)
    clear hm_37
    rcases hp_36 with ⟨hq_38, rfl, rfl⟩ | ⟨hq_39, hv_40, rfl, rfl⟩ | ⟨hq_41, hv_42, hv2_43, rfl, rfl⟩ | ⟨j_44, k_45, t1_46, u1_47, o1_48, hj_49, hk_50, hK_51, ht1_52, rfl, rfl⟩
    ·
      rw [sa_11]
      exact (no_leans_1_0 hq_6 hv_7 hq_38).elim
    ·
      rw [sa_11]
      refine v_eqi 1756 zC dL_law_565 (by first | rfl | assumption) ?_
      refine v_swap ?_
      exact kk n m sh n5 m5 sh5 aw5 n2 m2 sh2 aw2 P Q cs ls rs ap sq pl ki op fa K G T ki5 op5 fa5 K5 G5 T5 ki2 op2 fa2 K2 G2 T2 mf kn so wh va sg rw (un R 4 (R 4 + 1)) kw kr mw pi tl kp im tu to M Mr lo pd bd tk kv sd ⟨(by first | assumption | exact trivial | omega | exact hf9 | exact hH9), (by first | assumption | exact trivial | omega | exact hf9 | exact hH9), (by first | assumption | exact trivial | omega | exact hf9 | exact hH9), (by first | assumption | exact trivial | omega | exact hf9 | exact hH9), (by first | assumption | exact trivial | omega | exact hf9 | exact hH9), (by first | assumption | exact trivial | omega | exact hf9 | exact hH9), (by first | assumption | exact trivial | omega | exact hf9 | exact hH9), (by first | assumption | exact trivial | omega | exact hf9 | exact hH9), (by first | assumption | exact trivial | omega | exact hf9 | exact hH9), (by first | assumption | exact trivial | omega | exact hf9 | exact hH9), (by first | assumption | exact trivial | omega | exact hf9 | exact hH9), (by first | assumption | exact trivial | omega | exact hf9 | exact hH9), (by first | assumption | exact trivial | omega | exact hf9 | exact hH9), (by first | assumption | exact trivial | omega | exact hf9 | exact hH9), (by first | assumption | exact trivial | omega | exact hf9 | exact hH9)⟩
    ·
      rw [sa_11]
      exact (no_leans_1_2 hq_6 hv_7 hq_41 hv_42 hv2_43).elim
    ·
      rw [sa_11]
      exact (no_leans_1_3 hq_6 hv_7 hj_49 hk_50).elim
  ·
    rw [sa_10]
    refine v_al_n 552 zC dL_law_551 1 rfl ?_
    refine v_al_n 553 zC dL_law_552 3 rfl ?_
    refine v_il_n 554 zC dL_law_553 0 rfl ?_
    refine v_ic (v := (nI 1)) 555 zC dL_law_554 (by decide +kernel) ?_
    refine v_iadd (v := (nI (i + 1))) 556 zC dL_law_555 (nI_add _ _) ?_
    refine v_sld 557 zC hX dL_law_556 (by omega) hL ?_
    refine v_al_n 558 zC dL_law_557 3 rfl ?_
    refine v_il_n 559 zC dL_law_558 0 rfl ?_
    refine v_ic (v := (nI 2)) 560 zC dL_law_559 (by decide +kernel) ?_
    refine v_iadd (v := (nI (i + 2))) 561 zC dL_law_560 (nI_add _ _) ?_
    refine v_sld 562 zC hX dL_law_561 (by omega) hL ?_
    refine v_swap ?_
    refine v_cV2 (As := [.int (xs (i + 1)), .int (xs (i + 2))]) (st := [.int (-6)]) 565 0 [0, 1, 2, 3, 4, 5, 6, 7, 19, 20, 12] zC dL_law_562 hA (c_X5_leans (ev_l E) (ev_D E) cI (r0 := r0) (k1 := k1) (k2 := k2) (k3 := k3) (k4 := k4) (k6 := k6) (k7 := k7) (k8 := k8) (k10 := k10) (k12 := k12) (k13 := k13) (k14 := k14) (k15 := k15) (k16 := k16) (k21 := k21) (k22 := k22) (k23 := k23) (k24 := k24) (k25 := k25) (k30 := k30) (k31 := k31) (k33 := k33) (n := n) (m := m) (ls := ls) (ap := ap) (sq := sq) (pl := pl) (tz := cs) (rs := rs) (bd := bd) (pd := pd) (tk := tk) (kv := kv) (sd := sd) (ki := ki) (op := op) (fa := fa) (K := K) (G := G) (T := T) (sh := sh) (tu := tu) (to := to) (R := R) (d := (xs (i + 1))) (v := (xs (i + 2))) (hw := hw) (ht := hcs)) cf_X5_leans lk_L_56 rfl rfl rfl rfl rfl (by decide +kernel) (Nat.le_of_ble_eq_true rfl) (fun rv_53 wv_54 hp_55 hm_56 => ?_)
    clear hm_56
    rcases hp_55 with ⟨hq_57, rfl, rfl⟩ | ⟨hq_58, hv_59, rfl, rfl⟩ | ⟨hq_60, hv_61, hv2_62, rfl, rfl⟩ | ⟨j_63, k_64, t1_65, u1_66, o1_67, hj_68, hk_69, hK_70, ht1_71, rfl, rfl⟩
    ·
      rw [sa_11]
      exact (no_leans_2_0 hq_8 hv_9 hv2_10 hq_57).elim
    ·
      rw [sa_11]
      exact (no_leans_2_1 hq_8 hv_9 hv2_10 hq_58 hv_59).elim
    ·
      rw [sa_11]
      refine v_eqi 1756 zC dL_law_565 (by first | rfl | assumption) ?_
      refine v_swap ?_
      exact kk n m sh n5 m5 sh5 aw5 n2 m2 sh2 aw2 P Q cs ls rs ap sq pl ki op fa K G T ki5 op5 fa5 K5 G5 T5 ki2 op2 fa2 K2 G2 T2 mf kn so wh va sg rw (un R 6 (R 6 + 1)) kw kr mw pi tl kp im tu to M Mr lo pd bd tk kv sd ⟨(by first | assumption | exact trivial | omega | exact hf9 | exact hH9), (by first | assumption | exact trivial | omega | exact hf9 | exact hH9), (by first | assumption | exact trivial | omega | exact hf9 | exact hH9), (by first | assumption | exact trivial | omega | exact hf9 | exact hH9), (by first | assumption | exact trivial | omega | exact hf9 | exact hH9), (by first | assumption | exact trivial | omega | exact hf9 | exact hH9), (by first | assumption | exact trivial | omega | exact hf9 | exact hH9), (by first | assumption | exact trivial | omega | exact hf9 | exact hH9), (by first | assumption | exact trivial | omega | exact hf9 | exact hH9), (by first | assumption | exact trivial | omega | exact hf9 | exact hH9), (by first | assumption | exact trivial | omega | exact hf9 | exact hH9), (by first | assumption | exact trivial | omega | exact hf9 | exact hH9), (by first | assumption | exact trivial | omega | exact hf9 | exact hH9), (by first | assumption | exact trivial | omega | exact hf9 | exact hH9), (by first | assumption | exact trivial | omega | exact hf9 | exact hH9)⟩
    ·
      rw [sa_11]
      exact (no_leans_2_3 hq_8 hv_9 hv2_10 hj_68 hk_69).elim
  ·
    rw [sa_10]
    refine v_al_n 552 zC dL_law_551 1 rfl ?_
    refine v_al_n 553 zC dL_law_552 3 rfl ?_
    refine v_il_n 554 zC dL_law_553 0 rfl ?_
    refine v_ic (v := (nI 1)) 555 zC dL_law_554 (by decide +kernel) ?_
    refine v_iadd (v := (nI (i + 1))) 556 zC dL_law_555 (nI_add _ _) ?_
    refine v_sld 557 zC hX dL_law_556 (by omega) hL ?_
    refine v_al_n 558 zC dL_law_557 3 rfl ?_
    refine v_il_n 559 zC dL_law_558 0 rfl ?_
    refine v_ic (v := (nI 2)) 560 zC dL_law_559 (by decide +kernel) ?_
    refine v_iadd (v := (nI (i + 2))) 561 zC dL_law_560 (nI_add _ _) ?_
    refine v_sld 562 zC hX dL_law_561 (by omega) hL ?_
    refine v_swap ?_
    refine v_cV2 (As := [.int (xs (i + 1)), .int (xs (i + 2))]) (st := [.int (nI (G j_11))]) 565 0 [0, 1, 2, 3, 4, 5, 6, 7, 19, 20, 12] zC dL_law_562 hA (c_X5_leans (ev_l E) (ev_D E) cI (r0 := r0) (k1 := k1) (k2 := k2) (k3 := k3) (k4 := k4) (k6 := k6) (k7 := k7) (k8 := k8) (k10 := k10) (k12 := k12) (k13 := k13) (k14 := k14) (k15 := k15) (k16 := k16) (k21 := k21) (k22 := k22) (k23 := k23) (k24 := k24) (k25 := k25) (k30 := k30) (k31 := k31) (k33 := k33) (n := n) (m := m) (ls := ls) (ap := ap) (sq := sq) (pl := pl) (tz := cs) (rs := rs) (bd := bd) (pd := pd) (tk := tk) (kv := kv) (sd := sd) (ki := ki) (op := op) (fa := fa) (K := K) (G := G) (T := T) (sh := sh) (tu := tu) (to := to) (R := R) (d := (xs (i + 1))) (v := (xs (i + 2))) (hw := hw) (ht := hcs)) cf_X5_leans lk_L_56 rfl rfl rfl rfl rfl (by decide +kernel) (Nat.le_of_ble_eq_true rfl) (fun rv_72 wv_73 hp_74 hm_75 => ?_)
    clear hm_75
    rcases hp_74 with ⟨hq_76, rfl, rfl⟩ | ⟨hq_77, hv_78, rfl, rfl⟩ | ⟨hq_79, hv_80, hv2_81, rfl, rfl⟩ | ⟨j_82, k_83, t1_84, u1_85, o1_86, hj_87, hk_88, hK_89, ht1_90, rfl, rfl⟩
    ·
      rw [sa_11]
      exact (no_leans_3_0 hj_13 hk_14 hq_76).elim
    ·
      rw [sa_11]
      exact (no_leans_3_1 hj_13 hk_14 hq_77 hv_78).elim
    ·
      rw [sa_11]
      exact (no_leans_3_2 hj_13 hk_14 hq_79 hv_80 hv2_81).elim
    ·
      rw [sa_11]
      have ez := Option.some.inj (hj_13.symm.trans hj_87)
      subst ez
      have ez := Option.some.inj (hk_14.symm.trans hk_88)
      subst ez
      have hj9 := ix_lt (by omega) hj_13
      have hk9 := ix_lt (by omega) hk_14
      have hw9 := fw_G hw hj9 hk9
      obtain ⟨ez, hH9⟩ := hist_push (s2 := (n, m, sh, 0, ki, op, fa, K, un G j_11 k_12, T)) (k := 3) (j := j_11) (v := (G j_11)) hH hw (Or.inr (Or.inr (Or.inr ⟨rfl, hj9, hG _⟩))) (congrArg (fun z => ((n, m, sh, 0, ki, op, fa, K, z, T) : SG)) un_bk) hK_89
      subst ez
      refine v_eqi 1756 zC dL_law_565 (by first | rfl | assumption) ?_
      refine v_swap ?_
      exact kk n m sh n5 m5 sh5 aw5 n2 m2 sh2 aw2 P Q (csz cs) ls rs ap sq 48 ki op fa K (un G j_11 k_12) T ki5 op5 fa5 K5 G5 T5 ki2 op2 fa2 K2 G2 T2 mf kn (shp so cs 3) (shp wh cs j_11) (shp va cs (G j_11)) sg rw R kw kr mw pi tl kp im u1_85 o1_86 M Mr lo pd bd true (.ref k31 : Value) sd ⟨(by first | assumption | exact trivial | omega | exact hf9 | exact hH9), (by first | assumption | exact trivial | omega | exact hf9 | exact hH9), (by first | assumption | exact trivial | omega | exact hf9 | exact hH9), (by first | assumption | exact trivial | omega | exact hf9 | exact hH9), (by first | assumption | exact trivial | omega | exact hf9 | exact hH9), (by first | assumption | exact trivial | omega | exact hf9 | exact hH9), (by first | assumption | exact trivial | omega | exact hf9 | exact hH9), (by first | assumption | exact trivial | omega | exact hf9 | exact hH9), (by first | assumption | exact trivial | omega | exact hf9 | exact hH9), (by first | assumption | exact trivial | omega | exact hf9 | exact hH9), (by first | assumption | exact trivial | omega | exact hf9 | exact hH9), (by first | assumption | exact trivial | omega | exact hf9 | exact hH9), (by first | assumption | exact trivial | omega | exact hf9 | exact hH9), (by first | assumption | exact trivial | omega | exact hf9 | exact hH9), (by first | assumption | exact trivial | omega | exact hf9 | exact hH9)⟩
set_option maxRecDepth 100000 in
set_option maxHeartbeats 4000000 in
theorem lawc_10 {E : EV} {cI : ClassId} {b L i : Nat} {xs : Nat → Int32} (x0 a0 a1 a2 a3 a4 a5 a6 c0 c1 c2 c3 c4 c5 c6 e0 e1 e2 e3 e4 e5 e6 b0 b1 b2 b3 g0 g1 g2 g3 s0 s1 w0 y0 r0 k1 k2 k3 k4 k6 k7 k8 k10 k12 k13 k14 k15 k16 k21 k22 k23 k24 k25 k30 k31 k33 : Nat) (zC : CX E cL_law RL (some .boolean) cI room_1) (hA : ∀ q, (ev_s E).heap.size ≤ q → ev_A E q) (hX : XS E b L xs) (hL : L ≤ 2560) (hi : i + 5 ≤ L) (kk : LGO E cI 1756 b i x0 a0 a1 a2 a3 a4 a5 a6 c0 c1 c2 c3 c4 c5 c6 e0 e1 e2 e3 e4 e5 e6 b0 b1 b2 b3 g0 g1 g2 g3 s0 s1 w0 y0 r0 k1 k2 k3 k4 k6 k7 k8 k10 k12 k13 k14 k15 k16 k21 k22 k23 k24 k25 k30 k31 k33) : LGO E cI 570 b i x0 a0 a1 a2 a3 a4 a5 a6 c0 c1 c2 c3 c4 c5 c6 e0 e1 e2 e3 e4 e5 e6 b0 b1 b2 b3 g0 g1 g2 g3 s0 s1 w0 y0 r0 k1 k2 k3 k4 k6 k7 k8 k10 k12 k13 k14 k15 k16 k21 k22 k23 k24 k25 k30 k31 k33 := by
  intro n m sh n5 m5 sh5 aw5 n2 m2 sh2 aw2 P Q cs ls rs ap sq pl ki op fa K G T ki5 op5 fa5 K5 G5 T5 ki2 op2 fa2 K2 G2 T2 mf kn so wh va sg rw R kw kr mw pi tl kp im tu to M Mr lo pd bd tk kv sd hI
  obtain ⟨hw, hw5, hw2, hB, hM, hcs, hH, hl, hsg, hr, hrw, hkw, hkr, hMr, hE9⟩ := hI
  obtain ⟨hn, hm, hsh, hki, hop, hfa, hK, hG, hT, -⟩ := id hw
  refine v_al_n 571 zC dL_law_570 2 rfl ?_
  refine v_al_n 572 zC dL_law_571 3 rfl ?_
  refine v_il_n 573 zC dL_law_572 0 rfl ?_
  refine v_ic (v := (nI 1)) 574 zC dL_law_573 (by decide +kernel) ?_
  refine v_iadd (v := (nI (i + 1))) 575 zC dL_law_574 (nI_add _ _) ?_
  refine v_sld 576 zC hX dL_law_575 (by omega) hL ?_
  refine v_al_n 577 zC dL_law_576 3 rfl ?_
  refine v_il_n 578 zC dL_law_577 0 rfl ?_
  refine v_ic (v := (nI 2)) 579 zC dL_law_578 (by decide +kernel) ?_
  refine v_iadd (v := (nI (i + 2))) 580 zC dL_law_579 (nI_add _ _) ?_
  refine v_sld 581 zC hX dL_law_580 (by omega) hL ?_
  refine v_cV2 (As := [.int (xs (i + 1)), .int (xs (i + 2))]) (st := []) 584 0 [0, 1, 4, 13, 12] zC dL_law_581 hA (c_X4_learns (ev_l E) (ev_D E) cI (x0 := x0) (xm := c0) (xp := e0) (y0 := y0) (pd := pd) (rs := rs) (b0 := b0) (s0 := s0) (w0 := w0) (a0 := a0) (a1 := a1) (a2 := a2) (a3 := a3) (a4 := a4) (a5 := a5) (a6 := a6) (n := n) (m := m) (sh := sh) (fa := fa) (g0 := g0) (g1 := g1) (g2 := g2) (g3 := g3) (cs := cs) (R := R) (p := (xs (i + 1))) (h := (xs (i + 2))) (hn := hn)) cf_X4_learns lk_L_57 rfl rfl rfl rfl rfl (by decide +kernel) (Nat.le_of_ble_eq_true rfl) (fun rv_1 wv_2 hp_3 hm_4 => ?_)
  clear hm_4
  rcases hp_3 with ⟨hq_5, rfl, rfl⟩ | ⟨j_6, k_7, hj_8, hk_9, rfl, rfl⟩
  ·
    rw [sa_12]
    refine v_al_n 585 zC dL_law_584 1 rfl ?_
    refine v_al_n 586 zC dL_law_585 3 rfl ?_
    refine v_il_n 587 zC dL_law_586 0 rfl ?_
    refine v_ic (v := (nI 1)) 588 zC dL_law_587 (by decide +kernel) ?_
    refine v_iadd (v := (nI (i + 1))) 589 zC dL_law_588 (nI_add _ _) ?_
    refine v_sld 590 zC hX dL_law_589 (by omega) hL ?_
    refine v_al_n 591 zC dL_law_590 3 rfl ?_
    refine v_il_n 592 zC dL_law_591 0 rfl ?_
    refine v_ic (v := (nI 2)) 593 zC dL_law_592 (by decide +kernel) ?_
    refine v_iadd (v := (nI (i + 2))) 594 zC dL_law_593 (nI_add _ _) ?_
    refine v_sld 595 zC hX dL_law_594 (by omega) hL ?_
    refine v_swap ?_
    refine v_cV2 (As := [.int (xs (i + 1)), .int (xs (i + 2))]) (st := [.int (-1)]) 598 0 [0, 4, 12] zC dL_law_595 hA (c_X5_learns (ev_l E) (ev_D E) cI (r0 := r0) (k1 := k1) (k2 := k2) (k3 := k3) (k4 := k4) (k6 := k6) (k7 := k7) (k8 := k8) (k10 := k10) (k12 := k12) (k13 := k13) (k14 := k14) (k15 := k15) (k16 := k16) (k21 := k21) (k22 := k22) (k23 := k23) (k24 := k24) (k25 := k25) (k30 := k30) (k31 := k31) (k33 := k33) (n := n) (m := m) (ls := ls) (ap := ap) (sq := sq) (pl := pl) (tz := cs) (rs := rs) (bd := bd) (pd := pd) (tk := tk) (kv := kv) (sd := sd) (fa := fa) (R := R) (p := (xs (i + 1))) (h := (xs (i + 2))) (hn := hn)) cf_X5_learns lk_L_60 rfl rfl rfl rfl rfl (by decide +kernel) (Nat.le_of_ble_eq_true rfl) (fun rv_10 wv_11 hp_12 hm_13 => ?_)
    clear hm_13
    rcases hp_12 with ⟨hq_14, rfl, rfl⟩ | ⟨j_15, k_16, hj_17, hk_18, rfl, rfl⟩
    ·
      rw [sa_13]
      refine v_eqi 1756 zC dL_law_598 (by first | rfl | assumption) ?_
      refine v_swap ?_
      exact kk n m sh n5 m5 sh5 aw5 n2 m2 sh2 aw2 P Q cs ls rs ap sq pl ki op fa K G T ki5 op5 fa5 K5 G5 T5 ki2 op2 fa2 K2 G2 T2 mf kn so wh va sg rw (un R 1 (R 1 + 1)) kw kr mw pi tl kp im tu to M Mr lo pd bd tk kv sd ⟨(by first | assumption | exact trivial | omega | exact hf9 | exact hH9), (by first | assumption | exact trivial | omega | exact hf9 | exact hH9), (by first | assumption | exact trivial | omega | exact hf9 | exact hH9), (by first | assumption | exact trivial | omega | exact hf9 | exact hH9), (by first | assumption | exact trivial | omega | exact hf9 | exact hH9), (by first | assumption | exact trivial | omega | exact hf9 | exact hH9), (by first | assumption | exact trivial | omega | exact hf9 | exact hH9), (by first | assumption | exact trivial | omega | exact hf9 | exact hH9), (by first | assumption | exact trivial | omega | exact hf9 | exact hH9), (by first | assumption | exact trivial | omega | exact hf9 | exact hH9), (by first | assumption | exact trivial | omega | exact hf9 | exact hH9), (by first | assumption | exact trivial | omega | exact hf9 | exact hH9), (by first | assumption | exact trivial | omega | exact hf9 | exact hH9), (by first | assumption | exact trivial | omega | exact hf9 | exact hH9), (by first | assumption | exact trivial | omega | exact hf9 | exact hH9)⟩
    ·
      rw [sa_13]
      exact (no_learns_0_1 hq_5 hj_17 hk_18).elim
  ·
    rw [sa_12]
    refine v_al_n 585 zC dL_law_584 1 rfl ?_
    refine v_al_n 586 zC dL_law_585 3 rfl ?_
    refine v_il_n 587 zC dL_law_586 0 rfl ?_
    refine v_ic (v := (nI 1)) 588 zC dL_law_587 (by decide +kernel) ?_
    refine v_iadd (v := (nI (i + 1))) 589 zC dL_law_588 (nI_add _ _) ?_
    refine v_sld 590 zC hX dL_law_589 (by omega) hL ?_
    refine v_al_n 591 zC dL_law_590 3 rfl ?_
    refine v_il_n 592 zC dL_law_591 0 rfl ?_
    refine v_ic (v := (nI 2)) 593 zC dL_law_592 (by decide +kernel) ?_
    refine v_iadd (v := (nI (i + 2))) 594 zC dL_law_593 (nI_add _ _) ?_
    refine v_sld 595 zC hX dL_law_594 (by omega) hL ?_
    refine v_swap ?_
    refine v_cV2 (As := [.int (xs (i + 1)), .int (xs (i + 2))]) (st := [.int (bz (!Nat.testBit (fa j_6) k_7))]) 598 0 [0, 4, 12] zC dL_law_595 hA (c_X5_learns (ev_l E) (ev_D E) cI (r0 := r0) (k1 := k1) (k2 := k2) (k3 := k3) (k4 := k4) (k6 := k6) (k7 := k7) (k8 := k8) (k10 := k10) (k12 := k12) (k13 := k13) (k14 := k14) (k15 := k15) (k16 := k16) (k21 := k21) (k22 := k22) (k23 := k23) (k24 := k24) (k25 := k25) (k30 := k30) (k31 := k31) (k33 := k33) (n := n) (m := m) (ls := ls) (ap := ap) (sq := sq) (pl := pl) (tz := cs) (rs := rs) (bd := bd) (pd := pd) (tk := tk) (kv := kv) (sd := sd) (fa := fa) (R := R) (p := (xs (i + 1))) (h := (xs (i + 2))) (hn := hn)) cf_X5_learns lk_L_60 rfl rfl rfl rfl rfl (by decide +kernel) (Nat.le_of_ble_eq_true rfl) (fun rv_19 wv_20 hp_21 hm_22 => ?_)
    clear hm_22
    rcases hp_21 with ⟨hq_23, rfl, rfl⟩ | ⟨j_24, k_25, hj_26, hk_27, rfl, rfl⟩
    ·
      rw [sa_13]
      exact (no_learns_1_0 hj_8 hk_9 hq_23).elim
    ·
      rw [sa_13]
      have ez := Option.some.inj (hj_8.symm.trans hj_26)
      subst ez
      have ez := Option.some.inj (hk_9.symm.trans hk_27)
      subst ez
      have hw9 := fw_fa hw (ix_lt (by omega) hj_8) (ix_lt (by omega) hk_9)
      refine v_eqi 1756 zC dL_law_598 (by first | rfl | assumption) ?_
      refine v_swap ?_
      exact kk n m sh n5 m5 sh5 aw5 n2 m2 sh2 aw2 P Q 0 ls rs ap sq pl ki op (un fa j_6 (fa j_6 ||| 2 ^ k_7)) K G T ki5 op5 fa5 K5 G5 T5 ki2 op2 fa2 K2 G2 T2 mf kn so wh va sg rw R kw kr mw pi tl kp im tu to M Mr lo pd bd tk kv sd ⟨(by first | assumption | exact trivial | omega | exact hf9 | exact hH9), (by first | assumption | exact trivial | omega | exact hf9 | exact hH9), (by first | assumption | exact trivial | omega | exact hf9 | exact hH9), (by first | assumption | exact trivial | omega | exact hf9 | exact hH9), (by first | assumption | exact trivial | omega | exact hf9 | exact hH9), (by first | assumption | exact trivial | omega | exact hf9 | exact hH9), (by first | assumption | exact trivial | omega | exact hf9 | exact hH9), (by first | assumption | exact trivial | omega | exact hf9 | exact hH9), (by first | assumption | exact trivial | omega | exact hf9 | exact hH9), (by first | assumption | exact trivial | omega | exact hf9 | exact hH9), (by first | assumption | exact trivial | omega | exact hf9 | exact hH9), (by first | assumption | exact trivial | omega | exact hf9 | exact hH9), (by first | assumption | exact trivial | omega | exact hf9 | exact hH9), (by first | assumption | exact trivial | omega | exact hf9 | exact hH9), (by first | assumption | exact trivial | omega | exact hf9 | exact hH9)⟩
set_option maxRecDepth 100000 in
set_option maxHeartbeats 4000000 in
theorem lawc_11 {E : EV} {cI : ClassId} {b L i : Nat} {xs : Nat → Int32} (x0 a0 a1 a2 a3 a4 a5 a6 c0 c1 c2 c3 c4 c5 c6 e0 e1 e2 e3 e4 e5 e6 b0 b1 b2 b3 g0 g1 g2 g3 s0 s1 w0 y0 r0 k1 k2 k3 k4 k6 k7 k8 k10 k12 k13 k14 k15 k16 k21 k22 k23 k24 k25 k30 k31 k33 : Nat) (zC : CX E cL_law RL (some .boolean) cI room_1) (hA : ∀ q, (ev_s E).heap.size ≤ q → ev_A E q) (hX : XS E b L xs) (hL : L ≤ 2560) (hi : i + 5 ≤ L) (kk : LGO E cI 1756 b i x0 a0 a1 a2 a3 a4 a5 a6 c0 c1 c2 c3 c4 c5 c6 e0 e1 e2 e3 e4 e5 e6 b0 b1 b2 b3 g0 g1 g2 g3 s0 s1 w0 y0 r0 k1 k2 k3 k4 k6 k7 k8 k10 k12 k13 k14 k15 k16 k21 k22 k23 k24 k25 k30 k31 k33) : LGO E cI 603 b i x0 a0 a1 a2 a3 a4 a5 a6 c0 c1 c2 c3 c4 c5 c6 e0 e1 e2 e3 e4 e5 e6 b0 b1 b2 b3 g0 g1 g2 g3 s0 s1 w0 y0 r0 k1 k2 k3 k4 k6 k7 k8 k10 k12 k13 k14 k15 k16 k21 k22 k23 k24 k25 k30 k31 k33 := by
  intro n m sh n5 m5 sh5 aw5 n2 m2 sh2 aw2 P Q cs ls rs ap sq pl ki op fa K G T ki5 op5 fa5 K5 G5 T5 ki2 op2 fa2 K2 G2 T2 mf kn so wh va sg rw R kw kr mw pi tl kp im tu to M Mr lo pd bd tk kv sd hI
  obtain ⟨hw, hw5, hw2, hB, hM, hcs, hH, hl, hsg, hr, hrw, hkw, hkr, hMr, hE9⟩ := hI
  obtain ⟨hn, hm, hsh, hki, hop, hfa, hK, hG, hT, -⟩ := id hw
  refine v_al_n 604 zC dL_law_603 2 rfl ?_
  refine v_cV2 (As := []) (st := []) 607 0 [0, 1, 2, 3, 4, 5, 6, 7, 8, 9, 10, 11, 13] zC dL_law_604 hA (c_X4_passes (ev_l E) (ev_D E) cI (x0 := x0) (xm := c0) (xp := e0) (g0 := g0) (s0 := s0) (w0 := w0) (y0 := y0) (pd := pd) (rs := rs) (b0 := b0) (b1 := b1) (b2 := b2) (b3 := b3) (P := P) (Q := Q) (mf := mf) (M := M) (kn := kn) (a0 := a0) (a1 := a1) (a2 := a2) (a3 := a3) (a4 := a4) (a5 := a5) (a6 := a6) (n := n) (m := m) (sh := sh) (ki := ki) (op := op) (fa := fa) (K := K) (G := G) (T := T) (g1 := g1) (g2 := g2) (g3 := g3) (cs := cs) (hw := hw) (hB := hB) (hM := hM)) cf_X4_passes lk_L_61 rfl rfl rfl rfl rfl (by decide +kernel) (Nat.le_of_ble_eq_true rfl) (fun rv_1 wv_2 hp_3 hm_4 => ?_)
  clear hm_4
  obtain ⟨P1_5, Q1_6, mg_7, X_8, Y_9, hb1_10, hB1_11, hM1_12, rfl, rfl⟩ := hp_3
  rw [sa_14]
  refine v_al_n 608 zC dL_law_607 1 rfl ?_
  refine v_swap ?_
  refine v_cV2 (As := []) (st := [.int (nI (ALL (n, m, sh, 0, ki, op, fa, K, G, T)) - nI (sm (fun p => pcn (fa p)) n))]) 611 0 [0, 1, 2, 3, 4, 5, 6, 7, 8, 9, 10, 11] zC dL_law_608 hA (c_X5_passes (ev_l E) (ev_D E) cI (r0 := r0) (k1 := k1) (k2 := k2) (k3 := k3) (k4 := k4) (k6 := k6) (k7 := k7) (k8 := k8) (k10 := k10) (k12 := k12) (k13 := k13) (k14 := k14) (k15 := k15) (k16 := k16) (k21 := k21) (k22 := k22) (k23 := k23) (k24 := k24) (k25 := k25) (k30 := k30) (k31 := k31) (k33 := k33) (n := n) (m := m) (ls := ls) (ap := ap) (sq := sq) (pl := pl) (tz := cs) (rs := rs) (bd := bd) (pd := pd) (tk := tk) (kv := kv) (sd := sd) (ki := ki) (op := op) (fa := fa) (K := K) (G := G) (T := T) (sh := sh) (kw := kw) (kn := kr) (M := Mr) (mw := mw) (hw := hw) (hkw := hkw) (hkn := hkr) (hM := hMr)) cf_X5_passes lk_L_64 rfl rfl rfl rfl rfl (by decide +kernel) (Nat.le_of_ble_eq_true rfl) (fun rv_13 wv_14 hp_15 hm_16 => ?_)
  clear hm_16
  obtain ⟨kw1_17, kn1_18, M1_19, mw1_20, hb1_21, hkw1_22, hkn1_23, hM1_24, rfl, rfl⟩ := hp_15
  rw [sa_15]
  have hw9 := fw_pas hw hb1_10
  refine v_eqi 1756 zC dL_law_611 (by first | rfl | assumption) ?_
  refine v_swap ?_
  exact kk n m sh n5 m5 sh5 aw5 n2 m2 sh2 aw2 P1_5 Q1_6 0 ls rs ap sq pl ki op (PASF (n, m, sh, 0, ki, op, fa, K, G, T)) K G T ki5 op5 fa5 K5 G5 T5 ki2 op2 fa2 K2 G2 T2 mg_7 X_8 so wh va sg rw R kw1_17 kn1_18 mw1_20 pi tl kp im tu to Y_9 M1_19 lo pd bd tk kv sd ⟨(by first | assumption | exact trivial | omega | exact hf9 | exact hH9), (by first | assumption | exact trivial | omega | exact hf9 | exact hH9), (by first | assumption | exact trivial | omega | exact hf9 | exact hH9), (by first | assumption | exact trivial | omega | exact hf9 | exact hH9), (by first | assumption | exact trivial | omega | exact hf9 | exact hH9), (by first | assumption | exact trivial | omega | exact hf9 | exact hH9), (by first | assumption | exact trivial | omega | exact hf9 | exact hH9), (by first | assumption | exact trivial | omega | exact hf9 | exact hH9), (by first | assumption | exact trivial | omega | exact hf9 | exact hH9), (by first | assumption | exact trivial | omega | exact hf9 | exact hH9), (by first | assumption | exact trivial | omega | exact hf9 | exact hH9), (by first | assumption | exact trivial | omega | exact hf9 | exact hH9), (by first | assumption | exact trivial | omega | exact hf9 | exact hH9), (by first | assumption | exact trivial | omega | exact hf9 | exact hH9), (by first | assumption | exact trivial | omega | exact hf9 | exact hH9)⟩
set_option maxRecDepth 100000 in
set_option maxHeartbeats 4000000 in
theorem lawc_12 {E : EV} {cI : ClassId} {b L i : Nat} {xs : Nat → Int32} (x0 a0 a1 a2 a3 a4 a5 a6 c0 c1 c2 c3 c4 c5 c6 e0 e1 e2 e3 e4 e5 e6 b0 b1 b2 b3 g0 g1 g2 g3 s0 s1 w0 y0 r0 k1 k2 k3 k4 k6 k7 k8 k10 k12 k13 k14 k15 k16 k21 k22 k23 k24 k25 k30 k31 k33 : Nat) (zC : CX E cL_law RL (some .boolean) cI room_1) (hA : ∀ q, (ev_s E).heap.size ≤ q → ev_A E q) (hX : XS E b L xs) (hL : L ≤ 2560) (hi : i + 5 ≤ L) (kk : LGO E cI 1756 b i x0 a0 a1 a2 a3 a4 a5 a6 c0 c1 c2 c3 c4 c5 c6 e0 e1 e2 e3 e4 e5 e6 b0 b1 b2 b3 g0 g1 g2 g3 s0 s1 w0 y0 r0 k1 k2 k3 k4 k6 k7 k8 k10 k12 k13 k14 k15 k16 k21 k22 k23 k24 k25 k30 k31 k33) : LGO E cI 616 b i x0 a0 a1 a2 a3 a4 a5 a6 c0 c1 c2 c3 c4 c5 c6 e0 e1 e2 e3 e4 e5 e6 b0 b1 b2 b3 g0 g1 g2 g3 s0 s1 w0 y0 r0 k1 k2 k3 k4 k6 k7 k8 k10 k12 k13 k14 k15 k16 k21 k22 k23 k24 k25 k30 k31 k33 := by
  intro n m sh n5 m5 sh5 aw5 n2 m2 sh2 aw2 P Q cs ls rs ap sq pl ki op fa K G T ki5 op5 fa5 K5 G5 T5 ki2 op2 fa2 K2 G2 T2 mf kn so wh va sg rw R kw kr mw pi tl kp im tu to M Mr lo pd bd tk kv sd hI
  obtain ⟨hw, hw5, hw2, hB, hM, hcs, hH, hl, hsg, hr, hrw, hkw, hkr, hMr, hE9⟩ := hI
  obtain ⟨hn, hm, hsh, hki, hop, hfa, hK, hG, hT, -⟩ := id hw
  have hu8 : ∀ i, i < cs → UOK n m (so i) (wh i) (va i) := hist_uok hH
  refine v_al_n 617 zC dL_law_616 2 rfl ?_
  refine v_cV2 (As := []) (st := []) 620 0 [0, 1, 2, 3, 4, 5, 6, 7, 13, 14, 15, 16, 12] zC dL_law_617 hA (c_X4_back (ev_l E) (ev_D E) cI (x0 := x0) (xm := c0) (xp := e0) (y0 := y0) (pd := pd) (rs := rs) (b0 := b0) (s0 := s0) (w0 := w0) (a0 := a0) (a1 := a1) (a2 := a2) (a3 := a3) (a4 := a4) (a5 := a5) (a6 := a6) (n := n) (m := m) (sh := sh) (ki := ki) (op := op) (fa := fa) (K := K) (G := G) (T := T) (g0 := g0) (g1 := g1) (g2 := g2) (g3 := g3) (cs := cs) (so := so) (wh := wh) (va := va) (R := R) (hw := hw) (hc := hcs) (h4 := (fun i hi => by have z := hu8 i hi; unfold UOK at z; omega)) (h0 := (fun i hi e => by have z := hu8 i hi; unfold UOK at z; omega)) (h1 := (fun i hi e => by have z := hu8 i hi; unfold UOK at z; omega)) (h2 := (fun i hi e => by have z := hu8 i hi; unfold UOK at z; omega)) (h3 := (fun i hi e => by have z := hu8 i hi; unfold UOK at z; omega))) cf_X4_back lk_L_65 rfl rfl rfl rfl rfl (by decide +kernel) (Nat.le_of_ble_eq_true rfl) (fun rv_1 wv_2 hp_3 hm_4 => ?_)
  clear hm_4
  rcases hp_3 with ⟨hq_5, rfl, rfl⟩ | ⟨hp_6, hz_7, rfl, rfl⟩ | ⟨hp_8, hz_9, rfl, rfl⟩ | ⟨hp_10, hz_11, rfl, rfl⟩ | ⟨hp_12, hz_13, rfl, rfl⟩
  ·
    rw [sa_10]
    refine v_al_n 621 zC dL_law_620 1 rfl ?_
    refine v_swap ?_
    refine v_cV2 (As := []) (st := [.int (-3)]) 624 0 [0, 1, 2, 3, 4, 5, 6, 7, 19, 20, 12] zC dL_law_621 hA (c_X5_back (ev_l E) (ev_D E) cI (r0 := r0) (k1 := k1) (k2 := k2) (k3 := k3) (k4 := k4) (k6 := k6) (k7 := k7) (k8 := k8) (k10 := k10) (k12 := k12) (k13 := k13) (k14 := k14) (k15 := k15) (k16 := k16) (k21 := k21) (k22 := k22) (k23 := k23) (k24 := k24) (k25 := k25) (k30 := k30) (k31 := k31) (k33 := k33) (n := n) (m := m) (ls := ls) (ap := ap) (sq := sq) (pl := pl) (tz := cs) (rs := rs) (bd := bd) (pd := pd) (tk := tk) (kv := kv) (sd := sd) (ki := ki) (op := op) (fa := fa) (K := K) (G := G) (T := T) (sh := sh) (tu := tu) (to := to) (R := R) (n1 := n) (m1 := m) (sh1 := sh) (aw1 := 0) (ki1 := ki) (op1 := op) (fa1 := fa) (K1 := K) (G1 := G) (T1 := T) (hw := hw) (hw1 := hw) (ht := hcs) (hE := (fun z => absurd z (by omega)))) cf_X5_back lk_L_68 rfl rfl rfl rfl rfl (by decide +kernel) (Nat.le_of_ble_eq_true rfl) (fun rv_14 wv_15 hp_16 hm_17 => ?_)
    clear hm_17
    rcases hp_16 with ⟨hq_18, rfl, rfl⟩ | ⟨o1_19, hp_20, rfl, rfl⟩
    ·
      rw [sa_11]
      refine v_eqi 1756 zC dL_law_624 (by first | rfl | assumption) ?_
      refine v_swap ?_
      exact kk n m sh n5 m5 sh5 aw5 n2 m2 sh2 aw2 P Q cs ls rs ap sq pl ki op fa K G T ki5 op5 fa5 K5 G5 T5 ki2 op2 fa2 K2 G2 T2 mf kn so wh va sg rw (un R 3 (R 3 + 1)) kw kr mw pi tl kp im tu to M Mr lo pd bd tk kv sd ⟨(by first | assumption | exact trivial | omega | exact hf9 | exact hH9), (by first | assumption | exact trivial | omega | exact hf9 | exact hH9), (by first | assumption | exact trivial | omega | exact hf9 | exact hH9), (by first | assumption | exact trivial | omega | exact hf9 | exact hH9), (by first | assumption | exact trivial | omega | exact hf9 | exact hH9), (by first | assumption | exact trivial | omega | exact hf9 | exact hH9), (by first | assumption | exact trivial | omega | exact hf9 | exact hH9), (by first | assumption | exact trivial | omega | exact hf9 | exact hH9), (by first | assumption | exact trivial | omega | exact hf9 | exact hH9), (by first | assumption | exact trivial | omega | exact hf9 | exact hH9), (by first | assumption | exact trivial | omega | exact hf9 | exact hH9), (by first | assumption | exact trivial | omega | exact hf9 | exact hH9), (by first | assumption | exact trivial | omega | exact hf9 | exact hH9), (by first | assumption | exact trivial | omega | exact hf9 | exact hH9), (by first | assumption | exact trivial | omega | exact hf9 | exact hH9)⟩
    ·
      rw [sa_11]
      exact (no_back_0_1 hq_5 hp_20).elim
  ·
    rw [sa_10]
    obtain ⟨hu9, hf9, ht9, hH9⟩ := hist_top hH hp_6
    rw [hz_7] at hu9 hf9 ht9 hH9
    refine v_al_n 621 zC dL_law_620 1 rfl ?_
    refine v_swap ?_
    refine v_cV2 (As := []) (st := [.int (nI (cs - 1))]) 624 0 [0, 1, 2, 3, 4, 5, 6, 7, 19, 20, 12] zC dL_law_621 hA (c_X5_back (ev_l E) (ev_D E) cI (r0 := r0) (k1 := k1) (k2 := k2) (k3 := k3) (k4 := k4) (k6 := k6) (k7 := k7) (k8 := k8) (k10 := k10) (k12 := k12) (k13 := k13) (k14 := k14) (k15 := k15) (k16 := k16) (k21 := k21) (k22 := k22) (k23 := k23) (k24 := k24) (k25 := k25) (k30 := k30) (k31 := k31) (k33 := k33) (n := n) (m := m) (ls := ls) (ap := ap) (sq := sq) (pl := pl) (tz := cs) (rs := rs) (bd := bd) (pd := pd) (tk := tk) (kv := kv) (sd := sd) (ki := ki) (op := op) (fa := fa) (K := K) (G := G) (T := T) (sh := sh) (tu := tu) (to := to) (R := R) (n1 := n) (m1 := m) (sh1 := sh) (aw1 := 0) (ki1 := ki) (op1 := (un op (wh (cs - 1)) (op (wh (cs - 1)) ^^^ 2 ^ (va (cs - 1))))) (fa1 := fa) (K1 := K) (G1 := G) (T1 := T) (hw := hw) (hw1 := hf9) (ht := hcs) (hE := (fun _ => ht9))) cf_X5_back lk_L_68 rfl rfl rfl rfl rfl (by decide +kernel) (Nat.le_of_ble_eq_true rfl) (fun rv_21 wv_22 hp_23 hm_24 => ?_)
    clear hm_24
    rcases hp_23 with ⟨hq_25, rfl, rfl⟩ | ⟨o1_26, hp_27, rfl, rfl⟩
    ·
      rw [sa_11]
      exact (no_back_1_0 hp_6 hz_7 hq_25).elim
    ·
      rw [sa_11]
      refine v_eqi 1756 zC dL_law_624 (by first | rfl | assumption) ?_
      refine v_swap ?_
      exact kk n m sh n5 m5 sh5 aw5 n2 m2 sh2 aw2 P Q (cs - 1) ls rs ap sq 48 ki (un op (wh (cs - 1)) (op (wh (cs - 1)) ^^^ 2 ^ va (cs - 1))) fa K G T ki5 op5 fa5 K5 G5 T5 ki2 op2 fa2 K2 G2 T2 mf kn so wh va sg rw R kw kr mw pi tl kp im tu o1_26 M Mr lo pd bd false (.ref k31 : Value) sd ⟨(by first | assumption | exact trivial | omega | exact hf9 | exact hH9), (by first | assumption | exact trivial | omega | exact hf9 | exact hH9), (by first | assumption | exact trivial | omega | exact hf9 | exact hH9), (by first | assumption | exact trivial | omega | exact hf9 | exact hH9), (by first | assumption | exact trivial | omega | exact hf9 | exact hH9), (by first | assumption | exact trivial | omega | exact hf9 | exact hH9), (by first | assumption | exact trivial | omega | exact hf9 | exact hH9), (by first | assumption | exact trivial | omega | exact hf9 | exact hH9), (by first | assumption | exact trivial | omega | exact hf9 | exact hH9), (by first | assumption | exact trivial | omega | exact hf9 | exact hH9), (by first | assumption | exact trivial | omega | exact hf9 | exact hH9), (by first | assumption | exact trivial | omega | exact hf9 | exact hH9), (by first | assumption | exact trivial | omega | exact hf9 | exact hH9), (by first | assumption | exact trivial | omega | exact hf9 | exact hH9), (by first | assumption | exact trivial | omega | exact hf9 | exact hH9)⟩
  ·
    rw [sa_10]
    obtain ⟨hu9, hf9, ht9, hH9⟩ := hist_top hH hp_8
    rw [hz_9] at hu9 hf9 ht9 hH9
    refine v_al_n 621 zC dL_law_620 1 rfl ?_
    refine v_swap ?_
    refine v_cV2 (As := []) (st := [.int (nI (cs - 1))]) 624 0 [0, 1, 2, 3, 4, 5, 6, 7, 19, 20, 12] zC dL_law_621 hA (c_X5_back (ev_l E) (ev_D E) cI (r0 := r0) (k1 := k1) (k2 := k2) (k3 := k3) (k4 := k4) (k6 := k6) (k7 := k7) (k8 := k8) (k10 := k10) (k12 := k12) (k13 := k13) (k14 := k14) (k15 := k15) (k16 := k16) (k21 := k21) (k22 := k22) (k23 := k23) (k24 := k24) (k25 := k25) (k30 := k30) (k31 := k31) (k33 := k33) (n := n) (m := m) (ls := ls) (ap := ap) (sq := sq) (pl := pl) (tz := cs) (rs := rs) (bd := bd) (pd := pd) (tk := tk) (kv := kv) (sd := sd) (ki := ki) (op := op) (fa := fa) (K := K) (G := G) (T := T) (sh := sh) (tu := tu) (to := to) (R := R) (n1 := n) (m1 := m) (sh1 := (sh ^^^ 2 ^ (wh (cs - 1)))) (aw1 := 0) (ki1 := ki) (op1 := op) (fa1 := fa) (K1 := K) (G1 := G) (T1 := T) (hw := hw) (hw1 := hf9) (ht := hcs) (hE := (fun _ => ht9))) cf_X5_back lk_L_68 rfl rfl rfl rfl rfl (by decide +kernel) (Nat.le_of_ble_eq_true rfl) (fun rv_28 wv_29 hp_30 hm_31 => ?_)
    clear hm_31
    rcases hp_30 with ⟨hq_32, rfl, rfl⟩ | ⟨o1_33, hp_34, rfl, rfl⟩
    ·
      rw [sa_11]
      exact (no_back_2_0 hp_8 hz_9 hq_32).elim
    ·
      rw [sa_11]
      refine v_eqi 1756 zC dL_law_624 (by first | rfl | assumption) ?_
      refine v_swap ?_
      exact kk n m (sh ^^^ 2 ^ wh (cs - 1)) n5 m5 sh5 aw5 n2 m2 sh2 aw2 P Q (cs - 1) ls rs ap sq 48 ki op fa K G T ki5 op5 fa5 K5 G5 T5 ki2 op2 fa2 K2 G2 T2 mf kn so wh va sg rw R kw kr mw pi tl kp im tu o1_33 M Mr lo pd bd false (.ref k31 : Value) sd ⟨(by first | assumption | exact trivial | omega | exact hf9 | exact hH9), (by first | assumption | exact trivial | omega | exact hf9 | exact hH9), (by first | assumption | exact trivial | omega | exact hf9 | exact hH9), (by first | assumption | exact trivial | omega | exact hf9 | exact hH9), (by first | assumption | exact trivial | omega | exact hf9 | exact hH9), (by first | assumption | exact trivial | omega | exact hf9 | exact hH9), (by first | assumption | exact trivial | omega | exact hf9 | exact hH9), (by first | assumption | exact trivial | omega | exact hf9 | exact hH9), (by first | assumption | exact trivial | omega | exact hf9 | exact hH9), (by first | assumption | exact trivial | omega | exact hf9 | exact hH9), (by first | assumption | exact trivial | omega | exact hf9 | exact hH9), (by first | assumption | exact trivial | omega | exact hf9 | exact hH9), (by first | assumption | exact trivial | omega | exact hf9 | exact hH9), (by first | assumption | exact trivial | omega | exact hf9 | exact hH9), (by first | assumption | exact trivial | omega | exact hf9 | exact hH9)⟩
  ·
    rw [sa_10]
    obtain ⟨hu9, hf9, ht9, hH9⟩ := hist_top hH hp_10
    rw [hz_11] at hu9 hf9 ht9 hH9
    refine v_al_n 621 zC dL_law_620 1 rfl ?_
    refine v_swap ?_
    refine v_cV2 (As := []) (st := [.int (nI (cs - 1))]) 624 0 [0, 1, 2, 3, 4, 5, 6, 7, 19, 20, 12] zC dL_law_621 hA (c_X5_back (ev_l E) (ev_D E) cI (r0 := r0) (k1 := k1) (k2 := k2) (k3 := k3) (k4 := k4) (k6 := k6) (k7 := k7) (k8 := k8) (k10 := k10) (k12 := k12) (k13 := k13) (k14 := k14) (k15 := k15) (k16 := k16) (k21 := k21) (k22 := k22) (k23 := k23) (k24 := k24) (k25 := k25) (k30 := k30) (k31 := k31) (k33 := k33) (n := n) (m := m) (ls := ls) (ap := ap) (sq := sq) (pl := pl) (tz := cs) (rs := rs) (bd := bd) (pd := pd) (tk := tk) (kv := kv) (sd := sd) (ki := ki) (op := op) (fa := fa) (K := K) (G := G) (T := T) (sh := sh) (tu := tu) (to := to) (R := R) (n1 := n) (m1 := m) (sh1 := sh) (aw1 := 0) (ki1 := (un ki (wh (cs - 1)) (ki (wh (cs - 1)) ^^^ 2 ^ (va (cs - 1))))) (op1 := op) (fa1 := fa) (K1 := K) (G1 := G) (T1 := T) (hw := hw) (hw1 := hf9) (ht := hcs) (hE := (fun _ => ht9))) cf_X5_back lk_L_68 rfl rfl rfl rfl rfl (by decide +kernel) (Nat.le_of_ble_eq_true rfl) (fun rv_35 wv_36 hp_37 hm_38 => ?_)
    clear hm_38
    rcases hp_37 with ⟨hq_39, rfl, rfl⟩ | ⟨o1_40, hp_41, rfl, rfl⟩
    ·
      rw [sa_11]
      exact (no_back_3_0 hp_10 hz_11 hq_39).elim
    ·
      rw [sa_11]
      refine v_eqi 1756 zC dL_law_624 (by first | rfl | assumption) ?_
      refine v_swap ?_
      exact kk n m sh n5 m5 sh5 aw5 n2 m2 sh2 aw2 P Q (cs - 1) ls rs ap sq 48 (un ki (wh (cs - 1)) (ki (wh (cs - 1)) ^^^ 2 ^ va (cs - 1))) op fa K G T ki5 op5 fa5 K5 G5 T5 ki2 op2 fa2 K2 G2 T2 mf kn so wh va sg rw R kw kr mw pi tl kp im tu o1_40 M Mr lo pd bd false (.ref k31 : Value) sd ⟨(by first | assumption | exact trivial | omega | exact hf9 | exact hH9), (by first | assumption | exact trivial | omega | exact hf9 | exact hH9), (by first | assumption | exact trivial | omega | exact hf9 | exact hH9), (by first | assumption | exact trivial | omega | exact hf9 | exact hH9), (by first | assumption | exact trivial | omega | exact hf9 | exact hH9), (by first | assumption | exact trivial | omega | exact hf9 | exact hH9), (by first | assumption | exact trivial | omega | exact hf9 | exact hH9), (by first | assumption | exact trivial | omega | exact hf9 | exact hH9), (by first | assumption | exact trivial | omega | exact hf9 | exact hH9), (by first | assumption | exact trivial | omega | exact hf9 | exact hH9), (by first | assumption | exact trivial | omega | exact hf9 | exact hH9), (by first | assumption | exact trivial | omega | exact hf9 | exact hH9), (by first | assumption | exact trivial | omega | exact hf9 | exact hH9), (by first | assumption | exact trivial | omega | exact hf9 | exact hH9), (by first | assumption | exact trivial | omega | exact hf9 | exact hH9)⟩
  ·
    rw [sa_10]
    obtain ⟨hu9, hf9, ht9, hH9⟩ := hist_top hH hp_12
    rw [hz_13] at hu9 hf9 ht9 hH9
    refine v_al_n 621 zC dL_law_620 1 rfl ?_
    refine v_swap ?_
    refine v_cV2 (As := []) (st := [.int (nI (cs - 1))]) 624 0 [0, 1, 2, 3, 4, 5, 6, 7, 19, 20, 12] zC dL_law_621 hA (c_X5_back (ev_l E) (ev_D E) cI (r0 := r0) (k1 := k1) (k2 := k2) (k3 := k3) (k4 := k4) (k6 := k6) (k7 := k7) (k8 := k8) (k10 := k10) (k12 := k12) (k13 := k13) (k14 := k14) (k15 := k15) (k16 := k16) (k21 := k21) (k22 := k22) (k23 := k23) (k24 := k24) (k25 := k25) (k30 := k30) (k31 := k31) (k33 := k33) (n := n) (m := m) (ls := ls) (ap := ap) (sq := sq) (pl := pl) (tz := cs) (rs := rs) (bd := bd) (pd := pd) (tk := tk) (kv := kv) (sd := sd) (ki := ki) (op := op) (fa := fa) (K := K) (G := G) (T := T) (sh := sh) (tu := tu) (to := to) (R := R) (n1 := n) (m1 := m) (sh1 := sh) (aw1 := 0) (ki1 := ki) (op1 := op) (fa1 := fa) (K1 := K) (G1 := (un G (wh (cs - 1)) (va (cs - 1)))) (T1 := T) (hw := hw) (hw1 := hf9) (ht := hcs) (hE := (fun _ => ht9))) cf_X5_back lk_L_68 rfl rfl rfl rfl rfl (by decide +kernel) (Nat.le_of_ble_eq_true rfl) (fun rv_42 wv_43 hp_44 hm_45 => ?_)
    clear hm_45
    rcases hp_44 with ⟨hq_46, rfl, rfl⟩ | ⟨o1_47, hp_48, rfl, rfl⟩
    ·
      rw [sa_11]
      exact (no_back_4_0 hp_12 hz_13 hq_46).elim
    ·
      rw [sa_11]
      refine v_eqi 1756 zC dL_law_624 (by first | rfl | assumption) ?_
      refine v_swap ?_
      exact kk n m sh n5 m5 sh5 aw5 n2 m2 sh2 aw2 P Q (cs - 1) ls rs ap sq 48 ki op fa K (un G (wh (cs - 1)) (va (cs - 1))) T ki5 op5 fa5 K5 G5 T5 ki2 op2 fa2 K2 G2 T2 mf kn so wh va sg rw R kw kr mw pi tl kp im tu o1_47 M Mr lo pd bd false (.ref k31 : Value) sd ⟨(by first | assumption | exact trivial | omega | exact hf9 | exact hH9), (by first | assumption | exact trivial | omega | exact hf9 | exact hH9), (by first | assumption | exact trivial | omega | exact hf9 | exact hH9), (by first | assumption | exact trivial | omega | exact hf9 | exact hH9), (by first | assumption | exact trivial | omega | exact hf9 | exact hH9), (by first | assumption | exact trivial | omega | exact hf9 | exact hH9), (by first | assumption | exact trivial | omega | exact hf9 | exact hH9), (by first | assumption | exact trivial | omega | exact hf9 | exact hH9), (by first | assumption | exact trivial | omega | exact hf9 | exact hH9), (by first | assumption | exact trivial | omega | exact hf9 | exact hH9), (by first | assumption | exact trivial | omega | exact hf9 | exact hH9), (by first | assumption | exact trivial | omega | exact hf9 | exact hH9), (by first | assumption | exact trivial | omega | exact hf9 | exact hH9), (by first | assumption | exact trivial | omega | exact hf9 | exact hH9), (by first | assumption | exact trivial | omega | exact hf9 | exact hH9)⟩
set_option maxRecDepth 100000 in
set_option maxHeartbeats 4000000 in
theorem lawc_13 {E : EV} {cI : ClassId} {b L i : Nat} {xs : Nat → Int32} (x0 a0 a1 a2 a3 a4 a5 a6 c0 c1 c2 c3 c4 c5 c6 e0 e1 e2 e3 e4 e5 e6 b0 b1 b2 b3 g0 g1 g2 g3 s0 s1 w0 y0 r0 k1 k2 k3 k4 k6 k7 k8 k10 k12 k13 k14 k15 k16 k21 k22 k23 k24 k25 k30 k31 k33 : Nat) (zC : CX E cL_law RL (some .boolean) cI room_1) (hA : ∀ q, (ev_s E).heap.size ≤ q → ev_A E q) (hX : XS E b L xs) (hL : L ≤ 2560) (hi : i + 5 ≤ L) (kk : LGO E cI 1756 b i x0 a0 a1 a2 a3 a4 a5 a6 c0 c1 c2 c3 c4 c5 c6 e0 e1 e2 e3 e4 e5 e6 b0 b1 b2 b3 g0 g1 g2 g3 s0 s1 w0 y0 r0 k1 k2 k3 k4 k6 k7 k8 k10 k12 k13 k14 k15 k16 k21 k22 k23 k24 k25 k30 k31 k33) : LGO E cI 629 b i x0 a0 a1 a2 a3 a4 a5 a6 c0 c1 c2 c3 c4 c5 c6 e0 e1 e2 e3 e4 e5 e6 b0 b1 b2 b3 g0 g1 g2 g3 s0 s1 w0 y0 r0 k1 k2 k3 k4 k6 k7 k8 k10 k12 k13 k14 k15 k16 k21 k22 k23 k24 k25 k30 k31 k33 := by
  intro n m sh n5 m5 sh5 aw5 n2 m2 sh2 aw2 P Q cs ls rs ap sq pl ki op fa K G T ki5 op5 fa5 K5 G5 T5 ki2 op2 fa2 K2 G2 T2 mf kn so wh va sg rw R kw kr mw pi tl kp im tu to M Mr lo pd bd tk kv sd hI
  obtain ⟨hw, hw5, hw2, hB, hM, hcs, hH, hl, hsg, hr, hrw, hkw, hkr, hMr, hE9⟩ := hI
  obtain ⟨hn, hm, hsh, hki, hop, hfa, hK, hG, hT, -⟩ := id hw
  refine v_al_n 630 zC dL_law_629 2 rfl ?_
  refine v_al_n 631 zC dL_law_630 3 rfl ?_
  refine v_il_n 632 zC dL_law_631 0 rfl ?_
  refine v_ic (v := (nI 1)) 633 zC dL_law_632 (by decide +kernel) ?_
  refine v_iadd (v := (nI (i + 1))) 634 zC dL_law_633 (nI_add _ _) ?_
  refine v_sld 635 zC hX dL_law_634 (by omega) hL ?_
  refine v_al_n 636 zC dL_law_635 3 rfl ?_
  refine v_il_n 637 zC dL_law_636 0 rfl ?_
  refine v_ic (v := (nI 2)) 638 zC dL_law_637 (by decide +kernel) ?_
  refine v_iadd (v := (nI (i + 2))) 639 zC dL_law_638 (nI_add _ _) ?_
  refine v_sld 640 zC hX dL_law_639 (by omega) hL ?_
  refine v_cV2 (As := [.int (xs (i + 1)), .int (xs (i + 2))]) (st := []) 643 0 [0, 1, 2, 3, 4, 5, 6, 7, 8, 9, 10, 11, 12] zC dL_law_640 hA (c_X4_knows (ev_l E) (ev_D E) cI (x0 := x0) (xm := c0) (xp := e0) (g0 := g0) (s0 := s0) (w0 := w0) (y0 := y0) (pd := pd) (rs := rs) (b0 := b0) (b1 := b1) (b2 := b2) (b3 := b3) (P := P) (Q := Q) (mf := mf) (M := M) (kn := kn) (a0 := a0) (a1 := a1) (a2 := a2) (a3 := a3) (a4 := a4) (a5 := a5) (a6 := a6) (n := n) (m := m) (sh := sh) (ki := ki) (op := op) (fa := fa) (K := K) (G := G) (T := T) (R := R) (p := (xs (i + 1))) (q := (xs (i + 2))) (hw := hw) (hB := hB) (hM := hM)) cf_X4_knows lk_L_69 rfl rfl rfl rfl rfl (by decide +kernel) (Nat.le_of_ble_eq_true rfl) (fun rv_1 wv_2 hp_3 hm_4 => ?_)
  clear hm_4
  obtain ⟨P1_5, Q1_6, mg_7, X_8, Y_9, rc_10, rv_11, hq_12, hB1_13, hM1_14, rfl, rfl⟩ := hp_3
  rw [sa_16]
  refine v_al_n 644 zC dL_law_643 1 rfl ?_
  refine v_al_n 645 zC dL_law_644 3 rfl ?_
  refine v_il_n 646 zC dL_law_645 0 rfl ?_
  refine v_ic (v := (nI 1)) 647 zC dL_law_646 (by decide +kernel) ?_
  refine v_iadd (v := (nI (i + 1))) 648 zC dL_law_647 (nI_add _ _) ?_
  refine v_sld 649 zC hX dL_law_648 (by omega) hL ?_
  refine v_al_n 650 zC dL_law_649 3 rfl ?_
  refine v_il_n 651 zC dL_law_650 0 rfl ?_
  refine v_ic (v := (nI 2)) 652 zC dL_law_651 (by decide +kernel) ?_
  refine v_iadd (v := (nI (i + 2))) 653 zC dL_law_652 (nI_add _ _) ?_
  refine v_sld 654 zC hX dL_law_653 (by omega) hL ?_
  refine v_swap ?_
  refine v_cV2 (As := [.int (xs (i + 1)), .int (xs (i + 2))]) (st := [.int rv_11]) 657 0 [0, 1, 2, 3, 4, 5, 6, 7, 8, 9, 10, 11, 12] zC dL_law_654 hA (c_X5_knows (ev_l E) (ev_D E) cI (r0 := r0) (k1 := k1) (k2 := k2) (k3 := k3) (k4 := k4) (k6 := k6) (k7 := k7) (k8 := k8) (k10 := k10) (k12 := k12) (k13 := k13) (k14 := k14) (k15 := k15) (k16 := k16) (k21 := k21) (k22 := k22) (k23 := k23) (k24 := k24) (k25 := k25) (k30 := k30) (k31 := k31) (k33 := k33) (n := n) (m := m) (ls := ls) (ap := ap) (sq := sq) (pl := pl) (tz := cs) (rs := rs) (bd := bd) (pd := pd) (tk := tk) (kv := kv) (sd := sd) (ki := ki) (op := op) (fa := fa) (K := K) (G := G) (T := T) (sh := sh) (kw := kw) (kn := kr) (M := Mr) (mw := mw) (R := R) (p := (xs (i + 1))) (q := (xs (i + 2))) (hw := hw) (hkw := hkw) (hkn := hkr) (hM := hMr)) cf_X5_knows lk_L_72 rfl rfl rfl rfl rfl (by decide +kernel) (Nat.le_of_ble_eq_true rfl) (fun rv_15 wv_16 hp_17 hm_18 => ?_)
  clear hm_18
  obtain ⟨kw1_19, kn1_20, M1_21, mw1_22, rc_23, rv_24, hq_25, hkw1_26, hkn1_27, hM1_28, rfl, rfl⟩ := hp_17
  rw [sa_17]
  obtain ⟨ez, ey⟩ := Prod.mk.inj (hq_12.symm.trans hq_25)
  subst ez
  have ez := ey
  subst ez
  refine v_eqi 1756 zC dL_law_657 (by first | rfl | assumption) ?_
  refine v_swap ?_
  exact kk n m sh n5 m5 sh5 aw5 n2 m2 sh2 aw2 P1_5 Q1_6 cs ls rs ap sq pl ki op fa K G T ki5 op5 fa5 K5 G5 T5 ki2 op2 fa2 K2 G2 T2 mg_7 X_8 so wh va sg rw (rf R rc_10) kw1_19 kn1_20 mw1_22 pi tl kp im tu to Y_9 M1_21 lo pd bd tk kv sd ⟨(by first | assumption | exact trivial | omega | exact hf9 | exact hH9), (by first | assumption | exact trivial | omega | exact hf9 | exact hH9), (by first | assumption | exact trivial | omega | exact hf9 | exact hH9), (by first | assumption | exact trivial | omega | exact hf9 | exact hH9), (by first | assumption | exact trivial | omega | exact hf9 | exact hH9), (by first | assumption | exact trivial | omega | exact hf9 | exact hH9), (by first | assumption | exact trivial | omega | exact hf9 | exact hH9), (by first | assumption | exact trivial | omega | exact hf9 | exact hH9), (by first | assumption | exact trivial | omega | exact hf9 | exact hH9), (by first | assumption | exact trivial | omega | exact hf9 | exact hH9), (by first | assumption | exact trivial | omega | exact hf9 | exact hH9), (by first | assumption | exact trivial | omega | exact hf9 | exact hH9), (by first | assumption | exact trivial | omega | exact hf9 | exact hH9), (by first | assumption | exact trivial | omega | exact hf9 | exact hH9), (by first | assumption | exact trivial | omega | exact hf9 | exact hH9)⟩
