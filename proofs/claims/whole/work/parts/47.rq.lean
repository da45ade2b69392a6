set_option maxRecDepth 100000 in
set_option maxHeartbeats 4000000 in
theorem lawc_44 {E : EV} {cI : ClassId} {b L i : Nat} {xs : Nat → Int32} (x0 a0 a1 a2 a3 a4 a5 a6 c0 c1 c2 c3 c4 c5 c6 e0 e1 e2 e3 e4 e5 e6 b0 b1 b2 b3 g0 g1 g2 g3 s0 s1 w0 y0 r0 k1 k2 k3 k4 k6 k7 k8 k10 k12 k13 k14 k15 k16 k21 k22 k23 k24 k25 k30 k31 k33 : Nat) (zC : CX E cL_law RL (some .boolean) cI room_1) (hA : ∀ q, (ev_s E).heap.size ≤ q → ev_A E q) (hX : XS E b L xs) (hL : L ≤ 2560) (hi : i + 5 ≤ L) (kk : LGO E cI 1756 b i x0 a0 a1 a2 a3 a4 a5 a6 c0 c1 c2 c3 c4 c5 c6 e0 e1 e2 e3 e4 e5 e6 b0 b1 b2 b3 g0 g1 g2 g3 s0 s1 w0 y0 r0 k1 k2 k3 k4 k6 k7 k8 k10 k12 k13 k14 k15 k16 k21 k22 k23 k24 k25 k30 k31 k33) : LGO E cI 1453 b i x0 a0 a1 a2 a3 a4 a5 a6 c0 c1 c2 c3 c4 c5 c6 e0 e1 e2 e3 e4 e5 e6 b0 b1 b2 b3 g0 g1 g2 g3 s0 s1 w0 y0 r0 k1 k2 k3 k4 k6 k7 k8 k10 k12 k13 k14 k15 k16 k21 k22 k23 k24 k25 k30 k31 k33 := by
  intro n m sh n5 m5 sh5 aw5 n2 m2 sh2 aw2 P Q cs ls rs ap sq pl ki op fa K G T ki5 op5 fa5 K5 G5 T5 ki2 op2 fa2 K2 G2 T2 mf kn so wh va sg rw R kw kr mw pi tl kp im tu to M Mr lo pd bd tk kv sd hI
  obtain ⟨hw, hw5, hw2, hB, hM, hcs, hH, hl, hsg, hr, hrw, hkw, hkr, hMr, hE9⟩ := hI
  obtain ⟨hn, hm, hsh, hki, hop, hfa, hK, hG, hT, -⟩ := id hw
  refine v_al_n 1454 zC dL_law_1453 2 rfl ?_
  refine v_al_n 1455 zC dL_law_1454 3 rfl ?_
  refine v_il_n 1456 zC dL_law_1455 0 rfl ?_
  refine v_ic (v := (nI 1)) 1457 zC dL_law_1456 (by decide +kernel) ?_
  refine v_iadd (v := (nI (i + 1))) 1458 zC dL_law_1457 (nI_add _ _) ?_
  refine v_sld 1459 zC hX dL_law_1458 (by omega) hL ?_
  refine v_al_n 1460 zC dL_law_1459 3 rfl ?_
  refine v_il_n 1461 zC dL_law_1460 0 rfl ?_
  refine v_ic (v := (nI 2)) 1462 zC dL_law_1461 (by decide +kernel) ?_
  refine v_iadd (v := (nI (i + 2))) 1463 zC dL_law_1462 (nI_add _ _) ?_
  refine v_sld 1464 zC hX dL_law_1463 (by omega) hL ?_
  refine v_cV2 (As := [.int (xs (i + 1)), .int (xs (i + 2))]) (st := []) 1467 0 [0, 1, 2, 3, 4, 5, 6, 7, 20, 21, 22, 23, 24, 25, 26, 8, 9, 10, 11, 12] zC dL_law_1464 hA (c_X4_openings (ev_l E) (ev_D E) cI (x0 := x0) (xp := e0) (g0 := g0) (s0 := s0) (w0 := w0) (y0 := y0) (pd := pd) (rs := rs) (b0 := b0) (b1 := b1) (b2 := b2) (b3 := b3) (P := P) (Q := Q) (mf := mf) (M := M) (kn := kn) (a0 := a0) (a1 := a1) (a2 := a2) (a3 := a3) (a4 := a4) (a5 := a5) (a6 := a6) (n := n) (m := m) (sh := sh) (ki := ki) (op := op) (fa := fa) (K := K) (G := G) (T := T) (c0 := c0) (c1 := c1) (c2 := c2) (c3 := c3) (c4 := c4) (c5 := c5) (c6 := c6) (n1 := n5) (m1 := m5) (sh1 := sh5) (aw1 := aw5) (ki1 := ki5) (op1 := op5) (fa1 := fa5) (K1 := K5) (G1 := G5) (T1 := T5) (R := R) (p := (xs (i + 1))) (w := (xs (i + 2))) (hw := hw) (hw1 := hw5) (hB := hB) (hM := hM)) cf_X4_openings lk_L_194 rfl rfl rfl rfl rfl (by decide +kernel) (Nat.le_of_ble_eq_true rfl) (fun rv_1 wv_2 hp_3 hm_4 => ?_)
  clear hm_4
  obtain ⟨P1_5, Q1_6, mg_7, X_8, Y_9, n3_10, m3_11, s3_12, w3_13, ki3_14, op3_15, fa3_16, K3_17, G3_18, T3_19, rc_20, rv_21, hq_22, hF_23, hB1_24, hM1_25, rfl, rfl⟩ := hp_3
  rw [sa_19]
  refine v_al_n 1468 zC dL_law_1467 1 rfl ?_
  refine v_al_n 1469 zC dL_law_1468 3 rfl ?_
  refine v_il_n 1470 zC dL_law_1469 0 rfl ?_
  refine v_ic (v := (nI 1)) 1471 zC dL_law_1470 (by decide +kernel) ?_
  refine v_iadd (v := (nI (i + 1))) 1472 zC dL_law_1471 (nI_add _ _) ?_
  refine v_sld 1473 zC hX dL_law_1472 (by omega) hL ?_
  refine v_al_n 1474 zC dL_law_1473 3 rfl ?_
  refine v_il_n 1475 zC dL_law_1474 0 rfl ?_
  refine v_ic (v := (nI 2)) 1476 zC dL_law_1475 (by decide +kernel) ?_
  refine v_iadd (v := (nI (i + 2))) 1477 zC dL_law_1476 (nI_add _ _) ?_
  refine v_sld 1478 zC hX dL_law_1477 (by omega) hL ?_
  refine v_swap ?_
  refine v_cV2 (As := [.int (xs (i + 1)), .int (xs (i + 2))]) (st := [.int rv_21]) 1481 0 [0, 1, 2, 3, 4, 5, 6, 7, 8, 9, 10, 11, 12] zC dL_law_1478 hA (c_X5_openings (ev_l E) (ev_D E) cI (r0 := r0) (k1 := k1) (k2 := k2) (k3 := k3) (k4 := k4) (k6 := k6) (k7 := k7) (k8 := k8) (k10 := k10) (k12 := k12) (k13 := k13) (k14 := k14) (k15 := k15) (k16 := k16) (k21 := k21) (k22 := k22) (k23 := k23) (k24 := k24) (k25 := k25) (k30 := k30) (k31 := k31) (k33 := k33) (n := n) (m := m) (ls := ls) (ap := ap) (sq := sq) (pl := pl) (tz := cs) (rs := rs) (bd := bd) (pd := pd) (tk := tk) (kv := kv) (sd := sd) (ki := ki) (op := op) (fa := fa) (K := K) (G := G) (T := T) (sh := sh) (kw := kw) (kn := kr) (M := Mr) (mw := mw) (R := R) (p := (xs (i + 1))) (w := (xs (i + 2))) (hw := hw) (hkw := hkw) (hkn := hkr) (hM := hMr)) cf_X5_openings lk_L_197 rfl rfl rfl rfl rfl (by decide +kernel) (Nat.le_of_ble_eq_true rfl) (fun rv_26 wv_27 hp_28 hm_29 => ?_)
  clear hm_29
  obtain ⟨kw1_30, kn1_31, M1_32, mw1_33, rc_34, rv_35, hq_36, hkw1_37, hkn1_38, hM1_39, rfl, rfl⟩ := hp_28
  rw [sa_17]
  obtain ⟨ez, ey⟩ := Prod.mk.inj (hq_22.symm.trans hq_36)
  subst ez
  have ez := ey
  subst ez
  refine v_eqi 1756 zC dL_law_1481 (by first | rfl | assumption) ?_
  refine v_swap ?_
  exact kk n m sh n3_10 m3_11 s3_12 w3_13 n2 m2 sh2 aw2 P1_5 Q1_6 cs ls rs ap sq pl ki op fa K G T ki3_14 op3_15 fa3_16 K3_17 G3_18 T3_19 ki2 op2 fa2 K2 G2 T2 mg_7 X_8 so wh va sg rw (rf R rc_20) kw1_30 kn1_31 mw1_33 pi tl kp im tu to Y_9 M1_32 lo pd bd tk kv sd ⟨(by first | assumption | exact trivial | omega | exact hf9 | exact hH9), (by first | assumption | exact trivial | omega | exact hf9 | exact hH9), (by first | assumption | exact trivial | omega | exact hf9 | exact hH9), (by first | assumption | exact trivial | omega | exact hf9 | exact hH9), (by first | assumption | exact trivial | omega | exact hf9 | exact hH9), (by first | assumption | exact trivial | omega | exact hf9 | exact hH9), (by first | assumption | exact trivial | omega | exact hf9 | exact hH9), (by first | assumption | exact trivial | omega | exact hf9 | exact hH9), (by first | assumption | exact trivial | omega | exact hf9 | exact hH9), (by first | assumption | exact trivial | omega | exact hf9 | exact hH9), (by first | assumption | exact trivial | omega | exact hf9 | exact hH9), (by first | assumption | exact trivial | omega | exact hf9 | exact hH9), (by first | assumption | exact trivial | omega | exact hf9 | exact hH9), (by first | assumption | exact trivial | omega | exact hf9 | exact hH9), (by first | assumption | exact trivial | omega | exact hf9 | exact hH9)⟩
set_option maxRecDepth 100000 in
set_option maxHeartbeats 4000000 in
theorem lawc_45 {E : EV} {cI : ClassId} {b L i : Nat} {xs : Nat → Int32} (x0 a0 a1 a2 a3 a4 a5 a6 c0 c1 c2 c3 c4 c5 c6 e0 e1 e2 e3 e4 e5 e6 b0 b1 b2 b3 g0 g1 g2 g3 s0 s1 w0 y0 r0 k1 k2 k3 k4 k6 k7 k8 k10 k12 k13 k14 k15 k16 k21 k22 k23 k24 k25 k30 k31 k33 : Nat) (zC : CX E cL_law RL (some .boolean) cI room_1) (hA : ∀ q, (ev_s E).heap.size ≤ q → ev_A E q) (hX : XS E b L xs) (hL : L ≤ 2560) (hi : i + 5 ≤ L) (kk : LGO E cI 1756 b i x0 a0 a1 a2 a3 a4 a5 a6 c0 c1 c2 c3 c4 c5 c6 e0 e1 e2 e3 e4 e5 e6 b0 b1 b2 b3 g0 g1 g2 g3 s0 s1 w0 y0 r0 k1 k2 k3 k4 k6 k7 k8 k10 k12 k13 k14 k15 k16 k21 k22 k23 k24 k25 k30 k31 k33) : LGO E cI 1486 b i x0 a0 a1 a2 a3 a4 a5 a6 c0 c1 c2 c3 c4 c5 c6 e0 e1 e2 e3 e4 e5 e6 b0 b1 b2 b3 g0 g1 g2 g3 s0 s1 w0 y0 r0 k1 k2 k3 k4 k6 k7 k8 k10 k12 k13 k14 k15 k16 k21 k22 k23 k24 k25 k30 k31 k33 := by
  intro n m sh n5 m5 sh5 aw5 n2 m2 sh2 aw2 P Q cs ls rs ap sq pl ki op fa K G T ki5 op5 fa5 K5 G5 T5 ki2 op2 fa2 K2 G2 T2 mf kn so wh va sg rw R kw kr mw pi tl kp im tu to M Mr lo pd bd tk kv sd hI
  obtain ⟨hw, hw5, hw2, hB, hM, hcs, hH, hl, hsg, hr, hrw, hkw, hkr, hMr, hE9⟩ := hI
  obtain ⟨hn, hm, hsh, hki, hop, hfa, hK, hG, hT, -⟩ := id hw
  refine v_al_n 1487 zC dL_law_1486 2 rfl ?_
  refine v_al_n 1488 zC dL_law_1487 3 rfl ?_
  refine v_il_n 1489 zC dL_law_1488 0 rfl ?_
  refine v_ic (v := (nI 1)) 1490 zC dL_law_1489 (by decide +kernel) ?_
  refine v_iadd (v := (nI (i + 1))) 1491 zC dL_law_1490 (nI_add _ _) ?_
  refine v_sld 1492 zC hX dL_law_1491 (by omega) hL ?_
  refine v_al_n 1493 zC dL_law_1492 3 rfl ?_
  refine v_il_n 1494 zC dL_law_1493 0 rfl ?_
  refine v_ic (v := (nI 2)) 1495 zC dL_law_1494 (by decide +kernel) ?_
  refine v_iadd (v := (nI (i + 2))) 1496 zC dL_law_1495 (nI_add _ _) ?_
  refine v_sld 1497 zC hX dL_law_1496 (by omega) hL ?_
  refine v_cV2 (As := [.int (xs (i + 1)), .int (xs (i + 2))]) (st := []) 1500 0 [0, 1, 2, 3, 4, 5, 6, 7, 8, 9, 10, 11, 12] zC dL_law_1497 hA (c_X4_dinner (ev_l E) (ev_D E) cI (x0 := x0) (xm := c0) (xp := e0) (g0 := g0) (s0 := s0) (w0 := w0) (y0 := y0) (pd := pd) (rs := rs) (b0 := b0) (b1 := b1) (b2 := b2) (b3 := b3) (P := P) (Q := Q) (mf := mf) (M := M) (kn := kn) (a0 := a0) (a1 := a1) (a2 := a2) (a3 := a3) (a4 := a4) (a5 := a5) (a6 := a6) (n := n) (m := m) (sh := sh) (ki := ki) (op := op) (fa := fa) (K := K) (G := G) (T := T) (R := R) (k := (xs (i + 1))) (w := (xs (i + 2))) (hw := hw) (hB := hB) (hM := hM)) cf_X4_dinner lk_L_198 rfl rfl rfl rfl rfl (by decide +kernel) (Nat.le_of_ble_eq_true rfl) (fun rv_1 wv_2 hp_3 hm_4 => ?_)
  clear hm_4
  obtain ⟨P1_5, Q1_6, mg_7, X_8, Y_9, rc_10, rv_11, hq_12, hB1_13, hM1_14, rfl, rfl⟩ := hp_3
  rw [sa_16]
  refine v_al_n 1501 zC dL_law_1500 1 rfl ?_
  refine v_al_n 1502 zC dL_law_1501 3 rfl ?_
  refine v_il_n 1503 zC dL_law_1502 0 rfl ?_
  refine v_ic (v := (nI 1)) 1504 zC dL_law_1503 (by decide +kernel) ?_
  refine v_iadd (v := (nI (i + 1))) 1505 zC dL_law_1504 (nI_add _ _) ?_
  refine v_sld 1506 zC hX dL_law_1505 (by omega) hL ?_
  refine v_al_n 1507 zC dL_law_1506 3 rfl ?_
  refine v_il_n 1508 zC dL_law_1507 0 rfl ?_
  refine v_ic (v := (nI 2)) 1509 zC dL_law_1508 (by decide +kernel) ?_
  refine v_iadd (v := (nI (i + 2))) 1510 zC dL_law_1509 (nI_add _ _) ?_
  refine v_sld 1511 zC hX dL_law_1510 (by omega) hL ?_
  refine v_swap ?_
  refine v_cV2 (As := [.int (xs (i + 1)), .int (xs (i + 2))]) (st := [.int rv_11]) 1514 0 [0, 1, 2, 3, 4, 5, 6, 7, 8, 9, 10, 11, 12] zC dL_law_1511 hA (c_X5_dinner (ev_l E) (ev_D E) cI (r0 := r0) (k1 := k1) (k2 := k2) (k3 := k3) (k4 := k4) (k6 := k6) (k7 := k7) (k8 := k8) (k10 := k10) (k12 := k12) (k13 := k13) (k14 := k14) (k15 := k15) (k16 := k16) (k21 := k21) (k22 := k22) (k23 := k23) (k24 := k24) (k25 := k25) (k30 := k30) (k31 := k31) (k33 := k33) (n := n) (m := m) (ls := ls) (ap := ap) (sq := sq) (pl := pl) (tz := cs) (rs := rs) (bd := bd) (pd := pd) (tk := tk) (kv := kv) (sd := sd) (ki := ki) (op := op) (fa := fa) (K := K) (G := G) (T := T) (sh := sh) (kw := kw) (kn := kr) (M := Mr) (mw := mw) (R := R) (k := (xs (i + 1))) (w := (xs (i + 2))) (hw := hw) (hkw := hkw) (hkn := hkr) (hM := hMr)) cf_X5_dinner lk_L_201 rfl rfl rfl rfl rfl (by decide +kernel) (Nat.le_of_ble_eq_true rfl) (fun rv_15 wv_16 hp_17 hm_18 => ?_)
  clear hm_18
  obtain ⟨kw1_19, kn1_20, M1_21, mw1_22, rc_23, rv_24, hq_25, hkw1_26, hkn1_27, hM1_28, rfl, rfl⟩ := hp_17
  rw [sa_17]
  obtain ⟨ez, ey⟩ := Prod.mk.inj (hq_12.symm.trans hq_25)
  subst ez
  have ez := ey
  subst ez
  refine v_eqi 1756 zC dL_law_1514 (by first | rfl | assumption) ?_
  refine v_swap ?_
  exact kk n m sh n5 m5 sh5 aw5 n2 m2 sh2 aw2 P1_5 Q1_6 cs ls rs ap sq pl ki op fa K G T ki5 op5 fa5 K5 G5 T5 ki2 op2 fa2 K2 G2 T2 mg_7 X_8 so wh va sg rw (rf R rc_10) kw1_19 kn1_20 mw1_22 pi tl kp im tu to Y_9 M1_21 lo pd bd tk kv sd ⟨(by first | assumption | exact trivial | omega | exact hf9 | exact hH9), (by first | assumption | exact trivial | omega | exact hf9 | exact hH9), (by first | assumption | exact trivial | omega | exact hf9 | exact hH9), (by first | assumption | exact trivial | omega | exact hf9 | exact hH9), (by first | assumption | exact trivial | omega | exact hf9 | exact hH9), (by first | assumption | exact trivial | omega | exact hf9 | exact hH9), (by first | assumption | exact trivial | omega | exact hf9 | exact hH9), (by first | assumption | exact trivial | omega | exact hf9 | exact hH9), (by first | assumption | exact trivial | omega | exact hf9 | exact hH9), (by first | assumption | exact trivial | omega | exact hf9 | exact hH9), (by first | assumption | exact trivial | omega | exact hf9 | exact hH9), (by first | assumption | exact trivial | omega | exact hf9 | exact hH9), (by first | assumption | exact trivial | omega | exact hf9 | exact hH9), (by first | assumption | exact trivial | omega | exact hf9 | exact hH9), (by first | assumption | exact trivial | omega | exact hf9 | exact hH9)⟩
set_option maxRecDepth 100000 in
set_option maxHeartbeats 4000000 in
theorem lawc_46 {E : EV} {cI : ClassId} {b L i : Nat} {xs : Nat → Int32} (x0 a0 a1 a2 a3 a4 a5 a6 c0 c1 c2 c3 c4 c5 c6 e0 e1 e2 e3 e4 e5 e6 b0 b1 b2 b3 g0 g1 g2 g3 s0 s1 w0 y0 r0 k1 k2 k3 k4 k6 k7 k8 k10 k12 k13 k14 k15 k16 k21 k22 k23 k24 k25 k30 k31 k33 : Nat) (zC : CX E cL_law RL (some .boolean) cI room_1) (hA : ∀ q, (ev_s E).heap.size ≤ q → ev_A E q) (hX : XS E b L xs) (hL : L ≤ 2560) (hi : i + 5 ≤ L) (kk : LGO E cI 1756 b i x0 a0 a1 a2 a3 a4 a5 a6 c0 c1 c2 c3 c4 c5 c6 e0 e1 e2 e3 e4 e5 e6 b0 b1 b2 b3 g0 g1 g2 g3 s0 s1 w0 y0 r0 k1 k2 k3 k4 k6 k7 k8 k10 k12 k13 k14 k15 k16 k21 k22 k23 k24 k25 k30 k31 k33) : LGO E cI 1519 b i x0 a0 a1 a2 a3 a4 a5 a6 c0 c1 c2 c3 c4 c5 c6 e0 e1 e2 e3 e4 e5 e6 b0 b1 b2 b3 g0 g1 g2 g3 s0 s1 w0 y0 r0 k1 k2 k3 k4 k6 k7 k8 k10 k12 k13 k14 k15 k16 k21 k22 k23 k24 k25 k30 k31 k33 := by
  intro n m sh n5 m5 sh5 aw5 n2 m2 sh2 aw2 P Q cs ls rs ap sq pl ki op fa K G T ki5 op5 fa5 K5 G5 T5 ki2 op2 fa2 K2 G2 T2 mf kn so wh va sg rw R kw kr mw pi tl kp im tu to M Mr lo pd bd tk kv sd hI
  obtain ⟨hw, hw5, hw2, hB, hM, hcs, hH, hl, hsg, hr, hrw, hkw, hkr, hMr, hE9⟩ := hI
  obtain ⟨hn, hm, hsh, hki, hop, hfa, hK, hG, hT, -⟩ := id hw
  refine v_al_n 1520 zC dL_law_1519 2 rfl ?_
  refine v_al_n 1521 zC dL_law_1520 3 rfl ?_
  refine v_il_n 1522 zC dL_law_1521 0 rfl ?_
  refine v_ic (v := (nI 1)) 1523 zC dL_law_1522 (by decide +kernel) ?_
  refine v_iadd (v := (nI (i + 1))) 1524 zC dL_law_1523 (nI_add _ _) ?_
  refine v_sld 1525 zC hX dL_law_1524 (by omega) hL ?_
  refine v_al_n 1526 zC dL_law_1525 3 rfl ?_
  refine v_il_n 1527 zC dL_law_1526 0 rfl ?_
  refine v_ic (v := (nI 2)) 1528 zC dL_law_1527 (by decide +kernel) ?_
  refine v_iadd (v := (nI (i + 2))) 1529 zC dL_law_1528 (nI_add _ _) ?_
  refine v_sld 1530 zC hX dL_law_1529 (by omega) hL ?_
  refine v_cV2 (As := [.int (xs (i + 1)), .int (xs (i + 2))]) (st := []) 1533 0 [0, 1, 2, 3, 4, 5, 6, 7, 8, 9, 10, 11, 12] zC dL_law_1530 hA (c_X4_share (ev_l E) (ev_D E) cI (x0 := x0) (xm := c0) (xp := e0) (g0 := g0) (s0 := s0) (w0 := w0) (y0 := y0) (pd := pd) (rs := rs) (b0 := b0) (b1 := b1) (b2 := b2) (b3 := b3) (P := P) (Q := Q) (mf := mf) (M := M) (kn := kn) (a0 := a0) (a1 := a1) (a2 := a2) (a3 := a3) (a4 := a4) (a5 := a5) (a6 := a6) (n := n) (m := m) (sh := sh) (ki := ki) (op := op) (fa := fa) (K := K) (G := G) (T := T) (R := R) (d := (xs (i + 1))) (w := (xs (i + 2))) (hw := hw) (hB := hB) (hM := hM)) cf_X4_share lk_L_202 rfl rfl rfl rfl rfl (by decide +kernel) (Nat.le_of_ble_eq_true rfl) (fun rv_1 wv_2 hp_3 hm_4 => ?_)
  clear hm_4
  obtain ⟨P1_5, Q1_6, mg_7, X_8, Y_9, rc_10, rv_11, hq_12, hB1_13, hM1_14, rfl, rfl⟩ := hp_3
  rw [sa_16]
  refine v_al_n 1534 zC dL_law_1533 1 rfl ?_
  refine v_al_n 1535 zC dL_law_1534 3 rfl ?_
  refine v_il_n 1536 zC dL_law_1535 0 rfl ?_
  refine v_ic (v := (nI 1)) 1537 zC dL_law_1536 (by decide +kernel) ?_
  refine v_iadd (v := (nI (i + 1))) 1538 zC dL_law_1537 (nI_add _ _) ?_
  refine v_sld 1539 zC hX dL_law_1538 (by omega) hL ?_
  refine v_al_n 1540 zC dL_law_1539 3 rfl ?_
  refine v_il_n 1541 zC dL_law_1540 0 rfl ?_
  refine v_ic (v := (nI 2)) 1542 zC dL_law_1541 (by decide +kernel) ?_
  refine v_iadd (v := (nI (i + 2))) 1543 zC dL_law_1542 (nI_add _ _) ?_
  refine v_sld 1544 zC hX dL_law_1543 (by omega) hL ?_
  refine v_swap ?_
  refine v_cV2 (As := [.int (xs (i + 1)), .int (xs (i + 2))]) (st := [.long rv_11]) 1547 0 [0, 1, 2, 3, 4, 5, 6, 7, 8, 9, 10, 11, 12] zC dL_law_1544 hA (c_X5_share (ev_l E) (ev_D E) cI (r0 := r0) (k1 := k1) (k2 := k2) (k3 := k3) (k4 := k4) (k6 := k6) (k7 := k7) (k8 := k8) (k10 := k10) (k12 := k12) (k13 := k13) (k14 := k14) (k15 := k15) (k16 := k16) (k21 := k21) (k22 := k22) (k23 := k23) (k24 := k24) (k25 := k25) (k30 := k30) (k31 := k31) (k33 := k33) (n := n) (m := m) (ls := ls) (ap := ap) (sq := sq) (pl := pl) (tz := cs) (rs := rs) (bd := bd) (pd := pd) (tk := tk) (kv := kv) (sd := sd) (ki := ki) (op := op) (fa := fa) (K := K) (G := G) (T := T) (sh := sh) (kw := kw) (kn := kr) (M := Mr) (mw := mw) (R := R) (d := (xs (i + 1))) (w := (xs (i + 2))) (hw := hw) (hkw := hkw) (hkn := hkr) (hM := hMr)) cf_X5_share lk_L_206 rfl rfl rfl rfl rfl (by decide +kernel) (Nat.le_of_ble_eq_true rfl) (fun rv_15 wv_16 hp_17 hm_18 => ?_)
  clear hm_18
  obtain ⟨kw1_19, kn1_20, M1_21, mw1_22, rc_23, rv_24, hq_25, hkw1_26, hkn1_27, hM1_28, rfl, rfl⟩ := hp_17
  rw [sa_17]
  obtain ⟨ez, ey⟩ := Prod.mk.inj (hq_12.symm.trans hq_25)
  subst ez
  have ez := ey
  subst ez
  refine v_lcmp 1548 zC dL_law_1547 ?_
  refine v_eql 1756 zC dL_law_1548 rfl ?_
  refine v_swap ?_
  exact kk n m sh n5 m5 sh5 aw5 n2 m2 sh2 aw2 P1_5 Q1_6 cs ls rs ap sq pl ki op fa K G T ki5 op5 fa5 K5 G5 T5 ki2 op2 fa2 K2 G2 T2 mg_7 X_8 so wh va sg rw (rf R rc_10) kw1_19 kn1_20 mw1_22 pi tl kp im tu to Y_9 M1_21 lo pd bd tk kv sd ⟨(by first | assumption | exact trivial | omega | exact hf9 | exact hH9), (by first | assumption | exact trivial | omega | exact hf9 | exact hH9), (by first | assumption | exact trivial | omega | exact hf9 | exact hH9), (by first | assumption | exact trivial | omega | exact hf9 | exact hH9), (by first | assumption | exact trivial | omega | exact hf9 | exact hH9), (by first | assumption | exact trivial | omega | exact hf9 | exact hH9), (by first | assumption | exact trivial | omega | exact hf9 | exact hH9), (by first | assumption | exact trivial | omega | exact hf9 | exact hH9), (by first | assumption | exact trivial | omega | exact hf9 | exact hH9), (by first | assumption | exact trivial | omega | exact hf9 | exact hH9), (by first | assumption | exact trivial | omega | exact hf9 | exact hH9), (by first | assumption | exact trivial | omega | exact hf9 | exact hH9), (by first | assumption | exact trivial | omega | exact hf9 | exact hH9), (by first | assumption | exact trivial | omega | exact hf9 | exact hH9), (by first | assumption | exact trivial | omega | exact hf9 | exact hH9)⟩
set_option maxRecDepth 100000 in
set_option maxHeartbeats 4000000 in
theorem lawc_47 {E : EV} {cI : ClassId} {b L i : Nat} {xs : Nat → Int32} (x0 a0 a1 a2 a3 a4 a5 a6 c0 c1 c2 c3 c4 c5 c6 e0 e1 e2 e3 e4 e5 e6 b0 b1 b2 b3 g0 g1 g2 g3 s0 s1 w0 y0 r0 k1 k2 k3 k4 k6 k7 k8 k10 k12 k13 k14 k15 k16 k21 k22 k23 k24 k25 k30 k31 k33 : Nat) (zC : CX E cL_law RL (some .boolean) cI room_1) (hA : ∀ q, (ev_s E).heap.size ≤ q → ev_A E q) (hX : XS E b L xs) (hL : L ≤ 2560) (hi : i + 5 ≤ L) (kk : LGO E cI 1756 b i x0 a0 a1 a2 a3 a4 a5 a6 c0 c1 c2 c3 c4 c5 c6 e0 e1 e2 e3 e4 e5 e6 b0 b1 b2 b3 g0 g1 g2 g3 s0 s1 w0 y0 r0 k1 k2 k3 k4 k6 k7 k8 k10 k12 k13 k14 k15 k16 k21 k22 k23 k24 k25 k30 k31 k33) : LGO E cI 1553 b i x0 a0 a1 a2 a3 a4 a5 a6 c0 c1 c2 c3 c4 c5 c6 e0 e1 e2 e3 e4 e5 e6 b0 b1 b2 b3 g0 g1 g2 g3 s0 s1 w0 y0 r0 k1 k2 k3 k4 k6 k7 k8 k10 k12 k13 k14 k15 k16 k21 k22 k23 k24 k25 k30 k31 k33 := by
  intro n m sh n5 m5 sh5 aw5 n2 m2 sh2 aw2 P Q cs ls rs ap sq pl ki op fa K G T ki5 op5 fa5 K5 G5 T5 ki2 op2 fa2 K2 G2 T2 mf kn so wh va sg rw R kw kr mw pi tl kp im tu to M Mr lo pd bd tk kv sd hI
  obtain ⟨hw, hw5, hw2, hB, hM, hcs, hH, hl, hsg, hr, hrw, hkw, hkr, hMr, hE9⟩ := hI
  obtain ⟨hn, hm, hsh, hki, hop, hfa, hK, hG, hT, -⟩ := id hw
  refine v_al_n 1554 zC dL_law_1553 2 rfl ?_
  refine v_cV2 (As := []) (st := []) 1557 0 [0, 1, 2, 3, 4, 5, 6, 7, 20, 21, 22, 23, 24, 25, 26, 8, 9, 10, 11] zC dL_law_1554 hA (c_X4_bridge (ev_l E) (ev_D E) cI (x0 := x0) (xp := e0) (g0 := g0) (s0 := s0) (w0 := w0) (y0 := y0) (pd := pd) (rs := rs) (b0 := b0) (b1 := b1) (b2 := b2) (b3 := b3) (P := P) (Q := Q) (mf := mf) (M := M) (kn := kn) (a0 := a0) (a1 := a1) (a2 := a2) (a3 := a3) (a4 := a4) (a5 := a5) (a6 := a6) (n := n) (m := m) (sh := sh) (ki := ki) (op := op) (fa := fa) (K := K) (G := G) (T := T) (c0 := c0) (c1 := c1) (c2 := c2) (c3 := c3) (c4 := c4) (c5 := c5) (c6 := c6) (n1 := n5) (m1 := m5) (sh1 := sh5) (aw1 := aw5) (ki1 := ki5) (op1 := op5) (fa1 := fa5) (K1 := K5) (G1 := G5) (T1 := T5) (hw := hw) (hw1 := hw5) (hB := hB) (hM := hM)) cf_X4_bridge lk_L_207 rfl rfl rfl rfl rfl (by decide +kernel) (Nat.le_of_ble_eq_true rfl) (fun rv_1 wv_2 hp_3 hm_4 => ?_)
  clear hm_4
  obtain ⟨P1_5, Q1_6, mg_7, X_8, Y_9, n3_10, m3_11, s3_12, w3_13, ki3_14, op3_15, fa3_16, K3_17, G3_18, T3_19, hF_20, hB1_21, hM1_22, rfl, rfl⟩ := hp_3
  rw [sa_21]
  refine v_al_n 1558 zC dL_law_1557 1 rfl ?_
  refine v_swap ?_
  refine v_cV2 (As := []) (st := [.int (mI ((BRID (n, m, sh, 0, ki, op, fa, K, G, T)).1))]) 1561 0 [0, 1, 2, 3, 4, 5, 6, 7, 8, 9, 10, 11] zC dL_law_1558 hA (c_X5_bridge (ev_l E) (ev_D E) cI (r0 := r0) (k1 := k1) (k2 := k2) (k3 := k3) (k4 := k4) (k6 := k6) (k7 := k7) (k8 := k8) (k10 := k10) (k12 := k12) (k13 := k13) (k14 := k14) (k15 := k15) (k16 := k16) (k21 := k21) (k22 := k22) (k23 := k23) (k24 := k24) (k25 := k25) (k30 := k30) (k31 := k31) (k33 := k33) (n := n) (m := m) (ls := ls) (ap := ap) (sq := sq) (pl := pl) (tz := cs) (rs := rs) (bd := bd) (pd := pd) (tk := tk) (kv := kv) (sd := sd) (ki := ki) (op := op) (fa := fa) (K := K) (G := G) (T := T) (sh := sh) (kw := kw) (kn := kr) (M := Mr) (mw := mw) (hw := hw) (hkw := hkw) (hkn := hkr) (hM := hMr)) cf_X5_bridge lk_L_210 rfl rfl rfl rfl rfl (by decide +kernel) (Nat.le_of_ble_eq_true rfl) (fun rv_23 wv_24 hp_25 hm_26 => ?_)
  clear hm_26
  obtain ⟨kw1_27, kn1_28, M1_29, mw1_30, hkw1_31, hkn1_32, hM1_33, rfl, rfl⟩ := hp_25
  rw [sa_15]
  refine v_eqi 1756 zC dL_law_1561 (by first | rfl | assumption) ?_
  refine v_swap ?_
  exact kk n m sh n3_10 m3_11 s3_12 w3_13 n2 m2 sh2 aw2 P1_5 Q1_6 cs ls rs ap sq pl ki op fa K G T ki3_14 op3_15 fa3_16 K3_17 G3_18 T3_19 ki2 op2 fa2 K2 G2 T2 mg_7 X_8 so wh va sg rw R kw1_27 kn1_28 mw1_30 pi tl kp im tu to Y_9 M1_29 lo pd bd tk kv sd ⟨(by first | assumption | exact trivial | omega | exact hf9 | exact hH9), (by first | assumption | exact trivial | omega | exact hf9 | exact hH9), (by first | assumption | exact trivial | omega | exact hf9 | exact hH9), (by first | assumption | exact trivial | omega | exact hf9 | exact hH9), (by first | assumption | exact trivial | omega | exact hf9 | exact hH9), (by first | assumption | exact trivial | omega | exact hf9 | exact hH9), (by first | assumption | exact trivial | omega | exact hf9 | exact hH9), (by first | assumption | exact trivial | omega | exact hf9 | exact hH9), (by first | assumption | exact trivial | omega | exact hf9 | exact hH9), (by first | assumption | exact trivial | omega | exact hf9 | exact hH9), (by first | assumption | exact trivial | omega | exact hf9 | exact hH9), (by first | assumption | exact trivial | omega | exact hf9 | exact hH9), (by first | assumption | exact trivial | omega | exact hf9 | exact hH9), (by first | assumption | exact trivial | omega | exact hf9 | exact hH9), (by first | assumption | exact trivial | omega | exact hf9 | exact hH9)⟩
set_option maxRecDepth 100000 in
set_option maxHeartbeats 4000000 in
theorem lawc_48 {E : EV} {cI : ClassId} {b L i : Nat} {xs : Nat → Int32} (x0 a0 a1 a2 a3 a4 a5 a6 c0 c1 c2 c3 c4 c5 c6 e0 e1 e2 e3 e4 e5 e6 b0 b1 b2 b3 g0 g1 g2 g3 s0 s1 w0 y0 r0 k1 k2 k3 k4 k6 k7 k8 k10 k12 k13 k14 k15 k16 k21 k22 k23 k24 k25 k30 k31 k33 : Nat) (zC : CX E cL_law RL (some .boolean) cI room_1) (hA : ∀ q, (ev_s E).heap.size ≤ q → ev_A E q) (hX : XS E b L xs) (hL : L ≤ 2560) (hi : i + 5 ≤ L) (kk : LGO E cI 1756 b i x0 a0 a1 a2 a3 a4 a5 a6 c0 c1 c2 c3 c4 c5 c6 e0 e1 e2 e3 e4 e5 e6 b0 b1 b2 b3 g0 g1 g2 g3 s0 s1 w0 y0 r0 k1 k2 k3 k4 k6 k7 k8 k10 k12 k13 k14 k15 k16 k21 k22 k23 k24 k25 k30 k31 k33) : LGO E cI 1566 b i x0 a0 a1 a2 a3 a4 a5 a6 c0 c1 c2 c3 c4 c5 c6 e0 e1 e2 e3 e4 e5 e6 b0 b1 b2 b3 g0 g1 g2 g3 s0 s1 w0 y0 r0 k1 k2 k3 k4 k6 k7 k8 k10 k12 k13 k14 k15 k16 k21 k22 k23 k24 k25 k30 k31 k33 := by
  intro n m sh n5 m5 sh5 aw5 n2 m2 sh2 aw2 P Q cs ls rs ap sq pl ki op fa K G T ki5 op5 fa5 K5 G5 T5 ki2 op2 fa2 K2 G2 T2 mf kn so wh va sg rw R kw kr mw pi tl kp im tu to M Mr lo pd bd tk kv sd hI
  obtain ⟨hw, hw5, hw2, hB, hM, hcs, hH, hl, hsg, hr, hrw, hkw, hkr, hMr, hE9⟩ := hI
  obtain ⟨hn, hm, hsh, hki, hop, hfa, hK, hG, hT, -⟩ := id hw
  refine v_al_n 1567 zC dL_law_1566 2 rfl ?_
  refine v_al_n 1568 zC dL_law_1567 3 rfl ?_
  refine v_il_n 1569 zC dL_law_1568 0 rfl ?_
  refine v_ic (v := (nI 1)) 1570 zC dL_law_1569 (by decide +kernel) ?_
  refine v_iadd (v := (nI (i + 1))) 1571 zC dL_law_1570 (nI_add _ _) ?_
  refine v_sld 1572 zC hX dL_law_1571 (by omega) hL ?_
  refine v_cV2 (As := [.int (xs (i + 1))]) (st := []) 1575 0 [0, 1, 2, 3, 4, 5, 6, 7, 20, 21, 22, 23, 24, 25, 26, 8, 9, 10, 11, 12] zC dL_law_1572 hA (c_X4_heir (ev_l E) (ev_D E) cI (x0 := x0) (xp := e0) (g0 := g0) (s0 := s0) (w0 := w0) (y0 := y0) (pd := pd) (rs := rs) (b0 := b0) (b1 := b1) (b2 := b2) (b3 := b3) (P := P) (Q := Q) (mf := mf) (M := M) (kn := kn) (a0 := a0) (a1 := a1) (a2 := a2) (a3 := a3) (a4 := a4) (a5 := a5) (a6 := a6) (n := n) (m := m) (sh := sh) (ki := ki) (op := op) (fa := fa) (K := K) (G := G) (T := T) (c0 := c0) (c1 := c1) (c2 := c2) (c3 := c3) (c4 := c4) (c5 := c5) (c6 := c6) (n1 := n5) (m1 := m5) (sh1 := sh5) (aw1 := aw5) (ki1 := ki5) (op1 := op5) (fa1 := fa5) (K1 := K5) (G1 := G5) (T1 := T5) (R := R) (d := (xs (i + 1))) (hw := hw) (hw1 := hw5) (hB := hB) (hM := hM)) cf_X4_heir lk_L_211 rfl rfl rfl rfl rfl (by decide +kernel) (Nat.le_of_ble_eq_true rfl) (fun rv_1 wv_2 hp_3 hm_4 => ?_)
  clear hm_4
  obtain ⟨P1_5, Q1_6, mg_7, X_8, Y_9, n3_10, m3_11, s3_12, w3_13, ki3_14, op3_15, fa3_16, K3_17, G3_18, T3_19, rc_20, rv_21, hq_22, hF_23, hB1_24, hM1_25, rfl, rfl⟩ := hp_3
  rw [sa_19]
  refine v_al_n 1576 zC dL_law_1575 1 rfl ?_
  refine v_al_n 1577 zC dL_law_1576 3 rfl ?_
  refine v_il_n 1578 zC dL_law_1577 0 rfl ?_
  refine v_ic (v := (nI 1)) 1579 zC dL_law_1578 (by decide +kernel) ?_
  refine v_iadd (v := (nI (i + 1))) 1580 zC dL_law_1579 (nI_add _ _) ?_
  refine v_sld 1581 zC hX dL_law_1580 (by omega) hL ?_
  refine v_swap ?_
  refine v_cV2 (As := [.int (xs (i + 1))]) (st := [.int rv_21]) 1584 0 [0, 1, 2, 3, 4, 5, 6, 7, 8, 9, 10, 11, 12] zC dL_law_1581 hA (c_X5_heir (ev_l E) (ev_D E) cI (r0 := r0) (k1 := k1) (k2 := k2) (k3 := k3) (k4 := k4) (k6 := k6) (k7 := k7) (k8 := k8) (k10 := k10) (k12 := k12) (k13 := k13) (k14 := k14) (k15 := k15) (k16 := k16) (k21 := k21) (k22 := k22) (k23 := k23) (k24 := k24) (k25 := k25) (k30 := k30) (k31 := k31) (k33 := k33) (n := n) (m := m) (ls := ls) (ap := ap) (sq := sq) (pl := pl) (tz := cs) (rs := rs) (bd := bd) (pd := pd) (tk := tk) (kv := kv) (sd := sd) (ki := ki) (op := op) (fa := fa) (K := K) (G := G) (T := T) (sh := sh) (kw := kw) (kn := kr) (M := Mr) (mw := mw) (R := R) (d := (xs (i + 1))) (hw := hw) (hkw := hkw) (hkn := hkr) (hM := hMr)) cf_X5_heir lk_L_214 rfl rfl rfl rfl rfl (by decide +kernel) (Nat.le_of_ble_eq_true rfl) (fun rv_26 wv_27 hp_28 hm_29 => ?_)
  clear hm_29
  obtain ⟨kw1_30, kn1_31, M1_32, mw1_33, rc_34, rv_35, hq_36, hkw1_37, hkn1_38, hM1_39, rfl, rfl⟩ := hp_28
  rw [sa_17]
  obtain ⟨ez, ey⟩ := Prod.mk.inj (hq_22.symm.trans hq_36)
  subst ez
  have ez := ey
  subst ez
  refine v_eqi 1756 zC dL_law_1584 (by first | rfl | assumption) ?_
  refine v_swap ?_
  exact kk n m sh n3_10 m3_11 s3_12 w3_13 n2 m2 sh2 aw2 P1_5 Q1_6 cs ls rs ap sq pl ki op fa K G T ki3_14 op3_15 fa3_16 K3_17 G3_18 T3_19 ki2 op2 fa2 K2 G2 T2 mg_7 X_8 so wh va sg rw (rf R rc_20) kw1_30 kn1_31 mw1_33 pi tl kp im tu to Y_9 M1_32 lo pd bd tk kv sd ⟨(by first | assumption | exact trivial | omega | exact hf9 | exact hH9), (by first | assumption | exact trivial | omega | exact hf9 | exact hH9), (by first | assumption | exact trivial | omega | exact hf9 | exact hH9), (by first | assumption | exact trivial | omega | exact hf9 | exact hH9), (by first | assumption | exact trivial | omega | exact hf9 | exact hH9), (by first | assumption | exact trivial | omega | exact hf9 | exact hH9), (by first | assumption | exact trivial | omega | exact hf9 | exact hH9), (by first | assumption | exact trivial | omega | exact hf9 | exact hH9), (by first | assumption | exact trivial | omega | exact hf9 | exact hH9), (by first | assumption | exact trivial | omega | exact hf9 | exact hH9), (by first | assumption | exact trivial | omega | exact hf9 | exact hH9), (by first | assumption | exact trivial | omega | exact hf9 | exact hH9), (by first | assumption | exact trivial | omega | exact hf9 | exact hH9), (by first | assumption | exact trivial | omega | exact hf9 | exact hH9), (by first | assumption | exact trivial | omega | exact hf9 | exact hH9)⟩
set_option maxRecDepth 100000 in
set_option maxHeartbeats 4000000 in
theorem lawc_49 {E : EV} {cI : ClassId} {b L i : Nat} {xs : Nat → Int32} (x0 a0 a1 a2 a3 a4 a5 a6 c0 c1 c2 c3 c4 c5 c6 e0 e1 e2 e3 e4 e5 e6 b0 b1 b2 b3 g0 g1 g2 g3 s0 s1 w0 y0 r0 k1 k2 k3 k4 k6 k7 k8 k10 k12 k13 k14 k15 k16 k21 k22 k23 k24 k25 k30 k31 k33 : Nat) (zC : CX E cL_law RL (some .boolean) cI room_1) (hA : ∀ q, (ev_s E).heap.size ≤ q → ev_A E q) (hX : XS E b L xs) (hL : L ≤ 2560) (hi : i + 5 ≤ L) (kk : LGO E cI 1756 b i x0 a0 a1 a2 a3 a4 a5 a6 c0 c1 c2 c3 c4 c5 c6 e0 e1 e2 e3 e4 e5 e6 b0 b1 b2 b3 g0 g1 g2 g3 s0 s1 w0 y0 r0 k1 k2 k3 k4 k6 k7 k8 k10 k12 k13 k14 k15 k16 k21 k22 k23 k24 k25 k30 k31 k33) : LGO E cI 1589 b i x0 a0 a1 a2 a3 a4 a5 a6 c0 c1 c2 c3 c4 c5 c6 e0 e1 e2 e3 e4 e5 e6 b0 b1 b2 b3 g0 g1 g2 g3 s0 s1 w0 y0 r0 k1 k2 k3 k4 k6 k7 k8 k10 k12 k13 k14 k15 k16 k21 k22 k23 k24 k25 k30 k31 k33 := by
  intro n m sh n5 m5 sh5 aw5 n2 m2 sh2 aw2 P Q cs ls rs ap sq pl ki op fa K G T ki5 op5 fa5 K5 G5 T5 ki2 op2 fa2 K2 G2 T2 mf kn so wh va sg rw R kw kr mw pi tl kp im tu to M Mr lo pd bd tk kv sd hI
  obtain ⟨hw, hw5, hw2, hB, hM, hcs, hH, hl, hsg, hr, hrw, hkw, hkr, hMr, hE9⟩ := hI
  obtain ⟨hn, hm, hsh, hki, hop, hfa, hK, hG, hT, -⟩ := id hw
  refine v_al_n 1590 zC dL_law_1589 2 rfl ?_
  refine v_cV2 (As := []) (st := []) 1593 0 [0, 1, 2, 3, 4, 5, 6, 7, 8, 9, 10, 11] zC dL_law_1590 hA (c_X4_secret (ev_l E) (ev_D E) cI (x0 := x0) (xm := c0) (xp := e0) (g0 := g0) (s0 := s0) (w0 := w0) (y0 := y0) (pd := pd) (rs := rs) (b0 := b0) (b1 := b1) (b2 := b2) (b3 := b3) (P := P) (Q := Q) (mf := mf) (M := M) (kn := kn) (a0 := a0) (a1 := a1) (a2 := a2) (a3 := a3) (a4 := a4) (a5 := a5) (a6 := a6) (n := n) (m := m) (sh := sh) (ki := ki) (op := op) (fa := fa) (K := K) (G := G) (T := T) (hw := hw) (hB := hB) (hM := hM)) cf_X4_secret lk_L_215 rfl rfl rfl rfl rfl (by decide +kernel) (Nat.le_of_ble_eq_true rfl) (fun rv_1 wv_2 hp_3 hm_4 => ?_)
  clear hm_4
  obtain ⟨P1_5, Q1_6, mg_7, X_8, Y_9, hB1_10, hM1_11, rfl, rfl⟩ := hp_3
  rw [sa_18]
  refine v_al_n 1594 zC dL_law_1593 1 rfl ?_
  refine v_swap ?_
  refine v_cV2 (As := []) (st := [.int (nI (SECR (n, m, sh, 0, ki, op, fa, K, G, T)))]) 1597 0 [0, 1, 2, 3, 4, 5, 6, 7, 8, 9, 10, 11] zC dL_law_1594 hA (c_X5_secret (ev_l E) (ev_D E) cI (r0 := r0) (k1 := k1) (k2 := k2) (k3 := k3) (k4 := k4) (k6 := k6) (k7 := k7) (k8 := k8) (k10 := k10) (k12 := k12) (k13 := k13) (k14 := k14) (k15 := k15) (k16 := k16) (k21 := k21) (k22 := k22) (k23 := k23) (k24 := k24) (k25 := k25) (k30 := k30) (k31 := k31) (k33 := k33) (n := n) (m := m) (ls := ls) (ap := ap) (sq := sq) (pl := pl) (tz := cs) (rs := rs) (bd := bd) (pd := pd) (tk := tk) (kv := kv) (sd := sd) (ki := ki) (op := op) (fa := fa) (K := K) (G := G) (T := T) (sh := sh) (kw := kw) (kn := kr) (M := Mr) (mw := mw) (hw := hw) (hkw := hkw) (hkn := hkr) (hM := hMr)) cf_X5_secret lk_L_218 rfl rfl rfl rfl rfl (by decide +kernel) (Nat.le_of_ble_eq_true rfl) (fun rv_12 wv_13 hp_14 hm_15 => ?_)
  clear hm_15
  obtain ⟨kw1_16, kn1_17, M1_18, mw1_19, hkw1_20, hkn1_21, hM1_22, rfl, rfl⟩ := hp_14
  rw [sa_15]
  refine v_eqi 1756 zC dL_law_1597 (by first | rfl | assumption) ?_
  refine v_swap ?_
  exact kk n m sh n5 m5 sh5 aw5 n2 m2 sh2 aw2 P1_5 Q1_6 cs ls rs ap sq pl ki op fa K G T ki5 op5 fa5 K5 G5 T5 ki2 op2 fa2 K2 G2 T2 mg_7 X_8 so wh va sg rw R kw1_16 kn1_17 mw1_19 pi tl kp im tu to Y_9 M1_18 lo pd bd tk kv sd ⟨(by first | assumption | exact trivial | omega | exact hf9 | exact hH9), (by first | assumption | exact trivial | omega | exact hf9 | exact hH9), (by first | assumption | exact trivial | omega | exact hf9 | exact hH9), (by first | assumption | exact trivial | omega | exact hf9 | exact hH9), (by first | assumption | exact trivial | omega | exact hf9 | exact hH9), (by first | assumption | exact trivial | omega | exact hf9 | exact hH9), (by first | assumption | exact trivial | omega | exact hf9 | exact hH9), (by first | assumption | exact trivial | omega | exact hf9 | exact hH9), (by first | assumption | exact trivial | omega | exact hf9 | exact hH9), (by first | assumption | exact trivial | omega | exact hf9 | exact hH9), (by first | assumption | exact trivial | omega | exact hf9 | exact hH9), (by first | assumption | exact trivial | omega | exact hf9 | exact hH9), (by first | assumption | exact trivial | omega | exact hf9 | exact hH9), (by first | assumption | exact trivial | omega | exact hf9 | exact hH9), (by first | assumption | exact trivial | omega | exact hf9 | exact hH9)⟩
set_option maxRecDepth 100000 in
set_option maxHeartbeats 4000000 in
theorem lawc_50 {E : EV} {cI : ClassId} {b L i : Nat} {xs : Nat → Int32} (x0 a0 a1 a2 a3 a4 a5 a6 c0 c1 c2 c3 c4 c5 c6 e0 e1 e2 e3 e4 e5 e6 b0 b1 b2 b3 g0 g1 g2 g3 s0 s1 w0 y0 r0 k1 k2 k3 k4 k6 k7 k8 k10 k12 k13 k14 k15 k16 k21 k22 k23 k24 k25 k30 k31 k33 : Nat) (zC : CX E cL_law RL (some .boolean) cI room_1) (hA : ∀ q, (ev_s E).heap.size ≤ q → ev_A E q) (hX : XS E b L xs) (hL : L ≤ 2560) (hi : i + 5 ≤ L) (kk : LGO E cI 1756 b i x0 a0 a1 a2 a3 a4 a5 a6 c0 c1 c2 c3 c4 c5 c6 e0 e1 e2 e3 e4 e5 e6 b0 b1 b2 b3 g0 g1 g2 g3 s0 s1 w0 y0 r0 k1 k2 k3 k4 k6 k7 k8 k10 k12 k13 k14 k15 k16 k21 k22 k23 k24 k25 k30 k31 k33) : LGO E cI 1602 b i x0 a0 a1 a2 a3 a4 a5 a6 c0 c1 c2 c3 c4 c5 c6 e0 e1 e2 e3 e4 e5 e6 b0 b1 b2 b3 g0 g1 g2 g3 s0 s1 w0 y0 r0 k1 k2 k3 k4 k6 k7 k8 k10 k12 k13 k14 k15 k16 k21 k22 k23 k24 k25 k30 k31 k33 := by
  intro n m sh n5 m5 sh5 aw5 n2 m2 sh2 aw2 P Q cs ls rs ap sq pl ki op fa K G T ki5 op5 fa5 K5 G5 T5 ki2 op2 fa2 K2 G2 T2 mf kn so wh va sg rw R kw kr mw pi tl kp im tu to M Mr lo pd bd tk kv sd hI
  obtain ⟨hw, hw5, hw2, hB, hM, hcs, hH, hl, hsg, hr, hrw, hkw, hkr, hMr, hE9⟩ := hI
  obtain ⟨hn, hm, hsh, hki, hop, hfa, hK, hG, hT, -⟩ := id hw
  refine v_al_n 1603 zC dL_law_1602 2 rfl ?_
  refine v_cV2 (As := []) (st := []) 1606 0 [0, 1, 2, 3, 4, 5, 6, 7, 8, 9, 10, 11] zC dL_law_1603 hA (c_X4_synod (ev_l E) (ev_D E) cI (x0 := x0) (xm := c0) (xp := e0) (g0 := g0) (s0 := s0) (w0 := w0) (y0 := y0) (pd := pd) (rs := rs) (b0 := b0) (b1 := b1) (b2 := b2) (b3 := b3) (P := P) (Q := Q) (mf := mf) (M := M) (kn := kn) (a0 := a0) (a1 := a1) (a2 := a2) (a3 := a3) (a4 := a4) (a5 := a5) (a6 := a6) (n := n) (m := m) (sh := sh) (ki := ki) (op := op) (fa := fa) (K := K) (G := G) (T := T) (hw := hw) (hB := hB) (hM := hM)) cf_X4_synod lk_L_219 rfl rfl rfl rfl rfl (by decide +kernel) (Nat.le_of_ble_eq_true rfl) (fun rv_1 wv_2 hp_3 hm_4 => ?_)
  clear hm_4
  obtain ⟨P1_5, Q1_6, mg_7, X_8, Y_9, hB1_10, hM1_11, rfl, rfl⟩ := hp_3
  rw [sa_18]
  refine v_al_n 1607 zC dL_law_1606 1 rfl ?_
  refine v_swap ?_
  refine v_cV2 (As := []) (st := [.int (nI (SYNO (n, m, sh, 0, ki, op, fa, K, G, T)))]) 1610 0 [0, 1, 2, 3, 4, 5, 6, 7, 8, 9, 10, 11] zC dL_law_1607 hA (c_X5_synod (ev_l E) (ev_D E) cI (r0 := r0) (k1 := k1) (k2 := k2) (k3 := k3) (k4 := k4) (k6 := k6) (k7 := k7) (k8 := k8) (k10 := k10) (k12 := k12) (k13 := k13) (k14 := k14) (k15 := k15) (k16 := k16) (k21 := k21) (k22 := k22) (k23 := k23) (k24 := k24) (k25 := k25) (k30 := k30) (k31 := k31) (k33 := k33) (n := n) (m := m) (ls := ls) (ap := ap) (sq := sq) (pl := pl) (tz := cs) (rs := rs) (bd := bd) (pd := pd) (tk := tk) (kv := kv) (sd := sd) (ki := ki) (op := op) (fa := fa) (K := K) (G := G) (T := T) (sh := sh) (kw := kw) (kn := kr) (M := Mr) (mw := mw) (hw := hw) (hkw := hkw) (hkn := hkr) (hM := hMr)) cf_X5_synod lk_L_222 rfl rfl rfl rfl rfl (by decide +kernel) (Nat.le_of_ble_eq_true rfl) (fun rv_12 wv_13 hp_14 hm_15 => ?_)
  clear hm_15
  obtain ⟨kw1_16, kn1_17, M1_18, mw1_19, hkw1_20, hkn1_21, hM1_22, rfl, rfl⟩ := hp_14
  rw [sa_15]
  refine v_eqi 1756 zC dL_law_1610 (by first | rfl | assumption) ?_
  refine v_swap ?_
  exact kk n m sh n5 m5 sh5 aw5 n2 m2 sh2 aw2 P1_5 Q1_6 cs ls rs ap sq pl ki op fa K G T ki5 op5 fa5 K5 G5 T5 ki2 op2 fa2 K2 G2 T2 mg_7 X_8 so wh va sg rw R kw1_16 kn1_17 mw1_19 pi tl kp im tu to Y_9 M1_18 lo pd bd tk kv sd ⟨(by first | assumption | exact trivial | omega | exact hf9 | exact hH9), (by first | assumption | exact trivial | omega | exact hf9 | exact hH9), (by first | assumption | exact trivial | omega | exact hf9 | exact hH9), (by first | assumption | exact trivial | omega | exact hf9 | exact hH9), (by first | assumption | exact trivial | omega | exact hf9 | exact hH9), (by first | assumption | exact trivial | omega | exact hf9 | exact hH9), (by first | assumption | exact trivial | omega | exact hf9 | exact hH9), (by first | assumption | exact trivial | omega | exact hf9 | exact hH9), (by first | assumption | exact trivial | omega | exact hf9 | exact hH9), (by first | assumption | exact trivial | omega | exact hf9 | exact hH9), (by first | assumption | exact trivial | omega | exact hf9 | exact hH9), (by first | assumption | exact trivial | omega | exact hf9 | exact hH9), (by first | assumption | exact trivial | omega | exact hf9 | exact hH9), (by first | assumption | exact trivial | omega | exact hf9 | exact hH9), (by first | assumption | exact trivial | omega | exact hf9 | exact hH9)⟩
set_option maxRecDepth 100000 in
set_option maxHeartbeats 4000000 in
theorem lawc_51 {E : EV} {cI : ClassId} {b L i : Nat} {xs : Nat → Int32} (x0 a0 a1 a2 a3 a4 a5 a6 c0 c1 c2 c3 c4 c5 c6 e0 e1 e2 e3 e4 e5 e6 b0 b1 b2 b3 g0 g1 g2 g3 s0 s1 w0 y0 r0 k1 k2 k3 k4 k6 k7 k8 k10 k12 k13 k14 k15 k16 k21 k22 k23 k24 k25 k30 k31 k33 : Nat) (zC : CX E cL_law RL (some .boolean) cI room_1) (hA : ∀ q, (ev_s E).heap.size ≤ q → ev_A E q) (hX : XS E b L xs) (hL : L ≤ 2560) (hi : i + 5 ≤ L) (kk : LGO E cI 1756 b i x0 a0 a1 a2 a3 a4 a5 a6 c0 c1 c2 c3 c4 c5 c6 e0 e1 e2 e3 e4 e5 e6 b0 b1 b2 b3 g0 g1 g2 g3 s0 s1 w0 y0 r0 k1 k2 k3 k4 k6 k7 k8 k10 k12 k13 k14 k15 k16 k21 k22 k23 k24 k25 k30 k31 k33) : LGO E cI 1615 b i x0 a0 a1 a2 a3 a4 a5 a6 c0 c1 c2 c3 c4 c5 c6 e0 e1 e2 e3 e4 e5 e6 b0 b1 b2 b3 g0 g1 g2 g3 s0 s1 w0 y0 r0 k1 k2 k3 k4 k6 k7 k8 k10 k12 k13 k14 k15 k16 k21 k22 k23 k24 k25 k30 k31 k33 := by
  intro n m sh n5 m5 sh5 aw5 n2 m2 sh2 aw2 P Q cs ls rs ap sq pl ki op fa K G T ki5 op5 fa5 K5 G5 T5 ki2 op2 fa2 K2 G2 T2 mf kn so wh va sg rw R kw kr mw pi tl kp im tu to M Mr lo pd bd tk kv sd hI
  obtain ⟨hw, hw5, hw2, hB, hM, hcs, hH, hl, hsg, hr, hrw, hkw, hkr, hMr, hE9⟩ := hI
  obtain ⟨hn, hm, hsh, hki, hop, hfa, hK, hG, hT, -⟩ := id hw
  refine v_al_n 1616 zC dL_law_1615 2 rfl ?_
  refine v_al_n 1617 zC dL_law_1616 3 rfl ?_
  refine v_il_n 1618 zC dL_law_1617 0 rfl ?_
  refine v_ic (v := (nI 1)) 1619 zC dL_law_1618 (by decide +kernel) ?_
  refine v_iadd (v := (nI (i + 1))) 1620 zC dL_law_1619 (nI_add _ _) ?_
  refine v_sld 1621 zC hX dL_law_1620 (by omega) hL ?_
  refine v_cV2 (As := [.int (xs (i + 1))]) (st := []) 1624 0 [0, 19, 12] zC dL_law_1621 hA (c_X4_row (ev_l E) (ev_D E) cI (x0 := x0) (xn := a0) (xm := c0) (xp := e0) (b0 := b0) (g0 := g0) (s0 := s0) (w0 := w0) (y0 := y0) (pd := pd) (rs := rs) (rw := rw) (R := R) (v := (xs (i + 1))) (hr := hr)) cf_X4_row lk_L_223 rfl rfl rfl rfl rfl (by decide +kernel) (Nat.le_of_ble_eq_true rfl) (fun rv_1 wv_2 hp_3 hm_4 => ?_)
  clear hm_4
  rcases hp_3 with ⟨hq_5, rfl, rfl⟩ | ⟨hq_6, hq2_7, rfl, rfl⟩ | ⟨k_8, hk_9, hr_10, rfl, rfl⟩
  ·
    rw [sa_26]
    refine v_al_n 1625 zC dL_law_1624 1 rfl ?_
    refine v_al_n 1626 zC dL_law_1625 3 rfl ?_
    refine v_il_n 1627 zC dL_law_1626 0 rfl ?_
    refine v_ic (v := (nI 1)) 1628 zC dL_law_1627 (by decide +kernel) ?_
    refine v_iadd (v := (nI (i + 1))) 1629 zC dL_law_1628 (nI_add _ _) ?_
    refine v_sld 1630 zC hX dL_law_1629 (by omega) hL ?_
    refine v_swap ?_
    refine v_cV2 (As := [.int (xs (i + 1))]) (st := [.int (-4)]) 1633 0 [0, 21, 12] zC dL_law_1630 hA (c_X5_row (ev_l E) (ev_D E) cI (r0 := r0) (k1 := k1) (k2 := k2) (k3 := k3) (k4 := k4) (k6 := k6) (k7 := k7) (k8 := k8) (k10 := k10) (k12 := k12) (k13 := k13) (k14 := k14) (k15 := k15) (k16 := k16) (k21 := k21) (k22 := k22) (k23 := k23) (k24 := k24) (k25 := k25) (k30 := k30) (k31 := k31) (k33 := k33) (n := n) (m := m) (ls := ls) (ap := ap) (sq := sq) (pl := pl) (tz := cs) (rs := rs) (bd := bd) (pd := pd) (tk := tk) (kv := kv) (sd := sd) (rw := rw) (R := R) (v := (xs (i + 1))) (hr := hr)) cf_X5_row lk_L_226 rfl rfl rfl rfl rfl (by decide +kernel) (Nat.le_of_ble_eq_true rfl) (fun rv_11 wv_12 hp_13 hm_14 => ?_)
    clear hm_14
    rcases hp_13 with ⟨hq_15, rfl, rfl⟩ | ⟨hq_16, hq2_17, rfl, rfl⟩ | ⟨k_18, hk_19, hr_20, rfl, rfl⟩
    ·
      rw [sa_27]
      refine v_eqi 1756 zC dL_law_1633 (by first | rfl | assumption) ?_
      refine v_swap ?_
      exact kk n m sh n5 m5 sh5 aw5 n2 m2 sh2 aw2 P Q cs ls rs ap sq pl ki op fa K G T ki5 op5 fa5 K5 G5 T5 ki2 op2 fa2 K2 G2 T2 mf kn so wh va sg rw (un R 4 (R 4 + 1)) kw kr mw pi tl kp im tu to M Mr lo pd bd tk kv sd ⟨(by first | assumption | exact trivial | omega | exact hf9 | exact hH9), (by first | assumption | exact trivial | omega | exact hf9 | exact hH9), (by first | assumption | exact trivial | omega | exact hf9 | exact hH9), (by first | assumption | exact trivial | omega | exact hf9 | exact hH9), (by first | assumption | exact trivial | omega | exact hf9 | exact hH9), (by first | assumption | exact trivial | omega | exact hf9 | exact hH9), (by first | assumption | exact trivial | omega | exact hf9 | exact hH9), (by first | assumption | exact trivial | omega | exact hf9 | exact hH9), (by first | assumption | exact trivial | omega | exact hf9 | exact hH9), (by first | assumption | exact trivial | omega | exact hf9 | exact hH9), (by first | assumption | exact trivial | omega | exact hf9 | exact hH9), (by first | assumption | exact trivial | omega | exact hf9 | exact hH9), (by first | assumption | exact trivial | omega | exact hf9 | exact hH9), (by first | assumption | exact trivial | omega | exact hf9 | exact hH9), (by first | assumption | exact trivial | omega | exact hf9 | exact hH9)⟩
    ·
      rw [sa_27]
      exact (no_row_0_1 hq_5 hq_16 hq2_17).elim
    ·
      rw [sa_27]
      exact (no_row_0_2 hq_5 hk_19 hr_20).elim
  ·
    rw [sa_26]
    refine v_al_n 1625 zC dL_law_1624 1 rfl ?_
    refine v_al_n 1626 zC dL_law_1625 3 rfl ?_
    refine v_il_n 1627 zC dL_law_1626 0 rfl ?_
    refine v_ic (v := (nI 1)) 1628 zC dL_law_1627 (by decide +kernel) ?_
    refine v_iadd (v := (nI (i + 1))) 1629 zC dL_law_1628 (nI_add _ _) ?_
    refine v_sld 1630 zC hX dL_law_1629 (by omega) hL ?_
    refine v_swap ?_
    refine v_cV2 (As := [.int (xs (i + 1))]) (st := [.int (-6)]) 1633 0 [0, 21, 12] zC dL_law_1630 hA (c_X5_row (ev_l E) (ev_D E) cI (r0 := r0) (k1 := k1) (k2 := k2) (k3 := k3) (k4 := k4) (k6 := k6) (k7 := k7) (k8 := k8) (k10 := k10) (k12 := k12) (k13 := k13) (k14 := k14) (k15 := k15) (k16 := k16) (k21 := k21) (k22 := k22) (k23 := k23) (k24 := k24) (k25 := k25) (k30 := k30) (k31 := k31) (k33 := k33) (n := n) (m := m) (ls := ls) (ap := ap) (sq := sq) (pl := pl) (tz := cs) (rs := rs) (bd := bd) (pd := pd) (tk := tk) (kv := kv) (sd := sd) (rw := rw) (R := R) (v := (xs (i + 1))) (hr := hr)) cf_X5_row lk_L_226 rfl rfl rfl rfl rfl (by decide +kernel) (Nat.le_of_ble_eq_true rfl) (fun rv_21 wv_22 hp_23 hm_24 => ?_)
    clear hm_24
    rcases hp_23 with ⟨hq_25, rfl, rfl⟩ | ⟨hq_26, hq2_27, rfl, rfl⟩ | ⟨k_28, hk_29, hr_30, rfl, rfl⟩
    ·
      rw [sa_27]
      exact (no_row_1_0 hq_6 hq2_7 hq_25).elim
    ·
      rw [sa_27]
      refine v_eqi 1756 zC dL_law_1633 (by first | rfl | assumption) ?_
      refine v_swap ?_
      exact kk n m sh n5 m5 sh5 aw5 n2 m2 sh2 aw2 P Q cs ls rs ap sq pl ki op fa K G T ki5 op5 fa5 K5 G5 T5 ki2 op2 fa2 K2 G2 T2 mf kn so wh va sg rw (un R 6 (R 6 + 1)) kw kr mw pi tl kp im tu to M Mr lo pd bd tk kv sd ⟨(by first | assumption | exact trivial | omega | exact hf9 | exact hH9), (by first | assumption | exact trivial | omega | exact hf9 | exact hH9), (by first | assumption | exact trivial | omega | exact hf9 | exact hH9), (by first | assumption | exact trivial | omega | exact hf9 | exact hH9), (by first | assumption | exact trivial | omega | exact hf9 | exact hH9), (by first | assumption | exact trivial | omega | exact hf9 | exact hH9), (by first | assumption | exact trivial | omega | exact hf9 | exact hH9), (by first | assumption | exact trivial | omega | exact hf9 | exact hH9), (by first | assumption | exact trivial | omega | exact hf9 | exact hH9), (by first | assumption | exact trivial | omega | exact hf9 | exact hH9), (by first | assumption | exact trivial | omega | exact hf9 | exact hH9), (by first | assumption | exact trivial | omega | exact hf9 | exact hH9), (by first | assumption | exact trivial | omega | exact hf9 | exact hH9), (by first | assumption | exact trivial | omega | exact hf9 | exact hH9), (by first | assumption | exact trivial | omega | exact hf9 | exact hH9)⟩
    ·
      rw [sa_27]
      exact (no_row_1_2 hq_6 hq2_7 hk_29 hr_30).elim
  ·
    rw [sa_26]
    refine v_al_n 1625 zC dL_law_1624 1 rfl ?_
    refine v_al_n 1626 zC dL_law_1625 3 rfl ?_
    refine v_il_n 1627 zC dL_law_1626 0 rfl ?_
    refine v_ic (v := (nI 1)) 1628 zC dL_law_1627 (by decide +kernel) ?_
    refine v_iadd (v := (nI (i + 1))) 1629 zC dL_law_1628 (nI_add _ _) ?_
    refine v_sld 1630 zC hX dL_law_1629 (by omega) hL ?_
    refine v_swap ?_
    refine v_cV2 (As := [.int (xs (i + 1))]) (st := [.int (nI (rs + 1))]) 1633 0 [0, 21, 12] zC dL_law_1630 hA (c_X5_row (ev_l E) (ev_D E) cI (r0 := r0) (k1 := k1) (k2 := k2) (k3 := k3) (k4 := k4) (k6 := k6) (k7 := k7) (k8 := k8) (k10 := k10) (k12 := k12) (k13 := k13) (k14 := k14) (k15 := k15) (k16 := k16) (k21 := k21) (k22 := k22) (k23 := k23) (k24 := k24) (k25 := k25) (k30 := k30) (k31 := k31) (k33 := k33) (n := n) (m := m) (ls := ls) (ap := ap) (sq := sq) (pl := pl) (tz := cs) (rs := rs) (bd := bd) (pd := pd) (tk := tk) (kv := kv) (sd := sd) (rw := rw) (R := R) (v := (xs (i + 1))) (hr := hr)) cf_X5_row lk_L_226 rfl rfl rfl rfl rfl (by decide +kernel) (Nat.le_of_ble_eq_true rfl) (fun rv_31 wv_32 hp_33 hm_34 => ?_)
    clear hm_34
    rcases hp_33 with ⟨hq_35, rfl, rfl⟩ | ⟨hq_36, hq2_37, rfl, rfl⟩ | ⟨k_38, hk_39, hr_40, rfl, rfl⟩
    ·
      rw [sa_27]
      exact (no_row_2_0 hk_9 hr_10 hq_35).elim
    ·
      rw [sa_27]
      exact (no_row_2_1 hk_9 hr_10 hq_36 hq2_37).elim
    ·
      rw [sa_27]
      have ez := Option.some.inj (hk_9.symm.trans hk_39)
      subst ez
      have hs9 : ∀ z, un rw rs k_8 z < 100 := un_b hrw (ix_lt (by omega) hk_9)
      refine v_eqi 1756 zC dL_law_1633 (by first | rfl | assumption) ?_
      refine v_swap ?_
      exact kk n m sh n5 m5 sh5 aw5 n2 m2 sh2 aw2 P Q cs ls (rs + 1) ap sq pl ki op fa K G T ki5 op5 fa5 K5 G5 T5 ki2 op2 fa2 K2 G2 T2 mf kn so wh va sg (un rw rs k_8) R kw kr mw pi tl kp im tu to M Mr lo pd bd tk kv sd ⟨(by first | assumption | exact trivial | omega | exact hf9 | exact hH9), (by first | assumption | exact trivial | omega | exact hf9 | exact hH9), (by first | assumption | exact trivial | omega | exact hf9 | exact hH9), (by first | assumption | exact trivial | omega | exact hf9 | exact hH9), (by first | assumption | exact trivial | omega | exact hf9 | exact hH9), (by first | assumption | exact trivial | omega | exact hf9 | exact hH9), (by first | assumption | exact trivial | omega | exact hf9 | exact hH9), (by first | assumption | exact trivial | omega | exact hf9 | exact hH9), (by first | assumption | exact trivial | omega | exact hf9 | exact hH9), (by first | assumption | exact trivial | omega | exact hf9 | exact hH9), (by first | assumption | exact trivial | omega | exact hf9 | exact hH9), (by first | assumption | exact trivial | omega | exact hf9 | exact hH9), (by first | assumption | exact trivial | omega | exact hf9 | exact hH9), (by first | assumption | exact trivial | omega | exact hf9 | exact hH9), (by first | assumption | exact trivial | omega | exact hf9 | exact hH9)⟩
set_option maxRecDepth 100000 in
set_option maxHeartbeats 4000000 in
theorem lawc_52 {E : EV} {cI : ClassId} {b L i : Nat} {xs : Nat → Int32} (x0 a0 a1 a2 a3 a4 a5 a6 c0 c1 c2 c3 c4 c5 c6 e0 e1 e2 e3 e4 e5 e6 b0 b1 b2 b3 g0 g1 g2 g3 s0 s1 w0 y0 r0 k1 k2 k3 k4 k6 k7 k8 k10 k12 k13 k14 k15 k16 k21 k22 k23 k24 k25 k30 k31 k33 : Nat) (zC : CX E cL_law RL (some .boolean) cI room_1) (hA : ∀ q, (ev_s E).heap.size ≤ q → ev_A E q) (hX : XS E b L xs) (hL : L ≤ 2560) (hi : i + 5 ≤ L) (kk : LGO E cI 1756 b i x0 a0 a1 a2 a3 a4 a5 a6 c0 c1 c2 c3 c4 c5 c6 e0 e1 e2 e3 e4 e5 e6 b0 b1 b2 b3 g0 g1 g2 g3 s0 s1 w0 y0 r0 k1 k2 k3 k4 k6 k7 k8 k10 k12 k13 k14 k15 k16 k21 k22 k23 k24 k25 k30 k31 k33) : LGO E cI 1638 b i x0 a0 a1 a2 a3 a4 a5 a6 c0 c1 c2 c3 c4 c5 c6 e0 e1 e2 e3 e4 e5 e6 b0 b1 b2 b3 g0 g1 g2 g3 s0 s1 w0 y0 r0 k1 k2 k3 k4 k6 k7 k8 k10 k12 k13 k14 k15 k16 k21 k22 k23 k24 k25 k30 k31 k33 := by
  intro n m sh n5 m5 sh5 aw5 n2 m2 sh2 aw2 P Q cs ls rs ap sq pl ki op fa K G T ki5 op5 fa5 K5 G5 T5 ki2 op2 fa2 K2 G2 T2 mf kn so wh va sg rw R kw kr mw pi tl kp im tu to M Mr lo pd bd tk kv sd hI
  obtain ⟨hw, hw5, hw2, hB, hM, hcs, hH, hl, hsg, hr, hrw, hkw, hkr, hMr, hE9⟩ := hI
  obtain ⟨hn, hm, hsh, hki, hop, hfa, hK, hG, hT, -⟩ := id hw
  refine v_al_n 1639 zC dL_law_1638 2 rfl ?_
  refine v_cV2 (As := []) (st := []) 1642 0 [0, 1, 2, 3, 4, 5, 6, 7, 8, 9, 10, 11, 19] zC dL_law_1639 hA (c_X4_judge (ev_l E) (ev_D E) cI (x0 := x0) (xm := c0) (xp := e0) (g0 := g0) (s0 := s0) (w0 := w0) (y0 := y0) (pd := pd) (rs := rs) (b0 := b0) (b1 := b1) (b2 := b2) (b3 := b3) (P := P) (Q := Q) (mf := mf) (M := M) (kn := kn) (a0 := a0) (a1 := a1) (a2 := a2) (a3 := a3) (a4 := a4) (a5 := a5) (a6 := a6) (n := n) (m := m) (sh := sh) (ki := ki) (op := op) (fa := fa) (K := K) (G := G) (T := T) (rw := rw) (hw := hw) (hB := hB) (hr := hr) (hrw := hrw) (hM := hM)) cf_X4_judge lk_L_227 rfl rfl rfl rfl rfl (by decide +kernel) (Nat.le_of_ble_eq_true rfl) (fun rv_1 wv_2 hp_3 hm_4 => ?_)
  clear hm_4
  obtain ⟨P1_5, Q1_6, mg_7, X_8, Y_9, hB1_10, hM1_11, rfl, rfl⟩ := hp_3
  rw [sa_28]
  refine v_al_n 1643 zC dL_law_1642 1 rfl ?_
  refine v_swap ?_
  refine v_cV2 (As := []) (st := [.int (mI (JUD (n, m, sh, 0, ki, op, fa, K, G, T) rw rs))]) 1646 0 [0, 1, 2, 3, 4, 5, 6, 7, 8, 9, 10, 11, 21] zC dL_law_1643 hA (c_X5_judge (ev_l E) (ev_D E) cI (r0 := r0) (k1 := k1) (k2 := k2) (k3 := k3) (k4 := k4) (k6 := k6) (k7 := k7) (k8 := k8) (k10 := k10) (k12 := k12) (k13 := k13) (k14 := k14) (k15 := k15) (k16 := k16) (k21 := k21) (k22 := k22) (k23 := k23) (k24 := k24) (k25 := k25) (k30 := k30) (k31 := k31) (k33 := k33) (n := n) (m := m) (ls := ls) (ap := ap) (sq := sq) (pl := pl) (tz := cs) (rs := rs) (bd := bd) (pd := pd) (tk := tk) (kv := kv) (sd := sd) (ki := ki) (op := op) (fa := fa) (K := K) (G := G) (T := T) (sh := sh) (kw := kw) (kn := kr) (M := Mr) (mw := mw) (rw := rw) (hw := hw) (hkw := hkw) (hkn := hkr) (hM := hMr) (hr := hr) (hrw := hrw)) cf_X5_judge lk_L_230 rfl rfl rfl rfl rfl (by decide +kernel) (Nat.le_of_ble_eq_true rfl) (fun rv_12 wv_13 hp_14 hm_15 => ?_)
  clear hm_15
  obtain ⟨kw1_16, kn1_17, M1_18, mw1_19, hkw1_20, hkn1_21, hM1_22, rfl, rfl⟩ := hp_14
  rw [sa_29]
  refine v_eqi 1756 zC dL_law_1646 (by first | rfl | assumption) ?_
  refine v_swap ?_
  exact kk n m sh n5 m5 sh5 aw5 n2 m2 sh2 aw2 P1_5 Q1_6 cs ls 0 ap sq pl ki op fa K G T ki5 op5 fa5 K5 G5 T5 ki2 op2 fa2 K2 G2 T2 mg_7 X_8 so wh va sg rw R kw1_16 kn1_17 mw1_19 pi tl kp im tu to Y_9 M1_18 lo pd bd tk kv sd ⟨(by first | assumption | exact trivial | omega | exact hf9 | exact hH9), (by first | assumption | exact trivial | omega | exact hf9 | exact hH9), (by first | assumption | exact trivial | omega | exact hf9 | exact hH9), (by first | assumption | exact trivial | omega | exact hf9 | exact hH9), (by first | assumption | exact trivial | omega | exact hf9 | exact hH9), (by first | assumption | exact trivial | omega | exact hf9 | exact hH9), (by first | assumption | exact trivial | omega | exact hf9 | exact hH9), (by first | assumption | exact trivial | omega | exact hf9 | exact hH9), (by first | assumption | exact trivial | omega | exact hf9 | exact hH9), (by first | assumption | exact trivial | omega | exact hf9 | exact hH9), (by first | assumption | exact trivial | omega | exact hf9 | exact hH9), (by first | assumption | exact trivial | omega | exact hf9 | exact hH9), (by first | assumption | exact trivial | omega | exact hf9 | exact hH9), (by first | assumption | exact trivial | omega | exact hf9 | exact hH9), (by first | assumption | exact trivial | omega | exact hf9 | exact hH9)⟩
set_option maxRecDepth 100000 in
set_option maxHeartbeats 4000000 in
theorem lawc_53 {E : EV} {cI : ClassId} {b L i : Nat} {xs : Nat → Int32} (x0 a0 a1 a2 a3 a4 a5 a6 c0 c1 c2 c3 c4 c5 c6 e0 e1 e2 e3 e4 e5 e6 b0 b1 b2 b3 g0 g1 g2 g3 s0 s1 w0 y0 r0 k1 k2 k3 k4 k6 k7 k8 k10 k12 k13 k14 k15 k16 k21 k22 k23 k24 k25 k30 k31 k33 : Nat) (zC : CX E cL_law RL (some .boolean) cI room_1) (hA : ∀ q, (ev_s E).heap.size ≤ q → ev_A E q) (hX : XS E b L xs) (hL : L ≤ 2560) (hi : i + 5 ≤ L) (kk : LGO E cI 1756 b i x0 a0 a1 a2 a3 a4 a5 a6 c0 c1 c2 c3 c4 c5 c6 e0 e1 e2 e3 e4 e5 e6 b0 b1 b2 b3 g0 g1 g2 g3 s0 s1 w0 y0 r0 k1 k2 k3 k4 k6 k7 k8 k10 k12 k13 k14 k15 k16 k21 k22 k23 k24 k25 k30 k31 k33) : LGO E cI 1651 b i x0 a0 a1 a2 a3 a4 a5 a6 c0 c1 c2 c3 c4 c5 c6 e0 e1 e2 e3 e4 e5 e6 b0 b1 b2 b3 g0 g1 g2 g3 s0 s1 w0 y0 r0 k1 k2 k3 k4 k6 k7 k8 k10 k12 k13 k14 k15 k16 k21 k22 k23 k24 k25 k30 k31 k33 := by
  intro n m sh n5 m5 sh5 aw5 n2 m2 sh2 aw2 P Q cs ls rs ap sq pl ki op fa K G T ki5 op5 fa5 K5 G5 T5 ki2 op2 fa2 K2 G2 T2 mf kn so wh va sg rw R kw kr mw pi tl kp im tu to M Mr lo pd bd tk kv sd hI
  obtain ⟨hw, hw5, hw2, hB, hM, hcs, hH, hl, hsg, hr, hrw, hkw, hkr, hMr, hE9⟩ := hI
  obtain ⟨hn, hm, hsh, hki, hop, hfa, hK, hG, hT, -⟩ := id hw
  refine v_al_n 1652 zC dL_law_1651 2 rfl ?_
  refine v_cV2 (As := []) (st := []) 1655 0 [0] zC dL_law_1652 hA (c_X4_clear (ev_l E) (ev_D E) cI (x0 := x0) (xn := a0) (xm := c0) (xp := e0) (b0 := b0) (g0 := g0) (s0 := s0) (w0 := w0) (y0 := y0) (pd := pd) (rs := rs) ) cf_X4_clear lk_L_231 rfl rfl rfl rfl rfl (by decide +kernel) (Nat.le_of_ble_eq_true rfl) (fun rv_1 wv_2 hp_3 hm_4 => ?_)
  clear hm_4
  obtain ⟨rfl, rfl⟩ := hp_3
  rw [sa_30]
  refine v_al_n 1656 zC dL_law_1655 1 rfl ?_
  refine v_swap ?_
  refine v_cV2 (As := []) (st := [.int (nI rs)]) 1659 0 [0] zC dL_law_1656 hA (c_X5_clear (ev_l E) (ev_D E) cI (r0 := r0) (k1 := k1) (k2 := k2) (k3 := k3) (k4 := k4) (k6 := k6) (k7 := k7) (k8 := k8) (k10 := k10) (k12 := k12) (k13 := k13) (k14 := k14) (k15 := k15) (k16 := k16) (k21 := k21) (k22 := k22) (k23 := k23) (k24 := k24) (k25 := k25) (k30 := k30) (k31 := k31) (k33 := k33) (n := n) (m := m) (ls := ls) (ap := ap) (sq := sq) (pl := pl) (tz := cs) (rs := rs) (bd := bd) (pd := pd) (tk := tk) (kv := kv) (sd := sd) ) cf_X5_clear lk_L_234 rfl rfl rfl rfl rfl (by decide +kernel) (Nat.le_of_ble_eq_true rfl) (fun rv_5 wv_6 hp_7 hm_8 => ?_)
  clear hm_8
  obtain ⟨rfl, rfl⟩ := hp_7
  rw [sa_31]
  refine v_eqi 1756 zC dL_law_1659 (by first | rfl | assumption) ?_
  refine v_swap ?_
  exact kk n m sh n5 m5 sh5 aw5 n2 m2 sh2 aw2 P Q cs ls 0 ap sq pl ki op fa K G T ki5 op5 fa5 K5 G5 T5 ki2 op2 fa2 K2 G2 T2 mf kn so wh va sg rw R kw kr mw pi tl kp im tu to M Mr lo pd bd tk kv sd ⟨(by first | assumption | exact trivial | omega | exact hf9 | exact hH9), (by first | assumption | exact trivial | omega | exact hf9 | exact hH9), (by first | assumption | exact trivial | omega | exact hf9 | exact hH9), (by first | assumption | exact trivial | omega | exact hf9 | exact hH9), (by first | assumption | exact trivial | omega | exact hf9 | exact hH9), (by first | assumption | exact trivial | omega | exact hf9 | exact hH9), (by first | assumption | exact trivial | omega | exact hf9 | exact hH9), (by first | assumption | exact trivial | omega | exact hf9 | exact hH9), (by first | assumption | exact trivial | omega | exact hf9 | exact hH9), (by first | assumption | exact trivial | omega | exact hf9 | exact hH9), (by first | assumption | exact trivial | omega | exact hf9 | exact hH9), (by first | assumption | exact trivial | omega | exact hf9 | exact hH9), (by first | assumption | exact trivial | omega | exact hf9 | exact hH9), (by first | assumption | exact trivial | omega | exact hf9 | exact hH9), (by first | assumption | exact trivial | omega | exact hf9 | exact hH9)⟩
set_option maxRecDepth 100000 in
set_option maxHeartbeats 4000000 in
theorem lawc_54 {E : EV} {cI : ClassId} {b L i : Nat} {xs : Nat → Int32} (x0 a0 a1 a2 a3 a4 a5 a6 c0 c1 c2 c3 c4 c5 c6 e0 e1 e2 e3 e4 e5 e6 b0 b1 b2 b3 g0 g1 g2 g3 s0 s1 w0 y0 r0 k1 k2 k3 k4 k6 k7 k8 k10 k12 k13 k14 k15 k16 k21 k22 k23 k24 k25 k30 k31 k33 : Nat) (zC : CX E cL_law RL (some .boolean) cI room_1) (hA : ∀ q, (ev_s E).heap.size ≤ q → ev_A E q) (hX : XS E b L xs) (hL : L ≤ 2560) (hi : i + 5 ≤ L) (kk : LGO E cI 1756 b i x0 a0 a1 a2 a3 a4 a5 a6 c0 c1 c2 c3 c4 c5 c6 e0 e1 e2 e3 e4 e5 e6 b0 b1 b2 b3 g0 g1 g2 g3 s0 s1 w0 y0 r0 k1 k2 k3 k4 k6 k7 k8 k10 k12 k13 k14 k15 k16 k21 k22 k23 k24 k25 k30 k31 k33) : LGO E cI 1664 b i x0 a0 a1 a2 a3 a4 a5 a6 c0 c1 c2 c3 c4 c5 c6 e0 e1 e2 e3 e4 e5 e6 b0 b1 b2 b3 g0 g1 g2 g3 s0 s1 w0 y0 r0 k1 k2 k3 k4 k6 k7 k8 k10 k12 k13 k14 k15 k16 k21 k22 k23 k24 k25 k30 k31 k33 := by
  intro n m sh n5 m5 sh5 aw5 n2 m2 sh2 aw2 P Q cs ls rs ap sq pl ki op fa K G T ki5 op5 fa5 K5 G5 T5 ki2 op2 fa2 K2 G2 T2 mf kn so wh va sg rw R kw kr mw pi tl kp im tu to M Mr lo pd bd tk kv sd hI
  obtain ⟨hw, hw5, hw2, hB, hM, hcs, hH, hl, hsg, hr, hrw, hkw, hkr, hMr, hE9⟩ := hI
  obtain ⟨hn, hm, hsh, hki, hop, hfa, hK, hG, hT, -⟩ := id hw
  refine v_al_n 1665 zC dL_law_1664 2 rfl ?_
  refine v_al_n 1666 zC dL_law_1665 3 rfl ?_
  refine v_il_n 1667 zC dL_law_1666 0 rfl ?_
  refine v_ic (v := (nI 1)) 1668 zC dL_law_1667 (by decide +kernel) ?_
  refine v_iadd (v := (nI (i + 1))) 1669 zC dL_law_1668 (nI_add _ _) ?_
  refine v_sld 1670 zC hX dL_law_1669 (by omega) hL ?_
  refine v_al_n 1671 zC dL_law_1670 3 rfl ?_
  refine v_il_n 1672 zC dL_law_1671 0 rfl ?_
  refine v_ic (v := (nI 2)) 1673 zC dL_law_1672 (by decide +kernel) ?_
  refine v_iadd (v := (nI (i + 2))) 1674 zC dL_law_1673 (nI_add _ _) ?_
  refine v_sld 1675 zC hX dL_law_1674 (by omega) hL ?_
  refine v_al_n 1676 zC dL_law_1675 3 rfl ?_
  refine v_il_n 1677 zC dL_law_1676 0 rfl ?_
  refine v_ic (v := (nI 3)) 1678 zC dL_law_1677 (by decide +kernel) ?_
  refine v_iadd (v := (nI (i + 3))) 1679 zC dL_law_1678 (nI_add _ _) ?_
  refine v_sld 1680 zC hX dL_law_1679 (by omega) hL ?_
  refine v_cV2 (As := [.int (xs (i + 1)), .int (xs (i + 2)), .int (xs (i + 3))]) (st := []) 1683 0 [0, 1, 2, 3, 4, 5, 6, 7, 20, 21, 22, 23, 24, 25, 26, 8, 9, 10, 11, 12] zC dL_law_1680 hA (c_X4_lots (ev_l E) (ev_D E) cI (x0 := x0) (xp := e0) (g0 := g0) (s0 := s0) (w0 := w0) (y0 := y0) (pd := pd) (rs := rs) (b0 := b0) (b1 := b1) (b2 := b2) (b3 := b3) (P := P) (Q := Q) (mf := mf) (M := M) (kn := kn) (a0 := a0) (a1 := a1) (a2 := a2) (a3 := a3) (a4 := a4) (a5 := a5) (a6 := a6) (n := n) (m := m) (sh := sh) (ki := ki) (op := op) (fa := fa) (K := K) (G := G) (T := T) (c0 := c0) (c1 := c1) (c2 := c2) (c3 := c3) (c4 := c4) (c5 := c5) (c6 := c6) (n1 := n5) (m1 := m5) (sh1 := sh5) (aw1 := aw5) (ki1 := ki5) (op1 := op5) (fa1 := fa5) (K1 := K5) (G1 := G5) (T1 := T5) (R := R) (k := (xs (i + 1))) (z := (xs (i + 2))) (w := (xs (i + 3))) (hw := hw) (hw1 := hw5) (hB := hB) (hM := hM)) cf_X4_lots lk_L_235 rfl rfl rfl rfl rfl (by decide +kernel) (Nat.le_of_ble_eq_true rfl) (fun rv_1 wv_2 hp_3 hm_4 => ?_)
  clear hm_4
  obtain ⟨P1_5, Q1_6, mg_7, X_8, Y_9, n3_10, m3_11, s3_12, w3_13, ki3_14, op3_15, fa3_16, K3_17, G3_18, T3_19, rc_20, rv_21, hq_22, hF_23, hB1_24, hM1_25, rfl, rfl⟩ := hp_3
  rw [sa_19]
  refine v_al_n 1684 zC dL_law_1683 1 rfl ?_
  refine v_al_n 1685 zC dL_law_1684 3 rfl ?_
  refine v_il_n 1686 zC dL_law_1685 0 rfl ?_
  refine v_ic (v := (nI 1)) 1687 zC dL_law_1686 (by decide +kernel) ?_
  refine v_iadd (v := (nI (i + 1))) 1688 zC dL_law_1687 (nI_add _ _) ?_
  refine v_sld 1689 zC hX dL_law_1688 (by omega) hL ?_
  refine v_al_n 1690 zC dL_law_1689 3 rfl ?_
  refine v_il_n 1691 zC dL_law_1690 0 rfl ?_
  refine v_ic (v := (nI 2)) 1692 zC dL_law_1691 (by decide +kernel) ?_
  refine v_iadd (v := (nI (i + 2))) 1693 zC dL_law_1692 (nI_add _ _) ?_
  refine v_sld 1694 zC hX dL_law_1693 (by omega) hL ?_
  refine v_al_n 1695 zC dL_law_1694 3 rfl ?_
  refine v_il_n 1696 zC dL_law_1695 0 rfl ?_
  refine v_ic (v := (nI 3)) 1697 zC dL_law_1696 (by decide +kernel) ?_
  refine v_iadd (v := (nI (i + 3))) 1698 zC dL_law_1697 (nI_add _ _) ?_
  refine v_sld 1699 zC hX dL_law_1698 (by omega) hL ?_
  refine v_swap ?_
  refine v_cV2 (As := [.int (xs (i + 1)), .int (xs (i + 2)), .int (xs (i + 3))]) (st := [.int rv_21]) 1702 0 [0, 1, 2, 3, 4, 5, 6, 7, 8, 9, 10, 11, 13, 12] zC dL_law_1699 hA (c_X5_lots (ev_l E) (ev_D E) cI (r0 := r0) (k1 := k1) (k2 := k2) (k3 := k3) (k4 := k4) (k6 := k6) (k7 := k7) (k8 := k8) (k10 := k10) (k12 := k12) (k13 := k13) (k14 := k14) (k15 := k15) (k16 := k16) (k21 := k21) (k22 := k22) (k23 := k23) (k24 := k24) (k25 := k25) (k30 := k30) (k31 := k31) (k33 := k33) (n := n) (m := m) (ls := ls) (ap := ap) (sq := sq) (pl := pl) (tz := cs) (rs := rs) (bd := bd) (pd := pd) (tk := tk) (kv := kv) (sd := sd) (ki := ki) (op := op) (fa := fa) (K := K) (G := G) (T := T) (sh := sh) (kw := kw) (kn := kr) (M := Mr) (mw := mw) (kp := kp) (R := R) (k := (xs (i + 1))) (z := (xs (i + 2))) (w := (xs (i + 3))) (hw := hw) (hkw := hkw) (hkn := hkr) (hM := hMr)) cf_X5_lots lk_L_238 rfl rfl rfl rfl rfl (by decide +kernel) (Nat.le_of_ble_eq_true rfl) (fun rv_26 wv_27 hp_28 hm_29 => ?_)
  clear hm_29
  obtain ⟨kw1_30, kn1_31, M1_32, mw1_33, kp1_34, pl1_35, tk1_36, kv1_37, sd1_38, rc_39, rv_40, hq_41, hkw1_42, hkn1_43, hM1_44, rfl, rfl⟩ := hp_28
  rw [sa_20]
  obtain ⟨ez, ey⟩ := Prod.mk.inj (hq_22.symm.trans hq_41)
  subst ez
  have ez := ey
  subst ez
  refine v_eqi 1756 zC dL_law_1702 (by first | rfl | assumption) ?_
  refine v_swap ?_
  exact kk n m sh n3_10 m3_11 s3_12 w3_13 n2 m2 sh2 aw2 P1_5 Q1_6 cs ls rs ap sq pl1_35 ki op fa K G T ki3_14 op3_15 fa3_16 K3_17 G3_18 T3_19 ki2 op2 fa2 K2 G2 T2 mg_7 X_8 so wh va sg rw (rf R rc_20) kw1_30 kn1_31 mw1_33 pi tl kp1_34 im tu to Y_9 M1_32 lo pd bd tk1_36 kv1_37 sd1_38 ⟨(by first | assumption | exact trivial | omega | exact hf9 | exact hH9), (by first | assumption | exact trivial | omega | exact hf9 | exact hH9), (by first | assumption | exact trivial | omega | exact hf9 | exact hH9), (by first | assumption | exact trivial | omega | exact hf9 | exact hH9), (by first | assumption | exact trivial | omega | exact hf9 | exact hH9), (by first | assumption | exact trivial | omega | exact hf9 | exact hH9), (by first | assumption | exact trivial | omega | exact hf9 | exact hH9), (by first | assumption | exact trivial | omega | exact hf9 | exact hH9), (by first | assumption | exact trivial | omega | exact hf9 | exact hH9), (by first | assumption | exact trivial | omega | exact hf9 | exact hH9), (by first | assumption | exact trivial | omega | exact hf9 | exact hH9), (by first | assumption | exact trivial | omega | exact hf9 | exact hH9), (by first | assumption | exact trivial | omega | exact hf9 | exact hH9), (by first | assumption | exact trivial | omega | exact hf9 | exact hH9), (by first | assumption | exact trivial | omega | exact hf9 | exact hH9)⟩
set_option maxRecDepth 100000 in
set_option maxHeartbeats 4000000 in
theorem lawc_55 {E : EV} {cI : ClassId} {b L i : Nat} {xs : Nat → Int32} (x0 a0 a1 a2 a3 a4 a5 a6 c0 c1 c2 c3 c4 c5 c6 e0 e1 e2 e3 e4 e5 e6 b0 b1 b2 b3 g0 g1 g2 g3 s0 s1 w0 y0 r0 k1 k2 k3 k4 k6 k7 k8 k10 k12 k13 k14 k15 k16 k21 k22 k23 k24 k25 k30 k31 k33 : Nat) (zC : CX E cL_law RL (some .boolean) cI room_1) (hA : ∀ q, (ev_s E).heap.size ≤ q → ev_A E q) (hX : XS E b L xs) (hL : L ≤ 2560) (hi : i + 5 ≤ L) (kk : LGO E cI 1756 b i x0 a0 a1 a2 a3 a4 a5 a6 c0 c1 c2 c3 c4 c5 c6 e0 e1 e2 e3 e4 e5 e6 b0 b1 b2 b3 g0 g1 g2 g3 s0 s1 w0 y0 r0 k1 k2 k3 k4 k6 k7 k8 k10 k12 k13 k14 k15 k16 k21 k22 k23 k24 k25 k30 k31 k33) : LGO E cI 1707 b i x0 a0 a1 a2 a3 a4 a5 a6 c0 c1 c2 c3 c4 c5 c6 e0 e1 e2 e3 e4 e5 e6 b0 b1 b2 b3 g0 g1 g2 g3 s0 s1 w0 y0 r0 k1 k2 k3 k4 k6 k7 k8 k10 k12 k13 k14 k15 k16 k21 k22 k23 k24 k25 k30 k31 k33 := by
  intro n m sh n5 m5 sh5 aw5 n2 m2 sh2 aw2 P Q cs ls rs ap sq pl ki op fa K G T ki5 op5 fa5 K5 G5 T5 ki2 op2 fa2 K2 G2 T2 mf kn so wh va sg rw R kw kr mw pi tl kp im tu to M Mr lo pd bd tk kv sd hI
  obtain ⟨hw, hw5, hw2, hB, hM, hcs, hH, hl, hsg, hr, hrw, hkw, hkr, hMr, hE9⟩ := hI
  obtain ⟨hn, hm, hsh, hki, hop, hfa, hK, hG, hT, -⟩ := id hw
  refine v_al_n 1708 zC dL_law_1707 2 rfl ?_
  refine v_cV2 (As := []) (st := []) 1711 0 [0, 1, 2, 3, 4, 5, 6, 7, 27, 28, 29, 30, 31, 32, 33] zC dL_law_1708 hA (c_X4_image (ev_l E) (ev_D E) cI (x0 := x0) (xm := c0) (b0 := b0) (g0 := g0) (s0 := s0) (w0 := w0) (y0 := y0) (pd := pd) (rs := rs) (a0 := a0) (a1 := a1) (a2 := a2) (a3 := a3) (a4 := a4) (a5 := a5) (a6 := a6) (n := n) (m := m) (sh := sh) (ki := ki) (op := op) (fa := fa) (K := K) (G := G) (T := T) (e0 := e0) (e1 := e1) (e2 := e2) (e3 := e3) (e4 := e4) (e5 := e5) (e6 := e6) (n2 := n2) (m2 := m2) (sh2 := sh2) (aw2 := aw2) (ki2 := ki2) (op2 := op2) (fa2 := fa2) (K2 := K2) (G2 := G2) (T2 := T2) (hw := hw) (hw2 := hw2)) cf_X4_image lk_L_239 rfl rfl rfl rfl rfl (by decide +kernel) (Nat.le_of_ble_eq_true rfl) (fun rv_1 wv_2 hp_3 hm_4 => ?_)
  clear hm_4
  obtain ⟨rfl, rfl⟩ := hp_3
  rw [sa_32]
  refine v_al_n 1712 zC dL_law_1711 1 rfl ?_
  refine v_swap ?_
  refine v_cV2 (As := []) (st := [.int (nI n)]) 1715 0 [0, 1, 2, 3, 4, 5, 6, 7, 18] zC dL_law_1712 hA (c_X5_image (ev_l E) (ev_D E) cI (r0 := r0) (k1 := k1) (k2 := k2) (k3 := k3) (k4 := k4) (k6 := k6) (k7 := k7) (k8 := k8) (k10 := k10) (k12 := k12) (k13 := k13) (k14 := k14) (k15 := k15) (k16 := k16) (k21 := k21) (k22 := k22) (k23 := k23) (k24 := k24) (k25 := k25) (k30 := k30) (k31 := k31) (k33 := k33) (n := n) (m := m) (ls := ls) (ap := ap) (sq := sq) (pl := pl) (tz := cs) (rs := rs) (bd := bd) (pd := pd) (tk := tk) (kv := kv) (sd := sd) (ki := ki) (op := op) (fa := fa) (K := K) (G := G) (T := T) (sh := sh) (im := im) ) cf_X5_image lk_L_242 rfl rfl rfl rfl rfl (by decide +kernel) (Nat.le_of_ble_eq_true rfl) (fun rv_5 wv_6 hp_7 hm_8 => ?_)
  clear hm_8
  obtain ⟨im1_9, hE_10, rfl, rfl⟩ := hp_7
  rw [sa_33]
  have hE8 := fun (_ : true = true) => hE_10
  refine v_eqi 1756 zC dL_law_1715 (by first | rfl | assumption) ?_
  refine v_swap ?_
  exact kk n m sh n5 m5 sh5 aw5 n m sh 0 P Q cs ls rs ap sq 48 ki op fa K G T ki5 op5 fa5 K5 G5 T5 ki op fa K G T mf kn so wh va sg rw R kw kr mw pi tl kp im1_9 tu to M Mr lo true bd true (.ref k25 : Value) sd ⟨(by first | assumption | exact trivial | omega | exact hf9 | exact hH9), (by first | assumption | exact trivial | omega | exact hf9 | exact hH9), (by first | assumption | exact trivial | omega | exact hf9 | exact hH9), (by first | assumption | exact trivial | omega | exact hf9 | exact hH9), (by first | assumption | exact trivial | omega | exact hf9 | exact hH9), (by first | assumption | exact trivial | omega | exact hf9 | exact hH9), (by first | assumption | exact trivial | omega | exact hf9 | exact hH9), (by first | assumption | exact trivial | omega | exact hf9 | exact hH9), (by first | assumption | exact trivial | omega | exact hf9 | exact hH9), (by first | assumption | exact trivial | omega | exact hf9 | exact hH9), (by first | assumption | exact trivial | omega | exact hf9 | exact hH9), (by first | assumption | exact trivial | omega | exact hf9 | exact hH9), (by first | assumption | exact trivial | omega | exact hf9 | exact hH9), (by first | assumption | exact trivial | omega | exact hf9 | exact hH9), (by first | assumption | exact trivial | omega | exact hf9 | exact hH9)⟩
set_option maxRecDepth 100000 in
set_option maxHeartbeats 4000000 in
theorem lawc_56 {E : EV} {cI : ClassId} {b L i : Nat} {xs : Nat → Int32} (x0 a0 a1 a2 a3 a4 a5 a6 c0 c1 c2 c3 c4 c5 c6 e0 e1 e2 e3 e4 e5 e6 b0 b1 b2 b3 g0 g1 g2 g3 s0 s1 w0 y0 r0 k1 k2 k3 k4 k6 k7 k8 k10 k12 k13 k14 k15 k16 k21 k22 k23 k24 k25 k30 k31 k33 : Nat) (zC : CX E cL_law RL (some .boolean) cI room_1) (hA : ∀ q, (ev_s E).heap.size ≤ q → ev_A E q) (hX : XS E b L xs) (hL : L ≤ 2560) (hi : i + 5 ≤ L) (kk : LGO E cI 1756 b i x0 a0 a1 a2 a3 a4 a5 a6 c0 c1 c2 c3 c4 c5 c6 e0 e1 e2 e3 e4 e5 e6 b0 b1 b2 b3 g0 g1 g2 g3 s0 s1 w0 y0 r0 k1 k2 k3 k4 k6 k7 k8 k10 k12 k13 k14 k15 k16 k21 k22 k23 k24 k25 k30 k31 k33) : LGO E cI 1720 b i x0 a0 a1 a2 a3 a4 a5 a6 c0 c1 c2 c3 c4 c5 c6 e0 e1 e2 e3 e4 e5 e6 b0 b1 b2 b3 g0 g1 g2 g3 s0 s1 w0 y0 r0 k1 k2 k3 k4 k6 k7 k8 k10 k12 k13 k14 k15 k16 k21 k22 k23 k24 k25 k30 k31 k33 := by
  intro n m sh n5 m5 sh5 aw5 n2 m2 sh2 aw2 P Q cs ls rs ap sq pl ki op fa K G T ki5 op5 fa5 K5 G5 T5 ki2 op2 fa2 K2 G2 T2 mf kn so wh va sg rw R kw kr mw pi tl kp im tu to M Mr lo pd bd tk kv sd hI
  obtain ⟨hw, hw5, hw2, hB, hM, hcs, hH, hl, hsg, hr, hrw, hkw, hkr, hMr, hE9⟩ := hI
  obtain ⟨hn, hm, hsh, hki, hop, hfa, hK, hG, hT, -⟩ := id hw
  refine v_al_n 1721 zC dL_law_1720 2 rfl ?_
  refine v_cV2 (As := []) (st := []) 1724 0 [0, 1, 2, 3, 4, 5, 6, 7, 27, 28, 29, 30, 31, 32, 33, 13, 12] zC dL_law_1721 hA (c_X4_restore (ev_l E) (ev_D E) cI (x0 := x0) (xm := c0) (b0 := b0) (g0 := g0) (s0 := s0) (w0 := w0) (y0 := y0) (pd := pd) (rs := rs) (a0 := a0) (a1 := a1) (a2 := a2) (a3 := a3) (a4 := a4) (a5 := a5) (a6 := a6) (n := n) (m := m) (sh := sh) (ki := ki) (op := op) (fa := fa) (K := K) (G := G) (T := T) (e0 := e0) (e1 := e1) (e2 := e2) (e3 := e3) (e4 := e4) (e5 := e5) (e6 := e6) (n2 := n2) (m2 := m2) (sh2 := sh2) (aw2 := aw2) (ki2 := ki2) (op2 := op2) (fa2 := fa2) (K2 := K2) (G2 := G2) (T2 := T2) (g1 := g1) (g2 := g2) (g3 := g3) (cs := cs) (R := R) (hw := hw) (hw2 := hw2)) cf_X4_restore lk_L_243 rfl rfl rfl rfl rfl (by decide +kernel) (Nat.le_of_ble_eq_true rfl) (fun rv_1 wv_2 hp_3 hm_4 => ?_)
  clear hm_4
  rcases hp_3 with ⟨hq_5, rfl, rfl⟩ | ⟨hq_6, rfl, rfl⟩
  ·
    rw [sa_34]
    refine v_al_n 1725 zC dL_law_1724 1 rfl ?_
    refine v_swap ?_
    refine v_cV2 (As := []) (st := [.int (-3)]) 1728 0 [0, 1, 2, 3, 4, 5, 6, 7, 18, 12] zC dL_law_1725 hA (c_X5_restore (ev_l E) (ev_D E) cI (r0 := r0) (k1 := k1) (k2 := k2) (k3 := k3) (k4 := k4) (k6 := k6) (k7 := k7) (k8 := k8) (k10 := k10) (k12 := k12) (k13 := k13) (k14 := k14) (k15 := k15) (k16 := k16) (k21 := k21) (k22 := k22) (k23 := k23) (k24 := k24) (k25 := k25) (k30 := k30) (k31 := k31) (k33 := k33) (n := n) (m := m) (ls := ls) (ap := ap) (sq := sq) (pl := pl) (tz := cs) (rs := rs) (bd := bd) (pd := pd) (tk := tk) (kv := kv) (sd := sd) (ki := ki) (op := op) (fa := fa) (K := K) (G := G) (T := T) (sh := sh) (im := im) (R := R) (n1 := n2) (m1 := m2) (sh1 := sh2) (aw1 := aw2) (ki1 := ki2) (op1 := op2) (fa1 := fa2) (K1 := K2) (G1 := G2) (T1 := T2) (hw := hw) (hw1 := hw2) (hE := hE9)) cf_X5_restore lk_L_246 rfl rfl rfl rfl rfl (by decide +kernel) (Nat.le_of_ble_eq_true rfl) (fun rv_7 wv_8 hp_9 hm_10 => ?_)
    clear hm_10
    rcases hp_9 with ⟨hq_11, rfl, rfl⟩ | ⟨hq_12, rfl, rfl⟩
    ·
      rw [sa_35]
      refine v_eqi 1756 zC dL_law_1728 (by first | rfl | assumption) ?_
      refine v_swap ?_
      exact kk n m sh n5 m5 sh5 aw5 n2 m2 sh2 aw2 P Q cs ls rs ap sq pl ki op fa K G T ki5 op5 fa5 K5 G5 T5 ki2 op2 fa2 K2 G2 T2 mf kn so wh va sg rw (un R 3 (R 3 + 1)) kw kr mw pi tl kp im tu to M Mr lo pd bd tk kv sd ⟨(by first | assumption | exact trivial | omega | exact hf9 | exact hH9), (by first | assumption | exact trivial | omega | exact hf9 | exact hH9), (by first | assumption | exact trivial | omega | exact hf9 | exact hH9), (by first | assumption | exact trivial | omega | exact hf9 | exact hH9), (by first | assumption | exact trivial | omega | exact hf9 | exact hH9), (by first | assumption | exact trivial | omega | exact hf9 | exact hH9), (by first | assumption | exact trivial | omega | exact hf9 | exact hH9), (by first | assumption | exact trivial | omega | exact hf9 | exact hH9), (by first | assumption | exact trivial | omega | exact hf9 | exact hH9), (by first | assumption | exact trivial | omega | exact hf9 | exact hH9), (by first | assumption | exact trivial | omega | exact hf9 | exact hH9), (by first | assumption | exact trivial | omega | exact hf9 | exact hH9), (by first | assumption | exact trivial | omega | exact hf9 | exact hH9), (by first | assumption | exact trivial | omega | exact hf9 | exact hH9), (by first | assumption | exact trivial | omega | exact hf9 | exact hH9)⟩
    ·
      rw [sa_35]
      exact (no_restore_0_1 hq_5 hq_12).elim
  ·
    rw [sa_34]
    refine v_al_n 1725 zC dL_law_1724 1 rfl ?_
    refine v_swap ?_
    refine v_cV2 (As := []) (st := [.int (nI n2)]) 1728 0 [0, 1, 2, 3, 4, 5, 6, 7, 18, 12] zC dL_law_1725 hA (c_X5_restore (ev_l E) (ev_D E) cI (r0 := r0) (k1 := k1) (k2 := k2) (k3 := k3) (k4 := k4) (k6 := k6) (k7 := k7) (k8 := k8) (k10 := k10) (k12 := k12) (k13 := k13) (k14 := k14) (k15 := k15) (k16 := k16) (k21 := k21) (k22 := k22) (k23 := k23) (k24 := k24) (k25 := k25) (k30 := k30) (k31 := k31) (k33 := k33) (n := n) (m := m) (ls := ls) (ap := ap) (sq := sq) (pl := pl) (tz := cs) (rs := rs) (bd := bd) (pd := pd) (tk := tk) (kv := kv) (sd := sd) (ki := ki) (op := op) (fa := fa) (K := K) (G := G) (T := T) (sh := sh) (im := im) (R := R) (n1 := n2) (m1 := m2) (sh1 := sh2) (aw1 := aw2) (ki1 := ki2) (op1 := op2) (fa1 := fa2) (K1 := K2) (G1 := G2) (T1 := T2) (hw := hw) (hw1 := hw2) (hE := hE9)) cf_X5_restore lk_L_246 rfl rfl rfl rfl rfl (by decide +kernel) (Nat.le_of_ble_eq_true rfl) (fun rv_13 wv_14 hp_15 hm_16 => ?_)
    clear hm_16
    rcases hp_15 with ⟨hq_17, rfl, rfl⟩ | ⟨hq_18, rfl, rfl⟩
    ·
      rw [sa_35]
      exact (no_restore_1_0 hq_6 hq_17).elim
    ·
      rw [sa_35]
      refine v_eqi 1756 zC dL_law_1728 (by first | rfl | assumption) ?_
      refine v_swap ?_
      exact kk n2 m2 sh2 n5 m5 sh5 aw5 n2 m2 sh2 aw2 P Q 0 ls rs ap sq 48 ki2 op2 fa2 K2 G2 T2 ki5 op5 fa5 K5 G5 T5 ki2 op2 fa2 K2 G2 T2 mf kn so wh va sg rw R kw kr mw pi tl kp im tu to M Mr lo pd bd false (.ref k25 : Value) sd ⟨(by first | assumption | exact trivial | omega | exact hf9 | exact hH9), (by first | assumption | exact trivial | omega | exact hf9 | exact hH9), (by first | assumption | exact trivial | omega | exact hf9 | exact hH9), (by first | assumption | exact trivial | omega | exact hf9 | exact hH9), (by first | assumption | exact trivial | omega | exact hf9 | exact hH9), (by first | assumption | exact trivial | omega | exact hf9 | exact hH9), (by first | assumption | exact trivial | omega | exact hf9 | exact hH9), (by first | assumption | exact trivial | omega | exact hf9 | exact hH9), (by first | assumption | exact trivial | omega | exact hf9 | exact hH9), (by first | assumption | exact trivial | omega | exact hf9 | exact hH9), (by first | assumption | exact trivial | omega | exact hf9 | exact hH9), (by first | assumption | exact trivial | omega | exact hf9 | exact hH9), (by first | assumption | exact trivial | omega | exact hf9 | exact hH9), (by first | assumption | exact trivial | omega | exact hf9 | exact hH9), (by first | assumption | exact trivial | omega | exact hf9 | exact hH9)⟩
set_option maxRecDepth 100000 in
set_option maxHeartbeats 4000000 in
theorem lawc_57 {E : EV} {cI : ClassId} {b L i : Nat} {xs : Nat → Int32} (x0 a0 a1 a2 a3 a4 a5 a6 c0 c1 c2 c3 c4 c5 c6 e0 e1 e2 e3 e4 e5 e6 b0 b1 b2 b3 g0 g1 g2 g3 s0 s1 w0 y0 r0 k1 k2 k3 k4 k6 k7 k8 k10 k12 k13 k14 k15 k16 k21 k22 k23 k24 k25 k30 k31 k33 : Nat) (zC : CX E cL_law RL (some .boolean) cI room_1) (hA : ∀ q, (ev_s E).heap.size ≤ q → ev_A E q) (hX : XS E b L xs) (hL : L ≤ 2560) (hi : i + 5 ≤ L) (kk : LGO E cI 1756 b i x0 a0 a1 a2 a3 a4 a5 a6 c0 c1 c2 c3 c4 c5 c6 e0 e1 e2 e3 e4 e5 e6 b0 b1 b2 b3 g0 g1 g2 g3 s0 s1 w0 y0 r0 k1 k2 k3 k4 k6 k7 k8 k10 k12 k13 k14 k15 k16 k21 k22 k23 k24 k25 k30 k31 k33) : LGO E cI 1733 b i x0 a0 a1 a2 a3 a4 a5 a6 c0 c1 c2 c3 c4 c5 c6 e0 e1 e2 e3 e4 e5 e6 b0 b1 b2 b3 g0 g1 g2 g3 s0 s1 w0 y0 r0 k1 k2 k3 k4 k6 k7 k8 k10 k12 k13 k14 k15 k16 k21 k22 k23 k24 k25 k30 k31 k33 := by
  intro n m sh n5 m5 sh5 aw5 n2 m2 sh2 aw2 P Q cs ls rs ap sq pl ki op fa K G T ki5 op5 fa5 K5 G5 T5 ki2 op2 fa2 K2 G2 T2 mf kn so wh va sg rw R kw kr mw pi tl kp im tu to M Mr lo pd bd tk kv sd hI
  obtain ⟨hw, hw5, hw2, hB, hM, hcs, hH, hl, hsg, hr, hrw, hkw, hkr, hMr, hE9⟩ := hI
  obtain ⟨hn, hm, hsh, hki, hop, hfa, hK, hG, hT, -⟩ := id hw
  have hsh7 : sh < 2 ^ 7 := Nat.lt_of_lt_of_le hsh (Nat.pow_le_pow_right (by decide) hn)
  refine v_al_n 1734 zC dL_law_1733 2 rfl ?_
  refine v_al_n 1735 zC dL_law_1734 3 rfl ?_
  refine v_il_n 1736 zC dL_law_1735 0 rfl ?_
  refine v_ic (v := (nI 1)) 1737 zC dL_law_1736 (by decide +kernel) ?_
  refine v_iadd (v := (nI (i + 1))) 1738 zC dL_law_1737 (nI_add _ _) ?_
  refine v_sld 1739 zC hX dL_law_1738 (by omega) hL ?_
  refine v_cV2 (As := [.int (xs (i + 1))]) (st := []) 1742 0 [0, 1, 3, 4, 13, 17, 12] zC dL_law_1739 hA (c_X4_count (ev_l E) (ev_D E) cI (x0 := x0) (xm := c0) (xp := e0) (b0 := b0) (y0 := y0) (g0 := g0) (g1 := g1) (g2 := g2) (g3 := g3) (s0 := s0) (s1 := s1) (w0 := w0) (pd := pd) (rs := rs) (ls := ls) (cs := cs) (a0 := a0) (a1 := a1) (a2 := a2) (a3 := a3) (a4 := a4) (a5 := a5) (a6 := a6) (n := n) (m := m) (sh := sh) (op := op) (fa := fa) (R := R) (w := (xs (i + 1))) (hn := hn) (hsh := (by first | exact hsh | exact hsh7)) (hop := hop) (hfa := hfa)) cf_X4_count lk_L_247 rfl rfl rfl rfl rfl (by decide +kernel) (Nat.le_of_ble_eq_true rfl) (fun rv_1 wv_2 hp_3 hm_4 => ?_)
  clear hm_4
  obtain ⟨rfl, rfl⟩ := hp_3
  rw [sa_36]
  refine v_al_n 1743 zC dL_law_1742 1 rfl ?_
  refine v_al_n 1744 zC dL_law_1743 3 rfl ?_
  refine v_il_n 1745 zC dL_law_1744 0 rfl ?_
  refine v_ic (v := (nI 1)) 1746 zC dL_law_1745 (by decide +kernel) ?_
  refine v_iadd (v := (nI (i + 1))) 1747 zC dL_law_1746 (nI_add _ _) ?_
  refine v_sld 1748 zC hX dL_law_1747 (by omega) hL ?_
  refine v_swap ?_
  refine v_cV2 (As := [.int (xs (i + 1))]) (st := [.int (q_count n m sh ls rs cs op fa R (xs (i + 1)))]) 1751 0 [0, 2, 3, 4, 12] zC dL_law_1748 hA (c_X5_count (ev_l E) (ev_D E) cI (r0 := r0) (k1 := k1) (k2 := k2) (k3 := k3) (k4 := k4) (k6 := k6) (k7 := k7) (k8 := k8) (k10 := k10) (k12 := k12) (k13 := k13) (k14 := k14) (k15 := k15) (k16 := k16) (k21 := k21) (k22 := k22) (k23 := k23) (k24 := k24) (k25 := k25) (k30 := k30) (k31 := k31) (k33 := k33) (n := n) (m := m) (ls := ls) (ap := ap) (sq := sq) (pl := pl) (tz := cs) (rs := rs) (bd := bd) (pd := pd) (tk := tk) (kv := kv) (sd := sd) (op := op) (fa := fa) (sh := sh) (R := R) (w := (xs (i + 1))) (hn := hn) (hsh := hsh) (hop := hop) (hfa := hfa)) cf_X5_count lk_L_250 rfl rfl rfl rfl rfl (by decide +kernel) (Nat.le_of_ble_eq_true rfl) (fun rv_5 wv_6 hp_7 hm_8 => ?_)
  clear hm_8
  obtain ⟨rfl, rfl⟩ := hp_7
  rw [sa_37]
  refine v_eqi 1756 zC dL_law_1751 (by first | rfl | assumption) ?_
  refine v_swap ?_
  exact kk n m sh n5 m5 sh5 aw5 n2 m2 sh2 aw2 P Q cs ls rs ap sq pl ki op fa K G T ki5 op5 fa5 K5 G5 T5 ki2 op2 fa2 K2 G2 T2 mf kn so wh va sg rw R kw kr mw pi tl kp im tu to M Mr lo pd bd tk kv sd ⟨(by first | assumption | exact trivial | omega | exact hf9 | exact hH9), (by first | assumption | exact trivial | omega | exact hf9 | exact hH9), (by first | assumption | exact trivial | omega | exact hf9 | exact hH9), (by first | assumption | exact trivial | omega | exact hf9 | exact hH9), (by first | assumption | exact trivial | omega | exact hf9 | exact hH9), (by first | assumption | exact trivial | omega | exact hf9 | exact hH9), (by first | assumption | exact trivial | omega | exact hf9 | exact hH9), (by first | assumption | exact trivial | omega | exact hf9 | exact hH9), (by first | assumption | exact trivial | omega | exact hf9 | exact hH9), (by first | assumption | exact trivial | omega | exact hf9 | exact hH9), (by first | assumption | exact trivial | omega | exact hf9 | exact hH9), (by first | assumption | exact trivial | omega | exact hf9 | exact hH9), (by first | assumption | exact trivial | omega | exact hf9 | exact hH9), (by first | assumption | exact trivial | omega | exact hf9 | exact hH9), (by first | assumption | exact trivial | omega | exact hf9 | exact hH9)⟩
