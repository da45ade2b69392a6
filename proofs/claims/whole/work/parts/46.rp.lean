set_option maxRecDepth 100000 in
set_option maxHeartbeats 4000000 in
theorem lawc_29 {E : EV} {cI : ClassId} {b L i : Nat} {xs : Nat → Int32} (x0 a0 a1 a2 a3 a4 a5 a6 c0 c1 c2 c3 c4 c5 c6 e0 e1 e2 e3 e4 e5 e6 b0 b1 b2 b3 g0 g1 g2 g3 s0 s1 w0 y0 r0 k1 k2 k3 k4 k6 k7 k8 k10 k12 k13 k14 k15 k16 k21 k22 k23 k24 k25 k30 k31 k33 : Nat) (zC : CX E cL_law RL (some .boolean) cI room_1) (hA : ∀ q, (ev_s E).heap.size ≤ q → ev_A E q) (hX : XS E b L xs) (hL : L ≤ 2560) (hi : i + 5 ≤ L) (kk : LGO E cI 1756 b i x0 a0 a1 a2 a3 a4 a5 a6 c0 c1 c2 c3 c4 c5 c6 e0 e1 e2 e3 e4 e5 e6 b0 b1 b2 b3 g0 g1 g2 g3 s0 s1 w0 y0 r0 k1 k2 k3 k4 k6 k7 k8 k10 k12 k13 k14 k15 k16 k21 k22 k23 k24 k25 k30 k31 k33) : LGO E cI 1107 b i x0 a0 a1 a2 a3 a4 a5 a6 c0 c1 c2 c3 c4 c5 c6 e0 e1 e2 e3 e4 e5 e6 b0 b1 b2 b3 g0 g1 g2 g3 s0 s1 w0 y0 r0 k1 k2 k3 k4 k6 k7 k8 k10 k12 k13 k14 k15 k16 k21 k22 k23 k24 k25 k30 k31 k33 := by
  intro n m sh n5 m5 sh5 aw5 n2 m2 sh2 aw2 P Q cs ls rs ap sq pl ki op fa K G T ki5 op5 fa5 K5 G5 T5 ki2 op2 fa2 K2 G2 T2 mf kn so wh va sg rw R kw kr mw pi tl kp im tu to M Mr lo pd bd tk kv sd hI
  obtain ⟨hw, hw5, hw2, hB, hM, hcs, hH, hl, hsg, hr, hrw, hkw, hkr, hMr, hE9⟩ := hI
  obtain ⟨hn, hm, hsh, hki, hop, hfa, hK, hG, hT, -⟩ := id hw
  refine v_al_n 1108 zC dL_law_1107 2 rfl ?_
  refine v_cV2 (As := []) (st := []) 1111 0 [0, 1, 7] zC dL_law_1108 hA (c_X4_questions (ev_l E) (ev_D E) cI (x0 := x0) (xm := c0) (xp := e0) (g0 := g0) (s0 := s0) (w0 := w0) (pd := pd) (rs := rs) (y0 := y0) (b0 := b0) (a0 := a0) (a1 := a1) (a2 := a2) (a3 := a3) (a4 := a4) (a5 := a5) (a6 := a6) (n := n) (m := m) (sh := sh) (T := T) (hm := hm) (hT := hT)) cf_X4_questions lk_L_133 rfl rfl rfl rfl rfl (by decide +kernel) (Nat.le_of_ble_eq_true rfl) (fun rv_1 wv_2 hp_3 hm_4 => ?_)
  clear hm_4
  obtain ⟨rfl, rfl⟩ := hp_3
  rw [sa_24]
  refine v_al_n 1112 zC dL_law_1111 1 rfl ?_
  refine v_swap ?_
  refine v_cV2 (As := []) (st := [.int (nI ((it (queS T) (0, 0) m).1))]) 1115 0 [0, 1, 2, 3, 4, 5, 6, 7, 8, 9, 10, 11] zC dL_law_1112 hA (c_X5_questions (ev_l E) (ev_D E) cI (r0 := r0) (k1 := k1) (k2 := k2) (k3 := k3) (k4 := k4) (k6 := k6) (k7 := k7) (k8 := k8) (k10 := k10) (k12 := k12) (k13 := k13) (k14 := k14) (k15 := k15) (k16 := k16) (k21 := k21) (k22 := k22) (k23 := k23) (k24 := k24) (k25 := k25) (k30 := k30) (k31 := k31) (k33 := k33) (n := n) (m := m) (ls := ls) (ap := ap) (sq := sq) (pl := pl) (tz := cs) (rs := rs) (bd := bd) (pd := pd) (tk := tk) (kv := kv) (sd := sd) (ki := ki) (op := op) (fa := fa) (K := K) (G := G) (T := T) (sh := sh) (kw := kw) (kn := kr) (M := Mr) (mw := mw) (hw := hw) (hkw := hkw) (hkn := hkr) (hM := hMr)) cf_X5_questions lk_L_136 rfl rfl rfl rfl rfl (by decide +kernel) (Nat.le_of_ble_eq_true rfl) (fun rv_5 wv_6 hp_7 hm_8 => ?_)
  clear hm_8
  obtain ⟨kw1_9, kn1_10, M1_11, mw1_12, hkw1_13, hkn1_14, hM1_15, rfl, rfl⟩ := hp_7
  rw [sa_15]
  refine v_eqi 1756 zC dL_law_1115 (by first | rfl | exact congrArg nI ques_e) ?_
  refine v_swap ?_
  exact kk n m sh n5 m5 sh5 aw5 n2 m2 sh2 aw2 P Q cs ls rs ap sq pl ki op fa K G T ki5 op5 fa5 K5 G5 T5 ki2 op2 fa2 K2 G2 T2 mf kn so wh va sg rw R kw1_9 kn1_10 mw1_12 pi tl kp im tu to M M1_11 lo pd bd tk kv sd ⟨(by first | assumption | exact trivial | omega | exact hf9 | exact hH9), (by first | assumption | exact trivial | omega | exact hf9 | exact hH9), (by first | assumption | exact trivial | omega | exact hf9 | exact hH9), (by first | assumption | exact trivial | omega | exact hf9 | exact hH9), (by first | assumption | exact trivial | omega | exact hf9 | exact hH9), (by first | assumption | exact trivial | omega | exact hf9 | exact hH9), (by first | assumption | exact trivial | omega | exact hf9 | exact hH9), (by first | assumption | exact trivial | omega | exact hf9 | exact hH9), (by first | assumption | exact trivial | omega | exact hf9 | exact hH9), (by first | assumption | exact trivial | omega | exact hf9 | exact hH9), (by first | assumption | exact trivial | omega | exact hf9 | exact hH9), (by first | assumption | exact trivial | omega | exact hf9 | exact hH9), (by first | assumption | exact trivial | omega | exact hf9 | exact hH9), (by first | assumption | exact trivial | omega | exact hf9 | exact hH9), (by first | assumption | exact trivial | omega | exact hf9 | exact hH9)⟩
set_option maxRecDepth 100000 in
set_option maxHeartbeats 4000000 in
theorem lawc_30 {E : EV} {cI : ClassId} {b L i : Nat} {xs : Nat → Int32} (x0 a0 a1 a2 a3 a4 a5 a6 c0 c1 c2 c3 c4 c5 c6 e0 e1 e2 e3 e4 e5 e6 b0 b1 b2 b3 g0 g1 g2 g3 s0 s1 w0 y0 r0 k1 k2 k3 k4 k6 k7 k8 k10 k12 k13 k14 k15 k16 k21 k22 k23 k24 k25 k30 k31 k33 : Nat) (zC : CX E cL_law RL (some .boolean) cI room_1) (hA : ∀ q, (ev_s E).heap.size ≤ q → ev_A E q) (hX : XS E b L xs) (hL : L ≤ 2560) (hi : i + 5 ≤ L) (kk : LGO E cI 1756 b i x0 a0 a1 a2 a3 a4 a5 a6 c0 c1 c2 c3 c4 c5 c6 e0 e1 e2 e3 e4 e5 e6 b0 b1 b2 b3 g0 g1 g2 g3 s0 s1 w0 y0 r0 k1 k2 k3 k4 k6 k7 k8 k10 k12 k13 k14 k15 k16 k21 k22 k23 k24 k25 k30 k31 k33) : LGO E cI 1120 b i x0 a0 a1 a2 a3 a4 a5 a6 c0 c1 c2 c3 c4 c5 c6 e0 e1 e2 e3 e4 e5 e6 b0 b1 b2 b3 g0 g1 g2 g3 s0 s1 w0 y0 r0 k1 k2 k3 k4 k6 k7 k8 k10 k12 k13 k14 k15 k16 k21 k22 k23 k24 k25 k30 k31 k33 := by
  intro n m sh n5 m5 sh5 aw5 n2 m2 sh2 aw2 P Q cs ls rs ap sq pl ki op fa K G T ki5 op5 fa5 K5 G5 T5 ki2 op2 fa2 K2 G2 T2 mf kn so wh va sg rw R kw kr mw pi tl kp im tu to M Mr lo pd bd tk kv sd hI
  obtain ⟨hw, hw5, hw2, hB, hM, hcs, hH, hl, hsg, hr, hrw, hkw, hkr, hMr, hE9⟩ := hI
  obtain ⟨hn, hm, hsh, hki, hop, hfa, hK, hG, hT, -⟩ := id hw
  refine v_al_n 1121 zC dL_law_1120 2 rfl ?_
  refine v_al_n 1122 zC dL_law_1121 3 rfl ?_
  refine v_il_n 1123 zC dL_law_1122 0 rfl ?_
  refine v_ic (v := (nI 1)) 1124 zC dL_law_1123 (by decide +kernel) ?_
  refine v_iadd (v := (nI (i + 1))) 1125 zC dL_law_1124 (nI_add _ _) ?_
  refine v_sld 1126 zC hX dL_law_1125 (by omega) hL ?_
  refine v_cV2 (As := [.int (xs (i + 1))]) (st := []) 1129 0 [0, 1, 2, 3, 4, 5, 6, 7, 20, 21, 22, 23, 24, 25, 26, 8, 9, 10, 11, 12] zC dL_law_1126 hA (c_X4_quarrels (ev_l E) (ev_D E) cI (x0 := x0) (xp := e0) (g0 := g0) (s0 := s0) (w0 := w0) (y0 := y0) (pd := pd) (rs := rs) (b0 := b0) (b1 := b1) (b2 := b2) (b3 := b3) (P := P) (Q := Q) (mf := mf) (M := M) (kn := kn) (a0 := a0) (a1 := a1) (a2 := a2) (a3 := a3) (a4 := a4) (a5 := a5) (a6 := a6) (n := n) (m := m) (sh := sh) (ki := ki) (op := op) (fa := fa) (K := K) (G := G) (T := T) (c0 := c0) (c1 := c1) (c2 := c2) (c3 := c3) (c4 := c4) (c5 := c5) (c6 := c6) (n1 := n5) (m1 := m5) (sh1 := sh5) (aw1 := aw5) (ki1 := ki5) (op1 := op5) (fa1 := fa5) (K1 := K5) (G1 := G5) (T1 := T5) (R := R) (w := (xs (i + 1))) (hw := hw) (hw1 := hw5) (hB := hB) (hM := hM)) cf_X4_quarrels lk_L_137 rfl rfl rfl rfl rfl (by decide +kernel) (Nat.le_of_ble_eq_true rfl) (fun rv_1 wv_2 hp_3 hm_4 => ?_)
  clear hm_4
  obtain ⟨P1_5, Q1_6, mg_7, X_8, Y_9, n3_10, m3_11, s3_12, w3_13, ki3_14, op3_15, fa3_16, K3_17, G3_18, T3_19, rc_20, rv_21, hq_22, hF_23, hB1_24, hM1_25, rfl, rfl⟩ := hp_3
  rw [sa_19]
  refine v_al_n 1130 zC dL_law_1129 1 rfl ?_
  refine v_al_n 1131 zC dL_law_1130 3 rfl ?_
  refine v_il_n 1132 zC dL_law_1131 0 rfl ?_
  refine v_ic (v := (nI 1)) 1133 zC dL_law_1132 (by decide +kernel) ?_
  refine v_iadd (v := (nI (i + 1))) 1134 zC dL_law_1133 (nI_add _ _) ?_
  refine v_sld 1135 zC hX dL_law_1134 (by omega) hL ?_
  refine v_swap ?_
  refine v_cV2 (As := [.int (xs (i + 1))]) (st := [.int rv_21]) 1138 0 [0, 1, 2, 3, 4, 5, 6, 7, 8, 9, 10, 11, 12] zC dL_law_1135 hA (c_X5_quarrels (ev_l E) (ev_D E) cI (r0 := r0) (k1 := k1) (k2 := k2) (k3 := k3) (k4 := k4) (k6 := k6) (k7 := k7) (k8 := k8) (k10 := k10) (k12 := k12) (k13 := k13) (k14 := k14) (k15 := k15) (k16 := k16) (k21 := k21) (k22 := k22) (k23 := k23) (k24 := k24) (k25 := k25) (k30 := k30) (k31 := k31) (k33 := k33) (n := n) (m := m) (ls := ls) (ap := ap) (sq := sq) (pl := pl) (tz := cs) (rs := rs) (bd := bd) (pd := pd) (tk := tk) (kv := kv) (sd := sd) (ki := ki) (op := op) (fa := fa) (K := K) (G := G) (T := T) (sh := sh) (kw := kw) (kn := kr) (M := Mr) (mw := mw) (R := R) (w := (xs (i + 1))) (hw := hw) (hkw := hkw) (hkn := hkr) (hM := hMr)) cf_X5_quarrels lk_L_140 rfl rfl rfl rfl rfl (by decide +kernel) (Nat.le_of_ble_eq_true rfl) (fun rv_26 wv_27 hp_28 hm_29 => ?_)
  clear hm_29
  obtain ⟨kw1_30, kn1_31, M1_32, mw1_33, rc_34, rv_35, hq_36, hkw1_37, hkn1_38, hM1_39, rfl, rfl⟩ := hp_28
  rw [sa_17]
  obtain ⟨ez, ey⟩ := Prod.mk.inj (hq_22.symm.trans hq_36)
  subst ez
  have ez := ey
  subst ez
  refine v_eqi 1756 zC dL_law_1138 (by first | rfl | assumption) ?_
  refine v_swap ?_
  exact kk n m sh n3_10 m3_11 s3_12 w3_13 n2 m2 sh2 aw2 P1_5 Q1_6 cs ls rs ap sq pl ki op fa K G T ki3_14 op3_15 fa3_16 K3_17 G3_18 T3_19 ki2 op2 fa2 K2 G2 T2 mg_7 X_8 so wh va sg rw (rf R rc_20) kw1_30 kn1_31 mw1_33 pi tl kp im tu to Y_9 M1_32 lo pd bd tk kv sd ⟨(by first | assumption | exact trivial | omega | exact hf9 | exact hH9), (by first | assumption | exact trivial | omega | exact hf9 | exact hH9), (by first | assumption | exact trivial | omega | exact hf9 | exact hH9), (by first | assumption | exact trivial | omega | exact hf9 | exact hH9), (by first | assumption | exact trivial | omega | exact hf9 | exact hH9), (by first | assumption | exact trivial | omega | exact hf9 | exact hH9), (by first | assumption | exact trivial | omega | exact hf9 | exact hH9), (by first | assumption | exact trivial | omega | exact hf9 | exact hH9), (by first | assumption | exact trivial | omega | exact hf9 | exact hH9), (by first | assumption | exact trivial | omega | exact hf9 | exact hH9), (by first | assumption | exact trivial | omega | exact hf9 | exact hH9), (by first | assumption | exact trivial | omega | exact hf9 | exact hH9), (by first | assumption | exact trivial | omega | exact hf9 | exact hH9), (by first | assumption | exact trivial | omega | exact hf9 | exact hH9), (by first | assumption | exact trivial | omega | exact hf9 | exact hH9)⟩
set_option maxRecDepth 100000 in
set_option maxHeartbeats 4000000 in
theorem lawc_31 {E : EV} {cI : ClassId} {b L i : Nat} {xs : Nat → Int32} (x0 a0 a1 a2 a3 a4 a5 a6 c0 c1 c2 c3 c4 c5 c6 e0 e1 e2 e3 e4 e5 e6 b0 b1 b2 b3 g0 g1 g2 g3 s0 s1 w0 y0 r0 k1 k2 k3 k4 k6 k7 k8 k10 k12 k13 k14 k15 k16 k21 k22 k23 k24 k25 k30 k31 k33 : Nat) (zC : CX E cL_law RL (some .boolean) cI room_1) (hA : ∀ q, (ev_s E).heap.size ≤ q → ev_A E q) (hX : XS E b L xs) (hL : L ≤ 2560) (hi : i + 5 ≤ L) (kk : LGO E cI 1756 b i x0 a0 a1 a2 a3 a4 a5 a6 c0 c1 c2 c3 c4 c5 c6 e0 e1 e2 e3 e4 e5 e6 b0 b1 b2 b3 g0 g1 g2 g3 s0 s1 w0 y0 r0 k1 k2 k3 k4 k6 k7 k8 k10 k12 k13 k14 k15 k16 k21 k22 k23 k24 k25 k30 k31 k33) : LGO E cI 1143 b i x0 a0 a1 a2 a3 a4 a5 a6 c0 c1 c2 c3 c4 c5 c6 e0 e1 e2 e3 e4 e5 e6 b0 b1 b2 b3 g0 g1 g2 g3 s0 s1 w0 y0 r0 k1 k2 k3 k4 k6 k7 k8 k10 k12 k13 k14 k15 k16 k21 k22 k23 k24 k25 k30 k31 k33 := by
  intro n m sh n5 m5 sh5 aw5 n2 m2 sh2 aw2 P Q cs ls rs ap sq pl ki op fa K G T ki5 op5 fa5 K5 G5 T5 ki2 op2 fa2 K2 G2 T2 mf kn so wh va sg rw R kw kr mw pi tl kp im tu to M Mr lo pd bd tk kv sd hI
  obtain ⟨hw, hw5, hw2, hB, hM, hcs, hH, hl, hsg, hr, hrw, hkw, hkr, hMr, hE9⟩ := hI
  obtain ⟨hn, hm, hsh, hki, hop, hfa, hK, hG, hT, -⟩ := id hw
  refine v_al_n 1144 zC dL_law_1143 2 rfl ?_
  refine v_al_n 1145 zC dL_law_1144 3 rfl ?_
  refine v_il_n 1146 zC dL_law_1145 0 rfl ?_
  refine v_ic (v := (nI 1)) 1147 zC dL_law_1146 (by decide +kernel) ?_
  refine v_iadd (v := (nI (i + 1))) 1148 zC dL_law_1147 (nI_add _ _) ?_
  refine v_sld 1149 zC hX dL_law_1148 (by omega) hL ?_
  refine v_cV2 (As := [.int (xs (i + 1))]) (st := []) 1152 0 [0, 1, 2, 3, 4, 5, 6, 7, 8, 9, 10, 11, 12] zC dL_law_1149 hA (c_X4_silent (ev_l E) (ev_D E) cI (x0 := x0) (xm := c0) (xp := e0) (g0 := g0) (s0 := s0) (w0 := w0) (y0 := y0) (pd := pd) (rs := rs) (b0 := b0) (b1 := b1) (b2 := b2) (b3 := b3) (P := P) (Q := Q) (mf := mf) (M := M) (kn := kn) (a0 := a0) (a1 := a1) (a2 := a2) (a3 := a3) (a4 := a4) (a5 := a5) (a6 := a6) (n := n) (m := m) (sh := sh) (ki := ki) (op := op) (fa := fa) (K := K) (G := G) (T := T) (R := R) (w := (xs (i + 1))) (hw := hw) (hB := hB) (hM := hM)) cf_X4_silent lk_L_141 rfl rfl rfl rfl rfl (by decide +kernel) (Nat.le_of_ble_eq_true rfl) (fun rv_1 wv_2 hp_3 hm_4 => ?_)
  clear hm_4
  obtain ⟨P1_5, Q1_6, mg_7, X_8, Y_9, rc_10, rv_11, hq_12, hB1_13, hM1_14, rfl, rfl⟩ := hp_3
  rw [sa_16]
  refine v_al_n 1153 zC dL_law_1152 1 rfl ?_
  refine v_al_n 1154 zC dL_law_1153 3 rfl ?_
  refine v_il_n 1155 zC dL_law_1154 0 rfl ?_
  refine v_ic (v := (nI 1)) 1156 zC dL_law_1155 (by decide +kernel) ?_
  refine v_iadd (v := (nI (i + 1))) 1157 zC dL_law_1156 (nI_add _ _) ?_
  refine v_sld 1158 zC hX dL_law_1157 (by omega) hL ?_
  refine v_swap ?_
  refine v_cV2 (As := [.int (xs (i + 1))]) (st := [.int rv_11]) 1161 0 [0, 1, 2, 3, 4, 5, 6, 7, 8, 9, 10, 11, 12] zC dL_law_1158 hA (c_X5_silent (ev_l E) (ev_D E) cI (r0 := r0) (k1 := k1) (k2 := k2) (k3 := k3) (k4 := k4) (k6 := k6) (k7 := k7) (k8 := k8) (k10 := k10) (k12 := k12) (k13 := k13) (k14 := k14) (k15 := k15) (k16 := k16) (k21 := k21) (k22 := k22) (k23 := k23) (k24 := k24) (k25 := k25) (k30 := k30) (k31 := k31) (k33 := k33) (n := n) (m := m) (ls := ls) (ap := ap) (sq := sq) (pl := pl) (tz := cs) (rs := rs) (bd := bd) (pd := pd) (tk := tk) (kv := kv) (sd := sd) (ki := ki) (op := op) (fa := fa) (K := K) (G := G) (T := T) (sh := sh) (kw := kw) (kn := kr) (M := Mr) (mw := mw) (R := R) (w := (xs (i + 1))) (hw := hw) (hkw := hkw) (hkn := hkr) (hM := hMr)) cf_X5_silent lk_L_144 rfl rfl rfl rfl rfl (by decide +kernel) (Nat.le_of_ble_eq_true rfl) (fun rv_15 wv_16 hp_17 hm_18 => ?_)
  clear hm_18
  obtain ⟨kw1_19, kn1_20, M1_21, mw1_22, rc_23, rv_24, hq_25, hkw1_26, hkn1_27, hM1_28, rfl, rfl⟩ := hp_17
  rw [sa_17]
  obtain ⟨ez, ey⟩ := Prod.mk.inj (hq_12.symm.trans hq_25)
  subst ez
  have ez := ey
  subst ez
  refine v_eqi 1756 zC dL_law_1161 (by first | rfl | assumption) ?_
  refine v_swap ?_
  exact kk n m sh n5 m5 sh5 aw5 n2 m2 sh2 aw2 P1_5 Q1_6 cs ls rs ap sq pl ki op fa K G T ki5 op5 fa5 K5 G5 T5 ki2 op2 fa2 K2 G2 T2 mg_7 X_8 so wh va sg rw (rf R rc_10) kw1_19 kn1_20 mw1_22 pi tl kp im tu to Y_9 M1_21 lo pd bd tk kv sd ⟨(by first | assumption | exact trivial | omega | exact hf9 | exact hH9), (by first | assumption | exact trivial | omega | exact hf9 | exact hH9), (by first | assumption | exact trivial | omega | exact hf9 | exact hH9), (by first | assumption | exact trivial | omega | exact hf9 | exact hH9), (by first | assumption | exact trivial | omega | exact hf9 | exact hH9), (by first | assumption | exact trivial | omega | exact hf9 | exact hH9), (by first | assumption | exact trivial | omega | exact hf9 | exact hH9), (by first | assumption | exact trivial | omega | exact hf9 | exact hH9), (by first | assumption | exact trivial | omega | exact hf9 | exact hH9), (by first | assumption | exact trivial | omega | exact hf9 | exact hH9), (by first | assumption | exact trivial | omega | exact hf9 | exact hH9), (by first | assumption | exact trivial | omega | exact hf9 | exact hH9), (by first | assumption | exact trivial | omega | exact hf9 | exact hH9), (by first | assumption | exact trivial | omega | exact hf9 | exact hH9), (by first | assumption | exact trivial | omega | exact hf9 | exact hH9)⟩
set_option maxRecDepth 100000 in
set_option maxHeartbeats 4000000 in
theorem lawc_32 {E : EV} {cI : ClassId} {b L i : Nat} {xs : Nat → Int32} (x0 a0 a1 a2 a3 a4 a5 a6 c0 c1 c2 c3 c4 c5 c6 e0 e1 e2 e3 e4 e5 e6 b0 b1 b2 b3 g0 g1 g2 g3 s0 s1 w0 y0 r0 k1 k2 k3 k4 k6 k7 k8 k10 k12 k13 k14 k15 k16 k21 k22 k23 k24 k25 k30 k31 k33 : Nat) (zC : CX E cL_law RL (some .boolean) cI room_1) (hA : ∀ q, (ev_s E).heap.size ≤ q → ev_A E q) (hX : XS E b L xs) (hL : L ≤ 2560) (hi : i + 5 ≤ L) (kk : LGO E cI 1756 b i x0 a0 a1 a2 a3 a4 a5 a6 c0 c1 c2 c3 c4 c5 c6 e0 e1 e2 e3 e4 e5 e6 b0 b1 b2 b3 g0 g1 g2 g3 s0 s1 w0 y0 r0 k1 k2 k3 k4 k6 k7 k8 k10 k12 k13 k14 k15 k16 k21 k22 k23 k24 k25 k30 k31 k33) : LGO E cI 1166 b i x0 a0 a1 a2 a3 a4 a5 a6 c0 c1 c2 c3 c4 c5 c6 e0 e1 e2 e3 e4 e5 e6 b0 b1 b2 b3 g0 g1 g2 g3 s0 s1 w0 y0 r0 k1 k2 k3 k4 k6 k7 k8 k10 k12 k13 k14 k15 k16 k21 k22 k23 k24 k25 k30 k31 k33 := by
  intro n m sh n5 m5 sh5 aw5 n2 m2 sh2 aw2 P Q cs ls rs ap sq pl ki op fa K G T ki5 op5 fa5 K5 G5 T5 ki2 op2 fa2 K2 G2 T2 mf kn so wh va sg rw R kw kr mw pi tl kp im tu to M Mr lo pd bd tk kv sd hI
  obtain ⟨hw, hw5, hw2, hB, hM, hcs, hH, hl, hsg, hr, hrw, hkw, hkr, hMr, hE9⟩ := hI
  obtain ⟨hn, hm, hsh, hki, hop, hfa, hK, hG, hT, -⟩ := id hw
  refine v_al_n 1167 zC dL_law_1166 2 rfl ?_
  refine v_al_n 1168 zC dL_law_1167 3 rfl ?_
  refine v_il_n 1169 zC dL_law_1168 0 rfl ?_
  refine v_ic (v := (nI 1)) 1170 zC dL_law_1169 (by decide +kernel) ?_
  refine v_iadd (v := (nI (i + 1))) 1171 zC dL_law_1170 (nI_add _ _) ?_
  refine v_sld 1172 zC hX dL_law_1171 (by omega) hL ?_
  refine v_al_n 1173 zC dL_law_1172 3 rfl ?_
  refine v_il_n 1174 zC dL_law_1173 0 rfl ?_
  refine v_ic (v := (nI 2)) 1175 zC dL_law_1174 (by decide +kernel) ?_
  refine v_iadd (v := (nI (i + 2))) 1176 zC dL_law_1175 (nI_add _ _) ?_
  refine v_sld 1177 zC hX dL_law_1176 (by omega) hL ?_
  refine v_al_n 1178 zC dL_law_1177 3 rfl ?_
  refine v_il_n 1179 zC dL_law_1178 0 rfl ?_
  refine v_ic (v := (nI 3)) 1180 zC dL_law_1179 (by decide +kernel) ?_
  refine v_iadd (v := (nI (i + 3))) 1181 zC dL_law_1180 (nI_add _ _) ?_
  refine v_sld 1182 zC hX dL_law_1181 (by omega) hL ?_
  refine v_al_n 1183 zC dL_law_1182 3 rfl ?_
  refine v_il_n 1184 zC dL_law_1183 0 rfl ?_
  refine v_ic (v := (nI 4)) 1185 zC dL_law_1184 (by decide +kernel) ?_
  refine v_iadd (v := (nI (i + 4))) 1186 zC dL_law_1185 (nI_add _ _) ?_
  refine v_sld 1187 zC hX dL_law_1186 (by omega) hL ?_
  refine v_cV2 (As := [.int (xs (i + 1)), .int (xs (i + 2)), .int (xs (i + 3)), .int (xs (i + 4))]) (st := []) 1190 0 [0, 1, 2, 3, 4, 5, 6, 7, 20, 21, 22, 23, 24, 25, 26, 8, 9, 10, 11, 12] zC dL_law_1187 hA (c_X4_colds (ev_l E) (ev_D E) cI (x0 := x0) (xp := e0) (g0 := g0) (s0 := s0) (w0 := w0) (y0 := y0) (pd := pd) (rs := rs) (b0 := b0) (b1 := b1) (b2 := b2) (b3 := b3) (P := P) (Q := Q) (mf := mf) (M := M) (kn := kn) (a0 := a0) (a1 := a1) (a2 := a2) (a3 := a3) (a4 := a4) (a5 := a5) (a6 := a6) (n := n) (m := m) (sh := sh) (ki := ki) (op := op) (fa := fa) (K := K) (G := G) (T := T) (c0 := c0) (c1 := c1) (c2 := c2) (c3 := c3) (c4 := c4) (c5 := c5) (c6 := c6) (n1 := n5) (m1 := m5) (sh1 := sh5) (aw1 := aw5) (ki1 := ki5) (op1 := op5) (fa1 := fa5) (K1 := K5) (G1 := G5) (T1 := T5) (R := R) (p := (xs (i + 1))) (f := (xs (i + 2))) (t := (xs (i + 3))) (w := (xs (i + 4))) (hw := hw) (hw1 := hw5) (hB := hB) (hM := hM)) cf_X4_colds lk_L_145 rfl rfl rfl rfl rfl (by decide +kernel) (Nat.le_of_ble_eq_true rfl) (fun rv_1 wv_2 hp_3 hm_4 => ?_)
  clear hm_4
  obtain ⟨P1_5, Q1_6, mg_7, X_8, Y_9, n3_10, m3_11, s3_12, w3_13, ki3_14, op3_15, fa3_16, K3_17, G3_18, T3_19, rc_20, rv_21, hq_22, hF_23, hB1_24, hM1_25, rfl, rfl⟩ := hp_3
  rw [sa_19]
  refine v_al_n 1191 zC dL_law_1190 1 rfl ?_
  refine v_al_n 1192 zC dL_law_1191 3 rfl ?_
  refine v_il_n 1193 zC dL_law_1192 0 rfl ?_
  refine v_ic (v := (nI 1)) 1194 zC dL_law_1193 (by decide +kernel) ?_
  refine v_iadd (v := (nI (i + 1))) 1195 zC dL_law_1194 (nI_add _ _) ?_
  refine v_sld 1196 zC hX dL_law_1195 (by omega) hL ?_
  refine v_al_n 1197 zC dL_law_1196 3 rfl ?_
  refine v_il_n 1198 zC dL_law_1197 0 rfl ?_
  refine v_ic (v := (nI 2)) 1199 zC dL_law_1198 (by decide +kernel) ?_
  refine v_iadd (v := (nI (i + 2))) 1200 zC dL_law_1199 (nI_add _ _) ?_
  refine v_sld 1201 zC hX dL_law_1200 (by omega) hL ?_
  refine v_al_n 1202 zC dL_law_1201 3 rfl ?_
  refine v_il_n 1203 zC dL_law_1202 0 rfl ?_
  refine v_ic (v := (nI 3)) 1204 zC dL_law_1203 (by decide +kernel) ?_
  refine v_iadd (v := (nI (i + 3))) 1205 zC dL_law_1204 (nI_add _ _) ?_
  refine v_sld 1206 zC hX dL_law_1205 (by omega) hL ?_
  refine v_al_n 1207 zC dL_law_1206 3 rfl ?_
  refine v_il_n 1208 zC dL_law_1207 0 rfl ?_
  refine v_ic (v := (nI 4)) 1209 zC dL_law_1208 (by decide +kernel) ?_
  refine v_iadd (v := (nI (i + 4))) 1210 zC dL_law_1209 (nI_add _ _) ?_
  refine v_sld 1211 zC hX dL_law_1210 (by omega) hL ?_
  refine v_swap ?_
  refine v_cV2 (As := [.int (xs (i + 1)), .int (xs (i + 2)), .int (xs (i + 3)), .int (xs (i + 4))]) (st := [.long rv_21]) 1214 0 [0, 1, 2, 3, 4, 5, 6, 7, 8, 9, 10, 11, 13, 12] zC dL_law_1211 hA (c_X5_colds (ev_l E) (ev_D E) cI (r0 := r0) (k1 := k1) (k2 := k2) (k3 := k3) (k4 := k4) (k6 := k6) (k7 := k7) (k8 := k8) (k10 := k10) (k12 := k12) (k13 := k13) (k14 := k14) (k15 := k15) (k16 := k16) (k21 := k21) (k22 := k22) (k23 := k23) (k24 := k24) (k25 := k25) (k30 := k30) (k31 := k31) (k33 := k33) (n := n) (m := m) (ls := ls) (ap := ap) (sq := sq) (pl := pl) (tz := cs) (rs := rs) (bd := bd) (pd := pd) (tk := tk) (kv := kv) (sd := sd) (ki := ki) (op := op) (fa := fa) (K := K) (G := G) (T := T) (sh := sh) (kw := kw) (kn := kr) (M := Mr) (mw := mw) (kp := kp) (R := R) (p := (xs (i + 1))) (f := (xs (i + 2))) (t := (xs (i + 3))) (w := (xs (i + 4))) (hw := hw) (hkw := hkw) (hkn := hkr) (hM := hMr)) cf_X5_colds lk_L_149 rfl rfl rfl rfl rfl (by decide +kernel) (Nat.le_of_ble_eq_true rfl) (fun rv_26 wv_27 hp_28 hm_29 => ?_)
  clear hm_29
  obtain ⟨kw1_30, kn1_31, M1_32, mw1_33, kp1_34, pl1_35, tk1_36, kv1_37, rc_38, rv_39, hq_40, hkw1_41, hkn1_42, hM1_43, rfl, rfl⟩ := hp_28
  rw [sa_20]
  obtain ⟨ez, ey⟩ := Prod.mk.inj (hq_22.symm.trans hq_40)
  subst ez
  have ez := ey
  subst ez
  refine v_lcmp 1215 zC dL_law_1214 ?_
  refine v_eql 1756 zC dL_law_1215 rfl ?_
  refine v_swap ?_
  exact kk n m sh n3_10 m3_11 s3_12 w3_13 n2 m2 sh2 aw2 P1_5 Q1_6 cs ls rs ap sq pl1_35 ki op fa K G T ki3_14 op3_15 fa3_16 K3_17 G3_18 T3_19 ki2 op2 fa2 K2 G2 T2 mg_7 X_8 so wh va sg rw (rf R rc_20) kw1_30 kn1_31 mw1_33 pi tl kp1_34 im tu to Y_9 M1_32 lo pd bd tk1_36 kv1_37 sd ⟨(by first | assumption | exact trivial | omega | exact hf9 | exact hH9), (by first | assumption | exact trivial | omega | exact hf9 | exact hH9), (by first | assumption | exact trivial | omega | exact hf9 | exact hH9), (by first | assumption | exact trivial | omega | exact hf9 | exact hH9), (by first | assumption | exact trivial | omega | exact hf9 | exact hH9), (by first | assumption | exact trivial | omega | exact hf9 | exact hH9), (by first | assumption | exact trivial | omega | exact hf9 | exact hH9), (by first | assumption | exact trivial | omega | exact hf9 | exact hH9), (by first | assumption | exact trivial | omega | exact hf9 | exact hH9), (by first | assumption | exact trivial | omega | exact hf9 | exact hH9), (by first | assumption | exact trivial | omega | exact hf9 | exact hH9), (by first | assumption | exact trivial | omega | exact hf9 | exact hH9), (by first | assumption | exact trivial | omega | exact hf9 | exact hH9), (by first | assumption | exact trivial | omega | exact hf9 | exact hH9), (by first | assumption | exact trivial | omega | exact hf9 | exact hH9)⟩
set_option maxRecDepth 100000 in
set_option maxHeartbeats 4000000 in
theorem lawc_33 {E : EV} {cI : ClassId} {b L i : Nat} {xs : Nat → Int32} (x0 a0 a1 a2 a3 a4 a5 a6 c0 c1 c2 c3 c4 c5 c6 e0 e1 e2 e3 e4 e5 e6 b0 b1 b2 b3 g0 g1 g2 g3 s0 s1 w0 y0 r0 k1 k2 k3 k4 k6 k7 k8 k10 k12 k13 k14 k15 k16 k21 k22 k23 k24 k25 k30 k31 k33 : Nat) (zC : CX E cL_law RL (some .boolean) cI room_1) (hA : ∀ q, (ev_s E).heap.size ≤ q → ev_A E q) (hX : XS E b L xs) (hL : L ≤ 2560) (hi : i + 5 ≤ L) (kk : LGO E cI 1756 b i x0 a0 a1 a2 a3 a4 a5 a6 c0 c1 c2 c3 c4 c5 c6 e0 e1 e2 e3 e4 e5 e6 b0 b1 b2 b3 g0 g1 g2 g3 s0 s1 w0 y0 r0 k1 k2 k3 k4 k6 k7 k8 k10 k12 k13 k14 k15 k16 k21 k22 k23 k24 k25 k30 k31 k33) : LGO E cI 1220 b i x0 a0 a1 a2 a3 a4 a5 a6 c0 c1 c2 c3 c4 c5 c6 e0 e1 e2 e3 e4 e5 e6 b0 b1 b2 b3 g0 g1 g2 g3 s0 s1 w0 y0 r0 k1 k2 k3 k4 k6 k7 k8 k10 k12 k13 k14 k15 k16 k21 k22 k23 k24 k25 k30 k31 k33 := by
  intro n m sh n5 m5 sh5 aw5 n2 m2 sh2 aw2 P Q cs ls rs ap sq pl ki op fa K G T ki5 op5 fa5 K5 G5 T5 ki2 op2 fa2 K2 G2 T2 mf kn so wh va sg rw R kw kr mw pi tl kp im tu to M Mr lo pd bd tk kv sd hI
  obtain ⟨hw, hw5, hw2, hB, hM, hcs, hH, hl, hsg, hr, hrw, hkw, hkr, hMr, hE9⟩ := hI
  obtain ⟨hn, hm, hsh, hki, hop, hfa, hK, hG, hT, -⟩ := id hw
  refine v_al_n 1221 zC dL_law_1220 2 rfl ?_
  refine v_al_n 1222 zC dL_law_1221 3 rfl ?_
  refine v_il_n 1223 zC dL_law_1222 0 rfl ?_
  refine v_ic (v := (nI 1)) 1224 zC dL_law_1223 (by decide +kernel) ?_
  refine v_iadd (v := (nI (i + 1))) 1225 zC dL_law_1224 (nI_add _ _) ?_
  refine v_sld 1226 zC hX dL_law_1225 (by omega) hL ?_
  refine v_al_n 1227 zC dL_law_1226 3 rfl ?_
  refine v_il_n 1228 zC dL_law_1227 0 rfl ?_
  refine v_ic (v := (nI 2)) 1229 zC dL_law_1228 (by decide +kernel) ?_
  refine v_iadd (v := (nI (i + 2))) 1230 zC dL_law_1229 (nI_add _ _) ?_
  refine v_sld 1231 zC hX dL_law_1230 (by omega) hL ?_
  refine v_cV2 (As := [.int (xs (i + 1)), .int (xs (i + 2))]) (st := []) 1234 0 [0, 1, 2, 3, 4, 5, 6, 7, 8, 9, 10, 11, 12] zC dL_law_1231 hA (c_X4_list (ev_l E) (ev_D E) cI (x0 := x0) (xm := c0) (xp := e0) (g0 := g0) (s0 := s0) (w0 := w0) (y0 := y0) (pd := pd) (rs := rs) (b0 := b0) (b1 := b1) (b2 := b2) (b3 := b3) (P := P) (Q := Q) (mf := mf) (M := M) (kn := kn) (a0 := a0) (a1 := a1) (a2 := a2) (a3 := a3) (a4 := a4) (a5 := a5) (a6 := a6) (n := n) (m := m) (sh := sh) (ki := ki) (op := op) (fa := fa) (K := K) (G := G) (T := T) (R := R) (u := (xs (i + 1))) (w := (xs (i + 2))) (hw := hw) (hB := hB) (hM := hM)) cf_X4_list lk_L_150 rfl rfl rfl rfl rfl (by decide +kernel) (Nat.le_of_ble_eq_true rfl) (fun rv_1 wv_2 hp_3 hm_4 => ?_)
  clear hm_4
  obtain ⟨P1_5, Q1_6, mg_7, X_8, Y_9, rc_10, rv_11, hq_12, hB1_13, hM1_14, rfl, rfl⟩ := hp_3
  rw [sa_16]
  refine v_al_n 1235 zC dL_law_1234 1 rfl ?_
  refine v_al_n 1236 zC dL_law_1235 3 rfl ?_
  refine v_il_n 1237 zC dL_law_1236 0 rfl ?_
  refine v_ic (v := (nI 1)) 1238 zC dL_law_1237 (by decide +kernel) ?_
  refine v_iadd (v := (nI (i + 1))) 1239 zC dL_law_1238 (nI_add _ _) ?_
  refine v_sld 1240 zC hX dL_law_1239 (by omega) hL ?_
  refine v_al_n 1241 zC dL_law_1240 3 rfl ?_
  refine v_il_n 1242 zC dL_law_1241 0 rfl ?_
  refine v_ic (v := (nI 2)) 1243 zC dL_law_1242 (by decide +kernel) ?_
  refine v_iadd (v := (nI (i + 2))) 1244 zC dL_law_1243 (nI_add _ _) ?_
  refine v_sld 1245 zC hX dL_law_1244 (by omega) hL ?_
  refine v_swap ?_
  refine v_cV2 (As := [.int (xs (i + 1)), .int (xs (i + 2))]) (st := [.int rv_11]) 1248 0 [0, 1, 2, 3, 4, 5, 6, 7, 8, 9, 10, 11, 12] zC dL_law_1245 hA (c_X5_list (ev_l E) (ev_D E) cI (r0 := r0) (k1 := k1) (k2 := k2) (k3 := k3) (k4 := k4) (k6 := k6) (k7 := k7) (k8 := k8) (k10 := k10) (k12 := k12) (k13 := k13) (k14 := k14) (k15 := k15) (k16 := k16) (k21 := k21) (k22 := k22) (k23 := k23) (k24 := k24) (k25 := k25) (k30 := k30) (k31 := k31) (k33 := k33) (n := n) (m := m) (ls := ls) (ap := ap) (sq := sq) (pl := pl) (tz := cs) (rs := rs) (bd := bd) (pd := pd) (tk := tk) (kv := kv) (sd := sd) (ki := ki) (op := op) (fa := fa) (K := K) (G := G) (T := T) (sh := sh) (kw := kw) (kn := kr) (M := Mr) (mw := mw) (R := R) (u := (xs (i + 1))) (w := (xs (i + 2))) (hw := hw) (hkw := hkw) (hkn := hkr) (hM := hMr)) cf_X5_list lk_L_153 rfl rfl rfl rfl rfl (by decide +kernel) (Nat.le_of_ble_eq_true rfl) (fun rv_15 wv_16 hp_17 hm_18 => ?_)
  clear hm_18
  obtain ⟨kw1_19, kn1_20, M1_21, mw1_22, rc_23, rv_24, hq_25, hkw1_26, hkn1_27, hM1_28, rfl, rfl⟩ := hp_17
  rw [sa_17]
  obtain ⟨ez, ey⟩ := Prod.mk.inj (hq_12.symm.trans hq_25)
  subst ez
  have ez := ey
  subst ez
  refine v_eqi 1756 zC dL_law_1248 (by first | rfl | assumption) ?_
  refine v_swap ?_
  exact kk n m sh n5 m5 sh5 aw5 n2 m2 sh2 aw2 P1_5 Q1_6 cs ls rs ap sq pl ki op fa K G T ki5 op5 fa5 K5 G5 T5 ki2 op2 fa2 K2 G2 T2 mg_7 X_8 so wh va sg rw (rf R rc_10) kw1_19 kn1_20 mw1_22 pi tl kp im tu to Y_9 M1_21 lo pd bd tk kv sd ⟨(by first | assumption | exact trivial | omega | exact hf9 | exact hH9), (by first | assumption | exact trivial | omega | exact hf9 | exact hH9), (by first | assumption | exact trivial | omega | exact hf9 | exact hH9), (by first | assumption | exact trivial | omega | exact hf9 | exact hH9), (by first | assumption | exact trivial | omega | exact hf9 | exact hH9), (by first | assumption | exact trivial | omega | exact hf9 | exact hH9), (by first | assumption | exact trivial | omega | exact hf9 | exact hH9), (by first | assumption | exact trivial | omega | exact hf9 | exact hH9), (by first | assumption | exact trivial | omega | exact hf9 | exact hH9), (by first | assumption | exact trivial | omega | exact hf9 | exact hH9), (by first | assumption | exact trivial | omega | exact hf9 | exact hH9), (by first | assumption | exact trivial | omega | exact hf9 | exact hH9), (by first | assumption | exact trivial | omega | exact hf9 | exact hH9), (by first | assumption | exact trivial | omega | exact hf9 | exact hH9), (by first | assumption | exact trivial | omega | exact hf9 | exact hH9)⟩
set_option maxRecDepth 100000 in
set_option maxHeartbeats 4000000 in
theorem lawc_34 {E : EV} {cI : ClassId} {b L i : Nat} {xs : Nat → Int32} (x0 a0 a1 a2 a3 a4 a5 a6 c0 c1 c2 c3 c4 c5 c6 e0 e1 e2 e3 e4 e5 e6 b0 b1 b2 b3 g0 g1 g2 g3 s0 s1 w0 y0 r0 k1 k2 k3 k4 k6 k7 k8 k10 k12 k13 k14 k15 k16 k21 k22 k23 k24 k25 k30 k31 k33 : Nat) (zC : CX E cL_law RL (some .boolean) cI room_1) (hA : ∀ q, (ev_s E).heap.size ≤ q → ev_A E q) (hX : XS E b L xs) (hL : L ≤ 2560) (hi : i + 5 ≤ L) (kk : LGO E cI 1756 b i x0 a0 a1 a2 a3 a4 a5 a6 c0 c1 c2 c3 c4 c5 c6 e0 e1 e2 e3 e4 e5 e6 b0 b1 b2 b3 g0 g1 g2 g3 s0 s1 w0 y0 r0 k1 k2 k3 k4 k6 k7 k8 k10 k12 k13 k14 k15 k16 k21 k22 k23 k24 k25 k30 k31 k33) : LGO E cI 1253 b i x0 a0 a1 a2 a3 a4 a5 a6 c0 c1 c2 c3 c4 c5 c6 e0 e1 e2 e3 e4 e5 e6 b0 b1 b2 b3 g0 g1 g2 g3 s0 s1 w0 y0 r0 k1 k2 k3 k4 k6 k7 k8 k10 k12 k13 k14 k15 k16 k21 k22 k23 k24 k25 k30 k31 k33 := by
  intro n m sh n5 m5 sh5 aw5 n2 m2 sh2 aw2 P Q cs ls rs ap sq pl ki op fa K G T ki5 op5 fa5 K5 G5 T5 ki2 op2 fa2 K2 G2 T2 mf kn so wh va sg rw R kw kr mw pi tl kp im tu to M Mr lo pd bd tk kv sd hI
  obtain ⟨hw, hw5, hw2, hB, hM, hcs, hH, hl, hsg, hr, hrw, hkw, hkr, hMr, hE9⟩ := hI
  obtain ⟨hn, hm, hsh, hki, hop, hfa, hK, hG, hT, -⟩ := id hw
  refine v_al_n 1254 zC dL_law_1253 2 rfl ?_
  refine v_al_n 1255 zC dL_law_1254 3 rfl ?_
  refine v_il_n 1256 zC dL_law_1255 0 rfl ?_
  refine v_ic (v := (nI 1)) 1257 zC dL_law_1256 (by decide +kernel) ?_
  refine v_iadd (v := (nI (i + 1))) 1258 zC dL_law_1257 (nI_add _ _) ?_
  refine v_sld 1259 zC hX dL_law_1258 (by omega) hL ?_
  refine v_cV2 (As := [.int (xs (i + 1))]) (st := []) 1262 0 [0, 1, 2, 3, 4, 5, 6, 7, 20, 21, 22, 23, 24, 25, 26, 8, 9, 10, 11, 12] zC dL_law_1259 hA (c_X4_days (ev_l E) (ev_D E) cI (x0 := x0) (xp := e0) (g0 := g0) (s0 := s0) (w0 := w0) (y0 := y0) (pd := pd) (rs := rs) (b0 := b0) (b1 := b1) (b2 := b2) (b3 := b3) (P := P) (Q := Q) (mf := mf) (M := M) (kn := kn) (a0 := a0) (a1 := a1) (a2 := a2) (a3 := a3) (a4 := a4) (a5 := a5) (a6 := a6) (n := n) (m := m) (sh := sh) (ki := ki) (op := op) (fa := fa) (K := K) (G := G) (T := T) (c0 := c0) (c1 := c1) (c2 := c2) (c3 := c3) (c4 := c4) (c5 := c5) (c6 := c6) (n1 := n5) (m1 := m5) (sh1 := sh5) (aw1 := aw5) (ki1 := ki5) (op1 := op5) (fa1 := fa5) (K1 := K5) (G1 := G5) (T1 := T5) (R := R) (u := (xs (i + 1))) (hw := hw) (hw1 := hw5) (hB := hB) (hM := hM)) cf_X4_days lk_L_154 rfl rfl rfl rfl rfl (by decide +kernel) (Nat.le_of_ble_eq_true rfl) (fun rv_1 wv_2 hp_3 hm_4 => ?_)
  clear hm_4
  obtain ⟨P1_5, Q1_6, mg_7, X_8, Y_9, n3_10, m3_11, s3_12, w3_13, ki3_14, op3_15, fa3_16, K3_17, G3_18, T3_19, rc_20, rv_21, hq_22, hF_23, hB1_24, hM1_25, rfl, rfl⟩ := hp_3
  rw [sa_19]
  refine v_al_n 1263 zC dL_law_1262 1 rfl ?_
  refine v_al_n 1264 zC dL_law_1263 3 rfl ?_
  refine v_il_n 1265 zC dL_law_1264 0 rfl ?_
  refine v_ic (v := (nI 1)) 1266 zC dL_law_1265 (by decide +kernel) ?_
  refine v_iadd (v := (nI (i + 1))) 1267 zC dL_law_1266 (nI_add _ _) ?_
  refine v_sld 1268 zC hX dL_law_1267 (by omega) hL ?_
  refine v_swap ?_
  refine v_cV2 (As := [.int (xs (i + 1))]) (st := [.int rv_21]) 1271 0 [0, 1, 2, 3, 4, 5, 6, 7, 8, 9, 10, 11, 13, 12] zC dL_law_1268 hA (c_X5_days (ev_l E) (ev_D E) cI (r0 := r0) (k1 := k1) (k2 := k2) (k3 := k3) (k4 := k4) (k6 := k6) (k7 := k7) (k8 := k8) (k10 := k10) (k12 := k12) (k13 := k13) (k14 := k14) (k15 := k15) (k16 := k16) (k21 := k21) (k22 := k22) (k23 := k23) (k24 := k24) (k25 := k25) (k30 := k30) (k31 := k31) (k33 := k33) (n := n) (m := m) (ls := ls) (ap := ap) (sq := sq) (pl := pl) (tz := cs) (rs := rs) (bd := bd) (pd := pd) (tk := tk) (kv := kv) (sd := sd) (ki := ki) (op := op) (fa := fa) (K := K) (G := G) (T := T) (sh := sh) (kw := kw) (kn := kr) (M := Mr) (mw := mw) (kp := kp) (R := R) (w := (xs (i + 1))) (hw := hw) (hkw := hkw) (hkn := hkr) (hM := hMr)) cf_X5_days lk_L_157 rfl rfl rfl rfl rfl (by decide +kernel) (Nat.le_of_ble_eq_true rfl) (fun rv_26 wv_27 hp_28 hm_29 => ?_)
  clear hm_29
  obtain ⟨kw1_30, kn1_31, M1_32, mw1_33, kp1_34, pl1_35, tk1_36, kv1_37, rc_38, rv_39, hq_40, hkw1_41, hkn1_42, hM1_43, rfl, rfl⟩ := hp_28
  rw [sa_20]
  obtain ⟨ez, ey⟩ := Prod.mk.inj (hq_22.symm.trans hq_40)
  subst ez
  have ez := ey
  subst ez
  refine v_eqi 1756 zC dL_law_1271 (by first | rfl | assumption) ?_
  refine v_swap ?_
  exact kk n m sh n3_10 m3_11 s3_12 w3_13 n2 m2 sh2 aw2 P1_5 Q1_6 cs ls rs ap sq pl1_35 ki op fa K G T ki3_14 op3_15 fa3_16 K3_17 G3_18 T3_19 ki2 op2 fa2 K2 G2 T2 mg_7 X_8 so wh va sg rw (rf R rc_20) kw1_30 kn1_31 mw1_33 pi tl kp1_34 im tu to Y_9 M1_32 lo pd bd tk1_36 kv1_37 sd ⟨(by first | assumption | exact trivial | omega | exact hf9 | exact hH9), (by first | assumption | exact trivial | omega | exact hf9 | exact hH9), (by first | assumption | exact trivial | omega | exact hf9 | exact hH9), (by first | assumption | exact trivial | omega | exact hf9 | exact hH9), (by first | assumption | exact trivial | omega | exact hf9 | exact hH9), (by first | assumption | exact trivial | omega | exact hf9 | exact hH9), (by first | assumption | exact trivial | omega | exact hf9 | exact hH9), (by first | assumption | exact trivial | omega | exact hf9 | exact hH9), (by first | assumption | exact trivial | omega | exact hf9 | exact hH9), (by first | assumption | exact trivial | omega | exact hf9 | exact hH9), (by first | assumption | exact trivial | omega | exact hf9 | exact hH9), (by first | assumption | exact trivial | omega | exact hf9 | exact hH9), (by first | assumption | exact trivial | omega | exact hf9 | exact hH9), (by first | assumption | exact trivial | omega | exact hf9 | exact hH9), (by first | assumption | exact trivial | omega | exact hf9 | exact hH9)⟩
set_option maxRecDepth 100000 in
set_option maxHeartbeats 4000000 in
theorem lawc_35 {E : EV} {cI : ClassId} {b L i : Nat} {xs : Nat → Int32} (x0 a0 a1 a2 a3 a4 a5 a6 c0 c1 c2 c3 c4 c5 c6 e0 e1 e2 e3 e4 e5 e6 b0 b1 b2 b3 g0 g1 g2 g3 s0 s1 w0 y0 r0 k1 k2 k3 k4 k6 k7 k8 k10 k12 k13 k14 k15 k16 k21 k22 k23 k24 k25 k30 k31 k33 : Nat) (zC : CX E cL_law RL (some .boolean) cI room_1) (hA : ∀ q, (ev_s E).heap.size ≤ q → ev_A E q) (hX : XS E b L xs) (hL : L ≤ 2560) (hi : i + 5 ≤ L) (kk : LGO E cI 1756 b i x0 a0 a1 a2 a3 a4 a5 a6 c0 c1 c2 c3 c4 c5 c6 e0 e1 e2 e3 e4 e5 e6 b0 b1 b2 b3 g0 g1 g2 g3 s0 s1 w0 y0 r0 k1 k2 k3 k4 k6 k7 k8 k10 k12 k13 k14 k15 k16 k21 k22 k23 k24 k25 k30 k31 k33) : LGO E cI 1276 b i x0 a0 a1 a2 a3 a4 a5 a6 c0 c1 c2 c3 c4 c5 c6 e0 e1 e2 e3 e4 e5 e6 b0 b1 b2 b3 g0 g1 g2 g3 s0 s1 w0 y0 r0 k1 k2 k3 k4 k6 k7 k8 k10 k12 k13 k14 k15 k16 k21 k22 k23 k24 k25 k30 k31 k33 := by
  intro n m sh n5 m5 sh5 aw5 n2 m2 sh2 aw2 P Q cs ls rs ap sq pl ki op fa K G T ki5 op5 fa5 K5 G5 T5 ki2 op2 fa2 K2 G2 T2 mf kn so wh va sg rw R kw kr mw pi tl kp im tu to M Mr lo pd bd tk kv sd hI
  obtain ⟨hw, hw5, hw2, hB, hM, hcs, hH, hl, hsg, hr, hrw, hkw, hkr, hMr, hE9⟩ := hI
  obtain ⟨hn, hm, hsh, hki, hop, hfa, hK, hG, hT, -⟩ := id hw
  refine v_al_n 1277 zC dL_law_1276 2 rfl ?_
  refine v_cV2 (As := []) (st := []) 1280 0 [0, 1, 2, 3, 4, 5, 6, 7, 20, 21, 22, 23, 24, 25, 26, 8, 9, 10, 11] zC dL_law_1277 hA (c_X4_needed (ev_l E) (ev_D E) cI (x0 := x0) (xp := e0) (g0 := g0) (s0 := s0) (w0 := w0) (y0 := y0) (pd := pd) (rs := rs) (b0 := b0) (b1 := b1) (b2 := b2) (b3 := b3) (P := P) (Q := Q) (mf := mf) (M := M) (kn := kn) (a0 := a0) (a1 := a1) (a2 := a2) (a3 := a3) (a4 := a4) (a5 := a5) (a6 := a6) (n := n) (m := m) (sh := sh) (ki := ki) (op := op) (fa := fa) (K := K) (G := G) (T := T) (c0 := c0) (c1 := c1) (c2 := c2) (c3 := c3) (c4 := c4) (c5 := c5) (c6 := c6) (n1 := n5) (m1 := m5) (sh1 := sh5) (aw1 := aw5) (ki1 := ki5) (op1 := op5) (fa1 := fa5) (K1 := K5) (G1 := G5) (T1 := T5) (hw := hw) (hw1 := hw5) (hB := hB) (hM := hM)) cf_X4_needed lk_L_158 rfl rfl rfl rfl rfl (by decide +kernel) (Nat.le_of_ble_eq_true rfl) (fun rv_1 wv_2 hp_3 hm_4 => ?_)
  clear hm_4
  obtain ⟨P1_5, Q1_6, mg_7, X_8, Y_9, n3_10, m3_11, s3_12, w3_13, ki3_14, op3_15, fa3_16, K3_17, G3_18, T3_19, hF_20, hB1_21, hM1_22, rfl, rfl⟩ := hp_3
  rw [sa_21]
  refine v_al_n 1281 zC dL_law_1280 1 rfl ?_
  refine v_swap ?_
  refine v_cV2 (As := []) (st := [.int (nI (NEED (n, m, sh, 0, ki, op, fa, K, G, T)))]) 1284 0 [0, 1, 2, 3, 4, 5, 6, 7, 8, 9, 10, 11] zC dL_law_1281 hA (c_X5_needed (ev_l E) (ev_D E) cI (r0 := r0) (k1 := k1) (k2 := k2) (k3 := k3) (k4 := k4) (k6 := k6) (k7 := k7) (k8 := k8) (k10 := k10) (k12 := k12) (k13 := k13) (k14 := k14) (k15 := k15) (k16 := k16) (k21 := k21) (k22 := k22) (k23 := k23) (k24 := k24) (k25 := k25) (k30 := k30) (k31 := k31) (k33 := k33) (n := n) (m := m) (ls := ls) (ap := ap) (sq := sq) (pl := pl) (tz := cs) (rs := rs) (bd := bd) (pd := pd) (tk := tk) (kv := kv) (sd := sd) (ki := ki) (op := op) (fa := fa) (K := K) (G := G) (T := T) (sh := sh) (kw := kw) (kn := kr) (M := Mr) (mw := mw) (hw := hw) (hkw := hkw) (hkn := hkr) (hM := hMr)) cf_X5_needed lk_L_161 rfl rfl rfl rfl rfl (by decide +kernel) (Nat.le_of_ble_eq_true rfl) (fun rv_23 wv_24 hp_25 hm_26 => ?_)
  clear hm_26
  obtain ⟨kw1_27, kn1_28, M1_29, mw1_30, hkw1_31, hkn1_32, hM1_33, rfl, rfl⟩ := hp_25
  rw [sa_15]
  refine v_eqi 1756 zC dL_law_1284 (by first | rfl | assumption) ?_
  refine v_swap ?_
  exact kk n m sh n3_10 m3_11 s3_12 w3_13 n2 m2 sh2 aw2 P1_5 Q1_6 cs ls rs ap sq pl ki op fa K G T ki3_14 op3_15 fa3_16 K3_17 G3_18 T3_19 ki2 op2 fa2 K2 G2 T2 mg_7 X_8 so wh va sg rw R kw1_27 kn1_28 mw1_30 pi tl kp im tu to Y_9 M1_29 lo pd bd tk kv sd ⟨(by first | assumption | exact trivial | omega | exact hf9 | exact hH9), (by first | assumption | exact trivial | omega | exact hf9 | exact hH9), (by first | assumption | exact trivial | omega | exact hf9 | exact hH9), (by first | assumption | exact trivial | omega | exact hf9 | exact hH9), (by first | assumption | exact trivial | omega | exact hf9 | exact hH9), (by first | assumption | exact trivial | omega | exact hf9 | exact hH9), (by first | assumption | exact trivial | omega | exact hf9 | exact hH9), (by first | assumption | exact trivial | omega | exact hf9 | exact hH9), (by first | assumption | exact trivial | omega | exact hf9 | exact hH9), (by first | assumption | exact trivial | omega | exact hf9 | exact hH9), (by first | assumption | exact trivial | omega | exact hf9 | exact hH9), (by first | assumption | exact trivial | omega | exact hf9 | exact hH9), (by first | assumption | exact trivial | omega | exact hf9 | exact hH9), (by first | assumption | exact trivial | omega | exact hf9 | exact hH9), (by first | assumption | exact trivial | omega | exact hf9 | exact hH9)⟩
set_option maxRecDepth 100000 in
set_option maxHeartbeats 4000000 in
theorem lawc_36 {E : EV} {cI : ClassId} {b L i : Nat} {xs : Nat → Int32} (x0 a0 a1 a2 a3 a4 a5 a6 c0 c1 c2 c3 c4 c5 c6 e0 e1 e2 e3 e4 e5 e6 b0 b1 b2 b3 g0 g1 g2 g3 s0 s1 w0 y0 r0 k1 k2 k3 k4 k6 k7 k8 k10 k12 k13 k14 k15 k16 k21 k22 k23 k24 k25 k30 k31 k33 : Nat) (zC : CX E cL_law RL (some .boolean) cI room_1) (hA : ∀ q, (ev_s E).heap.size ≤ q → ev_A E q) (hX : XS E b L xs) (hL : L ≤ 2560) (hi : i + 5 ≤ L) (kk : LGO E cI 1756 b i x0 a0 a1 a2 a3 a4 a5 a6 c0 c1 c2 c3 c4 c5 c6 e0 e1 e2 e3 e4 e5 e6 b0 b1 b2 b3 g0 g1 g2 g3 s0 s1 w0 y0 r0 k1 k2 k3 k4 k6 k7 k8 k10 k12 k13 k14 k15 k16 k21 k22 k23 k24 k25 k30 k31 k33) : LGO E cI 1289 b i x0 a0 a1 a2 a3 a4 a5 a6 c0 c1 c2 c3 c4 c5 c6 e0 e1 e2 e3 e4 e5 e6 b0 b1 b2 b3 g0 g1 g2 g3 s0 s1 w0 y0 r0 k1 k2 k3 k4 k6 k7 k8 k10 k12 k13 k14 k15 k16 k21 k22 k23 k24 k25 k30 k31 k33 := by
  intro n m sh n5 m5 sh5 aw5 n2 m2 sh2 aw2 P Q cs ls rs ap sq pl ki op fa K G T ki5 op5 fa5 K5 G5 T5 ki2 op2 fa2 K2 G2 T2 mf kn so wh va sg rw R kw kr mw pi tl kp im tu to M Mr lo pd bd tk kv sd hI
  obtain ⟨hw, hw5, hw2, hB, hM, hcs, hH, hl, hsg, hr, hrw, hkw, hkr, hMr, hE9⟩ := hI
  obtain ⟨hn, hm, hsh, hki, hop, hfa, hK, hG, hT, -⟩ := id hw
  refine v_al_n 1290 zC dL_law_1289 2 rfl ?_
  refine v_al_n 1291 zC dL_law_1290 3 rfl ?_
  refine v_il_n 1292 zC dL_law_1291 0 rfl ?_
  refine v_ic (v := (nI 1)) 1293 zC dL_law_1292 (by decide +kernel) ?_
  refine v_iadd (v := (nI (i + 1))) 1294 zC dL_law_1293 (nI_add _ _) ?_
  refine v_sld 1295 zC hX dL_law_1294 (by omega) hL ?_
  refine v_cV2 (As := [.int (xs (i + 1))]) (st := []) 1298 0 [0, 1, 2, 3, 4, 5, 6, 7, 8, 9, 10, 11, 12] zC dL_law_1295 hA (c_X4_loudest (ev_l E) (ev_D E) cI (x0 := x0) (xm := c0) (xp := e0) (g0 := g0) (s0 := s0) (w0 := w0) (y0 := y0) (pd := pd) (rs := rs) (b0 := b0) (b1 := b1) (b2 := b2) (b3 := b3) (P := P) (Q := Q) (mf := mf) (M := M) (kn := kn) (a0 := a0) (a1 := a1) (a2 := a2) (a3 := a3) (a4 := a4) (a5 := a5) (a6 := a6) (n := n) (m := m) (sh := sh) (ki := ki) (op := op) (fa := fa) (K := K) (G := G) (T := T) (R := R) (w := (xs (i + 1))) (hw := hw) (hB := hB) (hM := hM)) cf_X4_loudest lk_L_162 rfl rfl rfl rfl rfl (by decide +kernel) (Nat.le_of_ble_eq_true rfl) (fun rv_1 wv_2 hp_3 hm_4 => ?_)
  clear hm_4
  obtain ⟨P1_5, Q1_6, mg_7, X_8, Y_9, rc_10, rv_11, hq_12, hB1_13, hM1_14, rfl, rfl⟩ := hp_3
  rw [sa_16]
  refine v_al_n 1299 zC dL_law_1298 1 rfl ?_
  refine v_al_n 1300 zC dL_law_1299 3 rfl ?_
  refine v_il_n 1301 zC dL_law_1300 0 rfl ?_
  refine v_ic (v := (nI 1)) 1302 zC dL_law_1301 (by decide +kernel) ?_
  refine v_iadd (v := (nI (i + 1))) 1303 zC dL_law_1302 (nI_add _ _) ?_
  refine v_sld 1304 zC hX dL_law_1303 (by omega) hL ?_
  refine v_swap ?_
  refine v_cV2 (As := [.int (xs (i + 1))]) (st := [.int rv_11]) 1307 0 [0, 1, 2, 3, 4, 5, 6, 7, 8, 9, 10, 11, 12] zC dL_law_1304 hA (c_X5_loudest (ev_l E) (ev_D E) cI (r0 := r0) (k1 := k1) (k2 := k2) (k3 := k3) (k4 := k4) (k6 := k6) (k7 := k7) (k8 := k8) (k10 := k10) (k12 := k12) (k13 := k13) (k14 := k14) (k15 := k15) (k16 := k16) (k21 := k21) (k22 := k22) (k23 := k23) (k24 := k24) (k25 := k25) (k30 := k30) (k31 := k31) (k33 := k33) (n := n) (m := m) (ls := ls) (ap := ap) (sq := sq) (pl := pl) (tz := cs) (rs := rs) (bd := bd) (pd := pd) (tk := tk) (kv := kv) (sd := sd) (ki := ki) (op := op) (fa := fa) (K := K) (G := G) (T := T) (sh := sh) (kw := kw) (kn := kr) (M := Mr) (mw := mw) (R := R) (w := (xs (i + 1))) (hw := hw) (hkw := hkw) (hkn := hkr) (hM := hMr)) cf_X5_loudest lk_L_165 rfl rfl rfl rfl rfl (by decide +kernel) (Nat.le_of_ble_eq_true rfl) (fun rv_15 wv_16 hp_17 hm_18 => ?_)
  clear hm_18
  obtain ⟨kw1_19, kn1_20, M1_21, mw1_22, rc_23, rv_24, hq_25, hkw1_26, hkn1_27, hM1_28, rfl, rfl⟩ := hp_17
  rw [sa_17]
  obtain ⟨ez, ey⟩ := Prod.mk.inj (hq_12.symm.trans hq_25)
  subst ez
  have ez := ey
  subst ez
  refine v_eqi 1756 zC dL_law_1307 (by first | rfl | assumption) ?_
  refine v_swap ?_
  exact kk n m sh n5 m5 sh5 aw5 n2 m2 sh2 aw2 P1_5 Q1_6 cs ls rs ap sq pl ki op fa K G T ki5 op5 fa5 K5 G5 T5 ki2 op2 fa2 K2 G2 T2 mg_7 X_8 so wh va sg rw (rf R rc_10) kw1_19 kn1_20 mw1_22 pi tl kp im tu to Y_9 M1_21 lo pd bd tk kv sd ⟨(by first | assumption | exact trivial | omega | exact hf9 | exact hH9), (by first | assumption | exact trivial | omega | exact hf9 | exact hH9), (by first | assumption | exact trivial | omega | exact hf9 | exact hH9), (by first | assumption | exact trivial | omega | exact hf9 | exact hH9), (by first | assumption | exact trivial | omega | exact hf9 | exact hH9), (by first | assumption | exact trivial | omega | exact hf9 | exact hH9), (by first | assumption | exact trivial | omega | exact hf9 | exact hH9), (by first | assumption | exact trivial | omega | exact hf9 | exact hH9), (by first | assumption | exact trivial | omega | exact hf9 | exact hH9), (by first | assumption | exact trivial | omega | exact hf9 | exact hH9), (by first | assumption | exact trivial | omega | exact hf9 | exact hH9), (by first | assumption | exact trivial | omega | exact hf9 | exact hH9), (by first | assumption | exact trivial | omega | exact hf9 | exact hH9), (by first | assumption | exact trivial | omega | exact hf9 | exact hH9), (by first | assumption | exact trivial | omega | exact hf9 | exact hH9)⟩
set_option maxRecDepth 100000 in
set_option maxHeartbeats 4000000 in
theorem lawc_37 {E : EV} {cI : ClassId} {b L i : Nat} {xs : Nat → Int32} (x0 a0 a1 a2 a3 a4 a5 a6 c0 c1 c2 c3 c4 c5 c6 e0 e1 e2 e3 e4 e5 e6 b0 b1 b2 b3 g0 g1 g2 g3 s0 s1 w0 y0 r0 k1 k2 k3 k4 k6 k7 k8 k10 k12 k13 k14 k15 k16 k21 k22 k23 k24 k25 k30 k31 k33 : Nat) (zC : CX E cL_law RL (some .boolean) cI room_1) (hA : ∀ q, (ev_s E).heap.size ≤ q → ev_A E q) (hX : XS E b L xs) (hL : L ≤ 2560) (hi : i + 5 ≤ L) (kk : LGO E cI 1756 b i x0 a0 a1 a2 a3 a4 a5 a6 c0 c1 c2 c3 c4 c5 c6 e0 e1 e2 e3 e4 e5 e6 b0 b1 b2 b3 g0 g1 g2 g3 s0 s1 w0 y0 r0 k1 k2 k3 k4 k6 k7 k8 k10 k12 k13 k14 k15 k16 k21 k22 k23 k24 k25 k30 k31 k33) : LGO E cI 1312 b i x0 a0 a1 a2 a3 a4 a5 a6 c0 c1 c2 c3 c4 c5 c6 e0 e1 e2 e3 e4 e5 e6 b0 b1 b2 b3 g0 g1 g2 g3 s0 s1 w0 y0 r0 k1 k2 k3 k4 k6 k7 k8 k10 k12 k13 k14 k15 k16 k21 k22 k23 k24 k25 k30 k31 k33 := by
  intro n m sh n5 m5 sh5 aw5 n2 m2 sh2 aw2 P Q cs ls rs ap sq pl ki op fa K G T ki5 op5 fa5 K5 G5 T5 ki2 op2 fa2 K2 G2 T2 mf kn so wh va sg rw R kw kr mw pi tl kp im tu to M Mr lo pd bd tk kv sd hI
  obtain ⟨hw, hw5, hw2, hB, hM, hcs, hH, hl, hsg, hr, hrw, hkw, hkr, hMr, hE9⟩ := hI
  obtain ⟨hn, hm, hsh, hki, hop, hfa, hK, hG, hT, -⟩ := id hw
  refine v_al_n 1313 zC dL_law_1312 2 rfl ?_
  refine v_al_n 1314 zC dL_law_1313 3 rfl ?_
  refine v_il_n 1315 zC dL_law_1314 0 rfl ?_
  refine v_ic (v := (nI 1)) 1316 zC dL_law_1315 (by decide +kernel) ?_
  refine v_iadd (v := (nI (i + 1))) 1317 zC dL_law_1316 (nI_add _ _) ?_
  refine v_sld 1318 zC hX dL_law_1317 (by omega) hL ?_
  refine v_al_n 1319 zC dL_law_1318 3 rfl ?_
  refine v_il_n 1320 zC dL_law_1319 0 rfl ?_
  refine v_ic (v := (nI 2)) 1321 zC dL_law_1320 (by decide +kernel) ?_
  refine v_iadd (v := (nI (i + 2))) 1322 zC dL_law_1321 (nI_add _ _) ?_
  refine v_sld 1323 zC hX dL_law_1322 (by omega) hL ?_
  refine v_cV2 (As := [.int (xs (i + 1)), .int (xs (i + 2))]) (st := []) 1326 0 [0, 1, 2, 3, 4, 5, 6, 7, 20, 21, 22, 23, 24, 25, 26, 8, 9, 10, 11, 12] zC dL_law_1323 hA (c_X4_narrow (ev_l E) (ev_D E) cI (x0 := x0) (xp := e0) (g0 := g0) (s0 := s0) (w0 := w0) (y0 := y0) (pd := pd) (rs := rs) (b0 := b0) (b1 := b1) (b2 := b2) (b3 := b3) (P := P) (Q := Q) (mf := mf) (M := M) (kn := kn) (a0 := a0) (a1 := a1) (a2 := a2) (a3 := a3) (a4 := a4) (a5 := a5) (a6 := a6) (n := n) (m := m) (sh := sh) (ki := ki) (op := op) (fa := fa) (K := K) (G := G) (T := T) (c0 := c0) (c1 := c1) (c2 := c2) (c3 := c3) (c4 := c4) (c5 := c5) (c6 := c6) (n1 := n5) (m1 := m5) (sh1 := sh5) (aw1 := aw5) (ki1 := ki5) (op1 := op5) (fa1 := fa5) (K1 := K5) (G1 := G5) (T1 := T5) (R := R) (p := (xs (i + 1))) (w := (xs (i + 2))) (hw := hw) (hw1 := hw5) (hB := hB) (hM := hM)) cf_X4_narrow lk_L_166 rfl rfl rfl rfl rfl (by decide +kernel) (Nat.le_of_ble_eq_true rfl) (fun rv_1 wv_2 hp_3 hm_4 => ?_)
  clear hm_4
  obtain ⟨P1_5, Q1_6, mg_7, X_8, Y_9, n3_10, m3_11, s3_12, w3_13, ki3_14, op3_15, fa3_16, K3_17, G3_18, T3_19, rc_20, rv_21, hq_22, hF_23, hB1_24, hM1_25, rfl, rfl⟩ := hp_3
  rw [sa_19]
  refine v_al_n 1327 zC dL_law_1326 1 rfl ?_
  refine v_al_n 1328 zC dL_law_1327 3 rfl ?_
  refine v_il_n 1329 zC dL_law_1328 0 rfl ?_
  refine v_ic (v := (nI 1)) 1330 zC dL_law_1329 (by decide +kernel) ?_
  refine v_iadd (v := (nI (i + 1))) 1331 zC dL_law_1330 (nI_add _ _) ?_
  refine v_sld 1332 zC hX dL_law_1331 (by omega) hL ?_
  refine v_al_n 1333 zC dL_law_1332 3 rfl ?_
  refine v_il_n 1334 zC dL_law_1333 0 rfl ?_
  refine v_ic (v := (nI 2)) 1335 zC dL_law_1334 (by decide +kernel) ?_
  refine v_iadd (v := (nI (i + 2))) 1336 zC dL_law_1335 (nI_add _ _) ?_
  refine v_sld 1337 zC hX dL_law_1336 (by omega) hL ?_
  refine v_swap ?_
  refine v_cV2 (As := [.int (xs (i + 1)), .int (xs (i + 2))]) (st := [.int rv_21]) 1340 0 [0, 1, 2, 3, 4, 5, 6, 7, 8, 9, 10, 11, 12] zC dL_law_1337 hA (c_X5_narrow (ev_l E) (ev_D E) cI (r0 := r0) (k1 := k1) (k2 := k2) (k3 := k3) (k4 := k4) (k6 := k6) (k7 := k7) (k8 := k8) (k10 := k10) (k12 := k12) (k13 := k13) (k14 := k14) (k15 := k15) (k16 := k16) (k21 := k21) (k22 := k22) (k23 := k23) (k24 := k24) (k25 := k25) (k30 := k30) (k31 := k31) (k33 := k33) (n := n) (m := m) (ls := ls) (ap := ap) (sq := sq) (pl := pl) (tz := cs) (rs := rs) (bd := bd) (pd := pd) (tk := tk) (kv := kv) (sd := sd) (ki := ki) (op := op) (fa := fa) (K := K) (G := G) (T := T) (sh := sh) (kw := kw) (kn := kr) (M := Mr) (mw := mw) (R := R) (p := (xs (i + 1))) (w := (xs (i + 2))) (hw := hw) (hkw := hkw) (hkn := hkr) (hM := hMr)) cf_X5_narrow lk_L_169 rfl rfl rfl rfl rfl (by decide +kernel) (Nat.le_of_ble_eq_true rfl) (fun rv_26 wv_27 hp_28 hm_29 => ?_)
  clear hm_29
  obtain ⟨kw1_30, kn1_31, M1_32, mw1_33, rc_34, rv_35, hq_36, hkw1_37, hkn1_38, hM1_39, rfl, rfl⟩ := hp_28
  rw [sa_17]
  obtain ⟨ez, ey⟩ := Prod.mk.inj (hq_22.symm.trans hq_36)
  subst ez
  have ez := ey
  subst ez
  refine v_eqi 1756 zC dL_law_1340 (by first | rfl | assumption) ?_
  refine v_swap ?_
  exact kk n m sh n3_10 m3_11 s3_12 w3_13 n2 m2 sh2 aw2 P1_5 Q1_6 cs ls rs ap sq pl ki op fa K G T ki3_14 op3_15 fa3_16 K3_17 G3_18 T3_19 ki2 op2 fa2 K2 G2 T2 mg_7 X_8 so wh va sg rw (rf R rc_20) kw1_30 kn1_31 mw1_33 pi tl kp im tu to Y_9 M1_32 lo pd bd tk kv sd ⟨(by first | assumption | exact trivial | omega | exact hf9 | exact hH9), (by first | assumption | exact trivial | omega | exact hf9 | exact hH9), (by first | assumption | exact trivial | omega | exact hf9 | exact hH9), (by first | assumption | exact trivial | omega | exact hf9 | exact hH9), (by first | assumption | exact trivial | omega | exact hf9 | exact hH9), (by first | assumption | exact trivial | omega | exact hf9 | exact hH9), (by first | assumption | exact trivial | omega | exact hf9 | exact hH9), (by first | assumption | exact trivial | omega | exact hf9 | exact hH9), (by first | assumption | exact trivial | omega | exact hf9 | exact hH9), (by first | assumption | exact trivial | omega | exact hf9 | exact hH9), (by first | assumption | exact trivial | omega | exact hf9 | exact hH9), (by first | assumption | exact trivial | omega | exact hf9 | exact hH9), (by first | assumption | exact trivial | omega | exact hf9 | exact hH9), (by first | assumption | exact trivial | omega | exact hf9 | exact hH9), (by first | assumption | exact trivial | omega | exact hf9 | exact hH9)⟩
set_option maxRecDepth 100000 in
set_option maxHeartbeats 4000000 in
theorem lawc_38 {E : EV} {cI : ClassId} {b L i : Nat} {xs : Nat → Int32} (x0 a0 a1 a2 a3 a4 a5 a6 c0 c1 c2 c3 c4 c5 c6 e0 e1 e2 e3 e4 e5 e6 b0 b1 b2 b3 g0 g1 g2 g3 s0 s1 w0 y0 r0 k1 k2 k3 k4 k6 k7 k8 k10 k12 k13 k14 k15 k16 k21 k22 k23 k24 k25 k30 k31 k33 : Nat) (zC : CX E cL_law RL (some .boolean) cI room_1) (hA : ∀ q, (ev_s E).heap.size ≤ q → ev_A E q) (hX : XS E b L xs) (hL : L ≤ 2560) (hi : i + 5 ≤ L) (kk : LGO E cI 1756 b i x0 a0 a1 a2 a3 a4 a5 a6 c0 c1 c2 c3 c4 c5 c6 e0 e1 e2 e3 e4 e5 e6 b0 b1 b2 b3 g0 g1 g2 g3 s0 s1 w0 y0 r0 k1 k2 k3 k4 k6 k7 k8 k10 k12 k13 k14 k15 k16 k21 k22 k23 k24 k25 k30 k31 k33) : LGO E cI 1345 b i x0 a0 a1 a2 a3 a4 a5 a6 c0 c1 c2 c3 c4 c5 c6 e0 e1 e2 e3 e4 e5 e6 b0 b1 b2 b3 g0 g1 g2 g3 s0 s1 w0 y0 r0 k1 k2 k3 k4 k6 k7 k8 k10 k12 k13 k14 k15 k16 k21 k22 k23 k24 k25 k30 k31 k33 := by
  intro n m sh n5 m5 sh5 aw5 n2 m2 sh2 aw2 P Q cs ls rs ap sq pl ki op fa K G T ki5 op5 fa5 K5 G5 T5 ki2 op2 fa2 K2 G2 T2 mf kn so wh va sg rw R kw kr mw pi tl kp im tu to M Mr lo pd bd tk kv sd hI
  obtain ⟨hw, hw5, hw2, hB, hM, hcs, hH, hl, hsg, hr, hrw, hkw, hkr, hMr, hE9⟩ := hI
  obtain ⟨hn, hm, hsh, hki, hop, hfa, hK, hG, hT, -⟩ := id hw
  refine v_al_n 1346 zC dL_law_1345 2 rfl ?_
  refine v_cV2 (As := []) (st := []) 1349 0 [0, 1, 2, 3, 4, 5, 6, 7, 20, 21, 22, 23, 24, 25, 26, 8, 9, 10, 11] zC dL_law_1346 hA (c_X4_key (ev_l E) (ev_D E) cI (x0 := x0) (xp := e0) (g0 := g0) (s0 := s0) (w0 := w0) (y0 := y0) (pd := pd) (rs := rs) (b0 := b0) (b1 := b1) (b2 := b2) (b3 := b3) (P := P) (Q := Q) (mf := mf) (M := M) (kn := kn) (a0 := a0) (a1 := a1) (a2 := a2) (a3 := a3) (a4 := a4) (a5 := a5) (a6 := a6) (n := n) (m := m) (sh := sh) (ki := ki) (op := op) (fa := fa) (K := K) (G := G) (T := T) (c0 := c0) (c1 := c1) (c2 := c2) (c3 := c3) (c4 := c4) (c5 := c5) (c6 := c6) (n1 := n5) (m1 := m5) (sh1 := sh5) (aw1 := aw5) (ki1 := ki5) (op1 := op5) (fa1 := fa5) (K1 := K5) (G1 := G5) (T1 := T5) (hw := hw) (hw1 := hw5) (hB := hB) (hM := hM)) cf_X4_key lk_L_170 rfl rfl rfl rfl rfl (by decide +kernel) (Nat.le_of_ble_eq_true rfl) (fun rv_1 wv_2 hp_3 hm_4 => ?_)
  clear hm_4
  obtain ⟨P1_5, Q1_6, mg_7, X_8, Y_9, n3_10, m3_11, s3_12, w3_13, ki3_14, op3_15, fa3_16, K3_17, G3_18, T3_19, hF_20, hB1_21, hM1_22, rfl, rfl⟩ := hp_3
  rw [sa_21]
  refine v_al_n 1350 zC dL_law_1349 1 rfl ?_
  refine v_swap ?_
  refine v_cV2 (As := []) (st := [.int (nI (KEY (n, m, sh, 0, ki, op, fa, K, G, T)))]) 1353 0 [0, 1, 2, 3, 4, 5, 6, 7, 8, 9, 10, 11, 13] zC dL_law_1350 hA (c_X5_key (ev_l E) (ev_D E) cI (r0 := r0) (k1 := k1) (k2 := k2) (k3 := k3) (k4 := k4) (k6 := k6) (k7 := k7) (k8 := k8) (k10 := k10) (k12 := k12) (k13 := k13) (k14 := k14) (k15 := k15) (k16 := k16) (k21 := k21) (k22 := k22) (k23 := k23) (k24 := k24) (k25 := k25) (k30 := k30) (k31 := k31) (k33 := k33) (n := n) (m := m) (ls := ls) (ap := ap) (sq := sq) (pl := pl) (tz := cs) (rs := rs) (bd := bd) (pd := pd) (tk := tk) (kv := kv) (sd := sd) (ki := ki) (op := op) (fa := fa) (K := K) (G := G) (T := T) (sh := sh) (kw := kw) (kn := kr) (M := Mr) (mw := mw) (kp := kp) (hw := hw) (hkw := hkw) (hkn := hkr) (hM := hMr)) cf_X5_key lk_L_173 rfl rfl rfl rfl rfl (by decide +kernel) (Nat.le_of_ble_eq_true rfl) (fun rv_23 wv_24 hp_25 hm_26 => ?_)
  clear hm_26
  obtain ⟨kw1_27, kn1_28, M1_29, mw1_30, kp1_31, pl1_32, tk1_33, kv1_34, hkw1_35, hkn1_36, hM1_37, rfl, rfl⟩ := hp_25
  rw [sa_25]
  refine v_eqi 1756 zC dL_law_1353 (by first | rfl | assumption) ?_
  refine v_swap ?_
  exact kk n m sh n3_10 m3_11 s3_12 w3_13 n2 m2 sh2 aw2 P1_5 Q1_6 cs ls rs ap sq pl1_32 ki op fa K G T ki3_14 op3_15 fa3_16 K3_17 G3_18 T3_19 ki2 op2 fa2 K2 G2 T2 mg_7 X_8 so wh va sg rw R kw1_27 kn1_28 mw1_30 pi tl kp1_31 im tu to Y_9 M1_29 lo pd bd tk1_33 kv1_34 sd ⟨(by first | assumption | exact trivial | omega | exact hf9 | exact hH9), (by first | assumption | exact trivial | omega | exact hf9 | exact hH9), (by first | assumption | exact trivial | omega | exact hf9 | exact hH9), (by first | assumption | exact trivial | omega | exact hf9 | exact hH9), (by first | assumption | exact trivial | omega | exact hf9 | exact hH9), (by first | assumption | exact trivial | omega | exact hf9 | exact hH9), (by first | assumption | exact trivial | omega | exact hf9 | exact hH9), (by first | assumption | exact trivial | omega | exact hf9 | exact hH9), (by first | assumption | exact trivial | omega | exact hf9 | exact hH9), (by first | assumption | exact trivial | omega | exact hf9 | exact hH9), (by first | assumption | exact trivial | omega | exact hf9 | exact hH9), (by first | assumption | exact trivial | omega | exact hf9 | exact hH9), (by first | assumption | exact trivial | omega | exact hf9 | exact hH9), (by first | assumption | exact trivial | omega | exact hf9 | exact hH9), (by first | assumption | exact trivial | omega | exact hf9 | exact hH9)⟩
set_option maxRecDepth 100000 in
set_option maxHeartbeats 4000000 in
theorem lawc_39 {E : EV} {cI : ClassId} {b L i : Nat} {xs : Nat → Int32} (x0 a0 a1 a2 a3 a4 a5 a6 c0 c1 c2 c3 c4 c5 c6 e0 e1 e2 e3 e4 e5 e6 b0 b1 b2 b3 g0 g1 g2 g3 s0 s1 w0 y0 r0 k1 k2 k3 k4 k6 k7 k8 k10 k12 k13 k14 k15 k16 k21 k22 k23 k24 k25 k30 k31 k33 : Nat) (zC : CX E cL_law RL (some .boolean) cI room_1) (hA : ∀ q, (ev_s E).heap.size ≤ q → ev_A E q) (hX : XS E b L xs) (hL : L ≤ 2560) (hi : i + 5 ≤ L) (kk : LGO E cI 1756 b i x0 a0 a1 a2 a3 a4 a5 a6 c0 c1 c2 c3 c4 c5 c6 e0 e1 e2 e3 e4 e5 e6 b0 b1 b2 b3 g0 g1 g2 g3 s0 s1 w0 y0 r0 k1 k2 k3 k4 k6 k7 k8 k10 k12 k13 k14 k15 k16 k21 k22 k23 k24 k25 k30 k31 k33) : LGO E cI 1358 b i x0 a0 a1 a2 a3 a4 a5 a6 c0 c1 c2 c3 c4 c5 c6 e0 e1 e2 e3 e4 e5 e6 b0 b1 b2 b3 g0 g1 g2 g3 s0 s1 w0 y0 r0 k1 k2 k3 k4 k6 k7 k8 k10 k12 k13 k14 k15 k16 k21 k22 k23 k24 k25 k30 k31 k33 := by
  intro n m sh n5 m5 sh5 aw5 n2 m2 sh2 aw2 P Q cs ls rs ap sq pl ki op fa K G T ki5 op5 fa5 K5 G5 T5 ki2 op2 fa2 K2 G2 T2 mf kn so wh va sg rw R kw kr mw pi tl kp im tu to M Mr lo pd bd tk kv sd hI
  obtain ⟨hw, hw5, hw2, hB, hM, hcs, hH, hl, hsg, hr, hrw, hkw, hkr, hMr, hE9⟩ := hI
  obtain ⟨hn, hm, hsh, hki, hop, hfa, hK, hG, hT, -⟩ := id hw
  refine v_al_n 1359 zC dL_law_1358 2 rfl ?_
  refine v_cV2 (As := []) (st := []) 1362 0 [0, 1, 2, 3, 4, 5, 6, 7, 8, 9, 10, 11] zC dL_law_1359 hA (c_X4_half (ev_l E) (ev_D E) cI (x0 := x0) (xm := c0) (xp := e0) (g0 := g0) (s0 := s0) (w0 := w0) (y0 := y0) (pd := pd) (rs := rs) (b0 := b0) (b1 := b1) (b2 := b2) (b3 := b3) (P := P) (Q := Q) (mf := mf) (M := M) (kn := kn) (a0 := a0) (a1 := a1) (a2 := a2) (a3 := a3) (a4 := a4) (a5 := a5) (a6 := a6) (n := n) (m := m) (sh := sh) (ki := ki) (op := op) (fa := fa) (K := K) (G := G) (T := T) (hw := hw) (hB := hB) (hM := hM)) cf_X4_half lk_L_174 rfl rfl rfl rfl rfl (by decide +kernel) (Nat.le_of_ble_eq_true rfl) (fun rv_1 wv_2 hp_3 hm_4 => ?_)
  clear hm_4
  obtain ⟨P1_5, Q1_6, mg_7, X_8, Y_9, hB1_10, hM1_11, rfl, rfl⟩ := hp_3
  rw [sa_18]
  refine v_al_n 1363 zC dL_law_1362 1 rfl ?_
  refine v_swap ?_
  refine v_cV2 (As := []) (st := [.int (nI (HALF (n, m, sh, 0, ki, op, fa, K, G, T)))]) 1366 0 [0, 1, 2, 3, 4, 5, 6, 7, 8, 9, 10, 11] zC dL_law_1363 hA (c_X5_half (ev_l E) (ev_D E) cI (r0 := r0) (k1 := k1) (k2 := k2) (k3 := k3) (k4 := k4) (k6 := k6) (k7 := k7) (k8 := k8) (k10 := k10) (k12 := k12) (k13 := k13) (k14 := k14) (k15 := k15) (k16 := k16) (k21 := k21) (k22 := k22) (k23 := k23) (k24 := k24) (k25 := k25) (k30 := k30) (k31 := k31) (k33 := k33) (n := n) (m := m) (ls := ls) (ap := ap) (sq := sq) (pl := pl) (tz := cs) (rs := rs) (bd := bd) (pd := pd) (tk := tk) (kv := kv) (sd := sd) (ki := ki) (op := op) (fa := fa) (K := K) (G := G) (T := T) (sh := sh) (kw := kw) (kn := kr) (M := Mr) (mw := mw) (hw := hw) (hkw := hkw) (hkn := hkr) (hM := hMr)) cf_X5_half lk_L_177 rfl rfl rfl rfl rfl (by decide +kernel) (Nat.le_of_ble_eq_true rfl) (fun rv_12 wv_13 hp_14 hm_15 => ?_)
  clear hm_15
  obtain ⟨kw1_16, kn1_17, M1_18, mw1_19, hkw1_20, hkn1_21, hM1_22, rfl, rfl⟩ := hp_14
  rw [sa_15]
  refine v_eqi 1756 zC dL_law_1366 (by first | rfl | assumption) ?_
  refine v_swap ?_
  exact kk n m sh n5 m5 sh5 aw5 n2 m2 sh2 aw2 P1_5 Q1_6 cs ls rs ap sq pl ki op fa K G T ki5 op5 fa5 K5 G5 T5 ki2 op2 fa2 K2 G2 T2 mg_7 X_8 so wh va sg rw R kw1_16 kn1_17 mw1_19 pi tl kp im tu to Y_9 M1_18 lo pd bd tk kv sd ⟨(by first | assumption | exact trivial | omega | exact hf9 | exact hH9), (by first | assumption | exact trivial | omega | exact hf9 | exact hH9), (by first | assumption | exact trivial | omega | exact hf9 | exact hH9), (by first | assumption | exact trivial | omega | exact hf9 | exact hH9), (by first | assumption | exact trivial | omega | exact hf9 | exact hH9), (by first | assumption | exact trivial | omega | exact hf9 | exact hH9), (by first | assumption | exact trivial | omega | exact hf9 | exact hH9), (by first | assumption | exact trivial | omega | exact hf9 | exact hH9), (by first | assumption | exact trivial | omega | exact hf9 | exact hH9), (by first | assumption | exact trivial | omega | exact hf9 | exact hH9), (by first | assumption | exact trivial | omega | exact hf9 | exact hH9), (by first | assumption | exact trivial | omega | exact hf9 | exact hH9), (by first | assumption | exact trivial | omega | exact hf9 | exact hH9), (by first | assumption | exact trivial | omega | exact hf9 | exact hH9), (by first | assumption | exact trivial | omega | exact hf9 | exact hH9)⟩
set_option maxRecDepth 100000 in
set_option maxHeartbeats 4000000 in
theorem lawc_40 {E : EV} {cI : ClassId} {b L i : Nat} {xs : Nat → Int32} (x0 a0 a1 a2 a3 a4 a5 a6 c0 c1 c2 c3 c4 c5 c6 e0 e1 e2 e3 e4 e5 e6 b0 b1 b2 b3 g0 g1 g2 g3 s0 s1 w0 y0 r0 k1 k2 k3 k4 k6 k7 k8 k10 k12 k13 k14 k15 k16 k21 k22 k23 k24 k25 k30 k31 k33 : Nat) (zC : CX E cL_law RL (some .boolean) cI room_1) (hA : ∀ q, (ev_s E).heap.size ≤ q → ev_A E q) (hX : XS E b L xs) (hL : L ≤ 2560) (hi : i + 5 ≤ L) (kk : LGO E cI 1756 b i x0 a0 a1 a2 a3 a4 a5 a6 c0 c1 c2 c3 c4 c5 c6 e0 e1 e2 e3 e4 e5 e6 b0 b1 b2 b3 g0 g1 g2 g3 s0 s1 w0 y0 r0 k1 k2 k3 k4 k6 k7 k8 k10 k12 k13 k14 k15 k16 k21 k22 k23 k24 k25 k30 k31 k33) : LGO E cI 1371 b i x0 a0 a1 a2 a3 a4 a5 a6 c0 c1 c2 c3 c4 c5 c6 e0 e1 e2 e3 e4 e5 e6 b0 b1 b2 b3 g0 g1 g2 g3 s0 s1 w0 y0 r0 k1 k2 k3 k4 k6 k7 k8 k10 k12 k13 k14 k15 k16 k21 k22 k23 k24 k25 k30 k31 k33 := by
  intro n m sh n5 m5 sh5 aw5 n2 m2 sh2 aw2 P Q cs ls rs ap sq pl ki op fa K G T ki5 op5 fa5 K5 G5 T5 ki2 op2 fa2 K2 G2 T2 mf kn so wh va sg rw R kw kr mw pi tl kp im tu to M Mr lo pd bd tk kv sd hI
  obtain ⟨hw, hw5, hw2, hB, hM, hcs, hH, hl, hsg, hr, hrw, hkw, hkr, hMr, hE9⟩ := hI
  obtain ⟨hn, hm, hsh, hki, hop, hfa, hK, hG, hT, -⟩ := id hw
  refine v_al_n 1372 zC dL_law_1371 2 rfl ?_
  refine v_cV2 (As := []) (st := []) 1375 0 [0, 1, 2, 3, 4, 5, 6, 7, 20, 21, 22, 23, 24, 25, 26, 8, 9, 10, 11] zC dL_law_1372 hA (c_X4_turned (ev_l E) (ev_D E) cI (x0 := x0) (xp := e0) (g0 := g0) (s0 := s0) (w0 := w0) (y0 := y0) (pd := pd) (rs := rs) (b0 := b0) (b1 := b1) (b2 := b2) (b3 := b3) (P := P) (Q := Q) (mf := mf) (M := M) (kn := kn) (a0 := a0) (a1 := a1) (a2 := a2) (a3 := a3) (a4 := a4) (a5 := a5) (a6 := a6) (n := n) (m := m) (sh := sh) (ki := ki) (op := op) (fa := fa) (K := K) (G := G) (T := T) (c0 := c0) (c1 := c1) (c2 := c2) (c3 := c3) (c4 := c4) (c5 := c5) (c6 := c6) (n1 := n5) (m1 := m5) (sh1 := sh5) (aw1 := aw5) (ki1 := ki5) (op1 := op5) (fa1 := fa5) (K1 := K5) (G1 := G5) (T1 := T5) (hw := hw) (hw1 := hw5) (hB := hB) (hM := hM)) cf_X4_turned lk_L_178 rfl rfl rfl rfl rfl (by decide +kernel) (Nat.le_of_ble_eq_true rfl) (fun rv_1 wv_2 hp_3 hm_4 => ?_)
  clear hm_4
  obtain ⟨P1_5, Q1_6, mg_7, X_8, Y_9, n3_10, m3_11, s3_12, w3_13, ki3_14, op3_15, fa3_16, K3_17, G3_18, T3_19, hF_20, hB1_21, hM1_22, rfl, rfl⟩ := hp_3
  rw [sa_21]
  refine v_al_n 1376 zC dL_law_1375 1 rfl ?_
  refine v_swap ?_
  refine v_cV2 (As := []) (st := [.int (nI (TURN (n, m, sh, 0, ki, op, fa, K, G, T)))]) 1379 0 [0, 1, 2, 3, 4, 5, 6, 7, 8, 9, 10, 11, 13] zC dL_law_1376 hA (c_X5_turned (ev_l E) (ev_D E) cI (r0 := r0) (k1 := k1) (k2 := k2) (k3 := k3) (k4 := k4) (k6 := k6) (k7 := k7) (k8 := k8) (k10 := k10) (k12 := k12) (k13 := k13) (k14 := k14) (k15 := k15) (k16 := k16) (k21 := k21) (k22 := k22) (k23 := k23) (k24 := k24) (k25 := k25) (k30 := k30) (k31 := k31) (k33 := k33) (n := n) (m := m) (ls := ls) (ap := ap) (sq := sq) (pl := pl) (tz := cs) (rs := rs) (bd := bd) (pd := pd) (tk := tk) (kv := kv) (sd := sd) (ki := ki) (op := op) (fa := fa) (K := K) (G := G) (T := T) (sh := sh) (kw := kw) (kn := kr) (M := Mr) (mw := mw) (kp := kp) (hw := hw) (hkw := hkw) (hkn := hkr) (hM := hMr)) cf_X5_turned lk_L_181 rfl rfl rfl rfl rfl (by decide +kernel) (Nat.le_of_ble_eq_true rfl) (fun rv_23 wv_24 hp_25 hm_26 => ?_)
  clear hm_26
  obtain ⟨kw1_27, kn1_28, M1_29, mw1_30, kp1_31, pl1_32, tk1_33, kv1_34, hkw1_35, hkn1_36, hM1_37, rfl, rfl⟩ := hp_25
  rw [sa_25]
  refine v_eqi 1756 zC dL_law_1379 (by first | rfl | assumption) ?_
  refine v_swap ?_
  exact kk n m sh n3_10 m3_11 s3_12 w3_13 n2 m2 sh2 aw2 P1_5 Q1_6 cs ls rs ap sq pl1_32 ki op fa K G T ki3_14 op3_15 fa3_16 K3_17 G3_18 T3_19 ki2 op2 fa2 K2 G2 T2 mg_7 X_8 so wh va sg rw R kw1_27 kn1_28 mw1_30 pi tl kp1_31 im tu to Y_9 M1_29 lo pd bd tk1_33 kv1_34 sd ⟨(by first | assumption | exact trivial | omega | exact hf9 | exact hH9), (by first | assumption | exact trivial | omega | exact hf9 | exact hH9), (by first | assumption | exact trivial | omega | exact hf9 | exact hH9), (by first | assumption | exact trivial | omega | exact hf9 | exact hH9), (by first | assumption | exact trivial | omega | exact hf9 | exact hH9), (by first | assumption | exact trivial | omega | exact hf9 | exact hH9), (by first | assumption | exact trivial | omega | exact hf9 | exact hH9), (by first | assumption | exact trivial | omega | exact hf9 | exact hH9), (by first | assumption | exact trivial | omega | exact hf9 | exact hH9), (by first | assumption | exact trivial | omega | exact hf9 | exact hH9), (by first | assumption | exact trivial | omega | exact hf9 | exact hH9), (by first | assumption | exact trivial | omega | exact hf9 | exact hH9), (by first | assumption | exact trivial | omega | exact hf9 | exact hH9), (by first | assumption | exact trivial | omega | exact hf9 | exact hH9), (by first | assumption | exact trivial | omega | exact hf9 | exact hH9)⟩
set_option maxRecDepth 100000 in
set_option maxHeartbeats 4000000 in
theorem lawc_41 {E : EV} {cI : ClassId} {b L i : Nat} {xs : Nat → Int32} (x0 a0 a1 a2 a3 a4 a5 a6 c0 c1 c2 c3 c4 c5 c6 e0 e1 e2 e3 e4 e5 e6 b0 b1 b2 b3 g0 g1 g2 g3 s0 s1 w0 y0 r0 k1 k2 k3 k4 k6 k7 k8 k10 k12 k13 k14 k15 k16 k21 k22 k23 k24 k25 k30 k31 k33 : Nat) (zC : CX E cL_law RL (some .boolean) cI room_1) (hA : ∀ q, (ev_s E).heap.size ≤ q → ev_A E q) (hX : XS E b L xs) (hL : L ≤ 2560) (hi : i + 5 ≤ L) (kk : LGO E cI 1756 b i x0 a0 a1 a2 a3 a4 a5 a6 c0 c1 c2 c3 c4 c5 c6 e0 e1 e2 e3 e4 e5 e6 b0 b1 b2 b3 g0 g1 g2 g3 s0 s1 w0 y0 r0 k1 k2 k3 k4 k6 k7 k8 k10 k12 k13 k14 k15 k16 k21 k22 k23 k24 k25 k30 k31 k33) : LGO E cI 1384 b i x0 a0 a1 a2 a3 a4 a5 a6 c0 c1 c2 c3 c4 c5 c6 e0 e1 e2 e3 e4 e5 e6 b0 b1 b2 b3 g0 g1 g2 g3 s0 s1 w0 y0 r0 k1 k2 k3 k4 k6 k7 k8 k10 k12 k13 k14 k15 k16 k21 k22 k23 k24 k25 k30 k31 k33 := by
  intro n m sh n5 m5 sh5 aw5 n2 m2 sh2 aw2 P Q cs ls rs ap sq pl ki op fa K G T ki5 op5 fa5 K5 G5 T5 ki2 op2 fa2 K2 G2 T2 mf kn so wh va sg rw R kw kr mw pi tl kp im tu to M Mr lo pd bd tk kv sd hI
  obtain ⟨hw, hw5, hw2, hB, hM, hcs, hH, hl, hsg, hr, hrw, hkw, hkr, hMr, hE9⟩ := hI
  obtain ⟨hn, hm, hsh, hki, hop, hfa, hK, hG, hT, -⟩ := id hw
  refine v_al_n 1385 zC dL_law_1384 2 rfl ?_
  refine v_cV2 (As := []) (st := []) 1388 0 [0, 1, 2, 3, 4, 5, 6, 7, 8, 9, 10, 11] zC dL_law_1385 hA (c_X4_twin (ev_l E) (ev_D E) cI (x0 := x0) (xm := c0) (xp := e0) (g0 := g0) (s0 := s0) (w0 := w0) (y0 := y0) (pd := pd) (rs := rs) (b0 := b0) (b1 := b1) (b2 := b2) (b3 := b3) (P := P) (Q := Q) (mf := mf) (M := M) (kn := kn) (a0 := a0) (a1 := a1) (a2 := a2) (a3 := a3) (a4 := a4) (a5 := a5) (a6 := a6) (n := n) (m := m) (sh := sh) (ki := ki) (op := op) (fa := fa) (K := K) (G := G) (T := T) (hw := hw) (hB := hB) (hM := hM)) cf_X4_twin lk_L_182 rfl rfl rfl rfl rfl (by decide +kernel) (Nat.le_of_ble_eq_true rfl) (fun rv_1 wv_2 hp_3 hm_4 => ?_)
  clear hm_4
  obtain ⟨P1_5, Q1_6, mg_7, X_8, Y_9, hB1_10, hM1_11, rfl, rfl⟩ := hp_3
  rw [sa_18]
  refine v_al_n 1389 zC dL_law_1388 1 rfl ?_
  refine v_swap ?_
  refine v_cV2 (As := []) (st := [.int (mI ((TWIN (n, m, sh, 0, ki, op, fa, K, G, T)).1))]) 1392 0 [0, 1, 2, 3, 4, 5, 6, 7, 8, 9, 10, 11] zC dL_law_1389 hA (c_X5_twin (ev_l E) (ev_D E) cI (r0 := r0) (k1 := k1) (k2 := k2) (k3 := k3) (k4 := k4) (k6 := k6) (k7 := k7) (k8 := k8) (k10 := k10) (k12 := k12) (k13 := k13) (k14 := k14) (k15 := k15) (k16 := k16) (k21 := k21) (k22 := k22) (k23 := k23) (k24 := k24) (k25 := k25) (k30 := k30) (k31 := k31) (k33 := k33) (n := n) (m := m) (ls := ls) (ap := ap) (sq := sq) (pl := pl) (tz := cs) (rs := rs) (bd := bd) (pd := pd) (tk := tk) (kv := kv) (sd := sd) (ki := ki) (op := op) (fa := fa) (K := K) (G := G) (T := T) (sh := sh) (kw := kw) (kn := kr) (M := Mr) (mw := mw) (hw := hw) (hkw := hkw) (hkn := hkr) (hM := hMr)) cf_X5_twin lk_L_185 rfl rfl rfl rfl rfl (by decide +kernel) (Nat.le_of_ble_eq_true rfl) (fun rv_12 wv_13 hp_14 hm_15 => ?_)
  clear hm_15
  obtain ⟨kw1_16, kn1_17, M1_18, mw1_19, hkw1_20, hkn1_21, hM1_22, rfl, rfl⟩ := hp_14
  rw [sa_15]
  refine v_eqi 1756 zC dL_law_1392 (by first | rfl | assumption) ?_
  refine v_swap ?_
  exact kk n m sh n5 m5 sh5 aw5 n2 m2 sh2 aw2 P1_5 Q1_6 cs ls rs ap sq pl ki op fa K G T ki5 op5 fa5 K5 G5 T5 ki2 op2 fa2 K2 G2 T2 mg_7 X_8 so wh va sg rw R kw1_16 kn1_17 mw1_19 pi tl kp im tu to Y_9 M1_18 lo pd bd tk kv sd ⟨(by first | assumption | exact trivial | omega | exact hf9 | exact hH9), (by first | assumption | exact trivial | omega | exact hf9 | exact hH9), (by first | assumption | exact trivial | omega | exact hf9 | exact hH9), (by first | assumption | exact trivial | omega | exact hf9 | exact hH9), (by first | assumption | exact trivial | omega | exact hf9 | exact hH9), (by first | assumption | exact trivial | omega | exact hf9 | exact hH9), (by first | assumption | exact trivial | omega | exact hf9 | exact hH9), (by first | assumption | exact trivial | omega | exact hf9 | exact hH9), (by first | assumption | exact trivial | omega | exact hf9 | exact hH9), (by first | assumption | exact trivial | omega | exact hf9 | exact hH9), (by first | assumption | exact trivial | omega | exact hf9 | exact hH9), (by first | assumption | exact trivial | omega | exact hf9 | exact hH9), (by first | assumption | exact trivial | omega | exact hf9 | exact hH9), (by first | assumption | exact trivial | omega | exact hf9 | exact hH9), (by first | assumption | exact trivial | omega | exact hf9 | exact hH9)⟩
set_option maxRecDepth 100000 in
set_option maxHeartbeats 4000000 in
theorem lawc_42 {E : EV} {cI : ClassId} {b L i : Nat} {xs : Nat → Int32} (x0 a0 a1 a2 a3 a4 a5 a6 c0 c1 c2 c3 c4 c5 c6 e0 e1 e2 e3 e4 e5 e6 b0 b1 b2 b3 g0 g1 g2 g3 s0 s1 w0 y0 r0 k1 k2 k3 k4 k6 k7 k8 k10 k12 k13 k14 k15 k16 k21 k22 k23 k24 k25 k30 k31 k33 : Nat) (zC : CX E cL_law RL (some .boolean) cI room_1) (hA : ∀ q, (ev_s E).heap.size ≤ q → ev_A E q) (hX : XS E b L xs) (hL : L ≤ 2560) (hi : i + 5 ≤ L) (kk : LGO E cI 1756 b i x0 a0 a1 a2 a3 a4 a5 a6 c0 c1 c2 c3 c4 c5 c6 e0 e1 e2 e3 e4 e5 e6 b0 b1 b2 b3 g0 g1 g2 g3 s0 s1 w0 y0 r0 k1 k2 k3 k4 k6 k7 k8 k10 k12 k13 k14 k15 k16 k21 k22 k23 k24 k25 k30 k31 k33) : LGO E cI 1397 b i x0 a0 a1 a2 a3 a4 a5 a6 c0 c1 c2 c3 c4 c5 c6 e0 e1 e2 e3 e4 e5 e6 b0 b1 b2 b3 g0 g1 g2 g3 s0 s1 w0 y0 r0 k1 k2 k3 k4 k6 k7 k8 k10 k12 k13 k14 k15 k16 k21 k22 k23 k24 k25 k30 k31 k33 := by
  intro n m sh n5 m5 sh5 aw5 n2 m2 sh2 aw2 P Q cs ls rs ap sq pl ki op fa K G T ki5 op5 fa5 K5 G5 T5 ki2 op2 fa2 K2 G2 T2 mf kn so wh va sg rw R kw kr mw pi tl kp im tu to M Mr lo pd bd tk kv sd hI
  obtain ⟨hw, hw5, hw2, hB, hM, hcs, hH, hl, hsg, hr, hrw, hkw, hkr, hMr, hE9⟩ := hI
  obtain ⟨hn, hm, hsh, hki, hop, hfa, hK, hG, hT, -⟩ := id hw
  refine v_al_n 1398 zC dL_law_1397 2 rfl ?_
  refine v_al_n 1399 zC dL_law_1398 3 rfl ?_
  refine v_il_n 1400 zC dL_law_1399 0 rfl ?_
  refine v_ic (v := (nI 1)) 1401 zC dL_law_1400 (by decide +kernel) ?_
  refine v_iadd (v := (nI (i + 1))) 1402 zC dL_law_1401 (nI_add _ _) ?_
  refine v_sld 1403 zC hX dL_law_1402 (by omega) hL ?_
  refine v_al_n 1404 zC dL_law_1403 3 rfl ?_
  refine v_il_n 1405 zC dL_law_1404 0 rfl ?_
  refine v_ic (v := (nI 2)) 1406 zC dL_law_1405 (by decide +kernel) ?_
  refine v_iadd (v := (nI (i + 2))) 1407 zC dL_law_1406 (nI_add _ _) ?_
  refine v_sld 1408 zC hX dL_law_1407 (by omega) hL ?_
  refine v_cV2 (As := [.int (xs (i + 1)), .int (xs (i + 2))]) (st := []) 1411 0 [0, 1, 2, 3, 4, 5, 6, 7, 20, 21, 22, 23, 24, 25, 26, 8, 9, 10, 11, 12] zC dL_law_1408 hA (c_X4_spreads (ev_l E) (ev_D E) cI (x0 := x0) (xp := e0) (g0 := g0) (s0 := s0) (w0 := w0) (y0 := y0) (pd := pd) (rs := rs) (b0 := b0) (b1 := b1) (b2 := b2) (b3 := b3) (P := P) (Q := Q) (mf := mf) (M := M) (kn := kn) (a0 := a0) (a1 := a1) (a2 := a2) (a3 := a3) (a4 := a4) (a5 := a5) (a6 := a6) (n := n) (m := m) (sh := sh) (ki := ki) (op := op) (fa := fa) (K := K) (G := G) (T := T) (c0 := c0) (c1 := c1) (c2 := c2) (c3 := c3) (c4 := c4) (c5 := c5) (c6 := c6) (n1 := n5) (m1 := m5) (sh1 := sh5) (aw1 := aw5) (ki1 := ki5) (op1 := op5) (fa1 := fa5) (K1 := K5) (G1 := G5) (T1 := T5) (R := R) (u := (xs (i + 1))) (f := (xs (i + 2))) (hw := hw) (hw1 := hw5) (hB := hB) (hM := hM)) cf_X4_spreads lk_L_186 rfl rfl rfl rfl rfl (by decide +kernel) (Nat.le_of_ble_eq_true rfl) (fun rv_1 wv_2 hp_3 hm_4 => ?_)
  clear hm_4
  obtain ⟨P1_5, Q1_6, mg_7, X_8, Y_9, n3_10, m3_11, s3_12, w3_13, ki3_14, op3_15, fa3_16, K3_17, G3_18, T3_19, rc_20, rv_21, hq_22, hF_23, hB1_24, hM1_25, rfl, rfl⟩ := hp_3
  rw [sa_19]
  refine v_al_n 1412 zC dL_law_1411 1 rfl ?_
  refine v_al_n 1413 zC dL_law_1412 3 rfl ?_
  refine v_il_n 1414 zC dL_law_1413 0 rfl ?_
  refine v_ic (v := (nI 1)) 1415 zC dL_law_1414 (by decide +kernel) ?_
  refine v_iadd (v := (nI (i + 1))) 1416 zC dL_law_1415 (nI_add _ _) ?_
  refine v_sld 1417 zC hX dL_law_1416 (by omega) hL ?_
  refine v_al_n 1418 zC dL_law_1417 3 rfl ?_
  refine v_il_n 1419 zC dL_law_1418 0 rfl ?_
  refine v_ic (v := (nI 2)) 1420 zC dL_law_1419 (by decide +kernel) ?_
  refine v_iadd (v := (nI (i + 2))) 1421 zC dL_law_1420 (nI_add _ _) ?_
  refine v_sld 1422 zC hX dL_law_1421 (by omega) hL ?_
  refine v_swap ?_
  refine v_cV2 (As := [.int (xs (i + 1)), .int (xs (i + 2))]) (st := [.int rv_21]) 1425 0 [0, 1, 2, 3, 4, 5, 6, 7, 8, 9, 10, 11, 13, 12] zC dL_law_1422 hA (c_X5_spreads (ev_l E) (ev_D E) cI (r0 := r0) (k1 := k1) (k2 := k2) (k3 := k3) (k4 := k4) (k6 := k6) (k7 := k7) (k8 := k8) (k10 := k10) (k12 := k12) (k13 := k13) (k14 := k14) (k15 := k15) (k16 := k16) (k21 := k21) (k22 := k22) (k23 := k23) (k24 := k24) (k25 := k25) (k30 := k30) (k31 := k31) (k33 := k33) (n := n) (m := m) (ls := ls) (ap := ap) (sq := sq) (pl := pl) (tz := cs) (rs := rs) (bd := bd) (pd := pd) (tk := tk) (kv := kv) (sd := sd) (ki := ki) (op := op) (fa := fa) (K := K) (G := G) (T := T) (sh := sh) (kw := kw) (kn := kr) (M := Mr) (mw := mw) (kp := kp) (R := R) (u := (xs (i + 1))) (f := (xs (i + 2))) (hw := hw) (hkw := hkw) (hkn := hkr) (hM := hMr)) cf_X5_spreads lk_L_189 rfl rfl rfl rfl rfl (by decide +kernel) (Nat.le_of_ble_eq_true rfl) (fun rv_26 wv_27 hp_28 hm_29 => ?_)
  clear hm_29
  obtain ⟨kw1_30, kn1_31, M1_32, mw1_33, kp1_34, pl1_35, tk1_36, kv1_37, rc_38, rv_39, hq_40, hkw1_41, hkn1_42, hM1_43, rfl, rfl⟩ := hp_28
  rw [sa_20]
  obtain ⟨ez, ey⟩ := Prod.mk.inj (hq_22.symm.trans hq_40)
  subst ez
  have ez := ey
  subst ez
  refine v_eqi 1756 zC dL_law_1425 (by first | rfl | assumption) ?_
  refine v_swap ?_
  exact kk n m sh n3_10 m3_11 s3_12 w3_13 n2 m2 sh2 aw2 P1_5 Q1_6 cs ls rs ap sq pl1_35 ki op fa K G T ki3_14 op3_15 fa3_16 K3_17 G3_18 T3_19 ki2 op2 fa2 K2 G2 T2 mg_7 X_8 so wh va sg rw (rf R rc_20) kw1_30 kn1_31 mw1_33 pi tl kp1_34 im tu to Y_9 M1_32 lo pd bd tk1_36 kv1_37 sd ⟨(by first | assumption | exact trivial | omega | exact hf9 | exact hH9), (by first | assumption | exact trivial | omega | exact hf9 | exact hH9), (by first | assumption | exact trivial | omega | exact hf9 | exact hH9), (by first | assumption | exact trivial | omega | exact hf9 | exact hH9), (by first | assumption | exact trivial | omega | exact hf9 | exact hH9), (by first | assumption | exact trivial | omega | exact hf9 | exact hH9), (by first | assumption | exact trivial | omega | exact hf9 | exact hH9), (by first | assumption | exact trivial | omega | exact hf9 | exact hH9), (by first | assumption | exact trivial | omega | exact hf9 | exact hH9), (by first | assumption | exact trivial | omega | exact hf9 | exact hH9), (by first | assumption | exact trivial | omega | exact hf9 | exact hH9), (by first | assumption | exact trivial | omega | exact hf9 | exact hH9), (by first | assumption | exact trivial | omega | exact hf9 | exact hH9), (by first | assumption | exact trivial | omega | exact hf9 | exact hH9), (by first | assumption | exact trivial | omega | exact hf9 | exact hH9)⟩
set_option maxRecDepth 100000 in
set_option maxHeartbeats 4000000 in
theorem lawc_43 {E : EV} {cI : ClassId} {b L i : Nat} {xs : Nat → Int32} (x0 a0 a1 a2 a3 a4 a5 a6 c0 c1 c2 c3 c4 c5 c6 e0 e1 e2 e3 e4 e5 e6 b0 b1 b2 b3 g0 g1 g2 g3 s0 s1 w0 y0 r0 k1 k2 k3 k4 k6 k7 k8 k10 k12 k13 k14 k15 k16 k21 k22 k23 k24 k25 k30 k31 k33 : Nat) (zC : CX E cL_law RL (some .boolean) cI room_1) (hA : ∀ q, (ev_s E).heap.size ≤ q → ev_A E q) (hX : XS E b L xs) (hL : L ≤ 2560) (hi : i + 5 ≤ L) (kk : LGO E cI 1756 b i x0 a0 a1 a2 a3 a4 a5 a6 c0 c1 c2 c3 c4 c5 c6 e0 e1 e2 e3 e4 e5 e6 b0 b1 b2 b3 g0 g1 g2 g3 s0 s1 w0 y0 r0 k1 k2 k3 k4 k6 k7 k8 k10 k12 k13 k14 k15 k16 k21 k22 k23 k24 k25 k30 k31 k33) : LGO E cI 1430 b i x0 a0 a1 a2 a3 a4 a5 a6 c0 c1 c2 c3 c4 c5 c6 e0 e1 e2 e3 e4 e5 e6 b0 b1 b2 b3 g0 g1 g2 g3 s0 s1 w0 y0 r0 k1 k2 k3 k4 k6 k7 k8 k10 k12 k13 k14 k15 k16 k21 k22 k23 k24 k25 k30 k31 k33 := by
  intro n m sh n5 m5 sh5 aw5 n2 m2 sh2 aw2 P Q cs ls rs ap sq pl ki op fa K G T ki5 op5 fa5 K5 G5 T5 ki2 op2 fa2 K2 G2 T2 mf kn so wh va sg rw R kw kr mw pi tl kp im tu to M Mr lo pd bd tk kv sd hI
  obtain ⟨hw, hw5, hw2, hB, hM, hcs, hH, hl, hsg, hr, hrw, hkw, hkr, hMr, hE9⟩ := hI
  obtain ⟨hn, hm, hsh, hki, hop, hfa, hK, hG, hT, -⟩ := id hw
  refine v_al_n 1431 zC dL_law_1430 2 rfl ?_
  refine v_al_n 1432 zC dL_law_1431 3 rfl ?_
  refine v_il_n 1433 zC dL_law_1432 0 rfl ?_
  refine v_ic (v := (nI 1)) 1434 zC dL_law_1433 (by decide +kernel) ?_
  refine v_iadd (v := (nI (i + 1))) 1435 zC dL_law_1434 (nI_add _ _) ?_
  refine v_sld 1436 zC hX dL_law_1435 (by omega) hL ?_
  refine v_cV2 (As := [.int (xs (i + 1))]) (st := []) 1439 0 [0, 1, 2, 3, 4, 5, 6, 7, 20, 21, 22, 23, 24, 25, 26, 8, 9, 10, 11, 12] zC dL_law_1436 hA (c_X4_keeper (ev_l E) (ev_D E) cI (x0 := x0) (xp := e0) (g0 := g0) (s0 := s0) (w0 := w0) (y0 := y0) (pd := pd) (rs := rs) (b0 := b0) (b1 := b1) (b2 := b2) (b3 := b3) (P := P) (Q := Q) (mf := mf) (M := M) (kn := kn) (a0 := a0) (a1 := a1) (a2 := a2) (a3 := a3) (a4 := a4) (a5 := a5) (a6 := a6) (n := n) (m := m) (sh := sh) (ki := ki) (op := op) (fa := fa) (K := K) (G := G) (T := T) (c0 := c0) (c1 := c1) (c2 := c2) (c3 := c3) (c4 := c4) (c5 := c5) (c6 := c6) (n1 := n5) (m1 := m5) (sh1 := sh5) (aw1 := aw5) (ki1 := ki5) (op1 := op5) (fa1 := fa5) (K1 := K5) (G1 := G5) (T1 := T5) (R := R) (w := (xs (i + 1))) (hw := hw) (hw1 := hw5) (hB := hB) (hM := hM)) cf_X4_keeper lk_L_190 rfl rfl rfl rfl rfl (by decide +kernel) (Nat.le_of_ble_eq_true rfl) (fun rv_1 wv_2 hp_3 hm_4 => ?_)
  clear hm_4
  obtain ⟨P1_5, Q1_6, mg_7, X_8, Y_9, n3_10, m3_11, s3_12, w3_13, ki3_14, op3_15, fa3_16, K3_17, G3_18, T3_19, rc_20, rv_21, hq_22, hF_23, hB1_24, hM1_25, rfl, rfl⟩ := hp_3
  rw [sa_19]
  refine v_al_n 1440 zC dL_law_1439 1 rfl ?_
  refine v_al_n 1441 zC dL_law_1440 3 rfl ?_
  refine v_il_n 1442 zC dL_law_1441 0 rfl ?_
  refine v_ic (v := (nI 1)) 1443 zC dL_law_1442 (by decide +kernel) ?_
  refine v_iadd (v := (nI (i + 1))) 1444 zC dL_law_1443 (nI_add _ _) ?_
  refine v_sld 1445 zC hX dL_law_1444 (by omega) hL ?_
  refine v_swap ?_
  refine v_cV2 (As := [.int (xs (i + 1))]) (st := [.int rv_21]) 1448 0 [0, 1, 2, 3, 4, 5, 6, 7, 8, 9, 10, 11, 12] zC dL_law_1445 hA (c_X5_keeper (ev_l E) (ev_D E) cI (r0 := r0) (k1 := k1) (k2 := k2) (k3 := k3) (k4 := k4) (k6 := k6) (k7 := k7) (k8 := k8) (k10 := k10) (k12 := k12) (k13 := k13) (k14 := k14) (k15 := k15) (k16 := k16) (k21 := k21) (k22 := k22) (k23 := k23) (k24 := k24) (k25 := k25) (k30 := k30) (k31 := k31) (k33 := k33) (n := n) (m := m) (ls := ls) (ap := ap) (sq := sq) (pl := pl) (tz := cs) (rs := rs) (bd := bd) (pd := pd) (tk := tk) (kv := kv) (sd := sd) (ki := ki) (op := op) (fa := fa) (K := K) (G := G) (T := T) (sh := sh) (kw := kw) (kn := kr) (M := Mr) (mw := mw) (R := R) (w := (xs (i + 1))) (hw := hw) (hkw := hkw) (hkn := hkr) (hM := hMr)) cf_X5_keeper lk_L_193 rfl rfl rfl rfl rfl (by decide +kernel) (Nat.le_of_ble_eq_true rfl) (fun rv_26 wv_27 hp_28 hm_29 => ?_)
  clear hm_29
  obtain ⟨kw1_30, kn1_31, M1_32, mw1_33, rc_34, rv_35, hq_36, hkw1_37, hkn1_38, hM1_39, rfl, rfl⟩ := hp_28
  rw [sa_17]
  obtain ⟨ez, ey⟩ := Prod.mk.inj (hq_22.symm.trans hq_36)
  subst ez
  have ez := ey
  subst ez
  refine v_eqi 1756 zC dL_law_1448 (by first | rfl | assumption) ?_
  refine v_swap ?_
  exact kk n m sh n3_10 m3_11 s3_12 w3_13 n2 m2 sh2 aw2 P1_5 Q1_6 cs ls rs ap sq pl ki op fa K G T ki3_14 op3_15 fa3_16 K3_17 G3_18 T3_19 ki2 op2 fa2 K2 G2 T2 mg_7 X_8 so wh va sg rw (rf R rc_20) kw1_30 kn1_31 mw1_33 pi tl kp im tu to Y_9 M1_32 lo pd bd tk kv sd ⟨(by first | assumption | exact trivial | omega | exact hf9 | exact hH9), (by first | assumption | exact trivial | omega | exact hf9 | exact hH9), (by first | assumption | exact trivial | omega | exact hf9 | exact hH9), (by first | assumption | exact trivial | omega | exact hf9 | exact hH9), (by first | assumption | exact trivial | omega | exact hf9 | exact hH9), (by first | assumption | exact trivial | omega | exact hf9 | exact hH9), (by first | assumption | exact trivial | omega | exact hf9 | exact hH9), (by first | assumption | exact trivial | omega | exact hf9 | exact hH9), (by first | assumption | exact trivial | omega | exact hf9 | exact hH9), (by first | assumption | exact trivial | omega | exact hf9 | exact hH9), (by first | assumption | exact trivial | omega | exact hf9 | exact hH9), (by first | assumption | exact trivial | omega | exact hf9 | exact hH9), (by first | assumption | exact trivial | omega | exact hf9 | exact hH9), (by first | assumption | exact trivial | omega | exact hf9 | exact hH9), (by first | assumption | exact trivial | omega | exact hf9 | exact hH9)⟩
