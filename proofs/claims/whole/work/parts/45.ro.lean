set_option maxRecDepth 100000 in
set_option maxHeartbeats 4000000 in
theorem lawc_14 {E : EV} {cI : ClassId} {b L i : Nat} {xs : Nat → Int32} (x0 a0 a1 a2 a3 a4 a5 a6 c0 c1 c2 c3 c4 c5 c6 e0 e1 e2 e3 e4 e5 e6 b0 b1 b2 b3 g0 g1 g2 g3 s0 s1 w0 y0 r0 k1 k2 k3 k4 k6 k7 k8 k10 k12 k13 k14 k15 k16 k21 k22 k23 k24 k25 k30 k31 k33 : Nat) (zC : CX E cL_law RL (some .boolean) cI room_1) (hA : ∀ q, (ev_s E).heap.size ≤ q → ev_A E q) (hX : XS E b L xs) (hL : L ≤ 2560) (hi : i + 5 ≤ L) (kk : LGO E cI 1756 b i x0 a0 a1 a2 a3 a4 a5 a6 c0 c1 c2 c3 c4 c5 c6 e0 e1 e2 e3 e4 e5 e6 b0 b1 b2 b3 g0 g1 g2 g3 s0 s1 w0 y0 r0 k1 k2 k3 k4 k6 k7 k8 k10 k12 k13 k14 k15 k16 k21 k22 k23 k24 k25 k30 k31 k33) : LGO E cI 662 b i x0 a0 a1 a2 a3 a4 a5 a6 c0 c1 c2 c3 c4 c5 c6 e0 e1 e2 e3 e4 e5 e6 b0 b1 b2 b3 g0 g1 g2 g3 s0 s1 w0 y0 r0 k1 k2 k3 k4 k6 k7 k8 k10 k12 k13 k14 k15 k16 k21 k22 k23 k24 k25 k30 k31 k33 := by
  intro n m sh n5 m5 sh5 aw5 n2 m2 sh2 aw2 P Q cs ls rs ap sq pl ki op fa K G T ki5 op5 fa5 K5 G5 T5 ki2 op2 fa2 K2 G2 T2 mf kn so wh va sg rw R kw kr mw pi tl kp im tu to M Mr lo pd bd tk kv sd hI
  obtain ⟨hw, hw5, hw2, hB, hM, hcs, hH, hl, hsg, hr, hrw, hkw, hkr, hMr, hE9⟩ := hI
  obtain ⟨hn, hm, hsh, hki, hop, hfa, hK, hG, hT, -⟩ := id hw
  refine v_al_n 663 zC dL_law_662 2 rfl ?_
  refine v_al_n 664 zC dL_law_663 3 rfl ?_
  refine v_il_n 665 zC dL_law_664 0 rfl ?_
  refine v_ic (v := (nI 1)) 666 zC dL_law_665 (by decide +kernel) ?_
  refine v_iadd (v := (nI (i + 1))) 667 zC dL_law_666 (nI_add _ _) ?_
  refine v_sld 668 zC hX dL_law_667 (by omega) hL ?_
  refine v_al_n 669 zC dL_law_668 3 rfl ?_
  refine v_il_n 670 zC dL_law_669 0 rfl ?_
  refine v_ic (v := (nI 2)) 671 zC dL_law_670 (by decide +kernel) ?_
  refine v_iadd (v := (nI (i + 2))) 672 zC dL_law_671 (nI_add _ _) ?_
  refine v_sld 673 zC hX dL_law_672 (by omega) hL ?_
  refine v_cV2 (As := [.int (xs (i + 1)), .int (xs (i + 2))]) (st := []) 676 0 [0, 1, 2, 3, 4, 5, 6, 7, 8, 9, 10, 11, 12] zC dL_law_673 hA (c_X4_through (ev_l E) (ev_D E) cI (x0 := x0) (xm := c0) (xp := e0) (g0 := g0) (s0 := s0) (w0 := w0) (y0 := y0) (pd := pd) (rs := rs) (b0 := b0) (b1 := b1) (b2 := b2) (b3 := b3) (P := P) (Q := Q) (mf := mf) (M := M) (kn := kn) (a0 := a0) (a1 := a1) (a2 := a2) (a3 := a3) (a4 := a4) (a5 := a5) (a6 := a6) (n := n) (m := m) (sh := sh) (ki := ki) (op := op) (fa := fa) (K := K) (G := G) (T := T) (R := R) (d := (xs (i + 1))) (h := (xs (i + 2))) (hw := hw) (hB := hB) (hM := hM)) cf_X4_through lk_L_73 rfl rfl rfl rfl rfl (by decide +kernel) (Nat.le_of_ble_eq_true rfl) (fun rv_1 wv_2 hp_3 hm_4 => ?_)
  clear hm_4
  obtain ⟨P1_5, Q1_6, mg_7, X_8, Y_9, rc_10, rv_11, hq_12, hB1_13, hM1_14, rfl, rfl⟩ := hp_3
  rw [sa_16]
  refine v_al_n 677 zC dL_law_676 1 rfl ?_
  refine v_al_n 678 zC dL_law_677 3 rfl ?_
  refine v_il_n 679 zC dL_law_678 0 rfl ?_
  refine v_ic (v := (nI 1)) 680 zC dL_law_679 (by decide +kernel) ?_
  refine v_iadd (v := (nI (i + 1))) 681 zC dL_law_680 (nI_add _ _) ?_
  refine v_sld 682 zC hX dL_law_681 (by omega) hL ?_
  refine v_al_n 683 zC dL_law_682 3 rfl ?_
  refine v_il_n 684 zC dL_law_683 0 rfl ?_
  refine v_ic (v := (nI 2)) 685 zC dL_law_684 (by decide +kernel) ?_
  refine v_iadd (v := (nI (i + 2))) 686 zC dL_law_685 (nI_add _ _) ?_
  refine v_sld 687 zC hX dL_law_686 (by omega) hL ?_
  refine v_swap ?_
  refine v_cV2 (As := [.int (xs (i + 1)), .int (xs (i + 2))]) (st := [.int rv_11]) 690 0 [0, 1, 2, 3, 4, 5, 6, 7, 8, 9, 10, 11, 12] zC dL_law_687 hA (c_X5_through (ev_l E) (ev_D E) cI (r0 := r0) (k1 := k1) (k2 := k2) (k3 := k3) (k4 := k4) (k6 := k6) (k7 := k7) (k8 := k8) (k10 := k10) (k12 := k12) (k13 := k13) (k14 := k14) (k15 := k15) (k16 := k16) (k21 := k21) (k22 := k22) (k23 := k23) (k24 := k24) (k25 := k25) (k30 := k30) (k31 := k31) (k33 := k33) (n := n) (m := m) (ls := ls) (ap := ap) (sq := sq) (pl := pl) (tz := cs) (rs := rs) (bd := bd) (pd := pd) (tk := tk) (kv := kv) (sd := sd) (ki := ki) (op := op) (fa := fa) (K := K) (G := G) (T := T) (sh := sh) (kw := kw) (kn := kr) (M := Mr) (mw := mw) (R := R) (d := (xs (i + 1))) (h := (xs (i + 2))) (hw := hw) (hkw := hkw) (hkn := hkr) (hM := hMr)) cf_X5_through lk_L_76 rfl rfl rfl rfl rfl (by decide +kernel) (Nat.le_of_ble_eq_true rfl) (fun rv_15 wv_16 hp_17 hm_18 => ?_)
  clear hm_18
  obtain ⟨kw1_19, kn1_20, M1_21, mw1_22, rc_23, rv_24, hq_25, hkw1_26, hkn1_27, hM1_28, rfl, rfl⟩ := hp_17
  rw [sa_17]
  obtain ⟨ez, ey⟩ := Prod.mk.inj (hq_12.symm.trans hq_25)
  subst ez
  have ez := ey
  subst ez
  refine v_eqi 1756 zC dL_law_690 (by first | rfl | assumption) ?_
  refine v_swap ?_
  exact kk n m sh n5 m5 sh5 aw5 n2 m2 sh2 aw2 P1_5 Q1_6 cs ls rs ap sq pl ki op fa K G T ki5 op5 fa5 K5 G5 T5 ki2 op2 fa2 K2 G2 T2 mg_7 X_8 so wh va sg rw (rf R rc_10) kw1_19 kn1_20 mw1_22 pi tl kp im tu to Y_9 M1_21 lo pd bd tk kv sd ⟨(by first | assumption | exact trivial | omega | exact hf9 | exact hH9), (by first | assumption | exact trivial | omega | exact hf9 | exact hH9), (by first | assumption | exact trivial | omega | exact hf9 | exact hH9), (by first | assumption | exact trivial | omega | exact hf9 | exact hH9), (by first | assumption | exact trivial | omega | exact hf9 | exact hH9), (by first | assumption | exact trivial | omega | exact hf9 | exact hH9), (by first | assumption | exact trivial | omega | exact hf9 | exact hH9), (by first | assumption | exact trivial | omega | exact hf9 | exact hH9), (by first | assumption | exact trivial | omega | exact hf9 | exact hH9), (by first | assumption | exact trivial | omega | exact hf9 | exact hH9), (by first | assumption | exact trivial | omega | exact hf9 | exact hH9), (by first | assumption | exact trivial | omega | exact hf9 | exact hH9), (by first | assumption | exact trivial | omega | exact hf9 | exact hH9), (by first | assumption | exact trivial | omega | exact hf9 | exact hH9), (by first | assumption | exact trivial | omega | exact hf9 | exact hH9)⟩
set_option maxRecDepth 100000 in
set_option maxHeartbeats 4000000 in
theorem lawc_15 {E : EV} {cI : ClassId} {b L i : Nat} {xs : Nat → Int32} (x0 a0 a1 a2 a3 a4 a5 a6 c0 c1 c2 c3 c4 c5 c6 e0 e1 e2 e3 e4 e5 e6 b0 b1 b2 b3 g0 g1 g2 g3 s0 s1 w0 y0 r0 k1 k2 k3 k4 k6 k7 k8 k10 k12 k13 k14 k15 k16 k21 k22 k23 k24 k25 k30 k31 k33 : Nat) (zC : CX E cL_law RL (some .boolean) cI room_1) (hA : ∀ q, (ev_s E).heap.size ≤ q → ev_A E q) (hX : XS E b L xs) (hL : L ≤ 2560) (hi : i + 5 ≤ L) (kk : LGO E cI 1756 b i x0 a0 a1 a2 a3 a4 a5 a6 c0 c1 c2 c3 c4 c5 c6 e0 e1 e2 e3 e4 e5 e6 b0 b1 b2 b3 g0 g1 g2 g3 s0 s1 w0 y0 r0 k1 k2 k3 k4 k6 k7 k8 k10 k12 k13 k14 k15 k16 k21 k22 k23 k24 k25 k30 k31 k33) : LGO E cI 695 b i x0 a0 a1 a2 a3 a4 a5 a6 c0 c1 c2 c3 c4 c5 c6 e0 e1 e2 e3 e4 e5 e6 b0 b1 b2 b3 g0 g1 g2 g3 s0 s1 w0 y0 r0 k1 k2 k3 k4 k6 k7 k8 k10 k12 k13 k14 k15 k16 k21 k22 k23 k24 k25 k30 k31 k33 := by
  intro n m sh n5 m5 sh5 aw5 n2 m2 sh2 aw2 P Q cs ls rs ap sq pl ki op fa K G T ki5 op5 fa5 K5 G5 T5 ki2 op2 fa2 K2 G2 T2 mf kn so wh va sg rw R kw kr mw pi tl kp im tu to M Mr lo pd bd tk kv sd hI
  obtain ⟨hw, hw5, hw2, hB, hM, hcs, hH, hl, hsg, hr, hrw, hkw, hkr, hMr, hE9⟩ := hI
  obtain ⟨hn, hm, hsh, hki, hop, hfa, hK, hG, hT, -⟩ := id hw
  refine v_al_n 696 zC dL_law_695 2 rfl ?_
  refine v_al_n 697 zC dL_law_696 3 rfl ?_
  refine v_il_n 698 zC dL_law_697 0 rfl ?_
  refine v_ic (v := (nI 1)) 699 zC dL_law_698 (by decide +kernel) ?_
  refine v_iadd (v := (nI (i + 1))) 700 zC dL_law_699 (nI_add _ _) ?_
  refine v_sld 701 zC hX dL_law_700 (by omega) hL ?_
  refine v_al_n 702 zC dL_law_701 3 rfl ?_
  refine v_il_n 703 zC dL_law_702 0 rfl ?_
  refine v_ic (v := (nI 2)) 704 zC dL_law_703 (by decide +kernel) ?_
  refine v_iadd (v := (nI (i + 2))) 705 zC dL_law_704 (nI_add _ _) ?_
  refine v_sld 706 zC hX dL_law_705 (by omega) hL ?_
  refine v_cV2 (As := [.int (xs (i + 1)), .int (xs (i + 2))]) (st := []) 709 0 [0, 1, 2, 3, 4, 5, 6, 7, 8, 9, 10, 11, 12] zC dL_law_706 hA (c_X4_speak (ev_l E) (ev_D E) cI (x0 := x0) (xm := c0) (xp := e0) (g0 := g0) (s0 := s0) (w0 := w0) (y0 := y0) (pd := pd) (rs := rs) (b0 := b0) (b1 := b1) (b2 := b2) (b3 := b3) (P := P) (Q := Q) (mf := mf) (M := M) (kn := kn) (a0 := a0) (a1 := a1) (a2 := a2) (a3 := a3) (a4 := a4) (a5 := a5) (a6 := a6) (n := n) (m := m) (sh := sh) (ki := ki) (op := op) (fa := fa) (K := K) (G := G) (T := T) (R := R) (p := (xs (i + 1))) (h := (xs (i + 2))) (hw := hw) (hB := hB) (hM := hM)) cf_X4_speak lk_L_77 rfl rfl rfl rfl rfl (by decide +kernel) (Nat.le_of_ble_eq_true rfl) (fun rv_1 wv_2 hp_3 hm_4 => ?_)
  clear hm_4
  obtain ⟨P1_5, Q1_6, mg_7, X_8, Y_9, rc_10, rv_11, hq_12, hB1_13, hM1_14, rfl, rfl⟩ := hp_3
  rw [sa_16]
  refine v_al_n 710 zC dL_law_709 1 rfl ?_
  refine v_al_n 711 zC dL_law_710 3 rfl ?_
  refine v_il_n 712 zC dL_law_711 0 rfl ?_
  refine v_ic (v := (nI 1)) 713 zC dL_law_712 (by decide +kernel) ?_
  refine v_iadd (v := (nI (i + 1))) 714 zC dL_law_713 (nI_add _ _) ?_
  refine v_sld 715 zC hX dL_law_714 (by omega) hL ?_
  refine v_al_n 716 zC dL_law_715 3 rfl ?_
  refine v_il_n 717 zC dL_law_716 0 rfl ?_
  refine v_ic (v := (nI 2)) 718 zC dL_law_717 (by decide +kernel) ?_
  refine v_iadd (v := (nI (i + 2))) 719 zC dL_law_718 (nI_add _ _) ?_
  refine v_sld 720 zC hX dL_law_719 (by omega) hL ?_
  refine v_swap ?_
  refine v_cV2 (As := [.int (xs (i + 1)), .int (xs (i + 2))]) (st := [.int rv_11]) 723 0 [0, 1, 2, 3, 4, 5, 6, 7, 8, 9, 10, 11, 12] zC dL_law_720 hA (c_X5_speak (ev_l E) (ev_D E) cI (r0 := r0) (k1 := k1) (k2 := k2) (k3 := k3) (k4 := k4) (k6 := k6) (k7 := k7) (k8 := k8) (k10 := k10) (k12 := k12) (k13 := k13) (k14 := k14) (k15 := k15) (k16 := k16) (k21 := k21) (k22 := k22) (k23 := k23) (k24 := k24) (k25 := k25) (k30 := k30) (k31 := k31) (k33 := k33) (n := n) (m := m) (ls := ls) (ap := ap) (sq := sq) (pl := pl) (tz := cs) (rs := rs) (bd := bd) (pd := pd) (tk := tk) (kv := kv) (sd := sd) (ki := ki) (op := op) (fa := fa) (K := K) (G := G) (T := T) (sh := sh) (kw := kw) (kn := kr) (M := Mr) (mw := mw) (R := R) (p := (xs (i + 1))) (h := (xs (i + 2))) (hw := hw) (hkw := hkw) (hkn := hkr) (hM := hMr)) cf_X5_speak lk_L_80 rfl rfl rfl rfl rfl (by decide +kernel) (Nat.le_of_ble_eq_true rfl) (fun rv_15 wv_16 hp_17 hm_18 => ?_)
  clear hm_18
  obtain ⟨kw1_19, kn1_20, M1_21, mw1_22, rc_23, rv_24, hq_25, hkw1_26, hkn1_27, hM1_28, rfl, rfl⟩ := hp_17
  rw [sa_17]
  obtain ⟨ez, ey⟩ := Prod.mk.inj (hq_12.symm.trans hq_25)
  subst ez
  have ez := ey
  subst ez
  refine v_eqi 1756 zC dL_law_723 (by first | rfl | assumption) ?_
  refine v_swap ?_
  exact kk n m sh n5 m5 sh5 aw5 n2 m2 sh2 aw2 P1_5 Q1_6 cs ls rs ap sq pl ki op fa K G T ki5 op5 fa5 K5 G5 T5 ki2 op2 fa2 K2 G2 T2 mg_7 X_8 so wh va sg rw (rf R rc_10) kw1_19 kn1_20 mw1_22 pi tl kp im tu to Y_9 M1_21 lo pd bd tk kv sd ⟨(by first | assumption | exact trivial | omega | exact hf9 | exact hH9), (by first | assumption | exact trivial | omega | exact hf9 | exact hH9), (by first | assumption | exact trivial | omega | exact hf9 | exact hH9), (by first | assumption | exact trivial | omega | exact hf9 | exact hH9), (by first | assumption | exact trivial | omega | exact hf9 | exact hH9), (by first | assumption | exact trivial | omega | exact hf9 | exact hH9), (by first | assumption | exact trivial | omega | exact hf9 | exact hH9), (by first | assumption | exact trivial | omega | exact hf9 | exact hH9), (by first | assumption | exact trivial | omega | exact hf9 | exact hH9), (by first | assumption | exact trivial | omega | exact hf9 | exact hH9), (by first | assumption | exact trivial | omega | exact hf9 | exact hH9), (by first | assumption | exact trivial | omega | exact hf9 | exact hH9), (by first | assumption | exact trivial | omega | exact hf9 | exact hH9), (by first | assumption | exact trivial | omega | exact hf9 | exact hH9), (by first | assumption | exact trivial | omega | exact hf9 | exact hH9)⟩
set_option maxRecDepth 100000 in
set_option maxHeartbeats 4000000 in
theorem lawc_16 {E : EV} {cI : ClassId} {b L i : Nat} {xs : Nat → Int32} (x0 a0 a1 a2 a3 a4 a5 a6 c0 c1 c2 c3 c4 c5 c6 e0 e1 e2 e3 e4 e5 e6 b0 b1 b2 b3 g0 g1 g2 g3 s0 s1 w0 y0 r0 k1 k2 k3 k4 k6 k7 k8 k10 k12 k13 k14 k15 k16 k21 k22 k23 k24 k25 k30 k31 k33 : Nat) (zC : CX E cL_law RL (some .boolean) cI room_1) (hA : ∀ q, (ev_s E).heap.size ≤ q → ev_A E q) (hX : XS E b L xs) (hL : L ≤ 2560) (hi : i + 5 ≤ L) (kk : LGO E cI 1756 b i x0 a0 a1 a2 a3 a4 a5 a6 c0 c1 c2 c3 c4 c5 c6 e0 e1 e2 e3 e4 e5 e6 b0 b1 b2 b3 g0 g1 g2 g3 s0 s1 w0 y0 r0 k1 k2 k3 k4 k6 k7 k8 k10 k12 k13 k14 k15 k16 k21 k22 k23 k24 k25 k30 k31 k33) : LGO E cI 728 b i x0 a0 a1 a2 a3 a4 a5 a6 c0 c1 c2 c3 c4 c5 c6 e0 e1 e2 e3 e4 e5 e6 b0 b1 b2 b3 g0 g1 g2 g3 s0 s1 w0 y0 r0 k1 k2 k3 k4 k6 k7 k8 k10 k12 k13 k14 k15 k16 k21 k22 k23 k24 k25 k30 k31 k33 := by
  intro n m sh n5 m5 sh5 aw5 n2 m2 sh2 aw2 P Q cs ls rs ap sq pl ki op fa K G T ki5 op5 fa5 K5 G5 T5 ki2 op2 fa2 K2 G2 T2 mf kn so wh va sg rw R kw kr mw pi tl kp im tu to M Mr lo pd bd tk kv sd hI
  obtain ⟨hw, hw5, hw2, hB, hM, hcs, hH, hl, hsg, hr, hrw, hkw, hkr, hMr, hE9⟩ := hI
  obtain ⟨hn, hm, hsh, hki, hop, hfa, hK, hG, hT, -⟩ := id hw
  refine v_al_n 729 zC dL_law_728 2 rfl ?_
  refine v_al_n 730 zC dL_law_729 3 rfl ?_
  refine v_il_n 731 zC dL_law_730 0 rfl ?_
  refine v_ic (v := (nI 1)) 732 zC dL_law_731 (by decide +kernel) ?_
  refine v_iadd (v := (nI (i + 1))) 733 zC dL_law_732 (nI_add _ _) ?_
  refine v_sld 734 zC hX dL_law_733 (by omega) hL ?_
  refine v_cV2 (As := [.int (xs (i + 1))]) (st := []) 737 0 [0, 1, 2, 3, 4, 5, 6, 7, 8, 9, 10, 11, 12] zC dL_law_734 hA (c_X4_two (ev_l E) (ev_D E) cI (x0 := x0) (xm := c0) (xp := e0) (g0 := g0) (s0 := s0) (w0 := w0) (y0 := y0) (pd := pd) (rs := rs) (b0 := b0) (b1 := b1) (b2 := b2) (b3 := b3) (P := P) (Q := Q) (mf := mf) (M := M) (kn := kn) (a0 := a0) (a1 := a1) (a2 := a2) (a3 := a3) (a4 := a4) (a5 := a5) (a6 := a6) (n := n) (m := m) (sh := sh) (ki := ki) (op := op) (fa := fa) (K := K) (G := G) (T := T) (R := R) (w := (xs (i + 1))) (hw := hw) (hB := hB) (hM := hM)) cf_X4_two lk_L_81 rfl rfl rfl rfl rfl (by decide +kernel) (Nat.le_of_ble_eq_true rfl) (fun rv_1 wv_2 hp_3 hm_4 => ?_)
  clear hm_4
  obtain ⟨P1_5, Q1_6, mg_7, X_8, Y_9, rc_10, rv_11, hq_12, hB1_13, hM1_14, rfl, rfl⟩ := hp_3
  rw [sa_16]
  refine v_al_n 738 zC dL_law_737 1 rfl ?_
  refine v_al_n 739 zC dL_law_738 3 rfl ?_
  refine v_il_n 740 zC dL_law_739 0 rfl ?_
  refine v_ic (v := (nI 1)) 741 zC dL_law_740 (by decide +kernel) ?_
  refine v_iadd (v := (nI (i + 1))) 742 zC dL_law_741 (nI_add _ _) ?_
  refine v_sld 743 zC hX dL_law_742 (by omega) hL ?_
  refine v_swap ?_
  refine v_cV2 (As := [.int (xs (i + 1))]) (st := [.int rv_11]) 746 0 [0, 1, 2, 3, 4, 5, 6, 7, 8, 9, 10, 11, 12] zC dL_law_743 hA (c_X5_two (ev_l E) (ev_D E) cI (r0 := r0) (k1 := k1) (k2 := k2) (k3 := k3) (k4 := k4) (k6 := k6) (k7 := k7) (k8 := k8) (k10 := k10) (k12 := k12) (k13 := k13) (k14 := k14) (k15 := k15) (k16 := k16) (k21 := k21) (k22 := k22) (k23 := k23) (k24 := k24) (k25 := k25) (k30 := k30) (k31 := k31) (k33 := k33) (n := n) (m := m) (ls := ls) (ap := ap) (sq := sq) (pl := pl) (tz := cs) (rs := rs) (bd := bd) (pd := pd) (tk := tk) (kv := kv) (sd := sd) (ki := ki) (op := op) (fa := fa) (K := K) (G := G) (T := T) (sh := sh) (kw := kw) (kn := kr) (M := Mr) (mw := mw) (R := R) (w := (xs (i + 1))) (hw := hw) (hkw := hkw) (hkn := hkr) (hM := hMr)) cf_X5_two lk_L_84 rfl rfl rfl rfl rfl (by decide +kernel) (Nat.le_of_ble_eq_true rfl) (fun rv_15 wv_16 hp_17 hm_18 => ?_)
  clear hm_18
  obtain ⟨kw1_19, kn1_20, M1_21, mw1_22, rc_23, rv_24, hq_25, hkw1_26, hkn1_27, hM1_28, rfl, rfl⟩ := hp_17
  rw [sa_17]
  obtain ⟨ez, ey⟩ := Prod.mk.inj (hq_12.symm.trans hq_25)
  subst ez
  have ez := ey
  subst ez
  refine v_eqi 1756 zC dL_law_746 (by first | rfl | assumption) ?_
  refine v_swap ?_
  exact kk n m sh n5 m5 sh5 aw5 n2 m2 sh2 aw2 P1_5 Q1_6 cs ls rs ap sq pl ki op fa K G T ki5 op5 fa5 K5 G5 T5 ki2 op2 fa2 K2 G2 T2 mg_7 X_8 so wh va sg rw (rf R rc_10) kw1_19 kn1_20 mw1_22 pi tl kp im tu to Y_9 M1_21 lo pd bd tk kv sd ⟨(by first | assumption | exact trivial | omega | exact hf9 | exact hH9), (by first | assumption | exact trivial | omega | exact hf9 | exact hH9), (by first | assumption | exact trivial | omega | exact hf9 | exact hH9), (by first | assumption | exact trivial | omega | exact hf9 | exact hH9), (by first | assumption | exact trivial | omega | exact hf9 | exact hH9), (by first | assumption | exact trivial | omega | exact hf9 | exact hH9), (by first | assumption | exact trivial | omega | exact hf9 | exact hH9), (by first | assumption | exact trivial | omega | exact hf9 | exact hH9), (by first | assumption | exact trivial | omega | exact hf9 | exact hH9), (by first | assumption | exact trivial | omega | exact hf9 | exact hH9), (by first | assumption | exact trivial | omega | exact hf9 | exact hH9), (by first | assumption | exact trivial | omega | exact hf9 | exact hH9), (by first | assumption | exact trivial | omega | exact hf9 | exact hH9), (by first | assumption | exact trivial | omega | exact hf9 | exact hH9), (by first | assumption | exact trivial | omega | exact hf9 | exact hH9)⟩
set_option maxRecDepth 100000 in
set_option maxHeartbeats 4000000 in
theorem lawc_17 {E : EV} {cI : ClassId} {b L i : Nat} {xs : Nat → Int32} (x0 a0 a1 a2 a3 a4 a5 a6 c0 c1 c2 c3 c4 c5 c6 e0 e1 e2 e3 e4 e5 e6 b0 b1 b2 b3 g0 g1 g2 g3 s0 s1 w0 y0 r0 k1 k2 k3 k4 k6 k7 k8 k10 k12 k13 k14 k15 k16 k21 k22 k23 k24 k25 k30 k31 k33 : Nat) (zC : CX E cL_law RL (some .boolean) cI room_1) (hA : ∀ q, (ev_s E).heap.size ≤ q → ev_A E q) (hX : XS E b L xs) (hL : L ≤ 2560) (hi : i + 5 ≤ L) (kk : LGO E cI 1756 b i x0 a0 a1 a2 a3 a4 a5 a6 c0 c1 c2 c3 c4 c5 c6 e0 e1 e2 e3 e4 e5 e6 b0 b1 b2 b3 g0 g1 g2 g3 s0 s1 w0 y0 r0 k1 k2 k3 k4 k6 k7 k8 k10 k12 k13 k14 k15 k16 k21 k22 k23 k24 k25 k30 k31 k33) : LGO E cI 751 b i x0 a0 a1 a2 a3 a4 a5 a6 c0 c1 c2 c3 c4 c5 c6 e0 e1 e2 e3 e4 e5 e6 b0 b1 b2 b3 g0 g1 g2 g3 s0 s1 w0 y0 r0 k1 k2 k3 k4 k6 k7 k8 k10 k12 k13 k14 k15 k16 k21 k22 k23 k24 k25 k30 k31 k33 := by
  intro n m sh n5 m5 sh5 aw5 n2 m2 sh2 aw2 P Q cs ls rs ap sq pl ki op fa K G T ki5 op5 fa5 K5 G5 T5 ki2 op2 fa2 K2 G2 T2 mf kn so wh va sg rw R kw kr mw pi tl kp im tu to M Mr lo pd bd tk kv sd hI
  obtain ⟨hw, hw5, hw2, hB, hM, hcs, hH, hl, hsg, hr, hrw, hkw, hkr, hMr, hE9⟩ := hI
  obtain ⟨hn, hm, hsh, hki, hop, hfa, hK, hG, hT, -⟩ := id hw
  refine v_al_n 752 zC dL_law_751 2 rfl ?_
  refine v_al_n 753 zC dL_law_752 3 rfl ?_
  refine v_il_n 754 zC dL_law_753 0 rfl ?_
  refine v_ic (v := (nI 1)) 755 zC dL_law_754 (by decide +kernel) ?_
  refine v_iadd (v := (nI (i + 1))) 756 zC dL_law_755 (nI_add _ _) ?_
  refine v_sld 757 zC hX dL_law_756 (by omega) hL ?_
  refine v_al_n 758 zC dL_law_757 3 rfl ?_
  refine v_il_n 759 zC dL_law_758 0 rfl ?_
  refine v_ic (v := (nI 2)) 760 zC dL_law_759 (by decide +kernel) ?_
  refine v_iadd (v := (nI (i + 2))) 761 zC dL_law_760 (nI_add _ _) ?_
  refine v_sld 762 zC hX dL_law_761 (by omega) hL ?_
  refine v_cV2 (As := [.int (xs (i + 1)), .int (xs (i + 2))]) (st := []) 765 0 [0, 1, 2, 3, 4, 5, 6, 7, 8, 9, 10, 11, 12] zC dL_law_762 hA (c_X4_heard (ev_l E) (ev_D E) cI (x0 := x0) (xm := c0) (xp := e0) (g0 := g0) (s0 := s0) (w0 := w0) (y0 := y0) (pd := pd) (rs := rs) (b0 := b0) (b1 := b1) (b2 := b2) (b3 := b3) (P := P) (Q := Q) (mf := mf) (M := M) (kn := kn) (a0 := a0) (a1 := a1) (a2 := a2) (a3 := a3) (a4 := a4) (a5 := a5) (a6 := a6) (n := n) (m := m) (sh := sh) (ki := ki) (op := op) (fa := fa) (K := K) (G := G) (T := T) (R := R) (p := (xs (i + 1))) (f := (xs (i + 2))) (hw := hw) (hB := hB) (hM := hM)) cf_X4_heard lk_L_85 rfl rfl rfl rfl rfl (by decide +kernel) (Nat.le_of_ble_eq_true rfl) (fun rv_1 wv_2 hp_3 hm_4 => ?_)
  clear hm_4
  obtain ⟨P1_5, Q1_6, mg_7, X_8, Y_9, rc_10, rv_11, hq_12, hB1_13, hM1_14, rfl, rfl⟩ := hp_3
  rw [sa_16]
  refine v_al_n 766 zC dL_law_765 1 rfl ?_
  refine v_al_n 767 zC dL_law_766 3 rfl ?_
  refine v_il_n 768 zC dL_law_767 0 rfl ?_
  refine v_ic (v := (nI 1)) 769 zC dL_law_768 (by decide +kernel) ?_
  refine v_iadd (v := (nI (i + 1))) 770 zC dL_law_769 (nI_add _ _) ?_
  refine v_sld 771 zC hX dL_law_770 (by omega) hL ?_
  refine v_al_n 772 zC dL_law_771 3 rfl ?_
  refine v_il_n 773 zC dL_law_772 0 rfl ?_
  refine v_ic (v := (nI 2)) 774 zC dL_law_773 (by decide +kernel) ?_
  refine v_iadd (v := (nI (i + 2))) 775 zC dL_law_774 (nI_add _ _) ?_
  refine v_sld 776 zC hX dL_law_775 (by omega) hL ?_
  refine v_swap ?_
  refine v_cV2 (As := [.int (xs (i + 1)), .int (xs (i + 2))]) (st := [.int rv_11]) 779 0 [0, 1, 2, 3, 4, 5, 6, 7, 8, 9, 10, 11, 12] zC dL_law_776 hA (c_X5_heard (ev_l E) (ev_D E) cI (r0 := r0) (k1 := k1) (k2 := k2) (k3 := k3) (k4 := k4) (k6 := k6) (k7 := k7) (k8 := k8) (k10 := k10) (k12 := k12) (k13 := k13) (k14 := k14) (k15 := k15) (k16 := k16) (k21 := k21) (k22 := k22) (k23 := k23) (k24 := k24) (k25 := k25) (k30 := k30) (k31 := k31) (k33 := k33) (n := n) (m := m) (ls := ls) (ap := ap) (sq := sq) (pl := pl) (tz := cs) (rs := rs) (bd := bd) (pd := pd) (tk := tk) (kv := kv) (sd := sd) (ki := ki) (op := op) (fa := fa) (K := K) (G := G) (T := T) (sh := sh) (kw := kw) (kn := kr) (M := Mr) (mw := mw) (R := R) (p := (xs (i + 1))) (f := (xs (i + 2))) (hw := hw) (hkw := hkw) (hkn := hkr) (hM := hMr)) cf_X5_heard lk_L_88 rfl rfl rfl rfl rfl (by decide +kernel) (Nat.le_of_ble_eq_true rfl) (fun rv_15 wv_16 hp_17 hm_18 => ?_)
  clear hm_18
  obtain ⟨kw1_19, kn1_20, M1_21, mw1_22, rc_23, rv_24, hq_25, hkw1_26, hkn1_27, hM1_28, rfl, rfl⟩ := hp_17
  rw [sa_17]
  obtain ⟨ez, ey⟩ := Prod.mk.inj (hq_12.symm.trans hq_25)
  subst ez
  have ez := ey
  subst ez
  refine v_eqi 1756 zC dL_law_779 (by first | rfl | assumption) ?_
  refine v_swap ?_
  exact kk n m sh n5 m5 sh5 aw5 n2 m2 sh2 aw2 P1_5 Q1_6 cs ls rs ap sq pl ki op fa K G T ki5 op5 fa5 K5 G5 T5 ki2 op2 fa2 K2 G2 T2 mg_7 X_8 so wh va sg rw (rf R rc_10) kw1_19 kn1_20 mw1_22 pi tl kp im tu to Y_9 M1_21 lo pd bd tk kv sd ⟨(by first | assumption | exact trivial | omega | exact hf9 | exact hH9), (by first | assumption | exact trivial | omega | exact hf9 | exact hH9), (by first | assumption | exact trivial | omega | exact hf9 | exact hH9), (by first | assumption | exact trivial | omega | exact hf9 | exact hH9), (by first | assumption | exact trivial | omega | exact hf9 | exact hH9), (by first | assumption | exact trivial | omega | exact hf9 | exact hH9), (by first | assumption | exact trivial | omega | exact hf9 | exact hH9), (by first | assumption | exact trivial | omega | exact hf9 | exact hH9), (by first | assumption | exact trivial | omega | exact hf9 | exact hH9), (by first | assumption | exact trivial | omega | exact hf9 | exact hH9), (by first | assumption | exact trivial | omega | exact hf9 | exact hH9), (by first | assumption | exact trivial | omega | exact hf9 | exact hH9), (by first | assumption | exact trivial | omega | exact hf9 | exact hH9), (by first | assumption | exact trivial | omega | exact hf9 | exact hH9), (by first | assumption | exact trivial | omega | exact hf9 | exact hH9)⟩
set_option maxRecDepth 100000 in
set_option maxHeartbeats 4000000 in
theorem lawc_18 {E : EV} {cI : ClassId} {b L i : Nat} {xs : Nat → Int32} (x0 a0 a1 a2 a3 a4 a5 a6 c0 c1 c2 c3 c4 c5 c6 e0 e1 e2 e3 e4 e5 e6 b0 b1 b2 b3 g0 g1 g2 g3 s0 s1 w0 y0 r0 k1 k2 k3 k4 k6 k7 k8 k10 k12 k13 k14 k15 k16 k21 k22 k23 k24 k25 k30 k31 k33 : Nat) (zC : CX E cL_law RL (some .boolean) cI room_1) (hA : ∀ q, (ev_s E).heap.size ≤ q → ev_A E q) (hX : XS E b L xs) (hL : L ≤ 2560) (hi : i + 5 ≤ L) (kk : LGO E cI 1756 b i x0 a0 a1 a2 a3 a4 a5 a6 c0 c1 c2 c3 c4 c5 c6 e0 e1 e2 e3 e4 e5 e6 b0 b1 b2 b3 g0 g1 g2 g3 s0 s1 w0 y0 r0 k1 k2 k3 k4 k6 k7 k8 k10 k12 k13 k14 k15 k16 k21 k22 k23 k24 k25 k30 k31 k33) : LGO E cI 784 b i x0 a0 a1 a2 a3 a4 a5 a6 c0 c1 c2 c3 c4 c5 c6 e0 e1 e2 e3 e4 e5 e6 b0 b1 b2 b3 g0 g1 g2 g3 s0 s1 w0 y0 r0 k1 k2 k3 k4 k6 k7 k8 k10 k12 k13 k14 k15 k16 k21 k22 k23 k24 k25 k30 k31 k33 := by
  intro n m sh n5 m5 sh5 aw5 n2 m2 sh2 aw2 P Q cs ls rs ap sq pl ki op fa K G T ki5 op5 fa5 K5 G5 T5 ki2 op2 fa2 K2 G2 T2 mf kn so wh va sg rw R kw kr mw pi tl kp im tu to M Mr lo pd bd tk kv sd hI
  obtain ⟨hw, hw5, hw2, hB, hM, hcs, hH, hl, hsg, hr, hrw, hkw, hkr, hMr, hE9⟩ := hI
  obtain ⟨hn, hm, hsh, hki, hop, hfa, hK, hG, hT, -⟩ := id hw
  refine v_al_n 785 zC dL_law_784 2 rfl ?_
  refine v_al_n 786 zC dL_law_785 3 rfl ?_
  refine v_il_n 787 zC dL_law_786 0 rfl ?_
  refine v_ic (v := (nI 1)) 788 zC dL_law_787 (by decide +kernel) ?_
  refine v_iadd (v := (nI (i + 1))) 789 zC dL_law_788 (nI_add _ _) ?_
  refine v_sld 790 zC hX dL_law_789 (by omega) hL ?_
  refine v_cV2 (As := [.int (xs (i + 1))]) (st := []) 793 0 [0, 1, 2, 3, 4, 5, 6, 7, 8, 9, 10, 11, 12] zC dL_law_790 hA (c_X4_spoke (ev_l E) (ev_D E) cI (x0 := x0) (xm := c0) (xp := e0) (g0 := g0) (s0 := s0) (w0 := w0) (y0 := y0) (pd := pd) (rs := rs) (b0 := b0) (b1 := b1) (b2 := b2) (b3 := b3) (P := P) (Q := Q) (mf := mf) (M := M) (kn := kn) (a0 := a0) (a1 := a1) (a2 := a2) (a3 := a3) (a4 := a4) (a5 := a5) (a6 := a6) (n := n) (m := m) (sh := sh) (ki := ki) (op := op) (fa := fa) (K := K) (G := G) (T := T) (R := R) (d := (xs (i + 1))) (hw := hw) (hB := hB) (hM := hM)) cf_X4_spoke lk_L_89 rfl rfl rfl rfl rfl (by decide +kernel) (Nat.le_of_ble_eq_true rfl) (fun rv_1 wv_2 hp_3 hm_4 => ?_)
  clear hm_4
  obtain ⟨P1_5, Q1_6, mg_7, X_8, Y_9, rc_10, rv_11, hq_12, hB1_13, hM1_14, rfl, rfl⟩ := hp_3
  rw [sa_16]
  refine v_al_n 794 zC dL_law_793 1 rfl ?_
  refine v_al_n 795 zC dL_law_794 3 rfl ?_
  refine v_il_n 796 zC dL_law_795 0 rfl ?_
  refine v_ic (v := (nI 1)) 797 zC dL_law_796 (by decide +kernel) ?_
  refine v_iadd (v := (nI (i + 1))) 798 zC dL_law_797 (nI_add _ _) ?_
  refine v_sld 799 zC hX dL_law_798 (by omega) hL ?_
  refine v_swap ?_
  refine v_cV2 (As := [.int (xs (i + 1))]) (st := [.int rv_11]) 802 0 [0, 1, 2, 3, 4, 5, 6, 7, 8, 9, 10, 11, 12] zC dL_law_799 hA (c_X5_spoke (ev_l E) (ev_D E) cI (r0 := r0) (k1 := k1) (k2 := k2) (k3 := k3) (k4 := k4) (k6 := k6) (k7 := k7) (k8 := k8) (k10 := k10) (k12 := k12) (k13 := k13) (k14 := k14) (k15 := k15) (k16 := k16) (k21 := k21) (k22 := k22) (k23 := k23) (k24 := k24) (k25 := k25) (k30 := k30) (k31 := k31) (k33 := k33) (n := n) (m := m) (ls := ls) (ap := ap) (sq := sq) (pl := pl) (tz := cs) (rs := rs) (bd := bd) (pd := pd) (tk := tk) (kv := kv) (sd := sd) (ki := ki) (op := op) (fa := fa) (K := K) (G := G) (T := T) (sh := sh) (kw := kw) (kn := kr) (M := Mr) (mw := mw) (R := R) (d := (xs (i + 1))) (hw := hw) (hkw := hkw) (hkn := hkr) (hM := hMr)) cf_X5_spoke lk_L_92 rfl rfl rfl rfl rfl (by decide +kernel) (Nat.le_of_ble_eq_true rfl) (fun rv_15 wv_16 hp_17 hm_18 => ?_)
  clear hm_18
  obtain ⟨kw1_19, kn1_20, M1_21, mw1_22, rc_23, rv_24, hq_25, hkw1_26, hkn1_27, hM1_28, rfl, rfl⟩ := hp_17
  rw [sa_17]
  obtain ⟨ez, ey⟩ := Prod.mk.inj (hq_12.symm.trans hq_25)
  subst ez
  have ez := ey
  subst ez
  refine v_eqi 1756 zC dL_law_802 (by first | rfl | assumption) ?_
  refine v_swap ?_
  exact kk n m sh n5 m5 sh5 aw5 n2 m2 sh2 aw2 P1_5 Q1_6 cs ls rs ap sq pl ki op fa K G T ki5 op5 fa5 K5 G5 T5 ki2 op2 fa2 K2 G2 T2 mg_7 X_8 so wh va sg rw (rf R rc_10) kw1_19 kn1_20 mw1_22 pi tl kp im tu to Y_9 M1_21 lo pd bd tk kv sd ⟨(by first | assumption | exact trivial | omega | exact hf9 | exact hH9), (by first | assumption | exact trivial | omega | exact hf9 | exact hH9), (by first | assumption | exact trivial | omega | exact hf9 | exact hH9), (by first | assumption | exact trivial | omega | exact hf9 | exact hH9), (by first | assumption | exact trivial | omega | exact hf9 | exact hH9), (by first | assumption | exact trivial | omega | exact hf9 | exact hH9), (by first | assumption | exact trivial | omega | exact hf9 | exact hH9), (by first | assumption | exact trivial | omega | exact hf9 | exact hH9), (by first | assumption | exact trivial | omega | exact hf9 | exact hH9), (by first | assumption | exact trivial | omega | exact hf9 | exact hH9), (by first | assumption | exact trivial | omega | exact hf9 | exact hH9), (by first | assumption | exact trivial | omega | exact hf9 | exact hH9), (by first | assumption | exact trivial | omega | exact hf9 | exact hH9), (by first | assumption | exact trivial | omega | exact hf9 | exact hH9), (by first | assumption | exact trivial | omega | exact hf9 | exact hH9)⟩
set_option maxRecDepth 100000 in
set_option maxHeartbeats 4000000 in
theorem lawc_19 {E : EV} {cI : ClassId} {b L i : Nat} {xs : Nat → Int32} (x0 a0 a1 a2 a3 a4 a5 a6 c0 c1 c2 c3 c4 c5 c6 e0 e1 e2 e3 e4 e5 e6 b0 b1 b2 b3 g0 g1 g2 g3 s0 s1 w0 y0 r0 k1 k2 k3 k4 k6 k7 k8 k10 k12 k13 k14 k15 k16 k21 k22 k23 k24 k25 k30 k31 k33 : Nat) (zC : CX E cL_law RL (some .boolean) cI room_1) (hA : ∀ q, (ev_s E).heap.size ≤ q → ev_A E q) (hX : XS E b L xs) (hL : L ≤ 2560) (hi : i + 5 ≤ L) (kk : LGO E cI 1756 b i x0 a0 a1 a2 a3 a4 a5 a6 c0 c1 c2 c3 c4 c5 c6 e0 e1 e2 e3 e4 e5 e6 b0 b1 b2 b3 g0 g1 g2 g3 s0 s1 w0 y0 r0 k1 k2 k3 k4 k6 k7 k8 k10 k12 k13 k14 k15 k16 k21 k22 k23 k24 k25 k30 k31 k33) : LGO E cI 807 b i x0 a0 a1 a2 a3 a4 a5 a6 c0 c1 c2 c3 c4 c5 c6 e0 e1 e2 e3 e4 e5 e6 b0 b1 b2 b3 g0 g1 g2 g3 s0 s1 w0 y0 r0 k1 k2 k3 k4 k6 k7 k8 k10 k12 k13 k14 k15 k16 k21 k22 k23 k24 k25 k30 k31 k33 := by
  intro n m sh n5 m5 sh5 aw5 n2 m2 sh2 aw2 P Q cs ls rs ap sq pl ki op fa K G T ki5 op5 fa5 K5 G5 T5 ki2 op2 fa2 K2 G2 T2 mf kn so wh va sg rw R kw kr mw pi tl kp im tu to M Mr lo pd bd tk kv sd hI
  obtain ⟨hw, hw5, hw2, hB, hM, hcs, hH, hl, hsg, hr, hrw, hkw, hkr, hMr, hE9⟩ := hI
  obtain ⟨hn, hm, hsh, hki, hop, hfa, hK, hG, hT, -⟩ := id hw
  refine v_al_n 808 zC dL_law_807 2 rfl ?_
  refine v_al_n 809 zC dL_law_808 3 rfl ?_
  refine v_il_n 810 zC dL_law_809 0 rfl ?_
  refine v_ic (v := (nI 1)) 811 zC dL_law_810 (by decide +kernel) ?_
  refine v_iadd (v := (nI (i + 1))) 812 zC dL_law_811 (nI_add _ _) ?_
  refine v_sld 813 zC hX dL_law_812 (by omega) hL ?_
  refine v_al_n 814 zC dL_law_813 3 rfl ?_
  refine v_il_n 815 zC dL_law_814 0 rfl ?_
  refine v_ic (v := (nI 2)) 816 zC dL_law_815 (by decide +kernel) ?_
  refine v_iadd (v := (nI (i + 2))) 817 zC dL_law_816 (nI_add _ _) ?_
  refine v_sld 818 zC hX dL_law_817 (by omega) hL ?_
  refine v_cV2 (As := [.int (xs (i + 1)), .int (xs (i + 2))]) (st := []) 821 0 [0, 1, 2, 3, 4, 5, 6, 7, 8, 9, 10, 11, 12] zC dL_law_818 hA (c_X4_told (ev_l E) (ev_D E) cI (x0 := x0) (xm := c0) (xp := e0) (g0 := g0) (s0 := s0) (w0 := w0) (y0 := y0) (pd := pd) (rs := rs) (b0 := b0) (b1 := b1) (b2 := b2) (b3 := b3) (P := P) (Q := Q) (mf := mf) (M := M) (kn := kn) (a0 := a0) (a1 := a1) (a2 := a2) (a3 := a3) (a4 := a4) (a5 := a5) (a6 := a6) (n := n) (m := m) (sh := sh) (ki := ki) (op := op) (fa := fa) (K := K) (G := G) (T := T) (R := R) (f := (xs (i + 1))) (w := (xs (i + 2))) (hw := hw) (hB := hB) (hM := hM)) cf_X4_told lk_L_93 rfl rfl rfl rfl rfl (by decide +kernel) (Nat.le_of_ble_eq_true rfl) (fun rv_1 wv_2 hp_3 hm_4 => ?_)
  clear hm_4
  obtain ⟨P1_5, Q1_6, mg_7, X_8, Y_9, rc_10, rv_11, hq_12, hB1_13, hM1_14, rfl, rfl⟩ := hp_3
  rw [sa_16]
  refine v_al_n 822 zC dL_law_821 1 rfl ?_
  refine v_al_n 823 zC dL_law_822 3 rfl ?_
  refine v_il_n 824 zC dL_law_823 0 rfl ?_
  refine v_ic (v := (nI 1)) 825 zC dL_law_824 (by decide +kernel) ?_
  refine v_iadd (v := (nI (i + 1))) 826 zC dL_law_825 (nI_add _ _) ?_
  refine v_sld 827 zC hX dL_law_826 (by omega) hL ?_
  refine v_al_n 828 zC dL_law_827 3 rfl ?_
  refine v_il_n 829 zC dL_law_828 0 rfl ?_
  refine v_ic (v := (nI 2)) 830 zC dL_law_829 (by decide +kernel) ?_
  refine v_iadd (v := (nI (i + 2))) 831 zC dL_law_830 (nI_add _ _) ?_
  refine v_sld 832 zC hX dL_law_831 (by omega) hL ?_
  refine v_swap ?_
  refine v_cV2 (As := [.int (xs (i + 1)), .int (xs (i + 2))]) (st := [.int rv_11]) 835 0 [0, 1, 2, 3, 4, 5, 6, 7, 8, 9, 10, 11, 12] zC dL_law_832 hA (c_X5_told (ev_l E) (ev_D E) cI (r0 := r0) (k1 := k1) (k2 := k2) (k3 := k3) (k4 := k4) (k6 := k6) (k7 := k7) (k8 := k8) (k10 := k10) (k12 := k12) (k13 := k13) (k14 := k14) (k15 := k15) (k16 := k16) (k21 := k21) (k22 := k22) (k23 := k23) (k24 := k24) (k25 := k25) (k30 := k30) (k31 := k31) (k33 := k33) (n := n) (m := m) (ls := ls) (ap := ap) (sq := sq) (pl := pl) (tz := cs) (rs := rs) (bd := bd) (pd := pd) (tk := tk) (kv := kv) (sd := sd) (ki := ki) (op := op) (fa := fa) (K := K) (G := G) (T := T) (sh := sh) (kw := kw) (kn := kr) (M := Mr) (mw := mw) (R := R) (f := (xs (i + 1))) (w := (xs (i + 2))) (hw := hw) (hkw := hkw) (hkn := hkr) (hM := hMr)) cf_X5_told lk_L_96 rfl rfl rfl rfl rfl (by decide +kernel) (Nat.le_of_ble_eq_true rfl) (fun rv_15 wv_16 hp_17 hm_18 => ?_)
  clear hm_18
  obtain ⟨kw1_19, kn1_20, M1_21, mw1_22, rc_23, rv_24, hq_25, hkw1_26, hkn1_27, hM1_28, rfl, rfl⟩ := hp_17
  rw [sa_17]
  obtain ⟨ez, ey⟩ := Prod.mk.inj (hq_12.symm.trans hq_25)
  subst ez
  have ez := ey
  subst ez
  refine v_eqi 1756 zC dL_law_835 (by first | rfl | assumption) ?_
  refine v_swap ?_
  exact kk n m sh n5 m5 sh5 aw5 n2 m2 sh2 aw2 P1_5 Q1_6 cs ls rs ap sq pl ki op fa K G T ki5 op5 fa5 K5 G5 T5 ki2 op2 fa2 K2 G2 T2 mg_7 X_8 so wh va sg rw (rf R rc_10) kw1_19 kn1_20 mw1_22 pi tl kp im tu to Y_9 M1_21 lo pd bd tk kv sd ⟨(by first | assumption | exact trivial | omega | exact hf9 | exact hH9), (by first | assumption | exact trivial | omega | exact hf9 | exact hH9), (by first | assumption | exact trivial | omega | exact hf9 | exact hH9), (by first | assumption | exact trivial | omega | exact hf9 | exact hH9), (by first | assumption | exact trivial | omega | exact hf9 | exact hH9), (by first | assumption | exact trivial | omega | exact hf9 | exact hH9), (by first | assumption | exact trivial | omega | exact hf9 | exact hH9), (by first | assumption | exact trivial | omega | exact hf9 | exact hH9), (by first | assumption | exact trivial | omega | exact hf9 | exact hH9), (by first | assumption | exact trivial | omega | exact hf9 | exact hH9), (by first | assumption | exact trivial | omega | exact hf9 | exact hH9), (by first | assumption | exact trivial | omega | exact hf9 | exact hH9), (by first | assumption | exact trivial | omega | exact hf9 | exact hH9), (by first | assumption | exact trivial | omega | exact hf9 | exact hH9), (by first | assumption | exact trivial | omega | exact hf9 | exact hH9)⟩
set_option maxRecDepth 100000 in
set_option maxHeartbeats 4000000 in
theorem lawc_20 {E : EV} {cI : ClassId} {b L i : Nat} {xs : Nat → Int32} (x0 a0 a1 a2 a3 a4 a5 a6 c0 c1 c2 c3 c4 c5 c6 e0 e1 e2 e3 e4 e5 e6 b0 b1 b2 b3 g0 g1 g2 g3 s0 s1 w0 y0 r0 k1 k2 k3 k4 k6 k7 k8 k10 k12 k13 k14 k15 k16 k21 k22 k23 k24 k25 k30 k31 k33 : Nat) (zC : CX E cL_law RL (some .boolean) cI room_1) (hA : ∀ q, (ev_s E).heap.size ≤ q → ev_A E q) (hX : XS E b L xs) (hL : L ≤ 2560) (hi : i + 5 ≤ L) (kk : LGO E cI 1756 b i x0 a0 a1 a2 a3 a4 a5 a6 c0 c1 c2 c3 c4 c5 c6 e0 e1 e2 e3 e4 e5 e6 b0 b1 b2 b3 g0 g1 g2 g3 s0 s1 w0 y0 r0 k1 k2 k3 k4 k6 k7 k8 k10 k12 k13 k14 k15 k16 k21 k22 k23 k24 k25 k30 k31 k33) : LGO E cI 840 b i x0 a0 a1 a2 a3 a4 a5 a6 c0 c1 c2 c3 c4 c5 c6 e0 e1 e2 e3 e4 e5 e6 b0 b1 b2 b3 g0 g1 g2 g3 s0 s1 w0 y0 r0 k1 k2 k3 k4 k6 k7 k8 k10 k12 k13 k14 k15 k16 k21 k22 k23 k24 k25 k30 k31 k33 := by
  intro n m sh n5 m5 sh5 aw5 n2 m2 sh2 aw2 P Q cs ls rs ap sq pl ki op fa K G T ki5 op5 fa5 K5 G5 T5 ki2 op2 fa2 K2 G2 T2 mf kn so wh va sg rw R kw kr mw pi tl kp im tu to M Mr lo pd bd tk kv sd hI
  obtain ⟨hw, hw5, hw2, hB, hM, hcs, hH, hl, hsg, hr, hrw, hkw, hkr, hMr, hE9⟩ := hI
  obtain ⟨hn, hm, hsh, hki, hop, hfa, hK, hG, hT, -⟩ := id hw
  refine v_al_n 841 zC dL_law_840 2 rfl ?_
  refine v_cV2 (As := []) (st := []) 844 0 [0, 1, 2, 3, 4, 5, 6, 7, 8, 9, 10, 11] zC dL_law_841 hA (c_X4_all (ev_l E) (ev_D E) cI (x0 := x0) (xm := c0) (xp := e0) (g0 := g0) (s0 := s0) (w0 := w0) (y0 := y0) (pd := pd) (rs := rs) (b0 := b0) (b1 := b1) (b2 := b2) (b3 := b3) (P := P) (Q := Q) (mf := mf) (M := M) (kn := kn) (a0 := a0) (a1 := a1) (a2 := a2) (a3 := a3) (a4 := a4) (a5 := a5) (a6 := a6) (n := n) (m := m) (sh := sh) (ki := ki) (op := op) (fa := fa) (K := K) (G := G) (T := T) (hw := hw) (hB := hB) (hM := hM)) cf_X4_all lk_L_97 rfl rfl rfl rfl rfl (by decide +kernel) (Nat.le_of_ble_eq_true rfl) (fun rv_1 wv_2 hp_3 hm_4 => ?_)
  clear hm_4
  obtain ⟨P1_5, Q1_6, mg_7, X_8, Y_9, hB1_10, hM1_11, rfl, rfl⟩ := hp_3
  rw [sa_18]
  refine v_al_n 845 zC dL_law_844 1 rfl ?_
  refine v_swap ?_
  refine v_cV2 (As := []) (st := [.int (nI (ALL (n, m, sh, 0, ki, op, fa, K, G, T)))]) 848 0 [0, 1, 2, 3, 4, 5, 6, 7, 8, 9, 10, 11] zC dL_law_845 hA (c_X5_all (ev_l E) (ev_D E) cI (r0 := r0) (k1 := k1) (k2 := k2) (k3 := k3) (k4 := k4) (k6 := k6) (k7 := k7) (k8 := k8) (k10 := k10) (k12 := k12) (k13 := k13) (k14 := k14) (k15 := k15) (k16 := k16) (k21 := k21) (k22 := k22) (k23 := k23) (k24 := k24) (k25 := k25) (k30 := k30) (k31 := k31) (k33 := k33) (n := n) (m := m) (ls := ls) (ap := ap) (sq := sq) (pl := pl) (tz := cs) (rs := rs) (bd := bd) (pd := pd) (tk := tk) (kv := kv) (sd := sd) (ki := ki) (op := op) (fa := fa) (K := K) (G := G) (T := T) (sh := sh) (kw := kw) (kn := kr) (M := Mr) (mw := mw) (hw := hw) (hkw := hkw) (hkn := hkr) (hM := hMr)) cf_X5_all lk_L_100 rfl rfl rfl rfl rfl (by decide +kernel) (Nat.le_of_ble_eq_true rfl) (fun rv_12 wv_13 hp_14 hm_15 => ?_)
  clear hm_15
  obtain ⟨kw1_16, kn1_17, M1_18, mw1_19, hkw1_20, hkn1_21, hM1_22, rfl, rfl⟩ := hp_14
  rw [sa_15]
  refine v_eqi 1756 zC dL_law_848 (by first | rfl | assumption) ?_
  refine v_swap ?_
  exact kk n m sh n5 m5 sh5 aw5 n2 m2 sh2 aw2 P1_5 Q1_6 cs ls rs ap sq pl ki op fa K G T ki5 op5 fa5 K5 G5 T5 ki2 op2 fa2 K2 G2 T2 mg_7 X_8 so wh va sg rw R kw1_16 kn1_17 mw1_19 pi tl kp im tu to Y_9 M1_18 lo pd bd tk kv sd ⟨(by first | assumption | exact trivial | omega | exact hf9 | exact hH9), (by first | assumption | exact trivial | omega | exact hf9 | exact hH9), (by first | assumption | exact trivial | omega | exact hf9 | exact hH9), (by first | assumption | exact trivial | omega | exact hf9 | exact hH9), (by first | assumption | exact trivial | omega | exact hf9 | exact hH9), (by first | assumption | exact trivial | omega | exact hf9 | exact hH9), (by first | assumption | exact trivial | omega | exact hf9 | exact hH9), (by first | assumption | exact trivial | omega | exact hf9 | exact hH9), (by first | assumption | exact trivial | omega | exact hf9 | exact hH9), (by first | assumption | exact trivial | omega | exact hf9 | exact hH9), (by first | assumption | exact trivial | omega | exact hf9 | exact hH9), (by first | assumption | exact trivial | omega | exact hf9 | exact hH9), (by first | assumption | exact trivial | omega | exact hf9 | exact hH9), (by first | assumption | exact trivial | omega | exact hf9 | exact hH9), (by first | assumption | exact trivial | omega | exact hf9 | exact hH9)⟩
set_option maxRecDepth 100000 in
set_option maxHeartbeats 4000000 in
theorem lawc_21 {E : EV} {cI : ClassId} {b L i : Nat} {xs : Nat → Int32} (x0 a0 a1 a2 a3 a4 a5 a6 c0 c1 c2 c3 c4 c5 c6 e0 e1 e2 e3 e4 e5 e6 b0 b1 b2 b3 g0 g1 g2 g3 s0 s1 w0 y0 r0 k1 k2 k3 k4 k6 k7 k8 k10 k12 k13 k14 k15 k16 k21 k22 k23 k24 k25 k30 k31 k33 : Nat) (zC : CX E cL_law RL (some .boolean) cI room_1) (hA : ∀ q, (ev_s E).heap.size ≤ q → ev_A E q) (hX : XS E b L xs) (hL : L ≤ 2560) (hi : i + 5 ≤ L) (kk : LGO E cI 1756 b i x0 a0 a1 a2 a3 a4 a5 a6 c0 c1 c2 c3 c4 c5 c6 e0 e1 e2 e3 e4 e5 e6 b0 b1 b2 b3 g0 g1 g2 g3 s0 s1 w0 y0 r0 k1 k2 k3 k4 k6 k7 k8 k10 k12 k13 k14 k15 k16 k21 k22 k23 k24 k25 k30 k31 k33) : LGO E cI 853 b i x0 a0 a1 a2 a3 a4 a5 a6 c0 c1 c2 c3 c4 c5 c6 e0 e1 e2 e3 e4 e5 e6 b0 b1 b2 b3 g0 g1 g2 g3 s0 s1 w0 y0 r0 k1 k2 k3 k4 k6 k7 k8 k10 k12 k13 k14 k15 k16 k21 k22 k23 k24 k25 k30 k31 k33 := by
  intro n m sh n5 m5 sh5 aw5 n2 m2 sh2 aw2 P Q cs ls rs ap sq pl ki op fa K G T ki5 op5 fa5 K5 G5 T5 ki2 op2 fa2 K2 G2 T2 mf kn so wh va sg rw R kw kr mw pi tl kp im tu to M Mr lo pd bd tk kv sd hI
  obtain ⟨hw, hw5, hw2, hB, hM, hcs, hH, hl, hsg, hr, hrw, hkw, hkr, hMr, hE9⟩ := hI
  obtain ⟨hn, hm, hsh, hki, hop, hfa, hK, hG, hT, -⟩ := id hw
  refine v_al_n 854 zC dL_law_853 2 rfl ?_
  refine v_al_n 855 zC dL_law_854 3 rfl ?_
  refine v_il_n 856 zC dL_law_855 0 rfl ?_
  refine v_ic (v := (nI 1)) 857 zC dL_law_856 (by decide +kernel) ?_
  refine v_iadd (v := (nI (i + 1))) 858 zC dL_law_857 (nI_add _ _) ?_
  refine v_sld 859 zC hX dL_law_858 (by omega) hL ?_
  refine v_al_n 860 zC dL_law_859 3 rfl ?_
  refine v_il_n 861 zC dL_law_860 0 rfl ?_
  refine v_ic (v := (nI 2)) 862 zC dL_law_861 (by decide +kernel) ?_
  refine v_iadd (v := (nI (i + 2))) 863 zC dL_law_862 (nI_add _ _) ?_
  refine v_sld 864 zC hX dL_law_863 (by omega) hL ?_
  refine v_al_n 865 zC dL_law_864 3 rfl ?_
  refine v_il_n 866 zC dL_law_865 0 rfl ?_
  refine v_ic (v := (nI 3)) 867 zC dL_law_866 (by decide +kernel) ?_
  refine v_iadd (v := (nI (i + 3))) 868 zC dL_law_867 (nI_add _ _) ?_
  refine v_sld 869 zC hX dL_law_868 (by omega) hL ?_
  refine v_cV2 (As := [.int (xs (i + 1)), .int (xs (i + 2)), .int (xs (i + 3))]) (st := []) 872 0 [0, 1, 2, 3, 4, 5, 6, 7, 20, 21, 22, 23, 24, 25, 26, 8, 9, 10, 11, 12] zC dL_law_869 hA (c_X4_never (ev_l E) (ev_D E) cI (x0 := x0) (xp := e0) (g0 := g0) (s0 := s0) (w0 := w0) (y0 := y0) (pd := pd) (rs := rs) (b0 := b0) (b1 := b1) (b2 := b2) (b3 := b3) (P := P) (Q := Q) (mf := mf) (M := M) (kn := kn) (a0 := a0) (a1 := a1) (a2 := a2) (a3 := a3) (a4 := a4) (a5 := a5) (a6 := a6) (n := n) (m := m) (sh := sh) (ki := ki) (op := op) (fa := fa) (K := K) (G := G) (T := T) (c0 := c0) (c1 := c1) (c2 := c2) (c3 := c3) (c4 := c4) (c5 := c5) (c6 := c6) (n1 := n5) (m1 := m5) (sh1 := sh5) (aw1 := aw5) (ki1 := ki5) (op1 := op5) (fa1 := fa5) (K1 := K5) (G1 := G5) (T1 := T5) (R := R) (p := (xs (i + 1))) (f := (xs (i + 2))) (w := (xs (i + 3))) (hw := hw) (hw1 := hw5) (hB := hB) (hM := hM)) cf_X4_never lk_L_101 rfl rfl rfl rfl rfl (by decide +kernel) (Nat.le_of_ble_eq_true rfl) (fun rv_1 wv_2 hp_3 hm_4 => ?_)
  clear hm_4
  obtain ⟨P1_5, Q1_6, mg_7, X_8, Y_9, n3_10, m3_11, s3_12, w3_13, ki3_14, op3_15, fa3_16, K3_17, G3_18, T3_19, rc_20, rv_21, hq_22, hF_23, hB1_24, hM1_25, rfl, rfl⟩ := hp_3
  rw [sa_19]
  refine v_al_n 873 zC dL_law_872 1 rfl ?_
  refine v_al_n 874 zC dL_law_873 3 rfl ?_
  refine v_il_n 875 zC dL_law_874 0 rfl ?_
  refine v_ic (v := (nI 1)) 876 zC dL_law_875 (by decide +kernel) ?_
  refine v_iadd (v := (nI (i + 1))) 877 zC dL_law_876 (nI_add _ _) ?_
  refine v_sld 878 zC hX dL_law_877 (by omega) hL ?_
  refine v_al_n 879 zC dL_law_878 3 rfl ?_
  refine v_il_n 880 zC dL_law_879 0 rfl ?_
  refine v_ic (v := (nI 2)) 881 zC dL_law_880 (by decide +kernel) ?_
  refine v_iadd (v := (nI (i + 2))) 882 zC dL_law_881 (nI_add _ _) ?_
  refine v_sld 883 zC hX dL_law_882 (by omega) hL ?_
  refine v_al_n 884 zC dL_law_883 3 rfl ?_
  refine v_il_n 885 zC dL_law_884 0 rfl ?_
  refine v_ic (v := (nI 3)) 886 zC dL_law_885 (by decide +kernel) ?_
  refine v_iadd (v := (nI (i + 3))) 887 zC dL_law_886 (nI_add _ _) ?_
  refine v_sld 888 zC hX dL_law_887 (by omega) hL ?_
  refine v_swap ?_
  refine v_cV2 (As := [.int (xs (i + 1)), .int (xs (i + 2)), .int (xs (i + 3))]) (st := [.int rv_21]) 891 0 [0, 1, 2, 3, 4, 5, 6, 7, 8, 9, 10, 11, 13, 12] zC dL_law_888 hA (c_X5_never (ev_l E) (ev_D E) cI (r0 := r0) (k1 := k1) (k2 := k2) (k3 := k3) (k4 := k4) (k6 := k6) (k7 := k7) (k8 := k8) (k10 := k10) (k12 := k12) (k13 := k13) (k14 := k14) (k15 := k15) (k16 := k16) (k21 := k21) (k22 := k22) (k23 := k23) (k24 := k24) (k25 := k25) (k30 := k30) (k31 := k31) (k33 := k33) (n := n) (m := m) (ls := ls) (ap := ap) (sq := sq) (pl := pl) (tz := cs) (rs := rs) (bd := bd) (pd := pd) (tk := tk) (kv := kv) (sd := sd) (ki := ki) (op := op) (fa := fa) (K := K) (G := G) (T := T) (sh := sh) (kw := kw) (kn := kr) (M := Mr) (mw := mw) (kp := kp) (R := R) (p := (xs (i + 1))) (f := (xs (i + 2))) (w := (xs (i + 3))) (hw := hw) (hkw := hkw) (hkn := hkr) (hM := hMr)) cf_X5_never lk_L_104 rfl rfl rfl rfl rfl (by decide +kernel) (Nat.le_of_ble_eq_true rfl) (fun rv_26 wv_27 hp_28 hm_29 => ?_)
  clear hm_29
  obtain ⟨kw1_30, kn1_31, M1_32, mw1_33, kp1_34, pl1_35, tk1_36, kv1_37, rc_38, rv_39, hq_40, hkw1_41, hkn1_42, hM1_43, rfl, rfl⟩ := hp_28
  rw [sa_20]
  obtain ⟨ez, ey⟩ := Prod.mk.inj (hq_22.symm.trans hq_40)
  subst ez
  have ez := ey
  subst ez
  refine v_eqi 1756 zC dL_law_891 (by first | rfl | assumption) ?_
  refine v_swap ?_
  exact kk n m sh n3_10 m3_11 s3_12 w3_13 n2 m2 sh2 aw2 P1_5 Q1_6 cs ls rs ap sq pl1_35 ki op fa K G T ki3_14 op3_15 fa3_16 K3_17 G3_18 T3_19 ki2 op2 fa2 K2 G2 T2 mg_7 X_8 so wh va sg rw (rf R rc_20) kw1_30 kn1_31 mw1_33 pi tl kp1_34 im tu to Y_9 M1_32 lo pd bd tk1_36 kv1_37 sd ⟨(by first | assumption | exact trivial | omega | exact hf9 | exact hH9), (by first | assumption | exact trivial | omega | exact hf9 | exact hH9), (by first | assumption | exact trivial | omega | exact hf9 | exact hH9), (by first | assumption | exact trivial | omega | exact hf9 | exact hH9), (by first | assumption | exact trivial | omega | exact hf9 | exact hH9), (by first | assumption | exact trivial | omega | exact hf9 | exact hH9), (by first | assumption | exact trivial | omega | exact hf9 | exact hH9), (by first | assumption | exact trivial | omega | exact hf9 | exact hH9), (by first | assumption | exact trivial | omega | exact hf9 | exact hH9), (by first | assumption | exact trivial | omega | exact hf9 | exact hH9), (by first | assumption | exact trivial | omega | exact hf9 | exact hH9), (by first | assumption | exact trivial | omega | exact hf9 | exact hH9), (by first | assumption | exact trivial | omega | exact hf9 | exact hH9), (by first | assumption | exact trivial | omega | exact hf9 | exact hH9), (by first | assumption | exact trivial | omega | exact hf9 | exact hH9)⟩
set_option maxRecDepth 100000 in
set_option maxHeartbeats 4000000 in
theorem lawc_22 {E : EV} {cI : ClassId} {b L i : Nat} {xs : Nat → Int32} (x0 a0 a1 a2 a3 a4 a5 a6 c0 c1 c2 c3 c4 c5 c6 e0 e1 e2 e3 e4 e5 e6 b0 b1 b2 b3 g0 g1 g2 g3 s0 s1 w0 y0 r0 k1 k2 k3 k4 k6 k7 k8 k10 k12 k13 k14 k15 k16 k21 k22 k23 k24 k25 k30 k31 k33 : Nat) (zC : CX E cL_law RL (some .boolean) cI room_1) (hA : ∀ q, (ev_s E).heap.size ≤ q → ev_A E q) (hX : XS E b L xs) (hL : L ≤ 2560) (hi : i + 5 ≤ L) (kk : LGO E cI 1756 b i x0 a0 a1 a2 a3 a4 a5 a6 c0 c1 c2 c3 c4 c5 c6 e0 e1 e2 e3 e4 e5 e6 b0 b1 b2 b3 g0 g1 g2 g3 s0 s1 w0 y0 r0 k1 k2 k3 k4 k6 k7 k8 k10 k12 k13 k14 k15 k16 k21 k22 k23 k24 k25 k30 k31 k33) : LGO E cI 896 b i x0 a0 a1 a2 a3 a4 a5 a6 c0 c1 c2 c3 c4 c5 c6 e0 e1 e2 e3 e4 e5 e6 b0 b1 b2 b3 g0 g1 g2 g3 s0 s1 w0 y0 r0 k1 k2 k3 k4 k6 k7 k8 k10 k12 k13 k14 k15 k16 k21 k22 k23 k24 k25 k30 k31 k33 := by
  intro n m sh n5 m5 sh5 aw5 n2 m2 sh2 aw2 P Q cs ls rs ap sq pl ki op fa K G T ki5 op5 fa5 K5 G5 T5 ki2 op2 fa2 K2 G2 T2 mf kn so wh va sg rw R kw kr mw pi tl kp im tu to M Mr lo pd bd tk kv sd hI
  obtain ⟨hw, hw5, hw2, hB, hM, hcs, hH, hl, hsg, hr, hrw, hkw, hkr, hMr, hE9⟩ := hI
  obtain ⟨hn, hm, hsh, hki, hop, hfa, hK, hG, hT, -⟩ := id hw
  refine v_al_n 897 zC dL_law_896 2 rfl ?_
  refine v_al_n 898 zC dL_law_897 3 rfl ?_
  refine v_il_n 899 zC dL_law_898 0 rfl ?_
  refine v_ic (v := (nI 1)) 900 zC dL_law_899 (by decide +kernel) ?_
  refine v_iadd (v := (nI (i + 1))) 901 zC dL_law_900 (nI_add _ _) ?_
  refine v_sld 902 zC hX dL_law_901 (by omega) hL ?_
  refine v_al_n 903 zC dL_law_902 3 rfl ?_
  refine v_il_n 904 zC dL_law_903 0 rfl ?_
  refine v_ic (v := (nI 2)) 905 zC dL_law_904 (by decide +kernel) ?_
  refine v_iadd (v := (nI (i + 2))) 906 zC dL_law_905 (nI_add _ _) ?_
  refine v_sld 907 zC hX dL_law_906 (by omega) hL ?_
  refine v_cV2 (As := [.int (xs (i + 1)), .int (xs (i + 2))]) (st := []) 910 0 [0, 1, 2, 3, 4, 5, 6, 7, 20, 21, 22, 23, 24, 25, 26, 8, 9, 10, 11, 12] zC dL_law_907 hA (c_X4_just (ev_l E) (ev_D E) cI (x0 := x0) (xp := e0) (g0 := g0) (s0 := s0) (w0 := w0) (y0 := y0) (pd := pd) (rs := rs) (b0 := b0) (b1 := b1) (b2 := b2) (b3 := b3) (P := P) (Q := Q) (mf := mf) (M := M) (kn := kn) (a0 := a0) (a1 := a1) (a2 := a2) (a3 := a3) (a4 := a4) (a5 := a5) (a6 := a6) (n := n) (m := m) (sh := sh) (ki := ki) (op := op) (fa := fa) (K := K) (G := G) (T := T) (c0 := c0) (c1 := c1) (c2 := c2) (c3 := c3) (c4 := c4) (c5 := c5) (c6 := c6) (n1 := n5) (m1 := m5) (sh1 := sh5) (aw1 := aw5) (ki1 := ki5) (op1 := op5) (fa1 := fa5) (K1 := K5) (G1 := G5) (T1 := T5) (R := R) (f := (xs (i + 1))) (t := (xs (i + 2))) (hw := hw) (hw1 := hw5) (hB := hB) (hM := hM)) cf_X4_just lk_L_105 rfl rfl rfl rfl rfl (by decide +kernel) (Nat.le_of_ble_eq_true rfl) (fun rv_1 wv_2 hp_3 hm_4 => ?_)
  clear hm_4
  obtain ⟨P1_5, Q1_6, mg_7, X_8, Y_9, n3_10, m3_11, s3_12, w3_13, ki3_14, op3_15, fa3_16, K3_17, G3_18, T3_19, rc_20, rv_21, hq_22, hF_23, hB1_24, hM1_25, rfl, rfl⟩ := hp_3
  rw [sa_19]
  refine v_al_n 911 zC dL_law_910 1 rfl ?_
  refine v_al_n 912 zC dL_law_911 3 rfl ?_
  refine v_il_n 913 zC dL_law_912 0 rfl ?_
  refine v_ic (v := (nI 1)) 914 zC dL_law_913 (by decide +kernel) ?_
  refine v_iadd (v := (nI (i + 1))) 915 zC dL_law_914 (nI_add _ _) ?_
  refine v_sld 916 zC hX dL_law_915 (by omega) hL ?_
  refine v_al_n 917 zC dL_law_916 3 rfl ?_
  refine v_il_n 918 zC dL_law_917 0 rfl ?_
  refine v_ic (v := (nI 2)) 919 zC dL_law_918 (by decide +kernel) ?_
  refine v_iadd (v := (nI (i + 2))) 920 zC dL_law_919 (nI_add _ _) ?_
  refine v_sld 921 zC hX dL_law_920 (by omega) hL ?_
  refine v_swap ?_
  refine v_cV2 (As := [.int (xs (i + 1)), .int (xs (i + 2))]) (st := [.int rv_21]) 924 0 [0, 1, 2, 3, 4, 5, 6, 7, 8, 9, 10, 11, 13, 12] zC dL_law_921 hA (c_X5_just (ev_l E) (ev_D E) cI (r0 := r0) (k1 := k1) (k2 := k2) (k3 := k3) (k4 := k4) (k6 := k6) (k7 := k7) (k8 := k8) (k10 := k10) (k12 := k12) (k13 := k13) (k14 := k14) (k15 := k15) (k16 := k16) (k21 := k21) (k22 := k22) (k23 := k23) (k24 := k24) (k25 := k25) (k30 := k30) (k31 := k31) (k33 := k33) (n := n) (m := m) (ls := ls) (ap := ap) (sq := sq) (pl := pl) (tz := cs) (rs := rs) (bd := bd) (pd := pd) (tk := tk) (kv := kv) (sd := sd) (ki := ki) (op := op) (fa := fa) (K := K) (G := G) (T := T) (sh := sh) (kw := kw) (kn := kr) (M := Mr) (mw := mw) (kp := kp) (R := R) (f := (xs (i + 1))) (t := (xs (i + 2))) (hw := hw) (hkw := hkw) (hkn := hkr) (hM := hMr)) cf_X5_just lk_L_108 rfl rfl rfl rfl rfl (by decide +kernel) (Nat.le_of_ble_eq_true rfl) (fun rv_26 wv_27 hp_28 hm_29 => ?_)
  clear hm_29
  obtain ⟨kw1_30, kn1_31, M1_32, mw1_33, kp1_34, pl1_35, tk1_36, kv1_37, rc_38, rv_39, hq_40, hkw1_41, hkn1_42, hM1_43, rfl, rfl⟩ := hp_28
  rw [sa_20]
  obtain ⟨ez, ey⟩ := Prod.mk.inj (hq_22.symm.trans hq_40)
  subst ez
  have ez := ey
  subst ez
  refine v_eqi 1756 zC dL_law_924 (by first | rfl | assumption) ?_
  refine v_swap ?_
  exact kk n m sh n3_10 m3_11 s3_12 w3_13 n2 m2 sh2 aw2 P1_5 Q1_6 cs ls rs ap sq pl1_35 ki op fa K G T ki3_14 op3_15 fa3_16 K3_17 G3_18 T3_19 ki2 op2 fa2 K2 G2 T2 mg_7 X_8 so wh va sg rw (rf R rc_20) kw1_30 kn1_31 mw1_33 pi tl kp1_34 im tu to Y_9 M1_32 lo pd bd tk1_36 kv1_37 sd ⟨(by first | assumption | exact trivial | omega | exact hf9 | exact hH9), (by first | assumption | exact trivial | omega | exact hf9 | exact hH9), (by first | assumption | exact trivial | omega | exact hf9 | exact hH9), (by first | assumption | exact trivial | omega | exact hf9 | exact hH9), (by first | assumption | exact trivial | omega | exact hf9 | exact hH9), (by first | assumption | exact trivial | omega | exact hf9 | exact hH9), (by first | assumption | exact trivial | omega | exact hf9 | exact hH9), (by first | assumption | exact trivial | omega | exact hf9 | exact hH9), (by first | assumption | exact trivial | omega | exact hf9 | exact hH9), (by first | assumption | exact trivial | omega | exact hf9 | exact hH9), (by first | assumption | exact trivial | omega | exact hf9 | exact hH9), (by first | assumption | exact trivial | omega | exact hf9 | exact hH9), (by first | assumption | exact trivial | omega | exact hf9 | exact hH9), (by first | assumption | exact trivial | omega | exact hf9 | exact hH9), (by first | assumption | exact trivial | omega | exact hf9 | exact hH9)⟩
set_option maxRecDepth 100000 in
set_option maxHeartbeats 4000000 in
theorem lawc_23 {E : EV} {cI : ClassId} {b L i : Nat} {xs : Nat → Int32} (x0 a0 a1 a2 a3 a4 a5 a6 c0 c1 c2 c3 c4 c5 c6 e0 e1 e2 e3 e4 e5 e6 b0 b1 b2 b3 g0 g1 g2 g3 s0 s1 w0 y0 r0 k1 k2 k3 k4 k6 k7 k8 k10 k12 k13 k14 k15 k16 k21 k22 k23 k24 k25 k30 k31 k33 : Nat) (zC : CX E cL_law RL (some .boolean) cI room_1) (hA : ∀ q, (ev_s E).heap.size ≤ q → ev_A E q) (hX : XS E b L xs) (hL : L ≤ 2560) (hi : i + 5 ≤ L) (kk : LGO E cI 1756 b i x0 a0 a1 a2 a3 a4 a5 a6 c0 c1 c2 c3 c4 c5 c6 e0 e1 e2 e3 e4 e5 e6 b0 b1 b2 b3 g0 g1 g2 g3 s0 s1 w0 y0 r0 k1 k2 k3 k4 k6 k7 k8 k10 k12 k13 k14 k15 k16 k21 k22 k23 k24 k25 k30 k31 k33) : LGO E cI 929 b i x0 a0 a1 a2 a3 a4 a5 a6 c0 c1 c2 c3 c4 c5 c6 e0 e1 e2 e3 e4 e5 e6 b0 b1 b2 b3 g0 g1 g2 g3 s0 s1 w0 y0 r0 k1 k2 k3 k4 k6 k7 k8 k10 k12 k13 k14 k15 k16 k21 k22 k23 k24 k25 k30 k31 k33 := by
  intro n m sh n5 m5 sh5 aw5 n2 m2 sh2 aw2 P Q cs ls rs ap sq pl ki op fa K G T ki5 op5 fa5 K5 G5 T5 ki2 op2 fa2 K2 G2 T2 mf kn so wh va sg rw R kw kr mw pi tl kp im tu to M Mr lo pd bd tk kv sd hI
  obtain ⟨hw, hw5, hw2, hB, hM, hcs, hH, hl, hsg, hr, hrw, hkw, hkr, hMr, hE9⟩ := hI
  obtain ⟨hn, hm, hsh, hki, hop, hfa, hK, hG, hT, -⟩ := id hw
  refine v_al_n 930 zC dL_law_929 2 rfl ?_
  refine v_al_n 931 zC dL_law_930 3 rfl ?_
  refine v_il_n 932 zC dL_law_931 0 rfl ?_
  refine v_ic (v := (nI 1)) 933 zC dL_law_932 (by decide +kernel) ?_
  refine v_iadd (v := (nI (i + 1))) 934 zC dL_law_933 (nI_add _ _) ?_
  refine v_sld 935 zC hX dL_law_934 (by omega) hL ?_
  refine v_al_n 936 zC dL_law_935 3 rfl ?_
  refine v_il_n 937 zC dL_law_936 0 rfl ?_
  refine v_ic (v := (nI 2)) 938 zC dL_law_937 (by decide +kernel) ?_
  refine v_iadd (v := (nI (i + 2))) 939 zC dL_law_938 (nI_add _ _) ?_
  refine v_sld 940 zC hX dL_law_939 (by omega) hL ?_
  refine v_cV2 (As := [.int (xs (i + 1)), .int (xs (i + 2))]) (st := []) 943 0 [0, 1, 2, 3, 4, 5, 6, 7, 20, 21, 22, 23, 24, 25, 26, 8, 9, 10, 11, 12] zC dL_law_940 hA (c_X4_soonest (ev_l E) (ev_D E) cI (x0 := x0) (xp := e0) (g0 := g0) (s0 := s0) (w0 := w0) (y0 := y0) (pd := pd) (rs := rs) (b0 := b0) (b1 := b1) (b2 := b2) (b3 := b3) (P := P) (Q := Q) (mf := mf) (M := M) (kn := kn) (a0 := a0) (a1 := a1) (a2 := a2) (a3 := a3) (a4 := a4) (a5 := a5) (a6 := a6) (n := n) (m := m) (sh := sh) (ki := ki) (op := op) (fa := fa) (K := K) (G := G) (T := T) (c0 := c0) (c1 := c1) (c2 := c2) (c3 := c3) (c4 := c4) (c5 := c5) (c6 := c6) (n1 := n5) (m1 := m5) (sh1 := sh5) (aw1 := aw5) (ki1 := ki5) (op1 := op5) (fa1 := fa5) (K1 := K5) (G1 := G5) (T1 := T5) (R := R) (u := (xs (i + 1))) (f := (xs (i + 2))) (hw := hw) (hw1 := hw5) (hB := hB) (hM := hM)) cf_X4_soonest lk_L_109 rfl rfl rfl rfl rfl (by decide +kernel) (Nat.le_of_ble_eq_true rfl) (fun rv_1 wv_2 hp_3 hm_4 => ?_)
  clear hm_4
  obtain ⟨P1_5, Q1_6, mg_7, X_8, Y_9, n3_10, m3_11, s3_12, w3_13, ki3_14, op3_15, fa3_16, K3_17, G3_18, T3_19, rc_20, rv_21, hq_22, hF_23, hB1_24, hM1_25, rfl, rfl⟩ := hp_3
  rw [sa_19]
  refine v_al_n 944 zC dL_law_943 1 rfl ?_
  refine v_al_n 945 zC dL_law_944 3 rfl ?_
  refine v_il_n 946 zC dL_law_945 0 rfl ?_
  refine v_ic (v := (nI 1)) 947 zC dL_law_946 (by decide +kernel) ?_
  refine v_iadd (v := (nI (i + 1))) 948 zC dL_law_947 (nI_add _ _) ?_
  refine v_sld 949 zC hX dL_law_948 (by omega) hL ?_
  refine v_al_n 950 zC dL_law_949 3 rfl ?_
  refine v_il_n 951 zC dL_law_950 0 rfl ?_
  refine v_ic (v := (nI 2)) 952 zC dL_law_951 (by decide +kernel) ?_
  refine v_iadd (v := (nI (i + 2))) 953 zC dL_law_952 (nI_add _ _) ?_
  refine v_sld 954 zC hX dL_law_953 (by omega) hL ?_
  refine v_swap ?_
  refine v_cV2 (As := [.int (xs (i + 1)), .int (xs (i + 2))]) (st := [.int rv_21]) 957 0 [0, 1, 2, 3, 4, 5, 6, 7, 8, 9, 10, 11, 13, 12] zC dL_law_954 hA (c_X5_soonest (ev_l E) (ev_D E) cI (r0 := r0) (k1 := k1) (k2 := k2) (k3 := k3) (k4 := k4) (k6 := k6) (k7 := k7) (k8 := k8) (k10 := k10) (k12 := k12) (k13 := k13) (k14 := k14) (k15 := k15) (k16 := k16) (k21 := k21) (k22 := k22) (k23 := k23) (k24 := k24) (k25 := k25) (k30 := k30) (k31 := k31) (k33 := k33) (n := n) (m := m) (ls := ls) (ap := ap) (sq := sq) (pl := pl) (tz := cs) (rs := rs) (bd := bd) (pd := pd) (tk := tk) (kv := kv) (sd := sd) (ki := ki) (op := op) (fa := fa) (K := K) (G := G) (T := T) (sh := sh) (kw := kw) (kn := kr) (M := Mr) (mw := mw) (kp := kp) (R := R) (p9 := (xs (i + 1))) (f := (xs (i + 2))) (hw := hw) (hkw := hkw) (hkn := hkr) (hM := hMr)) cf_X5_soonest lk_L_112 rfl rfl rfl rfl rfl (by decide +kernel) (Nat.le_of_ble_eq_true rfl) (fun rv_26 wv_27 hp_28 hm_29 => ?_)
  clear hm_29
  obtain ⟨kw1_30, kn1_31, M1_32, mw1_33, kp1_34, pl1_35, tk1_36, kv1_37, rc_38, rv_39, hq_40, hkw1_41, hkn1_42, hM1_43, rfl, rfl⟩ := hp_28
  rw [sa_20]
  obtain ⟨ez, ey⟩ := Prod.mk.inj (hq_22.symm.trans hq_40)
  subst ez
  have ez := ey
  subst ez
  refine v_eqi 1756 zC dL_law_957 (by first | rfl | assumption) ?_
  refine v_swap ?_
  exact kk n m sh n3_10 m3_11 s3_12 w3_13 n2 m2 sh2 aw2 P1_5 Q1_6 cs ls rs ap sq pl1_35 ki op fa K G T ki3_14 op3_15 fa3_16 K3_17 G3_18 T3_19 ki2 op2 fa2 K2 G2 T2 mg_7 X_8 so wh va sg rw (rf R rc_20) kw1_30 kn1_31 mw1_33 pi tl kp1_34 im tu to Y_9 M1_32 lo pd bd tk1_36 kv1_37 sd ⟨(by first | assumption | exact trivial | omega | exact hf9 | exact hH9), (by first | assumption | exact trivial | omega | exact hf9 | exact hH9), (by first | assumption | exact trivial | omega | exact hf9 | exact hH9), (by first | assumption | exact trivial | omega | exact hf9 | exact hH9), (by first | assumption | exact trivial | omega | exact hf9 | exact hH9), (by first | assumption | exact trivial | omega | exact hf9 | exact hH9), (by first | assumption | exact trivial | omega | exact hf9 | exact hH9), (by first | assumption | exact trivial | omega | exact hf9 | exact hH9), (by first | assumption | exact trivial | omega | exact hf9 | exact hH9), (by first | assumption | exact trivial | omega | exact hf9 | exact hH9), (by first | assumption | exact trivial | omega | exact hf9 | exact hH9), (by first | assumption | exact trivial | omega | exact hf9 | exact hH9), (by first | assumption | exact trivial | omega | exact hf9 | exact hH9), (by first | assumption | exact trivial | omega | exact hf9 | exact hH9), (by first | assumption | exact trivial | omega | exact hf9 | exact hH9)⟩
set_option maxRecDepth 100000 in
set_option maxHeartbeats 4000000 in
theorem lawc_24 {E : EV} {cI : ClassId} {b L i : Nat} {xs : Nat → Int32} (x0 a0 a1 a2 a3 a4 a5 a6 c0 c1 c2 c3 c4 c5 c6 e0 e1 e2 e3 e4 e5 e6 b0 b1 b2 b3 g0 g1 g2 g3 s0 s1 w0 y0 r0 k1 k2 k3 k4 k6 k7 k8 k10 k12 k13 k14 k15 k16 k21 k22 k23 k24 k25 k30 k31 k33 : Nat) (zC : CX E cL_law RL (some .boolean) cI room_1) (hA : ∀ q, (ev_s E).heap.size ≤ q → ev_A E q) (hX : XS E b L xs) (hL : L ≤ 2560) (hi : i + 5 ≤ L) (kk : LGO E cI 1756 b i x0 a0 a1 a2 a3 a4 a5 a6 c0 c1 c2 c3 c4 c5 c6 e0 e1 e2 e3 e4 e5 e6 b0 b1 b2 b3 g0 g1 g2 g3 s0 s1 w0 y0 r0 k1 k2 k3 k4 k6 k7 k8 k10 k12 k13 k14 k15 k16 k21 k22 k23 k24 k25 k30 k31 k33) : LGO E cI 962 b i x0 a0 a1 a2 a3 a4 a5 a6 c0 c1 c2 c3 c4 c5 c6 e0 e1 e2 e3 e4 e5 e6 b0 b1 b2 b3 g0 g1 g2 g3 s0 s1 w0 y0 r0 k1 k2 k3 k4 k6 k7 k8 k10 k12 k13 k14 k15 k16 k21 k22 k23 k24 k25 k30 k31 k33 := by
  intro n m sh n5 m5 sh5 aw5 n2 m2 sh2 aw2 P Q cs ls rs ap sq pl ki op fa K G T ki5 op5 fa5 K5 G5 T5 ki2 op2 fa2 K2 G2 T2 mf kn so wh va sg rw R kw kr mw pi tl kp im tu to M Mr lo pd bd tk kv sd hI
  obtain ⟨hw, hw5, hw2, hB, hM, hcs, hH, hl, hsg, hr, hrw, hkw, hkr, hMr, hE9⟩ := hI
  obtain ⟨hn, hm, hsh, hki, hop, hfa, hK, hG, hT, -⟩ := id hw
  refine v_al_n 963 zC dL_law_962 2 rfl ?_
  refine v_al_n 964 zC dL_law_963 3 rfl ?_
  refine v_il_n 965 zC dL_law_964 0 rfl ?_
  refine v_ic (v := (nI 1)) 966 zC dL_law_965 (by decide +kernel) ?_
  refine v_iadd (v := (nI (i + 1))) 967 zC dL_law_966 (nI_add _ _) ?_
  refine v_sld 968 zC hX dL_law_967 (by omega) hL ?_
  refine v_al_n 969 zC dL_law_968 3 rfl ?_
  refine v_il_n 970 zC dL_law_969 0 rfl ?_
  refine v_ic (v := (nI 2)) 971 zC dL_law_970 (by decide +kernel) ?_
  refine v_iadd (v := (nI (i + 2))) 972 zC dL_law_971 (nI_add _ _) ?_
  refine v_sld 973 zC hX dL_law_972 (by omega) hL ?_
  refine v_cV2 (As := [.int (xs (i + 1)), .int (xs (i + 2))]) (st := []) 976 0 [0, 1, 2, 3, 4, 5, 6, 7, 20, 21, 22, 23, 24, 25, 26, 8, 9, 10, 11, 12] zC dL_law_973 hA (c_X4_opening (ev_l E) (ev_D E) cI (x0 := x0) (xp := e0) (g0 := g0) (s0 := s0) (w0 := w0) (y0 := y0) (pd := pd) (rs := rs) (b0 := b0) (b1 := b1) (b2 := b2) (b3 := b3) (P := P) (Q := Q) (mf := mf) (M := M) (kn := kn) (a0 := a0) (a1 := a1) (a2 := a2) (a3 := a3) (a4 := a4) (a5 := a5) (a6 := a6) (n := n) (m := m) (sh := sh) (ki := ki) (op := op) (fa := fa) (K := K) (G := G) (T := T) (c0 := c0) (c1 := c1) (c2 := c2) (c3 := c3) (c4 := c4) (c5 := c5) (c6 := c6) (n1 := n5) (m1 := m5) (sh1 := sh5) (aw1 := aw5) (ki1 := ki5) (op1 := op5) (fa1 := fa5) (K1 := K5) (G1 := G5) (T1 := T5) (R := R) (p := (xs (i + 1))) (w := (xs (i + 2))) (hw := hw) (hw1 := hw5) (hB := hB) (hM := hM)) cf_X4_opening lk_L_113 rfl rfl rfl rfl rfl (by decide +kernel) (Nat.le_of_ble_eq_true rfl) (fun rv_1 wv_2 hp_3 hm_4 => ?_)
  clear hm_4
  obtain ⟨P1_5, Q1_6, mg_7, X_8, Y_9, n3_10, m3_11, s3_12, w3_13, ki3_14, op3_15, fa3_16, K3_17, G3_18, T3_19, rc_20, rv_21, hq_22, hF_23, hB1_24, hM1_25, rfl, rfl⟩ := hp_3
  rw [sa_19]
  refine v_al_n 977 zC dL_law_976 1 rfl ?_
  refine v_al_n 978 zC dL_law_977 3 rfl ?_
  refine v_il_n 979 zC dL_law_978 0 rfl ?_
  refine v_ic (v := (nI 1)) 980 zC dL_law_979 (by decide +kernel) ?_
  refine v_iadd (v := (nI (i + 1))) 981 zC dL_law_980 (nI_add _ _) ?_
  refine v_sld 982 zC hX dL_law_981 (by omega) hL ?_
  refine v_al_n 983 zC dL_law_982 3 rfl ?_
  refine v_il_n 984 zC dL_law_983 0 rfl ?_
  refine v_ic (v := (nI 2)) 985 zC dL_law_984 (by decide +kernel) ?_
  refine v_iadd (v := (nI (i + 2))) 986 zC dL_law_985 (nI_add _ _) ?_
  refine v_sld 987 zC hX dL_law_986 (by omega) hL ?_
  refine v_swap ?_
  refine v_cV2 (As := [.int (xs (i + 1)), .int (xs (i + 2))]) (st := [.int rv_21]) 990 0 [0, 1, 2, 3, 4, 5, 6, 7, 8, 9, 10, 11, 13, 12] zC dL_law_987 hA (c_X5_opening (ev_l E) (ev_D E) cI (r0 := r0) (k1 := k1) (k2 := k2) (k3 := k3) (k4 := k4) (k6 := k6) (k7 := k7) (k8 := k8) (k10 := k10) (k12 := k12) (k13 := k13) (k14 := k14) (k15 := k15) (k16 := k16) (k21 := k21) (k22 := k22) (k23 := k23) (k24 := k24) (k25 := k25) (k30 := k30) (k31 := k31) (k33 := k33) (n := n) (m := m) (ls := ls) (ap := ap) (sq := sq) (pl := pl) (tz := cs) (rs := rs) (bd := bd) (pd := pd) (tk := tk) (kv := kv) (sd := sd) (ki := ki) (op := op) (fa := fa) (K := K) (G := G) (T := T) (sh := sh) (kw := kw) (kn := kr) (M := Mr) (mw := mw) (kp := kp) (R := R) (p := (xs (i + 1))) (w := (xs (i + 2))) (hw := hw) (hkw := hkw) (hkn := hkr) (hM := hMr)) cf_X5_opening lk_L_116 rfl rfl rfl rfl rfl (by decide +kernel) (Nat.le_of_ble_eq_true rfl) (fun rv_26 wv_27 hp_28 hm_29 => ?_)
  clear hm_29
  obtain ⟨kw1_30, kn1_31, M1_32, mw1_33, kp1_34, pl1_35, tk1_36, kv1_37, rc_38, rv_39, hq_40, hkw1_41, hkn1_42, hM1_43, rfl, rfl⟩ := hp_28
  rw [sa_20]
  obtain ⟨ez, ey⟩ := Prod.mk.inj (hq_22.symm.trans hq_40)
  subst ez
  have ez := ey
  subst ez
  refine v_eqi 1756 zC dL_law_990 (by first | rfl | assumption) ?_
  refine v_swap ?_
  exact kk n m sh n3_10 m3_11 s3_12 w3_13 n2 m2 sh2 aw2 P1_5 Q1_6 cs ls rs ap sq pl1_35 ki op fa K G T ki3_14 op3_15 fa3_16 K3_17 G3_18 T3_19 ki2 op2 fa2 K2 G2 T2 mg_7 X_8 so wh va sg rw (rf R rc_20) kw1_30 kn1_31 mw1_33 pi tl kp1_34 im tu to Y_9 M1_32 lo pd bd tk1_36 kv1_37 sd ⟨(by first | assumption | exact trivial | omega | exact hf9 | exact hH9), (by first | assumption | exact trivial | omega | exact hf9 | exact hH9), (by first | assumption | exact trivial | omega | exact hf9 | exact hH9), (by first | assumption | exact trivial | omega | exact hf9 | exact hH9), (by first | assumption | exact trivial | omega | exact hf9 | exact hH9), (by first | assumption | exact trivial | omega | exact hf9 | exact hH9), (by first | assumption | exact trivial | omega | exact hf9 | exact hH9), (by first | assumption | exact trivial | omega | exact hf9 | exact hH9), (by first | assumption | exact trivial | omega | exact hf9 | exact hH9), (by first | assumption | exact trivial | omega | exact hf9 | exact hH9), (by first | assumption | exact trivial | omega | exact hf9 | exact hH9), (by first | assumption | exact trivial | omega | exact hf9 | exact hH9), (by first | assumption | exact trivial | omega | exact hf9 | exact hH9), (by first | assumption | exact trivial | omega | exact hf9 | exact hH9), (by first | assumption | exact trivial | omega | exact hf9 | exact hH9)⟩
set_option maxRecDepth 100000 in
set_option maxHeartbeats 4000000 in
theorem lawc_25 {E : EV} {cI : ClassId} {b L i : Nat} {xs : Nat → Int32} (x0 a0 a1 a2 a3 a4 a5 a6 c0 c1 c2 c3 c4 c5 c6 e0 e1 e2 e3 e4 e5 e6 b0 b1 b2 b3 g0 g1 g2 g3 s0 s1 w0 y0 r0 k1 k2 k3 k4 k6 k7 k8 k10 k12 k13 k14 k15 k16 k21 k22 k23 k24 k25 k30 k31 k33 : Nat) (zC : CX E cL_law RL (some .boolean) cI room_1) (hA : ∀ q, (ev_s E).heap.size ≤ q → ev_A E q) (hX : XS E b L xs) (hL : L ≤ 2560) (hi : i + 5 ≤ L) (kk : LGO E cI 1756 b i x0 a0 a1 a2 a3 a4 a5 a6 c0 c1 c2 c3 c4 c5 c6 e0 e1 e2 e3 e4 e5 e6 b0 b1 b2 b3 g0 g1 g2 g3 s0 s1 w0 y0 r0 k1 k2 k3 k4 k6 k7 k8 k10 k12 k13 k14 k15 k16 k21 k22 k23 k24 k25 k30 k31 k33) : LGO E cI 995 b i x0 a0 a1 a2 a3 a4 a5 a6 c0 c1 c2 c3 c4 c5 c6 e0 e1 e2 e3 e4 e5 e6 b0 b1 b2 b3 g0 g1 g2 g3 s0 s1 w0 y0 r0 k1 k2 k3 k4 k6 k7 k8 k10 k12 k13 k14 k15 k16 k21 k22 k23 k24 k25 k30 k31 k33 := by
  intro n m sh n5 m5 sh5 aw5 n2 m2 sh2 aw2 P Q cs ls rs ap sq pl ki op fa K G T ki5 op5 fa5 K5 G5 T5 ki2 op2 fa2 K2 G2 T2 mf kn so wh va sg rw R kw kr mw pi tl kp im tu to M Mr lo pd bd tk kv sd hI
  obtain ⟨hw, hw5, hw2, hB, hM, hcs, hH, hl, hsg, hr, hrw, hkw, hkr, hMr, hE9⟩ := hI
  obtain ⟨hn, hm, hsh, hki, hop, hfa, hK, hG, hT, -⟩ := id hw
  refine v_al_n 996 zC dL_law_995 2 rfl ?_
  refine v_cV2 (As := []) (st := []) 999 0 [0, 1, 2, 3, 4, 5, 6, 7, 20, 21, 22, 23, 24, 25, 26, 8, 9, 10, 11] zC dL_law_996 hA (c_X4_seat (ev_l E) (ev_D E) cI (x0 := x0) (xp := e0) (g0 := g0) (s0 := s0) (w0 := w0) (y0 := y0) (pd := pd) (rs := rs) (b0 := b0) (b1 := b1) (b2 := b2) (b3 := b3) (P := P) (Q := Q) (mf := mf) (M := M) (kn := kn) (a0 := a0) (a1 := a1) (a2 := a2) (a3 := a3) (a4 := a4) (a5 := a5) (a6 := a6) (n := n) (m := m) (sh := sh) (ki := ki) (op := op) (fa := fa) (K := K) (G := G) (T := T) (c0 := c0) (c1 := c1) (c2 := c2) (c3 := c3) (c4 := c4) (c5 := c5) (c6 := c6) (n1 := n5) (m1 := m5) (sh1 := sh5) (aw1 := aw5) (ki1 := ki5) (op1 := op5) (fa1 := fa5) (K1 := K5) (G1 := G5) (T1 := T5) (hw := hw) (hw1 := hw5) (hB := hB) (hM := hM)) cf_X4_seat lk_L_117 rfl rfl rfl rfl rfl (by decide +kernel) (Nat.le_of_ble_eq_true rfl) (fun rv_1 wv_2 hp_3 hm_4 => ?_)
  clear hm_4
  obtain ⟨P1_5, Q1_6, mg_7, X_8, Y_9, n3_10, m3_11, s3_12, w3_13, ki3_14, op3_15, fa3_16, K3_17, G3_18, T3_19, hF_20, hB1_21, hM1_22, rfl, rfl⟩ := hp_3
  rw [sa_21]
  refine v_al_n 1000 zC dL_law_999 1 rfl ?_
  refine v_swap ?_
  refine v_cV2 (As := []) (st := [.int (mI ((SEAT (n, m, sh, 0, ki, op, fa, K, G, T)).2))]) 1003 0 [0, 1, 2, 3, 4, 5, 6, 7, 8, 9, 10, 11] zC dL_law_1000 hA (c_X5_seat (ev_l E) (ev_D E) cI (r0 := r0) (k1 := k1) (k2 := k2) (k3 := k3) (k4 := k4) (k6 := k6) (k7 := k7) (k8 := k8) (k10 := k10) (k12 := k12) (k13 := k13) (k14 := k14) (k15 := k15) (k16 := k16) (k21 := k21) (k22 := k22) (k23 := k23) (k24 := k24) (k25 := k25) (k30 := k30) (k31 := k31) (k33 := k33) (n := n) (m := m) (ls := ls) (ap := ap) (sq := sq) (pl := pl) (tz := cs) (rs := rs) (bd := bd) (pd := pd) (tk := tk) (kv := kv) (sd := sd) (ki := ki) (op := op) (fa := fa) (K := K) (G := G) (T := T) (sh := sh) (kw := kw) (kn := kr) (M := Mr) (mw := mw) (hw := hw) (hkw := hkw) (hkn := hkr) (hM := hMr)) cf_X5_seat lk_L_120 rfl rfl rfl rfl rfl (by decide +kernel) (Nat.le_of_ble_eq_true rfl) (fun rv_23 wv_24 hp_25 hm_26 => ?_)
  clear hm_26
  obtain ⟨kw1_27, kn1_28, M1_29, mw1_30, hkw1_31, hkn1_32, hM1_33, rfl, rfl⟩ := hp_25
  rw [sa_15]
  refine v_eqi 1756 zC dL_law_1003 (by first | rfl | assumption) ?_
  refine v_swap ?_
  exact kk n m sh n3_10 m3_11 s3_12 w3_13 n2 m2 sh2 aw2 P1_5 Q1_6 cs ls rs ap sq pl ki op fa K G T ki3_14 op3_15 fa3_16 K3_17 G3_18 T3_19 ki2 op2 fa2 K2 G2 T2 mg_7 X_8 so wh va sg rw R kw1_27 kn1_28 mw1_30 pi tl kp im tu to Y_9 M1_29 lo pd bd tk kv sd ⟨(by first | assumption | exact trivial | omega | exact hf9 | exact hH9), (by first | assumption | exact trivial | omega | exact hf9 | exact hH9), (by first | assumption | exact trivial | omega | exact hf9 | exact hH9), (by first | assumption | exact trivial | omega | exact hf9 | exact hH9), (by first | assumption | exact trivial | omega | exact hf9 | exact hH9), (by first | assumption | exact trivial | omega | exact hf9 | exact hH9), (by first | assumption | exact trivial | omega | exact hf9 | exact hH9), (by first | assumption | exact trivial | omega | exact hf9 | exact hH9), (by first | assumption | exact trivial | omega | exact hf9 | exact hH9), (by first | assumption | exact trivial | omega | exact hf9 | exact hH9), (by first | assumption | exact trivial | omega | exact hf9 | exact hH9), (by first | assumption | exact trivial | omega | exact hf9 | exact hH9), (by first | assumption | exact trivial | omega | exact hf9 | exact hH9), (by first | assumption | exact trivial | omega | exact hf9 | exact hH9), (by first | assumption | exact trivial | omega | exact hf9 | exact hH9)⟩
set_option maxRecDepth 100000 in
set_option maxHeartbeats 4000000 in
theorem lawc_26 {E : EV} {cI : ClassId} {b L i : Nat} {xs : Nat → Int32} (x0 a0 a1 a2 a3 a4 a5 a6 c0 c1 c2 c3 c4 c5 c6 e0 e1 e2 e3 e4 e5 e6 b0 b1 b2 b3 g0 g1 g2 g3 s0 s1 w0 y0 r0 k1 k2 k3 k4 k6 k7 k8 k10 k12 k13 k14 k15 k16 k21 k22 k23 k24 k25 k30 k31 k33 : Nat) (zC : CX E cL_law RL (some .boolean) cI room_1) (hA : ∀ q, (ev_s E).heap.size ≤ q → ev_A E q) (hX : XS E b L xs) (hL : L ≤ 2560) (hi : i + 5 ≤ L) (kk : LGO E cI 1756 b i x0 a0 a1 a2 a3 a4 a5 a6 c0 c1 c2 c3 c4 c5 c6 e0 e1 e2 e3 e4 e5 e6 b0 b1 b2 b3 g0 g1 g2 g3 s0 s1 w0 y0 r0 k1 k2 k3 k4 k6 k7 k8 k10 k12 k13 k14 k15 k16 k21 k22 k23 k24 k25 k30 k31 k33) : LGO E cI 1008 b i x0 a0 a1 a2 a3 a4 a5 a6 c0 c1 c2 c3 c4 c5 c6 e0 e1 e2 e3 e4 e5 e6 b0 b1 b2 b3 g0 g1 g2 g3 s0 s1 w0 y0 r0 k1 k2 k3 k4 k6 k7 k8 k10 k12 k13 k14 k15 k16 k21 k22 k23 k24 k25 k30 k31 k33 := by
  intro n m sh n5 m5 sh5 aw5 n2 m2 sh2 aw2 P Q cs ls rs ap sq pl ki op fa K G T ki5 op5 fa5 K5 G5 T5 ki2 op2 fa2 K2 G2 T2 mf kn so wh va sg rw R kw kr mw pi tl kp im tu to M Mr lo pd bd tk kv sd hI
  obtain ⟨hw, hw5, hw2, hB, hM, hcs, hH, hl, hsg, hr, hrw, hkw, hkr, hMr, hE9⟩ := hI
  obtain ⟨hn, hm, hsh, hki, hop, hfa, hK, hG, hT, -⟩ := id hw
  refine v_al_n 1009 zC dL_law_1008 2 rfl ?_
  refine v_al_n 1010 zC dL_law_1009 3 rfl ?_
  refine v_il_n 1011 zC dL_law_1010 0 rfl ?_
  refine v_ic (v := (nI 1)) 1012 zC dL_law_1011 (by decide +kernel) ?_
  refine v_iadd (v := (nI (i + 1))) 1013 zC dL_law_1012 (nI_add _ _) ?_
  refine v_sld 1014 zC hX dL_law_1013 (by omega) hL ?_
  refine v_al_n 1015 zC dL_law_1014 3 rfl ?_
  refine v_il_n 1016 zC dL_law_1015 0 rfl ?_
  refine v_ic (v := (nI 2)) 1017 zC dL_law_1016 (by decide +kernel) ?_
  refine v_iadd (v := (nI (i + 2))) 1018 zC dL_law_1017 (nI_add _ _) ?_
  refine v_sld 1019 zC hX dL_law_1018 (by omega) hL ?_
  refine v_al_n 1020 zC dL_law_1019 3 rfl ?_
  refine v_il_n 1021 zC dL_law_1020 0 rfl ?_
  refine v_ic (v := (nI 3)) 1022 zC dL_law_1021 (by decide +kernel) ?_
  refine v_iadd (v := (nI (i + 3))) 1023 zC dL_law_1022 (nI_add _ _) ?_
  refine v_sld 1024 zC hX dL_law_1023 (by omega) hL ?_
  refine v_cV2 (As := [.int (xs (i + 1)), .int (xs (i + 2)), .int (xs (i + 3))]) (st := []) 1027 0 [0, 1, 2, 3, 4, 5, 6, 7, 8, 9, 10, 11, 12] zC dL_law_1024 hA (c_X4_can (ev_l E) (ev_D E) cI (x0 := x0) (xm := c0) (xp := e0) (g0 := g0) (s0 := s0) (w0 := w0) (y0 := y0) (pd := pd) (rs := rs) (b0 := b0) (b1 := b1) (b2 := b2) (b3 := b3) (P := P) (Q := Q) (mf := mf) (M := M) (kn := kn) (a0 := a0) (a1 := a1) (a2 := a2) (a3 := a3) (a4 := a4) (a5 := a5) (a6 := a6) (n := n) (m := m) (sh := sh) (ki := ki) (op := op) (fa := fa) (K := K) (G := G) (T := T) (R := R) (p := (xs (i + 1))) (f := (xs (i + 2))) (h := (xs (i + 3))) (hw := hw) (hB := hB) (hM := hM)) cf_X4_can lk_L_121 rfl rfl rfl rfl rfl (by decide +kernel) (Nat.le_of_ble_eq_true rfl) (fun rv_1 wv_2 hp_3 hm_4 => ?_)
  clear hm_4
  obtain ⟨P1_5, Q1_6, mg_7, X_8, Y_9, rc_10, rv_11, hq_12, hB1_13, hM1_14, rfl, rfl⟩ := hp_3
  rw [sa_16]
  refine v_al_n 1028 zC dL_law_1027 1 rfl ?_
  refine v_al_n 1029 zC dL_law_1028 3 rfl ?_
  refine v_il_n 1030 zC dL_law_1029 0 rfl ?_
  refine v_ic (v := (nI 1)) 1031 zC dL_law_1030 (by decide +kernel) ?_
  refine v_iadd (v := (nI (i + 1))) 1032 zC dL_law_1031 (nI_add _ _) ?_
  refine v_sld 1033 zC hX dL_law_1032 (by omega) hL ?_
  refine v_al_n 1034 zC dL_law_1033 3 rfl ?_
  refine v_il_n 1035 zC dL_law_1034 0 rfl ?_
  refine v_ic (v := (nI 2)) 1036 zC dL_law_1035 (by decide +kernel) ?_
  refine v_iadd (v := (nI (i + 2))) 1037 zC dL_law_1036 (nI_add _ _) ?_
  refine v_sld 1038 zC hX dL_law_1037 (by omega) hL ?_
  refine v_al_n 1039 zC dL_law_1038 3 rfl ?_
  refine v_il_n 1040 zC dL_law_1039 0 rfl ?_
  refine v_ic (v := (nI 3)) 1041 zC dL_law_1040 (by decide +kernel) ?_
  refine v_iadd (v := (nI (i + 3))) 1042 zC dL_law_1041 (nI_add _ _) ?_
  refine v_sld 1043 zC hX dL_law_1042 (by omega) hL ?_
  refine v_swap ?_
  refine v_cV2 (As := [.int (xs (i + 1)), .int (xs (i + 2)), .int (xs (i + 3))]) (st := [.int rv_11]) 1046 0 [0, 1, 2, 3, 4, 5, 6, 7, 8, 9, 10, 11, 12] zC dL_law_1043 hA (c_X5_can (ev_l E) (ev_D E) cI (r0 := r0) (k1 := k1) (k2 := k2) (k3 := k3) (k4 := k4) (k6 := k6) (k7 := k7) (k8 := k8) (k10 := k10) (k12 := k12) (k13 := k13) (k14 := k14) (k15 := k15) (k16 := k16) (k21 := k21) (k22 := k22) (k23 := k23) (k24 := k24) (k25 := k25) (k30 := k30) (k31 := k31) (k33 := k33) (n := n) (m := m) (ls := ls) (ap := ap) (sq := sq) (pl := pl) (tz := cs) (rs := rs) (bd := bd) (pd := pd) (tk := tk) (kv := kv) (sd := sd) (ki := ki) (op := op) (fa := fa) (K := K) (G := G) (T := T) (sh := sh) (kw := kw) (kn := kr) (M := Mr) (mw := mw) (R := R) (p := (xs (i + 1))) (f := (xs (i + 2))) (h := (xs (i + 3))) (hw := hw) (hkw := hkw) (hkn := hkr) (hM := hMr)) cf_X5_can lk_L_124 rfl rfl rfl rfl rfl (by decide +kernel) (Nat.le_of_ble_eq_true rfl) (fun rv_15 wv_16 hp_17 hm_18 => ?_)
  clear hm_18
  obtain ⟨kw1_19, kn1_20, M1_21, mw1_22, rc_23, rv_24, hq_25, hkw1_26, hkn1_27, hM1_28, rfl, rfl⟩ := hp_17
  rw [sa_17]
  obtain ⟨ez, ey⟩ := Prod.mk.inj (hq_12.symm.trans hq_25)
  subst ez
  have ez := ey
  subst ez
  refine v_eqi 1756 zC dL_law_1046 (by first | rfl | assumption) ?_
  refine v_swap ?_
  exact kk n m sh n5 m5 sh5 aw5 n2 m2 sh2 aw2 P1_5 Q1_6 cs ls rs ap sq pl ki op fa K G T ki5 op5 fa5 K5 G5 T5 ki2 op2 fa2 K2 G2 T2 mg_7 X_8 so wh va sg rw (rf R rc_10) kw1_19 kn1_20 mw1_22 pi tl kp im tu to Y_9 M1_21 lo pd bd tk kv sd ⟨(by first | assumption | exact trivial | omega | exact hf9 | exact hH9), (by first | assumption | exact trivial | omega | exact hf9 | exact hH9), (by first | assumption | exact trivial | omega | exact hf9 | exact hH9), (by first | assumption | exact trivial | omega | exact hf9 | exact hH9), (by first | assumption | exact trivial | omega | exact hf9 | exact hH9), (by first | assumption | exact trivial | omega | exact hf9 | exact hH9), (by first | assumption | exact trivial | omega | exact hf9 | exact hH9), (by first | assumption | exact trivial | omega | exact hf9 | exact hH9), (by first | assumption | exact trivial | omega | exact hf9 | exact hH9), (by first | assumption | exact trivial | omega | exact hf9 | exact hH9), (by first | assumption | exact trivial | omega | exact hf9 | exact hH9), (by first | assumption | exact trivial | omega | exact hf9 | exact hH9), (by first | assumption | exact trivial | omega | exact hf9 | exact hH9), (by first | assumption | exact trivial | omega | exact hf9 | exact hH9), (by first | assumption | exact trivial | omega | exact hf9 | exact hH9)⟩
set_option maxRecDepth 100000 in
set_option maxHeartbeats 4000000 in
theorem lawc_27 {E : EV} {cI : ClassId} {b L i : Nat} {xs : Nat → Int32} (x0 a0 a1 a2 a3 a4 a5 a6 c0 c1 c2 c3 c4 c5 c6 e0 e1 e2 e3 e4 e5 e6 b0 b1 b2 b3 g0 g1 g2 g3 s0 s1 w0 y0 r0 k1 k2 k3 k4 k6 k7 k8 k10 k12 k13 k14 k15 k16 k21 k22 k23 k24 k25 k30 k31 k33 : Nat) (zC : CX E cL_law RL (some .boolean) cI room_1) (hA : ∀ q, (ev_s E).heap.size ≤ q → ev_A E q) (hX : XS E b L xs) (hL : L ≤ 2560) (hi : i + 5 ≤ L) (kk : LGO E cI 1756 b i x0 a0 a1 a2 a3 a4 a5 a6 c0 c1 c2 c3 c4 c5 c6 e0 e1 e2 e3 e4 e5 e6 b0 b1 b2 b3 g0 g1 g2 g3 s0 s1 w0 y0 r0 k1 k2 k3 k4 k6 k7 k8 k10 k12 k13 k14 k15 k16 k21 k22 k23 k24 k25 k30 k31 k33) : LGO E cI 1051 b i x0 a0 a1 a2 a3 a4 a5 a6 c0 c1 c2 c3 c4 c5 c6 e0 e1 e2 e3 e4 e5 e6 b0 b1 b2 b3 g0 g1 g2 g3 s0 s1 w0 y0 r0 k1 k2 k3 k4 k6 k7 k8 k10 k12 k13 k14 k15 k16 k21 k22 k23 k24 k25 k30 k31 k33 := by
  intro n m sh n5 m5 sh5 aw5 n2 m2 sh2 aw2 P Q cs ls rs ap sq pl ki op fa K G T ki5 op5 fa5 K5 G5 T5 ki2 op2 fa2 K2 G2 T2 mf kn so wh va sg rw R kw kr mw pi tl kp im tu to M Mr lo pd bd tk kv sd hI
  obtain ⟨hw, hw5, hw2, hB, hM, hcs, hH, hl, hsg, hr, hrw, hkw, hkr, hMr, hE9⟩ := hI
  obtain ⟨hn, hm, hsh, hki, hop, hfa, hK, hG, hT, -⟩ := id hw
  refine v_al_n 1052 zC dL_law_1051 2 rfl ?_
  refine v_al_n 1053 zC dL_law_1052 3 rfl ?_
  refine v_il_n 1054 zC dL_law_1053 0 rfl ?_
  refine v_ic (v := (nI 1)) 1055 zC dL_law_1054 (by decide +kernel) ?_
  refine v_iadd (v := (nI (i + 1))) 1056 zC dL_law_1055 (nI_add _ _) ?_
  refine v_sld 1057 zC hX dL_law_1056 (by omega) hL ?_
  refine v_cV2 (As := [.int (xs (i + 1))]) (st := []) 1060 0 [0, 1, 2, 3, 4, 5, 6, 7, 8, 9, 10, 11, 12, 19] zC dL_law_1057 hA (c_X4_sham (ev_l E) (ev_D E) cI (x0 := x0) (xm := c0) (xp := e0) (g0 := g0) (s0 := s0) (w0 := w0) (y0 := y0) (pd := pd) (rs := rs) (b0 := b0) (b1 := b1) (b2 := b2) (b3 := b3) (P := P) (Q := Q) (mf := mf) (M := M) (kn := kn) (a0 := a0) (a1 := a1) (a2 := a2) (a3 := a3) (a4 := a4) (a5 := a5) (a6 := a6) (n := n) (m := m) (sh := sh) (ki := ki) (op := op) (fa := fa) (K := K) (G := G) (T := T) (R := R) (u := (xs (i + 1))) (rw := rw) (hw := hw) (hB := hB) (hM := hM) (hr := hr) (hrw := hrw)) cf_X4_sham lk_L_125 rfl rfl rfl rfl rfl (by decide +kernel) (Nat.le_of_ble_eq_true rfl) (fun rv_1 wv_2 hp_3 hm_4 => ?_)
  clear hm_4
  obtain ⟨P1_5, Q1_6, mg_7, X_8, Y_9, rc_10, rv_11, hq_12, hB1_13, hM1_14, rfl, rfl⟩ := hp_3
  rw [sa_22]
  refine v_al_n 1061 zC dL_law_1060 1 rfl ?_
  refine v_al_n 1062 zC dL_law_1061 3 rfl ?_
  refine v_il_n 1063 zC dL_law_1062 0 rfl ?_
  refine v_ic (v := (nI 1)) 1064 zC dL_law_1063 (by decide +kernel) ?_
  refine v_iadd (v := (nI (i + 1))) 1065 zC dL_law_1064 (nI_add _ _) ?_
  refine v_sld 1066 zC hX dL_law_1065 (by omega) hL ?_
  refine v_swap ?_
  refine v_cV2 (As := [.int (xs (i + 1))]) (st := [.int rv_11]) 1069 0 [0, 1, 2, 3, 4, 5, 6, 7, 8, 9, 10, 11, 12, 21] zC dL_law_1066 hA (c_X5_sham (ev_l E) (ev_D E) cI (r0 := r0) (k1 := k1) (k2 := k2) (k3 := k3) (k4 := k4) (k6 := k6) (k7 := k7) (k8 := k8) (k10 := k10) (k12 := k12) (k13 := k13) (k14 := k14) (k15 := k15) (k16 := k16) (k21 := k21) (k22 := k22) (k23 := k23) (k24 := k24) (k25 := k25) (k30 := k30) (k31 := k31) (k33 := k33) (n := n) (m := m) (ls := ls) (ap := ap) (sq := sq) (pl := pl) (tz := cs) (rs := rs) (bd := bd) (pd := pd) (tk := tk) (kv := kv) (sd := sd) (ki := ki) (op := op) (fa := fa) (K := K) (G := G) (T := T) (sh := sh) (kw := kw) (kn := kr) (M := Mr) (mw := mw) (R := R) (rw := rw) (u := (xs (i + 1))) (hw := hw) (hkw := hkw) (hkn := hkr) (hM := hMr) (hr := hr) (hrw := hrw)) cf_X5_sham lk_L_128 rfl rfl rfl rfl rfl (by decide +kernel) (Nat.le_of_ble_eq_true rfl) (fun rv_15 wv_16 hp_17 hm_18 => ?_)
  clear hm_18
  obtain ⟨kw1_19, kn1_20, M1_21, mw1_22, rc_23, rv_24, hq_25, hkw1_26, hkn1_27, hM1_28, rfl, rfl⟩ := hp_17
  rw [sa_23]
  obtain ⟨ez, ey⟩ := Prod.mk.inj (hq_12.symm.trans hq_25)
  subst ez
  have ez := ey
  subst ez
  refine v_eqi 1756 zC dL_law_1069 (by first | rfl | assumption) ?_
  refine v_swap ?_
  exact kk n m sh n5 m5 sh5 aw5 n2 m2 sh2 aw2 P1_5 Q1_6 cs ls rs ap sq pl ki op fa K G T ki5 op5 fa5 K5 G5 T5 ki2 op2 fa2 K2 G2 T2 mg_7 X_8 so wh va sg rw (rf R rc_10) kw1_19 kn1_20 mw1_22 pi tl kp im tu to Y_9 M1_21 lo pd bd tk kv sd ⟨(by first | assumption | exact trivial | omega | exact hf9 | exact hH9), (by first | assumption | exact trivial | omega | exact hf9 | exact hH9), (by first | assumption | exact trivial | omega | exact hf9 | exact hH9), (by first | assumption | exact trivial | omega | exact hf9 | exact hH9), (by first | assumption | exact trivial | omega | exact hf9 | exact hH9), (by first | assumption | exact trivial | omega | exact hf9 | exact hH9), (by first | assumption | exact trivial | omega | exact hf9 | exact hH9), (by first | assumption | exact trivial | omega | exact hf9 | exact hH9), (by first | assumption | exact trivial | omega | exact hf9 | exact hH9), (by first | assumption | exact trivial | omega | exact hf9 | exact hH9), (by first | assumption | exact trivial | omega | exact hf9 | exact hH9), (by first | assumption | exact trivial | omega | exact hf9 | exact hH9), (by first | assumption | exact trivial | omega | exact hf9 | exact hH9), (by first | assumption | exact trivial | omega | exact hf9 | exact hH9), (by first | assumption | exact trivial | omega | exact hf9 | exact hH9)⟩
set_option maxRecDepth 100000 in
set_option maxHeartbeats 4000000 in
theorem lawc_28 {E : EV} {cI : ClassId} {b L i : Nat} {xs : Nat → Int32} (x0 a0 a1 a2 a3 a4 a5 a6 c0 c1 c2 c3 c4 c5 c6 e0 e1 e2 e3 e4 e5 e6 b0 b1 b2 b3 g0 g1 g2 g3 s0 s1 w0 y0 r0 k1 k2 k3 k4 k6 k7 k8 k10 k12 k13 k14 k15 k16 k21 k22 k23 k24 k25 k30 k31 k33 : Nat) (zC : CX E cL_law RL (some .boolean) cI room_1) (hA : ∀ q, (ev_s E).heap.size ≤ q → ev_A E q) (hX : XS E b L xs) (hL : L ≤ 2560) (hi : i + 5 ≤ L) (kk : LGO E cI 1756 b i x0 a0 a1 a2 a3 a4 a5 a6 c0 c1 c2 c3 c4 c5 c6 e0 e1 e2 e3 e4 e5 e6 b0 b1 b2 b3 g0 g1 g2 g3 s0 s1 w0 y0 r0 k1 k2 k3 k4 k6 k7 k8 k10 k12 k13 k14 k15 k16 k21 k22 k23 k24 k25 k30 k31 k33) : LGO E cI 1074 b i x0 a0 a1 a2 a3 a4 a5 a6 c0 c1 c2 c3 c4 c5 c6 e0 e1 e2 e3 e4 e5 e6 b0 b1 b2 b3 g0 g1 g2 g3 s0 s1 w0 y0 r0 k1 k2 k3 k4 k6 k7 k8 k10 k12 k13 k14 k15 k16 k21 k22 k23 k24 k25 k30 k31 k33 := by
  intro n m sh n5 m5 sh5 aw5 n2 m2 sh2 aw2 P Q cs ls rs ap sq pl ki op fa K G T ki5 op5 fa5 K5 G5 T5 ki2 op2 fa2 K2 G2 T2 mf kn so wh va sg rw R kw kr mw pi tl kp im tu to M Mr lo pd bd tk kv sd hI
  obtain ⟨hw, hw5, hw2, hB, hM, hcs, hH, hl, hsg, hr, hrw, hkw, hkr, hMr, hE9⟩ := hI
  obtain ⟨hn, hm, hsh, hki, hop, hfa, hK, hG, hT, -⟩ := id hw
  refine v_al_n 1075 zC dL_law_1074 2 rfl ?_
  refine v_al_n 1076 zC dL_law_1075 3 rfl ?_
  refine v_il_n 1077 zC dL_law_1076 0 rfl ?_
  refine v_ic (v := (nI 1)) 1078 zC dL_law_1077 (by decide +kernel) ?_
  refine v_iadd (v := (nI (i + 1))) 1079 zC dL_law_1078 (nI_add _ _) ?_
  refine v_sld 1080 zC hX dL_law_1079 (by omega) hL ?_
  refine v_al_n 1081 zC dL_law_1080 3 rfl ?_
  refine v_il_n 1082 zC dL_law_1081 0 rfl ?_
  refine v_ic (v := (nI 2)) 1083 zC dL_law_1082 (by decide +kernel) ?_
  refine v_iadd (v := (nI (i + 2))) 1084 zC dL_law_1083 (nI_add _ _) ?_
  refine v_sld 1085 zC hX dL_law_1084 (by omega) hL ?_
  refine v_cV2 (As := [.int (xs (i + 1)), .int (xs (i + 2))]) (st := []) 1088 0 [0, 1, 2, 3, 4, 5, 6, 7, 8, 9, 10, 11, 12] zC dL_law_1085 hA (c_X4_who (ev_l E) (ev_D E) cI (x0 := x0) (xm := c0) (xp := e0) (g0 := g0) (s0 := s0) (w0 := w0) (y0 := y0) (pd := pd) (rs := rs) (b0 := b0) (b1 := b1) (b2 := b2) (b3 := b3) (P := P) (Q := Q) (mf := mf) (M := M) (kn := kn) (a0 := a0) (a1 := a1) (a2 := a2) (a3 := a3) (a4 := a4) (a5 := a5) (a6 := a6) (n := n) (m := m) (sh := sh) (ki := ki) (op := op) (fa := fa) (K := K) (G := G) (T := T) (R := R) (p := (xs (i + 1))) (q := (xs (i + 2))) (hw := hw) (hB := hB) (hM := hM)) cf_X4_who lk_L_129 rfl rfl rfl rfl rfl (by decide +kernel) (Nat.le_of_ble_eq_true rfl) (fun rv_1 wv_2 hp_3 hm_4 => ?_)
  clear hm_4
  obtain ⟨P1_5, Q1_6, mg_7, X_8, Y_9, rc_10, rv_11, hq_12, hB1_13, hM1_14, rfl, rfl⟩ := hp_3
  rw [sa_16]
  refine v_al_n 1089 zC dL_law_1088 1 rfl ?_
  refine v_al_n 1090 zC dL_law_1089 3 rfl ?_
  refine v_il_n 1091 zC dL_law_1090 0 rfl ?_
  refine v_ic (v := (nI 1)) 1092 zC dL_law_1091 (by decide +kernel) ?_
  refine v_iadd (v := (nI (i + 1))) 1093 zC dL_law_1092 (nI_add _ _) ?_
  refine v_sld 1094 zC hX dL_law_1093 (by omega) hL ?_
  refine v_al_n 1095 zC dL_law_1094 3 rfl ?_
  refine v_il_n 1096 zC dL_law_1095 0 rfl ?_
  refine v_ic (v := (nI 2)) 1097 zC dL_law_1096 (by decide +kernel) ?_
  refine v_iadd (v := (nI (i + 2))) 1098 zC dL_law_1097 (nI_add _ _) ?_
  refine v_sld 1099 zC hX dL_law_1098 (by omega) hL ?_
  refine v_swap ?_
  refine v_cV2 (As := [.int (xs (i + 1)), .int (xs (i + 2))]) (st := [.int rv_11]) 1102 0 [0, 1, 2, 3, 4, 5, 6, 7, 8, 9, 10, 11, 12] zC dL_law_1099 hA (c_X5_who (ev_l E) (ev_D E) cI (r0 := r0) (k1 := k1) (k2 := k2) (k3 := k3) (k4 := k4) (k6 := k6) (k7 := k7) (k8 := k8) (k10 := k10) (k12 := k12) (k13 := k13) (k14 := k14) (k15 := k15) (k16 := k16) (k21 := k21) (k22 := k22) (k23 := k23) (k24 := k24) (k25 := k25) (k30 := k30) (k31 := k31) (k33 := k33) (n := n) (m := m) (ls := ls) (ap := ap) (sq := sq) (pl := pl) (tz := cs) (rs := rs) (bd := bd) (pd := pd) (tk := tk) (kv := kv) (sd := sd) (ki := ki) (op := op) (fa := fa) (K := K) (G := G) (T := T) (sh := sh) (kw := kw) (kn := kr) (M := Mr) (mw := mw) (R := R) (p := (xs (i + 1))) (q := (xs (i + 2))) (hw := hw) (hkw := hkw) (hkn := hkr) (hM := hMr)) cf_X5_who lk_L_132 rfl rfl rfl rfl rfl (by decide +kernel) (Nat.le_of_ble_eq_true rfl) (fun rv_15 wv_16 hp_17 hm_18 => ?_)
  clear hm_18
  obtain ⟨kw1_19, kn1_20, M1_21, mw1_22, rc_23, rv_24, hq_25, hkw1_26, hkn1_27, hM1_28, rfl, rfl⟩ := hp_17
  rw [sa_17]
  obtain ⟨ez, ey⟩ := Prod.mk.inj (hq_12.symm.trans hq_25)
  subst ez
  have ez := ey
  subst ez
  refine v_eqi 1756 zC dL_law_1102 (by first | rfl | assumption) ?_
  refine v_swap ?_
  exact kk n m sh n5 m5 sh5 aw5 n2 m2 sh2 aw2 P1_5 Q1_6 cs ls rs ap sq pl ki op fa K G T ki5 op5 fa5 K5 G5 T5 ki2 op2 fa2 K2 G2 T2 mg_7 X_8 so wh va sg rw (rf R rc_10) kw1_19 kn1_20 mw1_22 pi tl kp im tu to Y_9 M1_21 lo pd bd tk kv sd ⟨(by first | assumption | exact trivial | omega | exact hf9 | exact hH9), (by first | assumption | exact trivial | omega | exact hf9 | exact hH9), (by first | assumption | exact trivial | omega | exact hf9 | exact hH9), (by first | assumption | exact trivial | omega | exact hf9 | exact hH9), (by first | assumption | exact trivial | omega | exact hf9 | exact hH9), (by first | assumption | exact trivial | omega | exact hf9 | exact hH9), (by first | assumption | exact trivial | omega | exact hf9 | exact hH9), (by first | assumption | exact trivial | omega | exact hf9 | exact hH9), (by first | assumption | exact trivial | omega | exact hf9 | exact hH9), (by first | assumption | exact trivial | omega | exact hf9 | exact hH9), (by first | assumption | exact trivial | omega | exact hf9 | exact hH9), (by first | assumption | exact trivial | omega | exact hf9 | exact hH9), (by first | assumption | exact trivial | omega | exact hf9 | exact hH9), (by first | assumption | exact trivial | omega | exact hf9 | exact hH9), (by first | assumption | exact trivial | omega | exact hf9 | exact hH9)⟩
