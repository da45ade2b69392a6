section CNT
variable {n m sh ls rs cs : Nat} {op fa R : Nat → Nat}
theorem cnt_lo {w : Int32} (h8 : IX 8 w = none) (hw : w < nI 11) : q_count n m sh ls rs cs op fa R w = -9 := by
  unfold q_count
  rw [h8]
  cases e : IX 17 w with
  | none => rfl
  | some k => exact if_neg (Nat.not_le.mpr (IX_lo e hw (by decide) (by decide)))
theorem cnt_hi {w : Int32} (h8 : IX 8 w = none) (hw : nI 16 < w) : q_count n m sh ls rs cs op fa R w = -9 := by
  unfold q_count
  rw [h8, IX_hi hw (by decide)]
theorem cnt_md {j : Nat} (h8 : IX 8 (nI j) = none) (h1 : 11 ≤ j) (h2 : j ≤ 16) : q_count n m sh ls rs cs op fa R (nI j) = nI (R (j - 10)) := by
  unfold q_count
  rw [h8, IX_nI (by decide) (show j < 17 by omega)]
  exact if_pos h1
theorem cnt_in {k : Nat} {w : Int32} (h : IX 8 w = some k) : q_count n m sh ls rs cs op fa R w = nI (if k = 0 then n else if k = 1 then m else if k = 2 then pcn sh else if k = 3 then sm (fun p => pcn (op p)) n else if k = 4 then sm (fun p => pcn (fa p)) n else if k = 5 then ls else if k = 6 then rs else cs) := by
  unfold q_count
  rw [h]
end CNT

set_option maxRecDepth 100000 in
set_option maxHeartbeats 4000000 in
theorem c_X4_count (l : Launch) (D : va_G) (cI : ClassId) (x0 xm xp b0 y0 g0 g1 g2 g3 s0 s1 w0 : Nat) (pd : Bool) (rs ls cs : Nat) (a0 a1 a2 a3 a4 a5 a6 : Nat) (n m sh : Nat) (op fa R : Nat → Nat) (w : Int32) (hn : n ≤ 7) (hsh : sh < 2 ^ 7) (hop : ∀ z, op z < 2 ^ 24) (hfa : ∀ z, fa z < 1024) : CT l yX4_count cX4_count 2 (some .int) { frames := 2, cells := 0, slots := 0, locals := 42 } D cI [.ref x0, .int w] [(x0, .inr (4, [.ref a0, .ref xm, .ref xp, .int (bz pd), .ref b0, .ref g0, .ref s0, .ref w0, .int (nI rs), .ref y0])), (a0, .inr (2, [.int (nI n), .int (nI m), .int (nI sh), .int (nI 0), .ref a1, .ref a2, .ref a3, .ref a4, .ref a5, .ref a6])), (a2, .inl (cI, 7, .inl (nIf op))), (a3, .inl (cI, 7, .inl (nIf fa))), (g0, .inr (0, [.int (nI cs), .ref g1, .ref g2, .ref g3])), (s0, .inr (3, [.int (nI ls), .ref s1])), (y0, .inl (cI, 7, .inl (nIf R)))] (fun zr zw => (zr = some (.int (q_count n m sh ls rs cs op fa R w)) ∧ zw = [(x0, .inr (4, [.ref a0, .ref xm, .ref xp, .int (bz pd), .ref b0, .ref g0, .ref s0, .ref w0, .int (nI rs), .ref y0])), (a0, .inr (2, [.int (nI n), .int (nI m), .int (nI sh), .int (nI 0), .ref a1, .ref a2, .ref a3, .ref a4, .ref a5, .ref a6])), (a2, .inl (cI, 7, .inl (nIf op))), (a3, .inl (cI, 7, .inl (nIf fa))), (g0, .inr (0, [.int (nI cs), .ref g1, .ref g2, .ref g3])), (s0, .inr (3, [.int (nI ls), .ref s1])), (y0, .inl (cI, 7, .inl (nIf R)))])) := by
  refine CT_of RX4 rfl (by decide +kernel) (Nat.le_of_ble_eq_true rfl) (fun E hnE zC zT => ?_)
  have hA : ∀ q, (ev_s E).heap.size ≤ q → ev_A E q := fun q h => by rw [zT.2]; exact Or.inr h
  show VV E 0 0 0 [(0, .ref x0), (1, .int w)] [] [(x0, .inr (4, [.ref a0, .ref xm, .ref xp, .int (bz pd), .ref b0, .ref g0, .ref s0, .ref w0, .int (nI rs), .ref y0])), (a0, .inr (2, [.int (nI n), .int (nI m), .int (nI sh), .int (nI 0), .ref a1, .ref a2, .ref a3, .ref a4, .ref a5, .ref a6])), (a2, .inl (cI, 7, .inl (nIf op))), (a3, .inl (cI, 7, .inl (nIf fa))), (g0, .inr (0, [.int (nI cs), .ref g1, .ref g2, .ref g3])), (s0, .inr (3, [.int (nI ls), .ref s1])), (y0, .inl (cI, 7, .inl (nIf R)))]
  refine v_il_n 1 zC dX4_count_0 1 rfl ?_
  by_cases hc9 : w < 0 ∨ nI (7 + 1) ≤ w
  ·
    have h8 : IX 8 w = none := IX_n hc9
    refine v_tsw (off := 111) 112 zC dX4_count_1 (Or.inr ⟨sw_out (N := 7) (by decide) hc9, rfl⟩) ?_
    refine v_il_n 113 zC dX4_count_112 1 rfl ?_
    refine v_bp (v := (nI 11)) 115 zC dX4_count_113 (by decide +kernel) ?_
    refine v_icmp_lt 136 118 zC dX4_count_115 (fun h_1 => ?_) (fun h_1 => ?_)
    ·
      have hlo9 : w < nI 11 := h_1
      refine v_bp (v := (-9)) 138 zC dX4_count_136 (by decide +kernel) ?_
      refine v_iret zC zT dX4_count_138  ?_
      first | exact ⟨si hq9.symm, rfl⟩ | exact ⟨si (cnt_lo h8 hlo9).symm, rfl⟩ | exact ⟨si (cnt_hi h8 hhi9).symm, rfl⟩ | exact ⟨si (cnt_md h8 hk1 hk2).symm, rfl⟩
    ·
      have hge9 : ¬ w < nI 11 := h_1
      refine v_il_n 119 zC dX4_count_118 1 rfl ?_
      refine v_bp (v := (nI 16)) 121 zC dX4_count_119 (by decide +kernel) ?_
      refine v_icmp_gt 136 124 zC dX4_count_121 (fun h_2 => ?_) (fun h_2 => ?_)
      ·
        have hhi9 : nI 16 < w := h_2
        refine v_bp (v := (-9)) 138 zC dX4_count_136 (by decide +kernel) ?_
        refine v_iret zC zT dX4_count_138  ?_
        first | exact ⟨si hq9.symm, rfl⟩ | exact ⟨si (cnt_lo h8 hlo9).symm, rfl⟩ | exact ⟨si (cnt_hi h8 hhi9).symm, rfl⟩ | exact ⟨si (cnt_md h8 hk1 hk2).symm, rfl⟩
      ·
        obtain ⟨jw, hk1, hk2, he_w⟩ := ofR2 hge9 (Int32.not_lt.mpr (Int32.not_lt.mp h_2)) (by decide) (by decide)
        subst he_w
        refine v_al_n 125 zC dX4_count_124 0 rfl ?_
        refine v_gf 128 0 zC dX4_count_125 gf_X4_47 rfl rfl ?_
        refine v_il_n 129 zC dX4_count_128 1 rfl ?_
        refine v_bp (v := (nI 10)) 131 zC dX4_count_129 (by decide +kernel) ?_
        refine v_isub (v := (nI (jw - 10))) 132 zC dX4_count_131 (pk_sub (by first | omega | exact Nat.one_le_two_pow)) ?_
        refine v_ialn (v := (nI (R (jw - 10)))) 133 6 zC dX4_count_132 rfl (by omega) rfl ?_
        refine v_goto 138 zC dX4_count_133 ?_
        refine v_iret zC zT dX4_count_138  ?_
        first | exact ⟨si hq9.symm, rfl⟩ | exact ⟨si (cnt_lo h8 hlo9).symm, rfl⟩ | exact ⟨si (cnt_hi h8 hhi9).symm, rfl⟩ | exact ⟨si (cnt_md h8 hk1 hk2).symm, rfl⟩
  ·
    obtain ⟨jw, hi_w, he_w, hl_w⟩ := IX_s (N := 8) (by decide) (fun z => hc9 (Or.inl z)) (fun z => hc9 (Or.inr z))
    subst he_w
    have hs9 : jw = 0 ∨ jw = 1 ∨ jw = 2 ∨ jw = 3 ∨ jw = 4 ∨ jw = 5 ∨ jw = 6 ∨ jw = 7 := by omega
    rcases hs9 with hs9 | hs9 | hs9 | hs9 | hs9 | hs9 | hs9 | hs9
    ·
      subst hs9
      have hq9 := cnt_in (n := n) (m := m) (sh := sh) (ls := ls) (rs := rs) (cs := cs) (op := op) (fa := fa) (R := R) hi_w
      refine v_tsw (off := 47) 48 zC dX4_count_1 (Or.inl (by decide +kernel)) ?_
      refine v_al_n 49 zC dX4_count_48 0 rfl ?_
      refine v_gf 52 0 zC dX4_count_49 gf_X4_12 rfl rfl ?_
      refine v_gf 55 1 zC dX4_count_52 gf_X4_114 rfl rfl ?_
      refine v_iret zC zT dX4_count_55  ?_
      first | exact ⟨si hq9.symm, rfl⟩ | exact ⟨si (cnt_lo h8 hlo9).symm, rfl⟩ | exact ⟨si (cnt_hi h8 hhi9).symm, rfl⟩ | exact ⟨si (cnt_md h8 hk1 hk2).symm, rfl⟩
    ·
      subst hs9
      have hq9 := cnt_in (n := n) (m := m) (sh := sh) (ls := ls) (rs := rs) (cs := cs) (op := op) (fa := fa) (R := R) hi_w
      refine v_tsw (off := 55) 56 zC dX4_count_1 (Or.inl (by decide +kernel)) ?_
      refine v_al_n 57 zC dX4_count_56 0 rfl ?_
      refine v_gf 60 0 zC dX4_count_57 gf_X4_12 rfl rfl ?_
      refine v_gf 63 1 zC dX4_count_60 gf_X4_121 rfl rfl ?_
      refine v_iret zC zT dX4_count_63  ?_
      first | exact ⟨si hq9.symm, rfl⟩ | exact ⟨si (cnt_lo h8 hlo9).symm, rfl⟩ | exact ⟨si (cnt_hi h8 hhi9).symm, rfl⟩ | exact ⟨si (cnt_md h8 hk1 hk2).symm, rfl⟩
    ·
      subst hs9
      have hq9 := cnt_in (n := n) (m := m) (sh := sh) (ls := ls) (rs := rs) (cs := cs) (op := op) (fa := fa) (R := R) hi_w
      refine v_tsw (off := 63) 64 zC dX4_count_1 (Or.inl (by decide +kernel)) ?_
      refine v_al_n 65 zC dX4_count_64 0 rfl ?_
      refine v_gf 68 0 zC dX4_count_65 gf_X4_12 rfl rfl ?_
      refine v_gf 71 1 zC dX4_count_68 gf_X4_205 rfl rfl ?_
      refine v_cS (As := [.int (nI sh)]) (st := []) 74 [] zC dX4_count_71 hA (c_J6_bitCount_0f7a4 (ev_l E) (ev_D E) cI (x := sh) (hx := (Nat.lt_trans hsh (by decide)))) cf_J6_bitCount_0f7a4 lk_X4_178 rfl rfl rfl (by decide +kernel) (Nat.le_of_ble_eq_true rfl) (fun rv_3 wv_4 hp_5 hm_6 => ?_)
      clear hm_6
      obtain ⟨rfl, rfl⟩ := hp_5
      show VV E 0 0 74 [(0, .ref x0), (1, .int (nI 2))] [.int (nI (pcn sh))] [(x0, .inr (4, [.ref a0, .ref xm, .ref xp, .int (bz pd), .ref b0, .ref g0, .ref s0, .ref w0, .int (nI rs), .ref y0])), (a0, .inr (2, [.int (nI n), .int (nI m), .int (nI sh), .int (nI 0), .ref a1, .ref a2, .ref a3, .ref a4, .ref a5, .ref a6])), (a2, .inl (cI, 7, .inl (nIf op))), (a3, .inl (cI, 7, .inl (nIf fa))), (g0, .inr (0, [.int (nI cs), .ref g1, .ref g2, .ref g3])), (s0, .inr (3, [.int (nI ls), .ref s1])), (y0, .inl (cI, 7, .inl (nIf R)))]
      refine v_iret zC zT dX4_count_74  ?_
      first | exact ⟨si hq9.symm, rfl⟩ | exact ⟨si (cnt_lo h8 hlo9).symm, rfl⟩ | exact ⟨si (cnt_hi h8 hhi9).symm, rfl⟩ | exact ⟨si (cnt_md h8 hk1 hk2).symm, rfl⟩
    ·
      subst hs9
      have hq9 := cnt_in (n := n) (m := m) (sh := sh) (ls := ls) (rs := rs) (cs := cs) (op := op) (fa := fa) (R := R) hi_w
      refine v_tsw (off := 74) 75 zC dX4_count_1 (Or.inl (by decide +kernel)) ?_
      refine v_al_n 76 zC dX4_count_75 0 rfl ?_
      refine v_gf 79 0 zC dX4_count_76 gf_X4_12 rfl rfl ?_
      refine v_cV (As := []) (st := []) 82 1 [1, 2] zC dX4_count_79 hA (c_X2_openInAll (ev_l E) (ev_D E) cI (a0 := a0) (a1 := a1) (a2 := a2) (a3 := a3) (a4 := a4) (a5 := a5) (a6 := a6) (n := n) (m := m) (sh := sh) (aw := 0) (op := op) (hn := (by first | omega | assumption | rfl | (simp only []; omega) | decide)) (hb := hop)) cf_X2_openInAll lk_X4_291 rfl rfl rfl rfl rfl (by decide +kernel) (Nat.le_of_ble_eq_true rfl) (fun rv_7 wv_8 hp_9 hm_10 => ?_)
      clear hm_10
      obtain ⟨rfl, rfl⟩ := hp_9
      show VV E 0 0 82 [(0, .ref x0), (1, .int (nI 3))] [.int (nI (sm (fun p => pcn (op p)) n))] [(x0, .inr (4, [.ref a0, .ref xm, .ref xp, .int (bz pd), .ref b0, .ref g0, .ref s0, .ref w0, .int (nI rs), .ref y0])), (a0, .inr (2, [.int (nI n), .int (nI m), .int (nI sh), .int (nI 0), .ref a1, .ref a2, .ref a3, .ref a4, .ref a5, .ref a6])), (a2, .inl (cI, 7, .inl (nIf op))), (a3, .inl (cI, 7, .inl (nIf fa))), (g0, .inr (0, [.int (nI cs), .ref g1, .ref g2, .ref g3])), (s0, .inr (3, [.int (nI ls), .ref s1])), (y0, .inl (cI, 7, .inl (nIf R)))]
      refine v_iret zC zT dX4_count_82  ?_
      first | exact ⟨si hq9.symm, rfl⟩ | exact ⟨si (cnt_lo h8 hlo9).symm, rfl⟩ | exact ⟨si (cnt_hi h8 hhi9).symm, rfl⟩ | exact ⟨si (cnt_md h8 hk1 hk2).symm, rfl⟩
    ·
      subst hs9
      have hq9 := cnt_in (n := n) (m := m) (sh := sh) (ls := ls) (rs := rs) (cs := cs) (op := op) (fa := fa) (R := R) hi_w
      refine v_tsw (off := 82) 83 zC dX4_count_1 (Or.inl (by decide +kernel)) ?_
      refine v_al_n 84 zC dX4_count_83 0 rfl ?_
      refine v_gf 87 0 zC dX4_count_84 gf_X4_12 rfl rfl ?_
      refine v_cV (As := []) (st := []) 90 1 [1, 3] zC dX4_count_87 hA (c_X2_knownInAll (ev_l E) (ev_D E) cI (a0 := a0) (a1 := a1) (a2 := a2) (a3 := a3) (a4 := a4) (a5 := a5) (a6 := a6) (n := n) (m := m) (sh := sh) (aw := 0) (fa := fa) (hn := (by first | omega | assumption | rfl | (simp only []; omega) | decide)) (hb := hfa)) cf_X2_knownInAll lk_X4_155 rfl rfl rfl rfl rfl (by decide +kernel) (Nat.le_of_ble_eq_true rfl) (fun rv_11 wv_12 hp_13 hm_14 => ?_)
      clear hm_14
      obtain ⟨rfl, rfl⟩ := hp_13
      show VV E 0 0 90 [(0, .ref x0), (1, .int (nI 4))] [.int (nI (sm (fun p => pcn (fa p)) n))] [(x0, .inr (4, [.ref a0, .ref xm, .ref xp, .int (bz pd), .ref b0, .ref g0, .ref s0, .ref w0, .int (nI rs), .ref y0])), (a0, .inr (2, [.int (nI n), .int (nI m), .int (nI sh), .int (nI 0), .ref a1, .ref a2, .ref a3, .ref a4, .ref a5, .ref a6])), (a2, .inl (cI, 7, .inl (nIf op))), (a3, .inl (cI, 7, .inl (nIf fa))), (g0, .inr (0, [.int (nI cs), .ref g1, .ref g2, .ref g3])), (s0, .inr (3, [.int (nI ls), .ref s1])), (y0, .inl (cI, 7, .inl (nIf R)))]
      refine v_iret zC zT dX4_count_90  ?_
      first | exact ⟨si hq9.symm, rfl⟩ | exact ⟨si (cnt_lo h8 hlo9).symm, rfl⟩ | exact ⟨si (cnt_hi h8 hhi9).symm, rfl⟩ | exact ⟨si (cnt_md h8 hk1 hk2).symm, rfl⟩
    ·
      subst hs9
      have hq9 := cnt_in (n := n) (m := m) (sh := sh) (ls := ls) (rs := rs) (cs := cs) (op := op) (fa := fa) (R := R) hi_w
      refine v_tsw (off := 90) 91 zC dX4_count_1 (Or.inl (by decide +kernel)) ?_
      refine v_al_n 92 zC dX4_count_91 0 rfl ?_
      refine v_gf 95 0 zC dX4_count_92 gf_X4_39 rfl rfl ?_
      refine v_gf 98 5 zC dX4_count_95 gf_X4_54 rfl rfl ?_
      refine v_iret zC zT dX4_count_98  ?_
      first | exact ⟨si hq9.symm, rfl⟩ | exact ⟨si (cnt_lo h8 hlo9).symm, rfl⟩ | exact ⟨si (cnt_hi h8 hhi9).symm, rfl⟩ | exact ⟨si (cnt_md h8 hk1 hk2).symm, rfl⟩
    ·
      subst hs9
      have hq9 := cnt_in (n := n) (m := m) (sh := sh) (ls := ls) (rs := rs) (cs := cs) (op := op) (fa := fa) (R := R) hi_w
      refine v_tsw (off := 98) 99 zC dX4_count_1 (Or.inl (by decide +kernel)) ?_
      refine v_al_n 100 zC dX4_count_99 0 rfl ?_
      refine v_gf 103 0 zC dX4_count_100 gf_X4_221 rfl rfl ?_
      refine v_iret zC zT dX4_count_103  ?_
      first | exact ⟨si hq9.symm, rfl⟩ | exact ⟨si (cnt_lo h8 hlo9).symm, rfl⟩ | exact ⟨si (cnt_hi h8 hhi9).symm, rfl⟩ | exact ⟨si (cnt_md h8 hk1 hk2).symm, rfl⟩
    ·
      subst hs9
      have hq9 := cnt_in (n := n) (m := m) (sh := sh) (ls := ls) (rs := rs) (cs := cs) (op := op) (fa := fa) (R := R) hi_w
      refine v_tsw (off := 103) 104 zC dX4_count_1 (Or.inl (by decide +kernel)) ?_
      refine v_al_n 105 zC dX4_count_104 0 rfl ?_
      refine v_gf 108 0 zC dX4_count_105 gf_X4_32 rfl rfl ?_
      refine v_gf 111 4 zC dX4_count_108 gf_X4_164 rfl rfl ?_
      refine v_iret zC zT dX4_count_111  ?_
      first | exact ⟨si hq9.symm, rfl⟩ | exact ⟨si (cnt_lo h8 hlo9).symm, rfl⟩ | exact ⟨si (cnt_hi h8 hhi9).symm, rfl⟩ | exact ⟨si (cnt_md h8 hk1 hk2).symm, rfl⟩
