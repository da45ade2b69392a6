/-- what all know behind a day that passed -/
def PASF (s : SG) : Nat → Nat := fun p => if p < 7 then DR s 24 p else 0
def JUD (s : SG) (rw : Nat → Nat) (rs : Nat) : Option Nat := fs (fun h => decide (rw h ≠ pcn (SPK s h))) rs
section DK3
variable {n m sh aw : Nat} {ki op fa K G T X : Nat → Nat} {Y : Nat → Option Nat}
theorem pas_e (h : DOK n m sh aw ki op fa K G T X Y) (hv : VZ 7 fa) : va_cpy X fa 168 0 7 = PASF (n, m, sh, aw, ki, op, fa, K, G, T) := by
  funext p
  unfold va_cpy PASF
  by_cases c : p < 7
  · rw [if_pos ⟨Nat.zero_le p, by omega⟩, if_pos c]
    have e := h.1 24 (Nat.le_refl _) p c
    rw [show 168 + (p - 0) = 24 * 7 + p by omega]
    exact e
  · rw [if_neg (fun z => c (by omega)), if_neg c]
    exact hv p (by omega)
theorem pas_b (h : DOK n m sh aw ki op fa K G T X Y) : ∀ z, PASF (n, m, sh, aw, ki, op, fa, K, G, T) z < 1024 := by
  intro z
  unfold PASF
  split
  · rename_i c
    rw [← dk_r h (Nat.le_refl _) c]
    exact h.2.2.1 _
  · decide
theorem pas_s {s : SG} (hn : g_n s ≤ 7) : sm (fun p => pcn (PASF s p)) (g_n s) = ALL s := sm_c (fun p hp => by
  unfold PASF
  rw [if_pos (by omega)])
end DK3
theorem fs_end {P : Nat → Bool} {h N : Nat} {B : Option Nat} (e : B = fs P h) (hh : h ≤ N) (c : N ≤ h ∨ B.isSome = true) : B = fs P N := by
  rcases c with c | c
  · rw [show N = h by omega]
    exact e
  · obtain ⟨i, hi⟩ := Option.isSome_iff_exists.mp c
    rw [hi]
    exact (fs_m hh (e.symm.trans hi)).symm
theorem ix64 {k n : Nat} (h : 63 < k ∨ n = 7) (hk : k < 2 ^ 31 := by assumption) : IX 64 (nI k) = none ∨ n = 7 := by
  rcases h with h | h
  · exact Or.inl (IX_n (Or.inr (nI_le (by omega) hk)))
  · exact Or.inr h
theorem dz {k g t m : Nat} (h : 5 < k ∨ 9 < g ∨ 9 < t ∨ m = 6) (hg : g < 2 ^ 31) (ht : t < 2 ^ 31) (hk : k < 6) : IX 10 (nI g) = none ∨ IX 10 (nI t) = none ∨ m = 6 := by
  rcases h with h | h | h | h
  · omega
  · exact Or.inl (IX_n (Or.inr (nI_le (by omega) hg)))
  · exact Or.inr (Or.inl (IX_n (Or.inr (nI_le (by omega) ht))))
  · exact Or.inr (Or.inr h)

set_option maxRecDepth 100000 in
set_option maxHeartbeats 4000000 in
theorem c_X3_add (l : Launch) (D : va_G) (cI : ClassId) (s0 s1 ls : Nat) (sg : Nat → Nat) (v : Nat) (hl : ls < 96) : CT l yX3_add cX3_add 2 (some .int) { frames := 0, cells := 0, slots := 0, locals := 0 } D cI [.ref s0, .int (nI v)] [(s0, .inr (3, [.int (nI ls), .ref s1])), (s1, .inl (cI, 96, .inl (nIf sg)))] (fun zr zw => (zr = some (.int (nI (ls + 1))) ∧ zw = [(s0, .inr (3, [.int (nI (ls + 1)), .ref s1])), (s1, .inl (cI, 96, .inl (nIf (un sg ls v))))])) := by
  refine CT_of RX3 rfl (by decide +kernel) (Nat.le_of_ble_eq_true rfl) (fun E hnE zC zT => ?_)
  have hA : ∀ q, (ev_s E).heap.size ≤ q → ev_A E q := fun q h => by rw [zT.2]; exact Or.inr h
  show VV E 0 0 0 [(0, .ref s0), (1, .int (nI v))] [] [(s0, .inr (3, [.int (nI ls), .ref s1])), (s1, .inl (cI, 96, .inl (nIf sg)))]
  refine v_al_n 1 zC dX3_add_0 0 rfl ?_
  refine v_gf 4 0 zC dX3_add_1 gf_X3_15 rfl rfl ?_
  refine v_bp (v := (nI 96)) 6 zC dX3_add_4 (by decide +kernel) ?_
  refine v_icmpn_ge 29 9 zC dX3_add_6 (fun h_1 => False.elim (by omega)) (fun h_1 => ?_)
  refine v_al_n 10 zC dX3_add_9 0 rfl ?_
  refine v_gf 13 0 zC dX3_add_10 gf_X3_9 rfl rfl ?_
  refine v_al_n 14 zC dX3_add_13 0 rfl ?_
  refine v_gf 17 0 zC dX3_add_14 gf_X3_15 rfl rfl ?_
  refine v_il_n 18 zC dX3_add_17 1 rfl ?_
  refine v_iasn (ws2 := [(s0, .inr (3, [.int (nI ls), .ref s1])), (s1, .inl (cI, 96, .inl (nIf (un sg ls v))))]) 19 1 zC dX3_add_18 rfl (by omega) (by rw [upd_nIf]; first | done | rfl) ?_
  refine v_al_n 20 zC dX3_add_19 0 rfl ?_
  refine v_dup 21 zC dX3_add_20 rfl ?_
  refine v_gf 24 0 zC dX3_add_21 gf_X3_15 rfl rfl ?_
  refine v_ic (v := (nI 1)) 25 zC dX3_add_24 (by decide +kernel) ?_
  refine v_iadd (v := (nI (ls + 1))) 26 zC dX3_add_25 (nI_add _ _) ?_
  refine v_pf (ws2 := [(s0, .inr (3, [.int (nI (ls + 1)), .ref s1])), (s1, .inl (cI, 96, .inl (nIf (un sg ls v))))]) 29 0 zC dX3_add_26 pf_X3_15 rfl (Nat.le_of_ble_eq_true rfl) rfl rfl rfl ?_
  refine v_al_n 30 zC dX3_add_29 0 rfl ?_
  refine v_gf 33 0 zC dX3_add_30 gf_X3_15 rfl rfl ?_
  refine v_iret zC zT dX3_add_33  ?_
  first | exact ⟨rfl, rfl⟩ | exact ⟨sb1 (by assumption), rfl⟩ | exact ⟨sb0 (by assumption), rfl⟩ | (exfalso; omega) | exact ⟨sb1 (by simp [*]), rfl⟩ | exact ⟨sb0 (by simp [*]), rfl⟩
set_option maxRecDepth 100000 in
set_option maxHeartbeats 4000000 in
theorem c_X4_feed (l : Launch) (D : va_G) (cI : ClassId) (x0 xn xm xp b0 g0 s0 w0 y0 : Nat) (pd : Bool) (rs : Nat) (s1 ls : Nat) (sg R : Nat → Nat) (v : Int32) (hl : ls ≤ 96) : CT l yX4_feed cX4_feed 2 (some .int) { frames := 1, cells := 0, slots := 0, locals := 21 } D cI [.ref x0, .int v] [(x0, .inr (4, [.ref xn, .ref xm, .ref xp, .int (bz pd), .ref b0, .ref g0, .ref s0, .ref w0, .int (nI rs), .ref y0])), (s0, .inr (3, [.int (nI ls), .ref s1])), (s1, .inl (cI, 96, .inl (nIf sg))), (y0, .inl (cI, 7, .inl (nIf R)))] (fun zr zw => ((v < 0) ∧ zr = some (.int (-4)) ∧ zw = [(x0, .inr (4, [.ref xn, .ref xm, .ref xp, .int (bz pd), .ref b0, .ref g0, .ref s0, .ref w0, .int (nI rs), .ref y0])), (s0, .inr (3, [.int (nI ls), .ref s1])), (s1, .inl (cI, 96, .inl (nIf sg))), (y0, .inl (cI, 7, .inl (nIf (un R 4 (R 4 + 1)))))]) ∨ ((¬ v < 0) ∧ (IX 256 v = none ∨ ls = 96) ∧ zr = some (.int (-6)) ∧ zw = [(x0, .inr (4, [.ref xn, .ref xm, .ref xp, .int (bz pd), .ref b0, .ref g0, .ref s0, .ref w0, .int (nI rs), .ref y0])), (s0, .inr (3, [.int (nI ls), .ref s1])), (s1, .inl (cI, 96, .inl (nIf sg))), (y0, .inl (cI, 7, .inl (nIf (un R 6 (R 6 + 1)))))]) ∨ (∃ k : Nat, (IX 256 v = some k) ∧ (ls < 96) ∧ zr = some (.int (nI (ls + 1))) ∧ zw = [(x0, .inr (4, [.ref xn, .ref xm, .ref xp, .int (bz pd), .ref b0, .ref g0, .ref s0, .ref w0, .int (nI rs), .ref y0])), (s0, .inr (3, [.int (nI (ls + 1)), .ref s1])), (s1, .inl (cI, 96, .inl (nIf (un sg ls k)))), (y0, .inl (cI, 7, .inl (nIf R)))])) := by
  refine CT_of RX4 rfl (by decide +kernel) (Nat.le_of_ble_eq_true rfl) (fun E hnE zC zT => ?_)
  have hA : ∀ q, (ev_s E).heap.size ≤ q → ev_A E q := fun q h => by rw [zT.2]; exact Or.inr h
  show VV E 0 0 0 [(0, .ref x0), (1, .int v)] [] [(x0, .inr (4, [.ref xn, .ref xm, .ref xp, .int (bz pd), .ref b0, .ref g0, .ref s0, .ref w0, .int (nI rs), .ref y0])), (s0, .inr (3, [.int (nI ls), .ref s1])), (s1, .inl (cI, 96, .inl (nIf sg))), (y0, .inl (cI, 7, .inl (nIf R)))]
  refine v_il_n 1 zC dX4_feed_0 1 rfl ?_
  refine v_if_ge 11 4 zC dX4_feed_1 (fun h_1 => ?_) (fun h_1 => ?_)
  ·
    have hge : ¬ v < 0 := Int32.not_lt.mpr h_1
    refine v_il_n 12 zC dX4_feed_11 1 rfl ?_
    refine v_sp (v := (nI 255)) 15 zC dX4_feed_12 (by decide +kernel) ?_
    refine v_icmp_gt 30 18 zC dX4_feed_15 (fun h_2 => ?_) (fun h_2 => ?_)
    ·
      have hbi9 : IX 256 v = none := IX_hi h_2 (by decide)
      refine v_al_n 31 zC dX4_feed_30 0 rfl ?_
      refine v_bp (v := (-6)) 33 zC dX4_feed_31 (by decide +kernel) ?_
      refine v_cV (As := [.int (-6)]) (st := []) 36 0 [0, 3] zC dX4_feed_33 hA (c_X4_refuse (ev_l E) (ev_D E) cI (x0 := x0) (xn := xn) (xm := xm) (xp := xp) (b0 := b0) (g0 := g0) (s0 := s0) (w0 := w0) (y0 := y0) (pd := pd) (rs := rs) (R := R) (v := (-6)) (j := 6) (hv := (by first | omega | assumption | rfl | (simp only []; omega) | decide)) (h1 := (by first | omega | assumption | rfl | (simp only []; omega) | decide)) (h6 := (by first | omega | assumption | rfl | (simp only []; omega) | decide))) cf_X4_refuse lk_X4_50 rfl rfl rfl rfl rfl (by decide +kernel) (Nat.le_of_ble_eq_true rfl) (fun rv_3 wv_4 hp_5 hm_6 => ?_)
      clear hm_6
      obtain ⟨rfl, rfl⟩ := hp_5
      show VV E 0 0 36 [(0, .ref x0), (1, .int v)] [.int (-6)] [(x0, .inr (4, [.ref xn, .ref xm, .ref xp, .int (bz pd), .ref b0, .ref g0, .ref s0, .ref w0, .int (nI rs), .ref y0])), (s0, .inr (3, [.int (nI ls), .ref s1])), (s1, .inl (cI, 96, .inl (nIf sg))), (y0, .inl (cI, 7, .inl (nIf (un R 6 (R 6 + 1)))))]
      refine v_iret zC zT dX4_feed_36  ?_
      first | exact Or.inl ⟨hlt9, rfl, rfl⟩ | exact Or.inr (Or.inl ⟨hge, Or.inl hbi9, rfl, rfl⟩) | exact Or.inr (Or.inl ⟨hge, Or.inr (by omega), rfl, rfl⟩) | exact Or.inr (Or.inr ⟨_, hi_v, by omega, rfl, rfl⟩)
    ·
      have hle := h_2
      obtain ⟨kv, hk_kv, he_kv⟩ := ofR hge hle
      subst he_kv
      have hc_kv := nI_clamp (show kv < 2 ^ 31 by omega)
      have hi_v := IX_nI (N := 256) (by decide) (show kv < 256 by omega)
      refine v_al_n 19 zC dX4_feed_18 0 rfl ?_
      refine v_gf 22 0 zC dX4_feed_19 gf_X4_39 rfl rfl ?_
      refine v_gf 25 1 zC dX4_feed_22 gf_X4_54 rfl rfl ?_
      refine v_bp (v := (nI 96)) 27 zC dX4_feed_25 (by decide +kernel) ?_
      refine v_icmpn_lt 37 30 zC dX4_feed_27 (fun h_7 => ?_) (fun h_7 => ?_)
      ·
        refine v_al_n 38 zC dX4_feed_37 0 rfl ?_
        refine v_gf 41 0 zC dX4_feed_38 gf_X4_39 rfl rfl ?_
        refine v_il_n 42 zC dX4_feed_41 1 rfl ?_
        refine v_cV (As := [.int (nI kv)]) (st := []) 45 1 [1, 2] zC dX4_feed_42 hA (c_X3_add (ev_l E) (ev_D E) cI (s0 := s0) (s1 := s1) (ls := ls) (sg := sg) (v := kv) (hl := (by first | omega | assumption | rfl | (simp only []; omega) | decide))) cf_X3_add lk_X4_58 rfl rfl rfl rfl rfl (by decide +kernel) (Nat.le_of_ble_eq_true rfl) (fun rv_8 wv_9 hp_10 hm_11 => ?_)
        clear hm_11
        obtain ⟨rfl, rfl⟩ := hp_10
        show VV E 0 0 45 [(0, .ref x0), (1, .int (nI kv))] [.int (nI (ls + 1))] [(x0, .inr (4, [.ref xn, .ref xm, .ref xp, .int (bz pd), .ref b0, .ref g0, .ref s0, .ref w0, .int (nI rs), .ref y0])), (s0, .inr (3, [.int (nI (ls + 1)), .ref s1])), (s1, .inl (cI, 96, .inl (nIf (un sg ls kv)))), (y0, .inl (cI, 7, .inl (nIf R)))]
        refine v_iret zC zT dX4_feed_45  ?_
        first | exact Or.inl ⟨hlt9, rfl, rfl⟩ | exact Or.inr (Or.inl ⟨hge, Or.inl hbi9, rfl, rfl⟩) | exact Or.inr (Or.inl ⟨hge, Or.inr (by omega), rfl, rfl⟩) | exact Or.inr (Or.inr ⟨_, hi_v, by omega, rfl, rfl⟩)
      ·
        refine v_al_n 31 zC dX4_feed_30 0 rfl ?_
        refine v_bp (v := (-6)) 33 zC dX4_feed_31 (by decide +kernel) ?_
        refine v_cV (As := [.int (-6)]) (st := []) 36 0 [0, 3] zC dX4_feed_33 hA (c_X4_refuse (ev_l E) (ev_D E) cI (x0 := x0) (xn := xn) (xm := xm) (xp := xp) (b0 := b0) (g0 := g0) (s0 := s0) (w0 := w0) (y0 := y0) (pd := pd) (rs := rs) (R := R) (v := (-6)) (j := 6) (hv := (by first | omega | assumption | rfl | (simp only []; omega) | decide)) (h1 := (by first | omega | assumption | rfl | (simp only []; omega) | decide)) (h6 := (by first | omega | assumption | rfl | (simp only []; omega) | decide))) cf_X4_refuse lk_X4_50 rfl rfl rfl rfl rfl (by decide +kernel) (Nat.le_of_ble_eq_true rfl) (fun rv_12 wv_13 hp_14 hm_15 => ?_)
        clear hm_15
        obtain ⟨rfl, rfl⟩ := hp_14
        show VV E 0 0 36 [(0, .ref x0), (1, .int (nI kv))] [.int (-6)] [(x0, .inr (4, [.ref xn, .ref xm, .ref xp, .int (bz pd), .ref b0, .ref g0, .ref s0, .ref w0, .int (nI rs), .ref y0])), (s0, .inr (3, [.int (nI ls), .ref s1])), (s1, .inl (cI, 96, .inl (nIf sg))), (y0, .inl (cI, 7, .inl (nIf (un R 6 (R 6 + 1)))))]
        refine v_iret zC zT dX4_feed_36  ?_
        first | exact Or.inl ⟨hlt9, rfl, rfl⟩ | exact Or.inr (Or.inl ⟨hge, Or.inl hbi9, rfl, rfl⟩) | exact Or.inr (Or.inl ⟨hge, Or.inr (by omega), rfl, rfl⟩) | exact Or.inr (Or.inr ⟨_, hi_v, by omega, rfl, rfl⟩)
  ·
    have hlt9 := Int32.not_le.mp h_1
    refine v_al_n 5 zC dX4_feed_4 0 rfl ?_
    refine v_bp (v := (-4)) 7 zC dX4_feed_5 (by decide +kernel) ?_
    refine v_cV (As := [.int (-4)]) (st := []) 10 0 [0, 3] zC dX4_feed_7 hA (c_X4_refuse (ev_l E) (ev_D E) cI (x0 := x0) (xn := xn) (xm := xm) (xp := xp) (b0 := b0) (g0 := g0) (s0 := s0) (w0 := w0) (y0 := y0) (pd := pd) (rs := rs) (R := R) (v := (-4)) (j := 4) (hv := (by first | omega | assumption | rfl | (simp only []; omega) | decide)) (h1 := (by first | omega | assumption | rfl | (simp only []; omega) | decide)) (h6 := (by first | omega | assumption | rfl | (simp only []; omega) | decide))) cf_X4_refuse lk_X4_50 rfl rfl rfl rfl rfl (by decide +kernel) (Nat.le_of_ble_eq_true rfl) (fun rv_16 wv_17 hp_18 hm_19 => ?_)
    clear hm_19
    obtain ⟨rfl, rfl⟩ := hp_18
    show VV E 0 0 10 [(0, .ref x0), (1, .int v)] [.int (-4)] [(x0, .inr (4, [.ref xn, .ref xm, .ref xp, .int (bz pd), .ref b0, .ref g0, .ref s0, .ref w0, .int (nI rs), .ref y0])), (s0, .inr (3, [.int (nI ls), .ref s1])), (s1, .inl (cI, 96, .inl (nIf sg))), (y0, .inl (cI, 7, .inl (nIf (un R 4 (R 4 + 1)))))]
    refine v_iret zC zT dX4_feed_10  ?_
    first | exact Or.inl ⟨hlt9, rfl, rfl⟩ | exact Or.inr (Or.inl ⟨hge, Or.inl hbi9, rfl, rfl⟩) | exact Or.inr (Or.inl ⟨hge, Or.inr (by omega), rfl, rfl⟩) | exact Or.inr (Or.inr ⟨_, hi_v, by omega, rfl, rfl⟩)
set_option maxRecDepth 100000 in
set_option maxHeartbeats 4000000 in
theorem c_X4_comes (l : Launch) (D : va_G) (cI : ClassId) (x0 xm xp y0 : Nat) (pd : Bool) (rs : Nat) (b0 s0 w0 : Nat) (a0 a1 a2 a3 a4 a5 a6 : Nat) (n m sh : Nat) (ki op fa : Nat → Nat) (g0 g1 g2 g3 cs : Nat) (R : Nat → Nat) (v : Int32) (hn : n ≤ 7) (hsh : sh < 2 ^ n) : CT l yX4_comes cX4_comes 2 (some .int) { frames := 1, cells := 0, slots := 0, locals := 21 } D cI [.ref x0, .int v] [(x0, .inr (4, [.ref a0, .ref xm, .ref xp, .int (bz pd), .ref b0, .ref g0, .ref s0, .ref w0, .int (nI rs), .ref y0])), (a0, .inr (2, [.int (nI n), .int (nI m), .int (nI sh), .int (nI 0), .ref a1, .ref a2, .ref a3, .ref a4, .ref a5, .ref a6])), (a1, .inl (cI, 7, .inl (nIf ki))), (a2, .inl (cI, 7, .inl (nIf op))), (a3, .inl (cI, 7, .inl (nIf fa))), (g0, .inr (0, [.int (nI cs), .ref g1, .ref g2, .ref g3])), (y0, .inl (cI, 7, .inl (nIf R)))] (fun zr zw => ((v < 0) ∧ zr = some (.int (-4)) ∧ zw = [(x0, .inr (4, [.ref a0, .ref xm, .ref xp, .int (bz pd), .ref b0, .ref g0, .ref s0, .ref w0, .int (nI rs), .ref y0])), (a0, .inr (2, [.int (nI n), .int (nI m), .int (nI sh), .int (nI 0), .ref a1, .ref a2, .ref a3, .ref a4, .ref a5, .ref a6])), (a1, .inl (cI, 7, .inl (nIf ki))), (a2, .inl (cI, 7, .inl (nIf op))), (a3, .inl (cI, 7, .inl (nIf fa))), (g0, .inr (0, [.int (nI cs), .ref g1, .ref g2, .ref g3])), (y0, .inl (cI, 7, .inl (nIf (un R 4 (R 4 + 1)))))]) ∨ ((¬ v < 0) ∧ (IX 64 v = none ∨ n = 7) ∧ zr = some (.int (-6)) ∧ zw = [(x0, .inr (4, [.ref a0, .ref xm, .ref xp, .int (bz pd), .ref b0, .ref g0, .ref s0, .ref w0, .int (nI rs), .ref y0])), (a0, .inr (2, [.int (nI n), .int (nI m), .int (nI sh), .int (nI 0), .ref a1, .ref a2, .ref a3, .ref a4, .ref a5, .ref a6])), (a1, .inl (cI, 7, .inl (nIf ki))), (a2, .inl (cI, 7, .inl (nIf op))), (a3, .inl (cI, 7, .inl (nIf fa))), (g0, .inr (0, [.int (nI cs), .ref g1, .ref g2, .ref g3])), (y0, .inl (cI, 7, .inl (nIf (un R 6 (R 6 + 1)))))]) ∨ (∃ k : Nat, (IX 64 v = some k) ∧ (n < 7) ∧ zr = some (.int (nI n)) ∧ zw = [(x0, .inr (4, [.ref a0, .ref xm, .ref xp, .int (bz pd), .ref b0, .ref g0, .ref s0, .ref w0, .int (nI rs), .ref y0])), (a0, .inr (2, [.int (nI (n + 1)), .int (nI m), .int (nI sh), .int (nI 0), .ref a1, .ref a2, .ref a3, .ref a4, .ref a5, .ref a6])), (a1, .inl (cI, 7, .inl (nIf (un ki n k)))), (a2, .inl (cI, 7, .inl (nIf (un op n 0)))), (a3, .inl (cI, 7, .inl (nIf (un fa n 0)))), (g0, .inr (0, [.int (nI 0), .ref g1, .ref g2, .ref g3])), (y0, .inl (cI, 7, .inl (nIf R)))])) := by
  refine CT_of RX4 rfl (by decide +kernel) (Nat.le_of_ble_eq_true rfl) (fun E hnE zC zT => ?_)
  have hA : ∀ q, (ev_s E).heap.size ≤ q → ev_A E q := fun q h => by rw [zT.2]; exact Or.inr h
  show VV E 0 0 0 [(0, .ref x0), (1, .int v)] [] [(x0, .inr (4, [.ref a0, .ref xm, .ref xp, .int (bz pd), .ref b0, .ref g0, .ref s0, .ref w0, .int (nI rs), .ref y0])), (a0, .inr (2, [.int (nI n), .int (nI m), .int (nI sh), .int (nI 0), .ref a1, .ref a2, .ref a3, .ref a4, .ref a5, .ref a6])), (a1, .inl (cI, 7, .inl (nIf ki))), (a2, .inl (cI, 7, .inl (nIf op))), (a3, .inl (cI, 7, .inl (nIf fa))), (g0, .inr (0, [.int (nI cs), .ref g1, .ref g2, .ref g3])), (y0, .inl (cI, 7, .inl (nIf R)))]
  refine v_il_n 1 zC dX4_comes_0 1 rfl ?_
  refine v_if_ge 11 4 zC dX4_comes_1 (fun h_1 => ?_) (fun h_1 => ?_)
  ·
    have hge : ¬ v < 0 := Int32.not_lt.mpr h_1
    obtain ⟨kv, hk_kv, he_kv⟩ := nI_of hge
    subst he_kv
    refine v_al_n 12 zC dX4_comes_11 0 rfl ?_
    refine v_gf 15 0 zC dX4_comes_12 gf_X4_12 rfl rfl ?_
    refine v_il_n 16 zC dX4_comes_15 1 rfl ?_
    refine v_cV (As := [.int (nI kv)]) (st := []) 19 1 [1, 2, 3, 4] zC dX4_comes_16 hA (c_X2_addPerson (ev_l E) (ev_D E) cI (a0 := a0) (a1 := a1) (a2 := a2) (a3 := a3) (a4 := a4) (a5 := a5) (a6 := a6) (n := n) (m := m) (sh := sh) (aw := 0) (ki := ki) (op := op) (fa := fa) (k := kv) (hn := (by first | omega | assumption | rfl | (simp only []; omega) | decide)) (hsh := (by first | omega | assumption | rfl | (simp only []; omega) | decide)) (hk := (by first | omega | assumption | rfl | (simp only []; omega) | decide))) cf_X2_addPerson lk_X4_111 rfl rfl rfl rfl rfl (by decide +kernel) (Nat.le_of_ble_eq_true rfl) (fun rv_2 wv_3 hp_4 hm_5 => ?_)
    clear hm_5
    rcases hp_4 with ⟨hq_6, rfl, rfl⟩ | ⟨hk_7, hn_8, rfl, rfl⟩
    ·
      show VV E 0 0 19 [(0, .ref x0), (1, .int (nI kv))] [.int (nI 0)] [(x0, .inr (4, [.ref a0, .ref xm, .ref xp, .int (bz pd), .ref b0, .ref g0, .ref s0, .ref w0, .int (nI rs), .ref y0])), (a0, .inr (2, [.int (nI n), .int (nI m), .int (nI sh), .int (nI 0), .ref a1, .ref a2, .ref a3, .ref a4, .ref a5, .ref a6])), (a1, .inl (cI, 7, .inl (nIf ki))), (a2, .inl (cI, 7, .inl (nIf op))), (a3, .inl (cI, 7, .inl (nIf fa))), (g0, .inr (0, [.int (nI cs), .ref g1, .ref g2, .ref g3])), (y0, .inl (cI, 7, .inl (nIf R)))]
      refine v_if_ne 29 22 zC dX4_comes_19 (fun z => absurd (by decide +kernel) z) (fun _ => ?_)
      refine v_al_n 23 zC dX4_comes_22 0 rfl ?_
      refine v_bp (v := (-6)) 25 zC dX4_comes_23 (by decide +kernel) ?_
      refine v_cV (As := [.int (-6)]) (st := []) 28 0 [0, 6] zC dX4_comes_25 hA (c_X4_refuse (ev_l E) (ev_D E) cI (x0 := x0) (xn := a0) (xm := xm) (xp := xp) (b0 := b0) (g0 := g0) (s0 := s0) (w0 := w0) (y0 := y0) (pd := pd) (rs := rs) (R := R) (v := (-6)) (j := 6) (hv := (by first | omega | assumption | rfl | (simp only []; omega) | decide)) (h1 := (by first | omega | assumption | rfl | (simp only []; omega) | decide)) (h6 := (by first | omega | assumption | rfl | (simp only []; omega) | decide))) cf_X4_refuse lk_X4_50 rfl rfl rfl rfl rfl (by decide +kernel) (Nat.le_of_ble_eq_true rfl) (fun rv_10 wv_11 hp_12 hm_13 => ?_)
      clear hm_13
      obtain ⟨rfl, rfl⟩ := hp_12
      show VV E 0 0 28 [(0, .ref x0), (1, .int (nI kv))] [.int (-6)] [(x0, .inr (4, [.ref a0, .ref xm, .ref xp, .int (bz pd), .ref b0, .ref g0, .ref s0, .ref w0, .int (nI rs), .ref y0])), (a0, .inr (2, [.int (nI n), .int (nI m), .int (nI sh), .int (nI 0), .ref a1, .ref a2, .ref a3, .ref a4, .ref a5, .ref a6])), (a1, .inl (cI, 7, .inl (nIf ki))), (a2, .inl (cI, 7, .inl (nIf op))), (a3, .inl (cI, 7, .inl (nIf fa))), (g0, .inr (0, [.int (nI cs), .ref g1, .ref g2, .ref g3])), (y0, .inl (cI, 7, .inl (nIf (un R 6 (R 6 + 1)))))]
      refine v_iret zC zT dX4_comes_28  ?_
      first | exact Or.inl ⟨hlt9, rfl, rfl⟩ | exact Or.inr (Or.inl ⟨hge, ix64 (by assumption), rfl, rfl⟩) | exact Or.inr (Or.inr ⟨_, hi_v, by omega, rfl, rfl⟩)
    ·
      show VV E 0 0 19 [(0, .ref x0), (1, .int (nI kv))] [.int (nI 1)] [(x0, .inr (4, [.ref a0, .ref xm, .ref xp, .int (bz pd), .ref b0, .ref g0, .ref s0, .ref w0, .int (nI rs), .ref y0])), (a0, .inr (2, [.int (nI (n + 1)), .int (nI m), .int (nI sh), .int (nI 0), .ref a1, .ref a2, .ref a3, .ref a4, .ref a5, .ref a6])), (a1, .inl (cI, 7, .inl (nIf (un ki n kv)))), (a2, .inl (cI, 7, .inl (nIf (un op n 0)))), (a3, .inl (cI, 7, .inl (nIf (un fa n 0)))), (g0, .inr (0, [.int (nI cs), .ref g1, .ref g2, .ref g3])), (y0, .inl (cI, 7, .inl (nIf R)))]
      have hi_v := IX_nI (N := 64) (by decide) hk_7
      refine v_if_ne 29 22 zC dX4_comes_19 (fun _ => ?_) (fun z => absurd z (by decide +kernel))
      refine v_al_n 30 zC dX4_comes_29 0 rfl ?_
      refine v_gf 33 0 zC dX4_comes_30 gf_X4_32 rfl rfl ?_
      refine v_cV (As := []) (st := []) 36 5 [5] zC dX4_comes_33 hA (c_X0_forget (ev_l E) (ev_D E) cI (g0 := g0) (g1 := g1) (g2 := g2) (g3 := g3) (cs := cs) ) cf_X0_forget lk_X4_76 rfl rfl rfl rfl rfl (by decide +kernel) (Nat.le_of_ble_eq_true rfl) (fun rv_15 wv_16 hp_17 hm_18 => ?_)
      clear hm_18
      obtain ⟨rfl, rfl⟩ := hp_17
      show VV E 0 0 36 [(0, .ref x0), (1, .int (nI kv))] [] [(x0, .inr (4, [.ref a0, .ref xm, .ref xp, .int (bz pd), .ref b0, .ref g0, .ref s0, .ref w0, .int (nI rs), .ref y0])), (a0, .inr (2, [.int (nI (n + 1)), .int (nI m), .int (nI sh), .int (nI 0), .ref a1, .ref a2, .ref a3, .ref a4, .ref a5, .ref a6])), (a1, .inl (cI, 7, .inl (nIf (un ki n kv)))), (a2, .inl (cI, 7, .inl (nIf (un op n 0)))), (a3, .inl (cI, 7, .inl (nIf (un fa n 0)))), (g0, .inr (0, [.int (nI 0), .ref g1, .ref g2, .ref g3])), (y0, .inl (cI, 7, .inl (nIf R)))]
      refine v_al_n 37 zC dX4_comes_36 0 rfl ?_
      refine v_gf 40 0 zC dX4_comes_37 gf_X4_12 rfl rfl ?_
      refine v_gf 43 1 zC dX4_comes_40 gf_X4_114 rfl rfl ?_
      refine v_ic (v := (nI 1)) 44 zC dX4_comes_43 (by decide +kernel) ?_
      refine v_isub (v := (nI n)) 45 zC dX4_comes_44 (pk_sub (by omega)) ?_
      refine v_iret zC zT dX4_comes_45  ?_
      first | exact Or.inl ⟨hlt9, rfl, rfl⟩ | exact Or.inr (Or.inl ⟨hge, ix64 (by assumption), rfl, rfl⟩) | exact Or.inr (Or.inr ⟨_, hi_v, by omega, rfl, rfl⟩)
  ·
    have hlt9 := Int32.not_le.mp h_1
    refine v_al_n 5 zC dX4_comes_4 0 rfl ?_
    refine v_bp (v := (-4)) 7 zC dX4_comes_5 (by decide +kernel) ?_
    refine v_cV (As := [.int (-4)]) (st := []) 10 0 [0, 6] zC dX4_comes_7 hA (c_X4_refuse (ev_l E) (ev_D E) cI (x0 := x0) (xn := a0) (xm := xm) (xp := xp) (b0 := b0) (g0 := g0) (s0 := s0) (w0 := w0) (y0 := y0) (pd := pd) (rs := rs) (R := R) (v := (-4)) (j := 4) (hv := (by first | omega | assumption | rfl | (simp only []; omega) | decide)) (h1 := (by first | omega | assumption | rfl | (simp only []; omega) | decide)) (h6 := (by first | omega | assumption | rfl | (simp only []; omega) | decide))) cf_X4_refuse lk_X4_50 rfl rfl rfl rfl rfl (by decide +kernel) (Nat.le_of_ble_eq_true rfl) (fun rv_19 wv_20 hp_21 hm_22 => ?_)
    clear hm_22
    obtain ⟨rfl, rfl⟩ := hp_21
    show VV E 0 0 10 [(0, .ref x0), (1, .int v)] [.int (-4)] [(x0, .inr (4, [.ref a0, .ref xm, .ref xp, .int (bz pd), .ref b0, .ref g0, .ref s0, .ref w0, .int (nI rs), .ref y0])), (a0, .inr (2, [.int (nI n), .int (nI m), .int (nI sh), .int (nI 0), .ref a1, .ref a2, .ref a3, .ref a4, .ref a5, .ref a6])), (a1, .inl (cI, 7, .inl (nIf ki))), (a2, .inl (cI, 7, .inl (nIf op))), (a3, .inl (cI, 7, .inl (nIf fa))), (g0, .inr (0, [.int (nI cs), .ref g1, .ref g2, .ref g3])), (y0, .inl (cI, 7, .inl (nIf (un R 4 (R 4 + 1)))))]
    refine v_iret zC zT dX4_comes_10  ?_
    first | exact Or.inl ⟨hlt9, rfl, rfl⟩ | exact Or.inr (Or.inl ⟨hge, ix64 (by assumption), rfl, rfl⟩) | exact Or.inr (Or.inr ⟨_, hi_v, by omega, rfl, rfl⟩)
set_option maxRecDepth 100000 in
set_option maxHeartbeats 4000000 in
theorem c_X4_dies (l : Launch) (D : va_G) (cI : ClassId) (x0 xm xp y0 : Nat) (pd : Bool) (rs : Nat) (b0 s0 w0 : Nat) (a0 a1 a2 a3 a4 a5 a6 : Nat) (n m sh : Nat) (K G T : Nat → Nat) (g0 g1 g2 g3 cs : Nat) (R : Nat → Nat) (k g t : Int32) (hm : m ≤ 6) : CT l yX4_dies cX4_dies 4 (some .int) { frames := 1, cells := 0, slots := 0, locals := 24 } D cI [.ref x0, .int k, .int g, .int t] [(x0, .inr (4, [.ref a0, .ref xm, .ref xp, .int (bz pd), .ref b0, .ref g0, .ref s0, .ref w0, .int (nI rs), .ref y0])), (a0, .inr (2, [.int (nI n), .int (nI m), .int (nI sh), .int (nI 0), .ref a1, .ref a2, .ref a3, .ref a4, .ref a5, .ref a6])), (a4, .inl (cI, 6, .inl (nIf K))), (a5, .inl (cI, 6, .inl (nIf G))), (a6, .inl (cI, 6, .inl (nIf T))), (g0, .inr (0, [.int (nI cs), .ref g1, .ref g2, .ref g3])), (y0, .inl (cI, 7, .inl (nIf R)))] (fun zr zw => ((IX 6 k = none) ∧ zr = some (.int (-2)) ∧ zw = [(x0, .inr (4, [.ref a0, .ref xm, .ref xp, .int (bz pd), .ref b0, .ref g0, .ref s0, .ref w0, .int (nI rs), .ref y0])), (a0, .inr (2, [.int (nI n), .int (nI m), .int (nI sh), .int (nI 0), .ref a1, .ref a2, .ref a3, .ref a4, .ref a5, .ref a6])), (a4, .inl (cI, 6, .inl (nIf K))), (a5, .inl (cI, 6, .inl (nIf G))), (a6, .inl (cI, 6, .inl (nIf T))), (g0, .inr (0, [.int (nI cs), .ref g1, .ref g2, .ref g3])), (y0, .inl (cI, 7, .inl (nIf (un R 2 (R 2 + 1)))))]) ∨ ((¬ IX 6 k = none) ∧ (g < 0 ∨ t < 0) ∧ zr = some (.int (-4)) ∧ zw = [(x0, .inr (4, [.ref a0, .ref xm, .ref xp, .int (bz pd), .ref b0, .ref g0, .ref s0, .ref w0, .int (nI rs), .ref y0])), (a0, .inr (2, [.int (nI n), .int (nI m), .int (nI sh), .int (nI 0), .ref a1, .ref a2, .ref a3, .ref a4, .ref a5, .ref a6])), (a4, .inl (cI, 6, .inl (nIf K))), (a5, .inl (cI, 6, .inl (nIf G))), (a6, .inl (cI, 6, .inl (nIf T))), (g0, .inr (0, [.int (nI cs), .ref g1, .ref g2, .ref g3])), (y0, .inl (cI, 7, .inl (nIf (un R 4 (R 4 + 1)))))]) ∨ ((¬ IX 6 k = none) ∧ (¬ (g < 0 ∨ t < 0)) ∧ (IX 10 g = none ∨ IX 10 t = none ∨ m = 6) ∧ zr = some (.int (-6)) ∧ zw = [(x0, .inr (4, [.ref a0, .ref xm, .ref xp, .int (bz pd), .ref b0, .ref g0, .ref s0, .ref w0, .int (nI rs), .ref y0])), (a0, .inr (2, [.int (nI n), .int (nI m), .int (nI sh), .int (nI 0), .ref a1, .ref a2, .ref a3, .ref a4, .ref a5, .ref a6])), (a4, .inl (cI, 6, .inl (nIf K))), (a5, .inl (cI, 6, .inl (nIf G))), (a6, .inl (cI, 6, .inl (nIf T))), (g0, .inr (0, [.int (nI cs), .ref g1, .ref g2, .ref g3])), (y0, .inl (cI, 7, .inl (nIf (un R 6 (R 6 + 1)))))]) ∨ (∃ kk : Nat, ∃ gg : Nat, ∃ tt : Nat, (IX 6 k = some kk) ∧ (IX 10 g = some gg) ∧ (IX 10 t = some tt) ∧ (m < 6) ∧ zr = some (.int (nI m)) ∧ zw = [(x0, .inr (4, [.ref a0, .ref xm, .ref xp, .int (bz pd), .ref b0, .ref g0, .ref s0, .ref w0, .int (nI rs), .ref y0])), (a0, .inr (2, [.int (nI n), .int (nI (m + 1)), .int (nI sh), .int (nI 0), .ref a1, .ref a2, .ref a3, .ref a4, .ref a5, .ref a6])), (a4, .inl (cI, 6, .inl (nIf (un K m kk)))), (a5, .inl (cI, 6, .inl (nIf (un G m gg)))), (a6, .inl (cI, 6, .inl (nIf (un T m tt)))), (g0, .inr (0, [.int (nI 0), .ref g1, .ref g2, .ref g3])), (y0, .inl (cI, 7, .inl (nIf R)))])) := by
  refine CT_of RX4 rfl (by decide +kernel) (Nat.le_of_ble_eq_true rfl) (fun E hnE zC zT => ?_)
  have hA : ∀ q, (ev_s E).heap.size ≤ q → ev_A E q := fun q h => by rw [zT.2]; exact Or.inr h
  show VV E 0 0 0 [(0, .ref x0), (1, .int k), (2, .int g), (3, .int t)] [] [(x0, .inr (4, [.ref a0, .ref xm, .ref xp, .int (bz pd), .ref b0, .ref g0, .ref s0, .ref w0, .int (nI rs), .ref y0])), (a0, .inr (2, [.int (nI n), .int (nI m), .int (nI sh), .int (nI 0), .ref a1, .ref a2, .ref a3, .ref a4, .ref a5, .ref a6])), (a4, .inl (cI, 6, .inl (nIf K))), (a5, .inl (cI, 6, .inl (nIf G))), (a6, .inl (cI, 6, .inl (nIf T))), (g0, .inr (0, [.int (nI cs), .ref g1, .ref g2, .ref g3])), (y0, .inl (cI, 7, .inl (nIf R)))]
  refine v_il_n 1 zC dX4_dies_0 1 rfl ?_
  refine v_if_lt 10 4 zC dX4_dies_1 (fun h_1 => ?_) (fun h_1 => ?_)
  ·
    have hbi9 : IX 6 k = none := IX_n (Or.inl h_1)
    refine v_al_n 11 zC dX4_dies_10 0 rfl ?_
    refine v_bp (v := (-2)) 13 zC dX4_dies_11 (by decide +kernel) ?_
    refine v_cV (As := [.int (-2)]) (st := []) 16 0 [0, 6] zC dX4_dies_13 hA (c_X4_refuse (ev_l E) (ev_D E) cI (x0 := x0) (xn := a0) (xm := xm) (xp := xp) (b0 := b0) (g0 := g0) (s0 := s0) (w0 := w0) (y0 := y0) (pd := pd) (rs := rs) (R := R) (v := (-2)) (j := 2) (hv := (by first | omega | assumption | rfl | (simp only []; omega) | decide)) (h1 := (by first | omega | assumption | rfl | (simp only []; omega) | decide)) (h6 := (by first | omega | assumption | rfl | (simp only []; omega) | decide))) cf_X4_refuse lk_X4_50 rfl rfl rfl rfl rfl (by decide +kernel) (Nat.le_of_ble_eq_true rfl) (fun rv_2 wv_3 hp_4 hm_5 => ?_)
    clear hm_5
    obtain ⟨rfl, rfl⟩ := hp_4
    show VV E 0 0 16 [(0, .ref x0), (1, .int k), (2, .int g), (3, .int t)] [.int (-2)] [(x0, .inr (4, [.ref a0, .ref xm, .ref xp, .int (bz pd), .ref b0, .ref g0, .ref s0, .ref w0, .int (nI rs), .ref y0])), (a0, .inr (2, [.int (nI n), .int (nI m), .int (nI sh), .int (nI 0), .ref a1, .ref a2, .ref a3, .ref a4, .ref a5, .ref a6])), (a4, .inl (cI, 6, .inl (nIf K))), (a5, .inl (cI, 6, .inl (nIf G))), (a6, .inl (cI, 6, .inl (nIf T))), (g0, .inr (0, [.int (nI cs), .ref g1, .ref g2, .ref g3])), (y0, .inl (cI, 7, .inl (nIf (un R 2 (R 2 + 1)))))]
    refine v_iret zC zT dX4_dies_16  ?_
    first | exact Or.inl ⟨hbi9, rfl, rfl⟩ | exact Or.inr (Or.inl ⟨hnn9, hlt9, rfl, rfl⟩) | exact Or.inr (Or.inr (Or.inl ⟨hnn9, hnl9, hor9, rfl, rfl⟩)) | exact Or.inr (Or.inr (Or.inr ⟨_, _, _, hi_k, hi_g, hi_t, by omega, rfl, rfl⟩))
  ·
    have hge := h_1
    refine v_il_n 5 zC dX4_dies_4 1 rfl ?_
    refine v_bp (v := (nI 6)) 7 zC dX4_dies_5 (by decide +kernel) ?_
    refine v_icmp_lt 17 10 zC dX4_dies_7 (fun h_6 => ?_) (fun h_6 => ?_)
    ·
      obtain ⟨kk, hi_k, he_kk, hl_kk⟩ := IX_s (N := 6) (by decide) hge (Int32.not_le.mpr h_6)
      have hnn9 : ¬ IX 6 k = none := by rw [hi_k]; exact Option.some_ne_none _
      subst he_kk
      refine v_il_n 18 zC dX4_dies_17 2 rfl ?_
      refine v_if_lt 25 21 zC dX4_dies_18 (fun h_7 => ?_) (fun h_7 => ?_)
      ·
        have hlt9 : g < 0 ∨ t < 0 := Or.inl h_7
        refine v_al_n 26 zC dX4_dies_25 0 rfl ?_
        refine v_bp (v := (-4)) 28 zC dX4_dies_26 (by decide +kernel) ?_
        refine v_cV (As := [.int (-4)]) (st := []) 31 0 [0, 6] zC dX4_dies_28 hA (c_X4_refuse (ev_l E) (ev_D E) cI (x0 := x0) (xn := a0) (xm := xm) (xp := xp) (b0 := b0) (g0 := g0) (s0 := s0) (w0 := w0) (y0 := y0) (pd := pd) (rs := rs) (R := R) (v := (-4)) (j := 4) (hv := (by first | omega | assumption | rfl | (simp only []; omega) | decide)) (h1 := (by first | omega | assumption | rfl | (simp only []; omega) | decide)) (h6 := (by first | omega | assumption | rfl | (simp only []; omega) | decide))) cf_X4_refuse lk_X4_50 rfl rfl rfl rfl rfl (by decide +kernel) (Nat.le_of_ble_eq_true rfl) (fun rv_8 wv_9 hp_10 hm_11 => ?_)
        clear hm_11
        obtain ⟨rfl, rfl⟩ := hp_10
        show VV E 0 0 31 [(0, .ref x0), (1, .int (nI kk)), (2, .int g), (3, .int t)] [.int (-4)] [(x0, .inr (4, [.ref a0, .ref xm, .ref xp, .int (bz pd), .ref b0, .ref g0, .ref s0, .ref w0, .int (nI rs), .ref y0])), (a0, .inr (2, [.int (nI n), .int (nI m), .int (nI sh), .int (nI 0), .ref a1, .ref a2, .ref a3, .ref a4, .ref a5, .ref a6])), (a4, .inl (cI, 6, .inl (nIf K))), (a5, .inl (cI, 6, .inl (nIf G))), (a6, .inl (cI, 6, .inl (nIf T))), (g0, .inr (0, [.int (nI cs), .ref g1, .ref g2, .ref g3])), (y0, .inl (cI, 7, .inl (nIf (un R 4 (R 4 + 1)))))]
        refine v_iret zC zT dX4_dies_31  ?_
        first | exact Or.inl ⟨hbi9, rfl, rfl⟩ | exact Or.inr (Or.inl ⟨hnn9, hlt9, rfl, rfl⟩) | exact Or.inr (Or.inr (Or.inl ⟨hnn9, hnl9, hor9, rfl, rfl⟩)) | exact Or.inr (Or.inr (Or.inr ⟨_, _, _, hi_k, hi_g, hi_t, by omega, rfl, rfl⟩))
      ·
        have hge_g : ¬ g < 0 := h_7
        obtain ⟨kg, hk_kg, he_kg⟩ := nI_of hge_g
        subst he_kg
        refine v_il_n 22 zC dX4_dies_21 3 rfl ?_
        refine v_if_ge 32 25 zC dX4_dies_22 (fun h_12 => ?_) (fun h_12 => ?_)
        ·
          have hge_t : ¬ t < 0 := Int32.not_lt.mpr h_12
          obtain ⟨kt, hk_kt, he_kt⟩ := nI_of hge_t
          subst he_kt
          refine v_al_n 33 zC dX4_dies_32 0 rfl ?_
          refine v_gf 36 0 zC dX4_dies_33 gf_X4_12 rfl rfl ?_
          refine v_il_n 37 zC dX4_dies_36 1 rfl ?_
          refine v_il_n 38 zC dX4_dies_37 2 rfl ?_
          refine v_il_n 39 zC dX4_dies_38 3 rfl ?_
          refine v_cV (As := [.int (nI kk), .int (nI kg), .int (nI kt)]) (st := []) 42 1 [1, 2, 3, 4] zC dX4_dies_39 hA (c_X2_addDead (ev_l E) (ev_D E) cI (a0 := a0) (a1 := a1) (a2 := a2) (a3 := a3) (a4 := a4) (a5 := a5) (a6 := a6) (n := n) (m := m) (sh := sh) (aw := 0) (K := K) (G := G) (T := T) (k := kk) (g := kg) (t := kt) (hm := (by first | omega | assumption | rfl | (simp only []; omega) | decide)) (hk := (by first | omega | assumption | rfl | (simp only []; omega) | decide)) (hg := (by first | omega | assumption | rfl | (simp only []; omega) | decide)) (ht := (by first | omega | assumption | rfl | (simp only []; omega) | decide))) cf_X2_addDead lk_X4_117 rfl rfl rfl rfl rfl (by decide +kernel) (Nat.le_of_ble_eq_true rfl) (fun rv_13 wv_14 hp_15 hm_16 => ?_)
          clear hm_16
          rcases hp_15 with ⟨hq_17, rfl, rfl⟩ | ⟨hk_18, hg_19, ht_20, hm_21, rfl, rfl⟩
          ·
            show VV E 0 0 42 [(0, .ref x0), (1, .int (nI kk)), (2, .int (nI kg)), (3, .int (nI kt))] [.int (nI 0)] [(x0, .inr (4, [.ref a0, .ref xm, .ref xp, .int (bz pd), .ref b0, .ref g0, .ref s0, .ref w0, .int (nI rs), .ref y0])), (a0, .inr (2, [.int (nI n), .int (nI m), .int (nI sh), .int (nI 0), .ref a1, .ref a2, .ref a3, .ref a4, .ref a5, .ref a6])), (a4, .inl (cI, 6, .inl (nIf K))), (a5, .inl (cI, 6, .inl (nIf G))), (a6, .inl (cI, 6, .inl (nIf T))), (g0, .inr (0, [.int (nI cs), .ref g1, .ref g2, .ref g3])), (y0, .inl (cI, 7, .inl (nIf R)))]
            have hnl9 : ¬ (nI kg < 0 ∨ nI kt < 0) := fun z => z.elim (nI_pos hk_kg) (nI_pos hk_kt)
            have hor9 := dz hq_17 hk_kg hk_kt hl_kk
            refine v_if_ne 52 45 zC dX4_dies_42 (fun z => absurd (by decide +kernel) z) (fun _ => ?_)
            refine v_al_n 46 zC dX4_dies_45 0 rfl ?_
            refine v_bp (v := (-6)) 48 zC dX4_dies_46 (by decide +kernel) ?_
            refine v_cV (As := [.int (-6)]) (st := []) 51 0 [0, 6] zC dX4_dies_48 hA (c_X4_refuse (ev_l E) (ev_D E) cI (x0 := x0) (xn := a0) (xm := xm) (xp := xp) (b0 := b0) (g0 := g0) (s0 := s0) (w0 := w0) (y0 := y0) (pd := pd) (rs := rs) (R := R) (v := (-6)) (j := 6) (hv := (by first | omega | assumption | rfl | (simp only []; omega) | decide)) (h1 := (by first | omega | assumption | rfl | (simp only []; omega) | decide)) (h6 := (by first | omega | assumption | rfl | (simp only []; omega) | decide))) cf_X4_refuse lk_X4_50 rfl rfl rfl rfl rfl (by decide +kernel) (Nat.le_of_ble_eq_true rfl) (fun rv_23 wv_24 hp_25 hm_26 => ?_)
            clear hm_26
            obtain ⟨rfl, rfl⟩ := hp_25
            show VV E 0 0 51 [(0, .ref x0), (1, .int (nI kk)), (2, .int (nI kg)), (3, .int (nI kt))] [.int (-6)] [(x0, .inr (4, [.ref a0, .ref xm, .ref xp, .int (bz pd), .ref b0, .ref g0, .ref s0, .ref w0, .int (nI rs), .ref y0])), (a0, .inr (2, [.int (nI n), .int (nI m), .int (nI sh), .int (nI 0), .ref a1, .ref a2, .ref a3, .ref a4, .ref a5, .ref a6])), (a4, .inl (cI, 6, .inl (nIf K))), (a5, .inl (cI, 6, .inl (nIf G))), (a6, .inl (cI, 6, .inl (nIf T))), (g0, .inr (0, [.int (nI cs), .ref g1, .ref g2, .ref g3])), (y0, .inl (cI, 7, .inl (nIf (un R 6 (R 6 + 1)))))]
            refine v_iret zC zT dX4_dies_51  ?_
            first | exact Or.inl ⟨hbi9, rfl, rfl⟩ | exact Or.inr (Or.inl ⟨hnn9, hlt9, rfl, rfl⟩) | exact Or.inr (Or.inr (Or.inl ⟨hnn9, hnl9, hor9, rfl, rfl⟩)) | exact Or.inr (Or.inr (Or.inr ⟨_, _, _, hi_k, hi_g, hi_t, by omega, rfl, rfl⟩))
          ·
            show VV E 0 0 42 [(0, .ref x0), (1, .int (nI kk)), (2, .int (nI kg)), (3, .int (nI kt))] [.int (nI 1)] [(x0, .inr (4, [.ref a0, .ref xm, .ref xp, .int (bz pd), .ref b0, .ref g0, .ref s0, .ref w0, .int (nI rs), .ref y0])), (a0, .inr (2, [.int (nI n), .int (nI (m + 1)), .int (nI sh), .int (nI 0), .ref a1, .ref a2, .ref a3, .ref a4, .ref a5, .ref a6])), (a4, .inl (cI, 6, .inl (nIf (un K m kk)))), (a5, .inl (cI, 6, .inl (nIf (un G m kg)))), (a6, .inl (cI, 6, .inl (nIf (un T m kt)))), (g0, .inr (0, [.int (nI cs), .ref g1, .ref g2, .ref g3])), (y0, .inl (cI, 7, .inl (nIf R)))]
            have hi_g := IX_nI (N := 10) (by decide) hg_19
            have hi_t := IX_nI (N := 10) (by decide) ht_20
            refine v_if_ne 52 45 zC dX4_dies_42 (fun _ => ?_) (fun z => absurd z (by decide +kernel))
            refine v_al_n 53 zC dX4_dies_52 0 rfl ?_
            refine v_gf 56 0 zC dX4_dies_53 gf_X4_32 rfl rfl ?_
            refine v_cV (As := []) (st := []) 59 5 [5] zC dX4_dies_56 hA (c_X0_forget (ev_l E) (ev_D E) cI (g0 := g0) (g1 := g1) (g2 := g2) (g3 := g3) (cs := cs) ) cf_X0_forget lk_X4_76 rfl rfl rfl rfl rfl (by decide +kernel) (Nat.le_of_ble_eq_true rfl) (fun rv_28 wv_29 hp_30 hm_31 => ?_)
            clear hm_31
            obtain ⟨rfl, rfl⟩ := hp_30
            show VV E 0 0 59 [(0, .ref x0), (1, .int (nI kk)), (2, .int (nI kg)), (3, .int (nI kt))] [] [(x0, .inr (4, [.ref a0, .ref xm, .ref xp, .int (bz pd), .ref b0, .ref g0, .ref s0, .ref w0, .int (nI rs), .ref y0])), (a0, .inr (2, [.int (nI n), .int (nI (m + 1)), .int (nI sh), .int (nI 0), .ref a1, .ref a2, .ref a3, .ref a4, .ref a5, .ref a6])), (a4, .inl (cI, 6, .inl (nIf (un K m kk)))), (a5, .inl (cI, 6, .inl (nIf (un G m kg)))), (a6, .inl (cI, 6, .inl (nIf (un T m kt)))), (g0, .inr (0, [.int (nI 0), .ref g1, .ref g2, .ref g3])), (y0, .inl (cI, 7, .inl (nIf R)))]
            refine v_al_n 60 zC dX4_dies_59 0 rfl ?_
            refine v_gf 63 0 zC dX4_dies_60 gf_X4_12 rfl rfl ?_
            refine v_gf 66 1 zC dX4_dies_63 gf_X4_121 rfl rfl ?_
            refine v_ic (v := (nI 1)) 67 zC dX4_dies_66 (by decide +kernel) ?_
            refine v_isub (v := (nI m)) 68 zC dX4_dies_67 (pk_sub (by omega)) ?_
            refine v_iret zC zT dX4_dies_68  ?_
            first | exact Or.inl ⟨hbi9, rfl, rfl⟩ | exact Or.inr (Or.inl ⟨hnn9, hlt9, rfl, rfl⟩) | exact Or.inr (Or.inr (Or.inl ⟨hnn9, hnl9, hor9, rfl, rfl⟩)) | exact Or.inr (Or.inr (Or.inr ⟨_, _, _, hi_k, hi_g, hi_t, by omega, rfl, rfl⟩))
        ·
          have hlt9 : nI kg < 0 ∨ t < 0 := Or.inr (Int32.not_le.mp h_12)
          refine v_al_n 26 zC dX4_dies_25 0 rfl ?_
          refine v_bp (v := (-4)) 28 zC dX4_dies_26 (by decide +kernel) ?_
          refine v_cV (As := [.int (-4)]) (st := []) 31 0 [0, 6] zC dX4_dies_28 hA (c_X4_refuse (ev_l E) (ev_D E) cI (x0 := x0) (xn := a0) (xm := xm) (xp := xp) (b0 := b0) (g0 := g0) (s0 := s0) (w0 := w0) (y0 := y0) (pd := pd) (rs := rs) (R := R) (v := (-4)) (j := 4) (hv := (by first | omega | assumption | rfl | (simp only []; omega) | decide)) (h1 := (by first | omega | assumption | rfl | (simp only []; omega) | decide)) (h6 := (by first | omega | assumption | rfl | (simp only []; omega) | decide))) cf_X4_refuse lk_X4_50 rfl rfl rfl rfl rfl (by decide +kernel) (Nat.le_of_ble_eq_true rfl) (fun rv_32 wv_33 hp_34 hm_35 => ?_)
          clear hm_35
          obtain ⟨rfl, rfl⟩ := hp_34
          show VV E 0 0 31 [(0, .ref x0), (1, .int (nI kk)), (2, .int (nI kg)), (3, .int t)] [.int (-4)] [(x0, .inr (4, [.ref a0, .ref xm, .ref xp, .int (bz pd), .ref b0, .ref g0, .ref s0, .ref w0, .int (nI rs), .ref y0])), (a0, .inr (2, [.int (nI n), .int (nI m), .int (nI sh), .int (nI 0), .ref a1, .ref a2, .ref a3, .ref a4, .ref a5, .ref a6])), (a4, .inl (cI, 6, .inl (nIf K))), (a5, .inl (cI, 6, .inl (nIf G))), (a6, .inl (cI, 6, .inl (nIf T))), (g0, .inr (0, [.int (nI cs), .ref g1, .ref g2, .ref g3])), (y0, .inl (cI, 7, .inl (nIf (un R 4 (R 4 + 1)))))]
          refine v_iret zC zT dX4_dies_31  ?_
          first | exact Or.inl ⟨hbi9, rfl, rfl⟩ | exact Or.inr (Or.inl ⟨hnn9, hlt9, rfl, rfl⟩) | exact Or.inr (Or.inr (Or.inl ⟨hnn9, hnl9, hor9, rfl, rfl⟩)) | exact Or.inr (Or.inr (Or.inr ⟨_, _, _, hi_k, hi_g, hi_t, by omega, rfl, rfl⟩))
    ·
      have hbi9 : IX 6 k = none := IX_n (Or.inr (Int32.not_lt.mp h_6))
      refine v_al_n 11 zC dX4_dies_10 0 rfl ?_
      refine v_bp (v := (-2)) 13 zC dX4_dies_11 (by decide +kernel) ?_
      refine v_cV (As := [.int (-2)]) (st := []) 16 0 [0, 6] zC dX4_dies_13 hA (c_X4_refuse (ev_l E) (ev_D E) cI (x0 := x0) (xn := a0) (xm := xm) (xp := xp) (b0 := b0) (g0 := g0) (s0 := s0) (w0 := w0) (y0 := y0) (pd := pd) (rs := rs) (R := R) (v := (-2)) (j := 2) (hv := (by first | omega | assumption | rfl | (simp only []; omega) | decide)) (h1 := (by first | omega | assumption | rfl | (simp only []; omega) | decide)) (h6 := (by first | omega | assumption | rfl | (simp only []; omega) | decide))) cf_X4_refuse lk_X4_50 rfl rfl rfl rfl rfl (by decide +kernel) (Nat.le_of_ble_eq_true rfl) (fun rv_36 wv_37 hp_38 hm_39 => ?_)
      clear hm_39
      obtain ⟨rfl, rfl⟩ := hp_38
      show VV E 0 0 16 [(0, .ref x0), (1, .int k), (2, .int g), (3, .int t)] [.int (-2)] [(x0, .inr (4, [.ref a0, .ref xm, .ref xp, .int (bz pd), .ref b0, .ref g0, .ref s0, .ref w0, .int (nI rs), .ref y0])), (a0, .inr (2, [.int (nI n), .int (nI m), .int (nI sh), .int (nI 0), .ref a1, .ref a2, .ref a3, .ref a4, .ref a5, .ref a6])), (a4, .inl (cI, 6, .inl (nIf K))), (a5, .inl (cI, 6, .inl (nIf G))), (a6, .inl (cI, 6, .inl (nIf T))), (g0, .inr (0, [.int (nI cs), .ref g1, .ref g2, .ref g3])), (y0, .inl (cI, 7, .inl (nIf (un R 2 (R 2 + 1)))))]
      refine v_iret zC zT dX4_dies_16  ?_
      first | exact Or.inl ⟨hbi9, rfl, rfl⟩ | exact Or.inr (Or.inl ⟨hnn9, hlt9, rfl, rfl⟩) | exact Or.inr (Or.inr (Or.inl ⟨hnn9, hnl9, hor9, rfl, rfl⟩)) | exact Or.inr (Or.inr (Or.inr ⟨_, _, _, hi_k, hi_g, hi_t, by omega, rfl, rfl⟩))
set_option maxRecDepth 100000 in
set_option maxHeartbeats 4000000 in
theorem c_X4_passes (l : Launch) (D : va_G) (cI : ClassId) (x0 xm xp g0 s0 w0 y0 : Nat) (pd : Bool) (rs : Nat) (b0 b1 b2 b3 : Nat) (P Q : Nat) (mf : Nat → Nat) (M : Nat → Option Nat) (kn : Nat → Nat) (a0 a1 a2 a3 a4 a5 a6 : Nat) (n m sh : Nat) (ki op fa K G T : Nat → Nat) (g1 g2 g3 cs : Nat) (hw : FW n m sh ki op fa K G T) (hB : ∀ z, kn z < 1024) (hM : ∀ z v, M z = some v → v < 7) : CT l yX4_passes cX4_passes 2 (some .int) { frames := 4, cells := 0, slots := 0, locals := 99 } D cI [.ref x0] [(x0, .inr (4, [.ref a0, .ref xm, .ref xp, .int (bz pd), .ref b0, .ref g0, .ref s0, .ref w0, .int (nI rs), .ref y0])), (a0, .inr (2, [.int (nI n), .int (nI m), .int (nI sh), .int (nI 0), .ref a1, .ref a2, .ref a3, .ref a4, .ref a5, .ref a6])), (a1, .inl (cI, 7, .inl (nIf ki))), (a2, .inl (cI, 7, .inl (nIf op))), (a3, .inl (cI, 7, .inl (nIf fa))), (a4, .inl (cI, 6, .inl (nIf K))), (a5, .inl (cI, 6, .inl (nIf G))), (a6, .inl (cI, 6, .inl (nIf T))), (b0, .inr (1, [.int (nI P), .int (nI Q), .ref b1, .ref b2, .ref b3])), (b1, .inl (cI, 6, .inl (nIf mf))), (b2, .inl (cI, 144, .inl (mIf M))), (b3, .inl (cI, 175, .inl (nIf kn))), (g0, .inr (0, [.int (nI cs), .ref g1, .ref g2, .ref g3]))] (fun zr zw => (∃ P1 : Nat, ∃ Q1 : Nat, ∃ mg : Nat → Nat, ∃ X : Nat → Nat, ∃ Y : Nat → Option Nat, (∀ z, PASF (n, m, sh, 0, ki, op, fa, K, G, T) z < 1024) ∧ (∀ z, X z < 1024) ∧ (∀ z v, Y z = some v → v < 7) ∧ zr = some (.int (nI (ALL (n, m, sh, 0, ki, op, fa, K, G, T)) - nI (sm (fun p => pcn (fa p)) n))) ∧ zw = [(x0, .inr (4, [.ref a0, .ref xm, .ref xp, .int (bz pd), .ref b0, .ref g0, .ref s0, .ref w0, .int (nI rs), .ref y0])), (a0, .inr (2, [.int (nI n), .int (nI m), .int (nI sh), .int (nI 0), .ref a1, .ref a2, .ref a3, .ref a4, .ref a5, .ref a6])), (a1, .inl (cI, 7, .inl (nIf ki))), (a2, .inl (cI, 7, .inl (nIf op))), (a3, .inl (cI, 7, .inl (nIf (PASF (n, m, sh, 0, ki, op, fa, K, G, T))))), (a4, .inl (cI, 6, .inl (nIf K))), (a5, .inl (cI, 6, .inl (nIf G))), (a6, .inl (cI, 6, .inl (nIf T))), (b0, .inr (1, [.int (nI P1), .int (nI Q1), .ref b1, .ref b2, .ref b3])), (b1, .inl (cI, 6, .inl (nIf mg))), (b2, .inl (cI, 144, .inl (mIf Y))), (b3, .inl (cI, 175, .inl (nIf X))), (g0, .inr (0, [.int (nI 0), .ref g1, .ref g2, .ref g3]))])) := by
  refine CT_of RX4 rfl (by decide +kernel) (Nat.le_of_ble_eq_true rfl) (fun E hnE zC zT => ?_)
  have hA : ∀ q, (ev_s E).heap.size ≤ q → ev_A E q := fun q h => by rw [zT.2]; exact Or.inr h
  obtain ⟨hn, hm, hsh, hki, hop, hfa, hK, hG, hT, vki, vop, vfa, vK, vG, vT⟩ := id hw
  show VV E 0 0 0 [(0, .ref x0)] [] [(x0, .inr (4, [.ref a0, .ref xm, .ref xp, .int (bz pd), .ref b0, .ref g0, .ref s0, .ref w0, .int (nI rs), .ref y0])), (a0, .inr (2, [.int (nI n), .int (nI m), .int (nI sh), .int (nI 0), .ref a1, .ref a2, .ref a3, .ref a4, .ref a5, .ref a6])), (a1, .inl (cI, 7, .inl (nIf ki))), (a2, .inl (cI, 7, .inl (nIf op))), (a3, .inl (cI, 7, .inl (nIf fa))), (a4, .inl (cI, 6, .inl (nIf K))), (a5, .inl (cI, 6, .inl (nIf G))), (a6, .inl (cI, 6, .inl (nIf T))), (b0, .inr (1, [.int (nI P), .int (nI Q), .ref b1, .ref b2, .ref b3])), (b1, .inl (cI, 6, .inl (nIf mf))), (b2, .inl (cI, 144, .inl (mIf M))), (b3, .inl (cI, 175, .inl (nIf kn))), (g0, .inr (0, [.int (nI cs), .ref g1, .ref g2, .ref g3]))]
  refine v_al_n 1 zC dX4_passes_0 0 rfl ?_
  refine v_gf 4 0 zC dX4_passes_1 gf_X4_12 rfl rfl ?_
  refine v_cV (As := []) (st := []) 7 1 [1, 4] zC dX4_passes_4 hA (c_X2_knownInAll (ev_l E) (ev_D E) cI (a0 := a0) (a1 := a1) (a2 := a2) (a3 := a3) (a4 := a4) (a5 := a5) (a6 := a6) (n := n) (m := m) (sh := sh) (aw := 0) (fa := fa) (hn := (by first | omega | assumption | rfl | (simp only []; omega) | decide)) (hb := hfa)) cf_X2_knownInAll lk_X4_155 rfl rfl rfl rfl rfl (by decide +kernel) (Nat.le_of_ble_eq_true rfl) (fun rv_1 wv_2 hp_3 hm_4 => ?_)
  clear hm_4
  obtain ⟨rfl, rfl⟩ := hp_3
  show VV E 0 0 7 [(0, .ref x0)] [.int (nI (sm (fun p => pcn (fa p)) n))] [(x0, .inr (4, [.ref a0, .ref xm, .ref xp, .int (bz pd), .ref b0, .ref g0, .ref s0, .ref w0, .int (nI rs), .ref y0])), (a0, .inr (2, [.int (nI n), .int (nI m), .int (nI sh), .int (nI 0), .ref a1, .ref a2, .ref a3, .ref a4, .ref a5, .ref a6])), (a1, .inl (cI, 7, .inl (nIf ki))), (a2, .inl (cI, 7, .inl (nIf op))), (a3, .inl (cI, 7, .inl (nIf fa))), (a4, .inl (cI, 6, .inl (nIf K))), (a5, .inl (cI, 6, .inl (nIf G))), (a6, .inl (cI, 6, .inl (nIf T))), (b0, .inr (1, [.int (nI P), .int (nI Q), .ref b1, .ref b2, .ref b3])), (b1, .inl (cI, 6, .inl (nIf mf))), (b2, .inl (cI, 144, .inl (mIf M))), (b3, .inl (cI, 175, .inl (nIf kn))), (g0, .inr (0, [.int (nI cs), .ref g1, .ref g2, .ref g3]))]
  refine v_is_n (lv2 := [(1, .int (nI (sm (fun p => pcn (fa p)) n))), (0, .ref x0)]) 8 zC dX4_passes_7 (by rw [hnE]; decide) rfl ?_
  refine v_al_n 9 zC dX4_passes_8 1 rfl ?_
  refine v_gf 12 0 zC dX4_passes_9 gf_X4_25 rfl rfl ?_
  refine v_al_n 13 zC dX4_passes_12 1 rfl ?_
  refine v_gf 16 0 zC dX4_passes_13 gf_X4_12 rfl rfl ?_
  refine v_cV (As := [.ref a0]) (st := []) 19 8 [8, 9, 10, 11, 1, 2, 3, 4, 5, 6, 7] zC dX4_passes_16 hA (c_X1_live (ev_l E) (ev_D E) cI (b0 := b0) (b1 := b1) (b2 := b2) (b3 := b3) (P := P) (Q := Q) (mf := mf) (M := M) (kn := kn) (a0 := a0) (a1 := a1) (a2 := a2) (a3 := a3) (a4 := a4) (a5 := a5) (a6 := a6) (n := n) (m := m) (sh := sh) (aw := 0) (ki := ki) (op := op) (fa := fa) (K := K) (G := G) (T := T) (hn := (by first | omega | assumption | rfl | (simp only []; omega) | decide)) (hm := (by first | omega | assumption | rfl | (simp only []; omega) | decide)) (hK := (by first | omega | assumption | rfl | (simp only []; omega) | decide)) (hG := (by first | omega | assumption | rfl | (simp only []; omega) | decide)) (hT := (by first | omega | assumption | rfl | (simp only []; omega) | decide)) (hA2 := (by first | omega | assumption | rfl | (simp only []; omega) | decide)) (hB := (by first | omega | assumption | rfl | (simp only []; omega) | decide)) (hM := (by first | omega | assumption | rfl | (simp only []; omega) | decide))) cf_X1_live lk_X4_158 rfl rfl rfl rfl rfl (by decide +kernel) (Nat.le_of_ble_eq_true rfl) (fun rv_5 wv_6 hp_7 hm_8 => ?_)
  clear hm_8
  obtain ⟨mg_9, X_10, Y_11, hD_12, rfl, rfl⟩ := hp_7
  show VV E 0 0 19 [(1, .int (nI (sm (fun p => pcn (fa p)) n))), (0, .ref x0)] [] [(x0, .inr (4, [.ref a0, .ref xm, .ref xp, .int (bz pd), .ref b0, .ref g0, .ref s0, .ref w0, .int (nI rs), .ref y0])), (a0, .inr (2, [.int (nI n), .int (nI m), .int (nI sh), .int (nI 0), .ref a1, .ref a2, .ref a3, .ref a4, .ref a5, .ref a6])), (a1, .inl (cI, 7, .inl (nIf ki))), (a2, .inl (cI, 7, .inl (nIf op))), (a3, .inl (cI, 7, .inl (nIf fa))), (a4, .inl (cI, 6, .inl (nIf K))), (a5, .inl (cI, 6, .inl (nIf G))), (a6, .inl (cI, 6, .inl (nIf T))), (b0, .inr (1, [.int (nI n), .int (nI m), .ref b1, .ref b2, .ref b3])), (b1, .inl (cI, 6, .inl (nIf mg_9))), (b2, .inl (cI, 144, .inl (mIf Y_11))), (b3, .inl (cI, 175, .inl (nIf X_10))), (g0, .inr (0, [.int (nI cs), .ref g1, .ref g2, .ref g3]))]
  have hD9 := hD_12
  refine v_al_n 20 zC dX4_passes_19 1 rfl ?_
  refine v_gf 23 0 zC dX4_passes_20 gf_X4_25 rfl rfl ?_
  refine v_al_n 24 zC dX4_passes_23 1 rfl ?_
  refine v_gf 27 0 zC dX4_passes_24 gf_X4_12 rfl rfl ?_
  refine v_cV (As := [.ref a0]) (st := []) 30 8 [8, 11, 1, 4] zC dX4_passes_27 hA (c_X1_leaveKnown (ev_l E) (ev_D E) cI (b0 := b0) (b1 := b1) (b2 := b2) (b3 := b3) (P := n) (Q := m) (a0 := a0) (a1 := a1) (a2 := a2) (a3 := a3) (a4 := a4) (a5 := a5) (a6 := a6) (n := n) (m := m) (sh := sh) (aw := 0) (kn := X_10) (fa := fa) ) cf_X1_leaveKnown lk_X4_161 rfl rfl rfl rfl rfl (by decide +kernel) (Nat.le_of_ble_eq_true rfl) (fun rv_13 wv_14 hp_15 hm_16 => ?_)
  clear hm_16
  obtain ⟨rfl, rfl⟩ := hp_15
  show VV E 0 0 30 [(1, .int (nI (sm (fun p => pcn (fa p)) n))), (0, .ref x0)] [] [(x0, .inr (4, [.ref a0, .ref xm, .ref xp, .int (bz pd), .ref b0, .ref g0, .ref s0, .ref w0, .int (nI rs), .ref y0])), (a0, .inr (2, [.int (nI n), .int (nI m), .int (nI sh), .int (nI 0), .ref a1, .ref a2, .ref a3, .ref a4, .ref a5, .ref a6])), (a1, .inl (cI, 7, .inl (nIf ki))), (a2, .inl (cI, 7, .inl (nIf op))), (a3, .inl (cI, 7, .inl (nIf (va_cpy X_10 fa 168 0 7)))), (a4, .inl (cI, 6, .inl (nIf K))), (a5, .inl (cI, 6, .inl (nIf G))), (a6, .inl (cI, 6, .inl (nIf T))), (b0, .inr (1, [.int (nI n), .int (nI m), .ref b1, .ref b2, .ref b3])), (b1, .inl (cI, 6, .inl (nIf mg_9))), (b2, .inl (cI, 144, .inl (mIf Y_11))), (b3, .inl (cI, 175, .inl (nIf X_10))), (g0, .inr (0, [.int (nI cs), .ref g1, .ref g2, .ref g3]))]
  rw [pas_e hD9 vfa]
  refine v_al_n 31 zC dX4_passes_30 1 rfl ?_
  refine v_gf 34 0 zC dX4_passes_31 gf_X4_32 rfl rfl ?_
  refine v_cV (As := []) (st := []) 37 12 [12] zC dX4_passes_34 hA (c_X0_forget (ev_l E) (ev_D E) cI (g0 := g0) (g1 := g1) (g2 := g2) (g3 := g3) (cs := cs) ) cf_X0_forget lk_X4_76 rfl rfl rfl rfl rfl (by decide +kernel) (Nat.le_of_ble_eq_true rfl) (fun rv_17 wv_18 hp_19 hm_20 => ?_)
  clear hm_20
  obtain ⟨rfl, rfl⟩ := hp_19
  show VV E 0 0 37 [(1, .int (nI (sm (fun p => pcn (fa p)) n))), (0, .ref x0)] [] [(x0, .inr (4, [.ref a0, .ref xm, .ref xp, .int (bz pd), .ref b0, .ref g0, .ref s0, .ref w0, .int (nI rs), .ref y0])), (a0, .inr (2, [.int (nI n), .int (nI m), .int (nI sh), .int (nI 0), .ref a1, .ref a2, .ref a3, .ref a4, .ref a5, .ref a6])), (a1, .inl (cI, 7, .inl (nIf ki))), (a2, .inl (cI, 7, .inl (nIf op))), (a3, .inl (cI, 7, .inl (nIf (PASF (n, m, sh, 0, ki, op, fa, K, G, T))))), (a4, .inl (cI, 6, .inl (nIf K))), (a5, .inl (cI, 6, .inl (nIf G))), (a6, .inl (cI, 6, .inl (nIf T))), (b0, .inr (1, [.int (nI n), .int (nI m), .ref b1, .ref b2, .ref b3])), (b1, .inl (cI, 6, .inl (nIf mg_9))), (b2, .inl (cI, 144, .inl (mIf Y_11))), (b3, .inl (cI, 175, .inl (nIf X_10))), (g0, .inr (0, [.int (nI 0), .ref g1, .ref g2, .ref g3]))]
  refine v_al_n 38 zC dX4_passes_37 1 rfl ?_
  refine v_gf 41 0 zC dX4_passes_38 gf_X4_12 rfl rfl ?_
  refine v_cV (As := []) (st := []) 44 1 [1, 4] zC dX4_passes_41 hA (c_X2_knownInAll (ev_l E) (ev_D E) cI (a0 := a0) (a1 := a1) (a2 := a2) (a3 := a3) (a4 := a4) (a5 := a5) (a6 := a6) (n := n) (m := m) (sh := sh) (aw := 0) (fa := (PASF (n, m, sh, 0, ki, op, fa, K, G, T))) (hn := (by first | omega | assumption | rfl | (simp only []; omega) | decide)) (hb := (pas_b hD9))) cf_X2_knownInAll lk_X4_155 rfl rfl rfl rfl rfl (by decide +kernel) (Nat.le_of_ble_eq_true rfl) (fun rv_21 wv_22 hp_23 hm_24 => ?_)
  clear hm_24
  obtain ⟨rfl, rfl⟩ := hp_23
  show VV E 0 0 44 [(1, .int (nI (sm (fun p => pcn (fa p)) n))), (0, .ref x0)] [.int (nI (sm (fun p => pcn ((PASF (n, m, sh, 0, ki, op, fa, K, G, T)) p)) n))] [(x0, .inr (4, [.ref a0, .ref xm, .ref xp, .int (bz pd), .ref b0, .ref g0, .ref s0, .ref w0, .int (nI rs), .ref y0])), (a0, .inr (2, [.int (nI n), .int (nI m), .int (nI sh), .int (nI 0), .ref a1, .ref a2, .ref a3, .ref a4, .ref a5, .ref a6])), (a1, .inl (cI, 7, .inl (nIf ki))), (a2, .inl (cI, 7, .inl (nIf op))), (a3, .inl (cI, 7, .inl (nIf (PASF (n, m, sh, 0, ki, op, fa, K, G, T))))), (a4, .inl (cI, 6, .inl (nIf K))), (a5, .inl (cI, 6, .inl (nIf G))), (a6, .inl (cI, 6, .inl (nIf T))), (b0, .inr (1, [.int (nI n), .int (nI m), .ref b1, .ref b2, .ref b3])), (b1, .inl (cI, 6, .inl (nIf mg_9))), (b2, .inl (cI, 144, .inl (mIf Y_11))), (b3, .inl (cI, 175, .inl (nIf X_10))), (g0, .inr (0, [.int (nI 0), .ref g1, .ref g2, .ref g3]))]
  refine v_il_n 45 zC dX4_passes_44 0 rfl ?_
  refine v_isub (v := (nI (ALL (n, m, sh, 0, ki, op, fa, K, G, T)) - nI (sm (fun p => pcn (fa p)) n))) 46 zC dX4_passes_45 (by rw [pas_s (s := (n, m, sh, 0, ki, op, fa, K, G, T)) hn]) ?_
  refine v_iret zC zT dX4_passes_46  ?_
  exact ⟨_, _, _, _, _, pas_b hD9, hD9.2.2.1, hD9.2.2.2, rfl, rfl⟩
set_option maxRecDepth 100000 in
set_option maxHeartbeats 4000000 in
theorem c_X4_back (l : Launch) (D : va_G) (cI : ClassId) (x0 xm xp y0 : Nat) (pd : Bool) (rs : Nat) (b0 s0 w0 : Nat) (a0 a1 a2 a3 a4 a5 a6 : Nat) (n m sh : Nat) (ki op fa K G T : Nat → Nat) (g0 g1 g2 g3 : Nat) (cs : Nat) (so wh va : Nat → Nat) (R : Nat → Nat) (hw : FW n m sh ki op fa K G T) (hc : cs ≤ 8) (h4 : ∀ i, i < cs → so i < 4) (h0 : ∀ i, i < cs → so i = 0 → wh i < n ∧ va i < 24) (h1 : ∀ i, i < cs → so i = 1 → wh i < n) (h2 : ∀ i, i < cs → so i = 2 → wh i < n ∧ va i < 6) (h3 : ∀ i, i < cs → so i = 3 → wh i < m) : CT l yX4_back cX4_back 1 (some .int) { frames := 2, cells := 0, slots := 0, locals := 45 } D cI [.ref x0] [(x0, .inr (4, [.ref a0, .ref xm, .ref xp, .int (bz pd), .ref b0, .ref g0, .ref s0, .ref w0, .int (nI rs), .ref y0])), (a0, .inr (2, [.int (nI n), .int (nI m), .int (nI sh), .int (nI 0), .ref a1, .ref a2, .ref a3, .ref a4, .ref a5, .ref a6])), (a1, .inl (cI, 7, .inl (nIf ki))), (a2, .inl (cI, 7, .inl (nIf op))), (a3, .inl (cI, 7, .inl (nIf fa))), (a4, .inl (cI, 6, .inl (nIf K))), (a5, .inl (cI, 6, .inl (nIf G))), (a6, .inl (cI, 6, .inl (nIf T))), (g0, .inr (0, [.int (nI cs), .ref g1, .ref g2, .ref g3])), (g1, .inl (cI, 8, .inl (nIf so))), (g2, .inl (cI, 8, .inl (nIf wh))), (g3, .inl (cI, 8, .inl (nIf va))), (y0, .inl (cI, 7, .inl (nIf R)))] (fun zr zw => ((cs = 0) ∧ zr = some (.int (-3)) ∧ zw = [(x0, .inr (4, [.ref a0, .ref xm, .ref xp, .int (bz pd), .ref b0, .ref g0, .ref s0, .ref w0, .int (nI rs), .ref y0])), (a0, .inr (2, [.int (nI n), .int (nI m), .int (nI sh), .int (nI 0), .ref a1, .ref a2, .ref a3, .ref a4, .ref a5, .ref a6])), (a1, .inl (cI, 7, .inl (nIf ki))), (a2, .inl (cI, 7, .inl (nIf op))), (a3, .inl (cI, 7, .inl (nIf fa))), (a4, .inl (cI, 6, .inl (nIf K))), (a5, .inl (cI, 6, .inl (nIf G))), (a6, .inl (cI, 6, .inl (nIf T))), (g0, .inr (0, [.int (nI cs), .ref g1, .ref g2, .ref g3])), (g1, .inl (cI, 8, .inl (nIf so))), (g2, .inl (cI, 8, .inl (nIf wh))), (g3, .inl (cI, 8, .inl (nIf va))), (y0, .inl (cI, 7, .inl (nIf (un R 3 (R 3 + 1)))))]) ∨ ((0 < cs) ∧ (so (cs - 1) = 0) ∧ zr = some (.int (nI (cs - 1))) ∧ zw = [(x0, .inr (4, [.ref a0, .ref xm, .ref xp, .int (bz pd), .ref b0, .ref g0, .ref s0, .ref w0, .int (nI rs), .ref y0])), (a0, .inr (2, [.int (nI n), .int (nI m), .int (nI sh), .int (nI 0), .ref a1, .ref a2, .ref a3, .ref a4, .ref a5, .ref a6])), (a1, .inl (cI, 7, .inl (nIf ki))), (a2, .inl (cI, 7, .inl (nIf (un op (wh (cs - 1)) (op (wh (cs - 1)) ^^^ 2 ^ va (cs - 1)))))), (a3, .inl (cI, 7, .inl (nIf fa))), (a4, .inl (cI, 6, .inl (nIf K))), (a5, .inl (cI, 6, .inl (nIf G))), (a6, .inl (cI, 6, .inl (nIf T))), (g0, .inr (0, [.int (nI (cs - 1)), .ref g1, .ref g2, .ref g3])), (g1, .inl (cI, 8, .inl (nIf so))), (g2, .inl (cI, 8, .inl (nIf wh))), (g3, .inl (cI, 8, .inl (nIf va))), (y0, .inl (cI, 7, .inl (nIf R)))]) ∨ ((0 < cs) ∧ (so (cs - 1) = 1) ∧ zr = some (.int (nI (cs - 1))) ∧ zw = [(x0, .inr (4, [.ref a0, .ref xm, .ref xp, .int (bz pd), .ref b0, .ref g0, .ref s0, .ref w0, .int (nI rs), .ref y0])), (a0, .inr (2, [.int (nI n), .int (nI m), .int (nI (sh ^^^ 2 ^ wh (cs - 1))), .int (nI 0), .ref a1, .ref a2, .ref a3, .ref a4, .ref a5, .ref a6])), (a1, .inl (cI, 7, .inl (nIf ki))), (a2, .inl (cI, 7, .inl (nIf op))), (a3, .inl (cI, 7, .inl (nIf fa))), (a4, .inl (cI, 6, .inl (nIf K))), (a5, .inl (cI, 6, .inl (nIf G))), (a6, .inl (cI, 6, .inl (nIf T))), (g0, .inr (0, [.int (nI (cs - 1)), .ref g1, .ref g2, .ref g3])), (g1, .inl (cI, 8, .inl (nIf so))), (g2, .inl (cI, 8, .inl (nIf wh))), (g3, .inl (cI, 8, .inl (nIf va))), (y0, .inl (cI, 7, .inl (nIf R)))]) ∨ ((0 < cs) ∧ (so (cs - 1) = 2) ∧ zr = some (.int (nI (cs - 1))) ∧ zw = [(x0, .inr (4, [.ref a0, .ref xm, .ref xp, .int (bz pd), .ref b0, .ref g0, .ref s0, .ref w0, .int (nI rs), .ref y0])), (a0, .inr (2, [.int (nI n), .int (nI m), .int (nI sh), .int (nI 0), .ref a1, .ref a2, .ref a3, .ref a4, .ref a5, .ref a6])), (a1, .inl (cI, 7, .inl (nIf (un ki (wh (cs - 1)) (ki (wh (cs - 1)) ^^^ 2 ^ va (cs - 1)))))), (a2, .inl (cI, 7, .inl (nIf op))), (a3, .inl (cI, 7, .inl (nIf fa))), (a4, .inl (cI, 6, .inl (nIf K))), (a5, .inl (cI, 6, .inl (nIf G))), (a6, .inl (cI, 6, .inl (nIf T))), (g0, .inr (0, [.int (nI (cs - 1)), .ref g1, .ref g2, .ref g3])), (g1, .inl (cI, 8, .inl (nIf so))), (g2, .inl (cI, 8, .inl (nIf wh))), (g3, .inl (cI, 8, .inl (nIf va))), (y0, .inl (cI, 7, .inl (nIf R)))]) ∨ ((0 < cs) ∧ (so (cs - 1) = 3) ∧ zr = some (.int (nI (cs - 1))) ∧ zw = [(x0, .inr (4, [.ref a0, .ref xm, .ref xp, .int (bz pd), .ref b0, .ref g0, .ref s0, .ref w0, .int (nI rs), .ref y0])), (a0, .inr (2, [.int (nI n), .int (nI m), .int (nI sh), .int (nI 0), .ref a1, .ref a2, .ref a3, .ref a4, .ref a5, .ref a6])), (a1, .inl (cI, 7, .inl (nIf ki))), (a2, .inl (cI, 7, .inl (nIf op))), (a3, .inl (cI, 7, .inl (nIf fa))), (a4, .inl (cI, 6, .inl (nIf K))), (a5, .inl (cI, 6, .inl (nIf (un G (wh (cs - 1)) (va (cs - 1)))))), (a6, .inl (cI, 6, .inl (nIf T))), (g0, .inr (0, [.int (nI (cs - 1)), .ref g1, .ref g2, .ref g3])), (g1, .inl (cI, 8, .inl (nIf so))), (g2, .inl (cI, 8, .inl (nIf wh))), (g3, .inl (cI, 8, .inl (nIf va))), (y0, .inl (cI, 7, .inl (nIf R)))])) := by
  refine CT_of RX4 rfl (by decide +kernel) (Nat.le_of_ble_eq_true rfl) (fun E hnE zC zT => ?_)
  have hA : ∀ q, (ev_s E).heap.size ≤ q → ev_A E q := fun q h => by rw [zT.2]; exact Or.inr h
  obtain ⟨hn, hm, hsh, hki, hop, hfa, hK, hG, hT, vki, vop, vfa, vK, vG, vT⟩ := id hw
  show VV E 0 0 0 [(0, .ref x0)] [] [(x0, .inr (4, [.ref a0, .ref xm, .ref xp, .int (bz pd), .ref b0, .ref g0, .ref s0, .ref w0, .int (nI rs), .ref y0])), (a0, .inr (2, [.int (nI n), .int (nI m), .int (nI sh), .int (nI 0), .ref a1, .ref a2, .ref a3, .ref a4, .ref a5, .ref a6])), (a1, .inl (cI, 7, .inl (nIf ki))), (a2, .inl (cI, 7, .inl (nIf op))), (a3, .inl (cI, 7, .inl (nIf fa))), (a4, .inl (cI, 6, .inl (nIf K))), (a5, .inl (cI, 6, .inl (nIf G))), (a6, .inl (cI, 6, .inl (nIf T))), (g0, .inr (0, [.int (nI cs), .ref g1, .ref g2, .ref g3])), (g1, .inl (cI, 8, .inl (nIf so))), (g2, .inl (cI, 8, .inl (nIf wh))), (g3, .inl (cI, 8, .inl (nIf va))), (y0, .inl (cI, 7, .inl (nIf R)))]
  refine v_al_n 1 zC dX4_back_0 0 rfl ?_
  refine v_gf 4 0 zC dX4_back_1 gf_X4_32 rfl rfl ?_
  refine v_gf 7 8 zC dX4_back_4 gf_X4_164 rfl rfl ?_
  refine v_ifn_ne 17 10 zC dX4_back_7 (fun h_1 => ?_) (fun h_1 => ?_)
  ·
    refine v_al_n 18 zC dX4_back_17 0 rfl ?_
    refine v_gf 21 0 zC dX4_back_18 gf_X4_32 rfl rfl ?_
    refine v_al_n 22 zC dX4_back_21 0 rfl ?_
    refine v_gf 25 0 zC dX4_back_22 gf_X4_12 rfl rfl ?_
    refine v_cV (As := [.ref a0]) (st := []) 28 8 [8, 9, 10, 11, 1, 2, 3, 6] zC dX4_back_25 hA (c_X0_takeBack (ev_l E) (ev_D E) cI (g0 := g0) (g1 := g1) (g2 := g2) (g3 := g3) (cs := cs) (so := so) (wh := wh) (va := va) (a0 := a0) (a1 := a1) (a2 := a2) (a3 := a3) (a4 := a4) (a5 := a5) (a6 := a6) (n := n) (m := m) (sh := sh) (ki := ki) (op := op) (G := G) (hn := (by first | omega | assumption | rfl | (simp only []; omega) | decide)) (hm := (by first | omega | assumption | rfl | (simp only []; omega) | decide)) (hc0 := (by first | omega | assumption | rfl | (simp only []; omega) | decide)) (hc := (by first | omega | assumption | rfl | (simp only []; omega) | decide)) (h4 := (h4 _ (by omega))) (h0 := (h0 _ (by omega))) (h1 := (h1 _ (by omega))) (h2 := (h2 _ (by omega))) (h3 := (h3 _ (by omega)))) cf_X0_takeBack lk_X4_165 rfl rfl rfl rfl rfl (by decide +kernel) (Nat.le_of_ble_eq_true rfl) (fun rv_2 wv_3 hp_4 hm_5 => ?_)
    clear hm_5
    rcases hp_4 with ⟨hz_6, rfl, rfl⟩ | ⟨hz_7, rfl, rfl⟩ | ⟨hz_8, rfl, rfl⟩ | ⟨hz_9, rfl, rfl⟩
    ·
      show VV E 0 0 28 [(0, .ref x0)] [] [(x0, .inr (4, [.ref a0, .ref xm, .ref xp, .int (bz pd), .ref b0, .ref g0, .ref s0, .ref w0, .int (nI rs), .ref y0])), (a0, .inr (2, [.int (nI n), .int (nI m), .int (nI sh), .int (nI 0), .ref a1, .ref a2, .ref a3, .ref a4, .ref a5, .ref a6])), (a1, .inl (cI, 7, .inl (nIf ki))), (a2, .inl (cI, 7, .inl (nIf (un op (wh (cs - 1)) (op (wh (cs - 1)) ^^^ 2 ^ va (cs - 1)))))), (a3, .inl (cI, 7, .inl (nIf fa))), (a4, .inl (cI, 6, .inl (nIf K))), (a5, .inl (cI, 6, .inl (nIf G))), (a6, .inl (cI, 6, .inl (nIf T))), (g0, .inr (0, [.int (nI (cs - 1)), .ref g1, .ref g2, .ref g3])), (g1, .inl (cI, 8, .inl (nIf so))), (g2, .inl (cI, 8, .inl (nIf wh))), (g3, .inl (cI, 8, .inl (nIf va))), (y0, .inl (cI, 7, .inl (nIf R)))]
      have hz9 := hz_6
      refine v_al_n 29 zC dX4_back_28 0 rfl ?_
      refine v_gf 32 0 zC dX4_back_29 gf_X4_32 rfl rfl ?_
      refine v_gf 35 8 zC dX4_back_32 gf_X4_164 rfl rfl ?_
      refine v_iret zC zT dX4_back_35  ?_
      first | exact Or.inl ⟨by omega, rfl, rfl⟩ | exact Or.inr (Or.inl ⟨by omega, hz9, rfl, rfl⟩) | exact Or.inr (Or.inr (Or.inl ⟨by omega, hz9, rfl, rfl⟩)) | exact Or.inr (Or.inr (Or.inr (Or.inl ⟨by omega, hz9, rfl, rfl⟩))) | exact Or.inr (Or.inr (Or.inr (Or.inr ⟨by omega, hz9, rfl, rfl⟩)))
    ·
      show VV E 0 0 28 [(0, .ref x0)] [] [(x0, .inr (4, [.ref a0, .ref xm, .ref xp, .int (bz pd), .ref b0, .ref g0, .ref s0, .ref w0, .int (nI rs), .ref y0])), (a0, .inr (2, [.int (nI n), .int (nI m), .int (nI (sh ^^^ 2 ^ wh (cs - 1))), .int (nI 0), .ref a1, .ref a2, .ref a3, .ref a4, .ref a5, .ref a6])), (a1, .inl (cI, 7, .inl (nIf ki))), (a2, .inl (cI, 7, .inl (nIf op))), (a3, .inl (cI, 7, .inl (nIf fa))), (a4, .inl (cI, 6, .inl (nIf K))), (a5, .inl (cI, 6, .inl (nIf G))), (a6, .inl (cI, 6, .inl (nIf T))), (g0, .inr (0, [.int (nI (cs - 1)), .ref g1, .ref g2, .ref g3])), (g1, .inl (cI, 8, .inl (nIf so))), (g2, .inl (cI, 8, .inl (nIf wh))), (g3, .inl (cI, 8, .inl (nIf va))), (y0, .inl (cI, 7, .inl (nIf R)))]
      have hz9 := hz_7
      refine v_al_n 29 zC dX4_back_28 0 rfl ?_
      refine v_gf 32 0 zC dX4_back_29 gf_X4_32 rfl rfl ?_
      refine v_gf 35 8 zC dX4_back_32 gf_X4_164 rfl rfl ?_
      refine v_iret zC zT dX4_back_35  ?_
      first | exact Or.inl ⟨by omega, rfl, rfl⟩ | exact Or.inr (Or.inl ⟨by omega, hz9, rfl, rfl⟩) | exact Or.inr (Or.inr (Or.inl ⟨by omega, hz9, rfl, rfl⟩)) | exact Or.inr (Or.inr (Or.inr (Or.inl ⟨by omega, hz9, rfl, rfl⟩))) | exact Or.inr (Or.inr (Or.inr (Or.inr ⟨by omega, hz9, rfl, rfl⟩)))
    ·
      show VV E 0 0 28 [(0, .ref x0)] [] [(x0, .inr (4, [.ref a0, .ref xm, .ref xp, .int (bz pd), .ref b0, .ref g0, .ref s0, .ref w0, .int (nI rs), .ref y0])), (a0, .inr (2, [.int (nI n), .int (nI m), .int (nI sh), .int (nI 0), .ref a1, .ref a2, .ref a3, .ref a4, .ref a5, .ref a6])), (a1, .inl (cI, 7, .inl (nIf (un ki (wh (cs - 1)) (ki (wh (cs - 1)) ^^^ 2 ^ va (cs - 1)))))), (a2, .inl (cI, 7, .inl (nIf op))), (a3, .inl (cI, 7, .inl (nIf fa))), (a4, .inl (cI, 6, .inl (nIf K))), (a5, .inl (cI, 6, .inl (nIf G))), (a6, .inl (cI, 6, .inl (nIf T))), (g0, .inr (0, [.int (nI (cs - 1)), .ref g1, .ref g2, .ref g3])), (g1, .inl (cI, 8, .inl (nIf so))), (g2, .inl (cI, 8, .inl (nIf wh))), (g3, .inl (cI, 8, .inl (nIf va))), (y0, .inl (cI, 7, .inl (nIf R)))]
      have hz9 := hz_8
      refine v_al_n 29 zC dX4_back_28 0 rfl ?_
      refine v_gf 32 0 zC dX4_back_29 gf_X4_32 rfl rfl ?_
      refine v_gf 35 8 zC dX4_back_32 gf_X4_164 rfl rfl ?_
      refine v_iret zC zT dX4_back_35  ?_
      first | exact Or.inl ⟨by omega, rfl, rfl⟩ | exact Or.inr (Or.inl ⟨by omega, hz9, rfl, rfl⟩) | exact Or.inr (Or.inr (Or.inl ⟨by omega, hz9, rfl, rfl⟩)) | exact Or.inr (Or.inr (Or.inr (Or.inl ⟨by omega, hz9, rfl, rfl⟩))) | exact Or.inr (Or.inr (Or.inr (Or.inr ⟨by omega, hz9, rfl, rfl⟩)))
    ·
      show VV E 0 0 28 [(0, .ref x0)] [] [(x0, .inr (4, [.ref a0, .ref xm, .ref xp, .int (bz pd), .ref b0, .ref g0, .ref s0, .ref w0, .int (nI rs), .ref y0])), (a0, .inr (2, [.int (nI n), .int (nI m), .int (nI sh), .int (nI 0), .ref a1, .ref a2, .ref a3, .ref a4, .ref a5, .ref a6])), (a1, .inl (cI, 7, .inl (nIf ki))), (a2, .inl (cI, 7, .inl (nIf op))), (a3, .inl (cI, 7, .inl (nIf fa))), (a4, .inl (cI, 6, .inl (nIf K))), (a5, .inl (cI, 6, .inl (nIf (un G (wh (cs - 1)) (va (cs - 1)))))), (a6, .inl (cI, 6, .inl (nIf T))), (g0, .inr (0, [.int (nI (cs - 1)), .ref g1, .ref g2, .ref g3])), (g1, .inl (cI, 8, .inl (nIf so))), (g2, .inl (cI, 8, .inl (nIf wh))), (g3, .inl (cI, 8, .inl (nIf va))), (y0, .inl (cI, 7, .inl (nIf R)))]
      have hz9 := hz_9
      refine v_al_n 29 zC dX4_back_28 0 rfl ?_
      refine v_gf 32 0 zC dX4_back_29 gf_X4_32 rfl rfl ?_
      refine v_gf 35 8 zC dX4_back_32 gf_X4_164 rfl rfl ?_
      refine v_iret zC zT dX4_back_35  ?_
      first | exact Or.inl ⟨by omega, rfl, rfl⟩ | exact Or.inr (Or.inl ⟨by omega, hz9, rfl, rfl⟩) | exact Or.inr (Or.inr (Or.inl ⟨by omega, hz9, rfl, rfl⟩)) | exact Or.inr (Or.inr (Or.inr (Or.inl ⟨by omega, hz9, rfl, rfl⟩))) | exact Or.inr (Or.inr (Or.inr (Or.inr ⟨by omega, hz9, rfl, rfl⟩)))
  ·
    refine v_al_n 11 zC dX4_back_10 0 rfl ?_
    refine v_bp (v := (-3)) 13 zC dX4_back_11 (by decide +kernel) ?_
    refine v_cV (As := [.int (-3)]) (st := []) 16 0 [0, 12] zC dX4_back_13 hA (c_X4_refuse (ev_l E) (ev_D E) cI (x0 := x0) (xn := a0) (xm := xm) (xp := xp) (b0 := b0) (g0 := g0) (s0 := s0) (w0 := w0) (y0 := y0) (pd := pd) (rs := rs) (R := R) (v := (-3)) (j := 3) (hv := (by first | omega | assumption | rfl | (simp only []; omega) | decide)) (h1 := (by first | omega | assumption | rfl | (simp only []; omega) | decide)) (h6 := (by first | omega | assumption | rfl | (simp only []; omega) | decide))) cf_X4_refuse lk_X4_50 rfl rfl rfl rfl rfl (by decide +kernel) (Nat.le_of_ble_eq_true rfl) (fun rv_10 wv_11 hp_12 hm_13 => ?_)
    clear hm_13
    obtain ⟨rfl, rfl⟩ := hp_12
    show VV E 0 0 16 [(0, .ref x0)] [.int (-3)] [(x0, .inr (4, [.ref a0, .ref xm, .ref xp, .int (bz pd), .ref b0, .ref g0, .ref s0, .ref w0, .int (nI rs), .ref y0])), (a0, .inr (2, [.int (nI n), .int (nI m), .int (nI sh), .int (nI 0), .ref a1, .ref a2, .ref a3, .ref a4, .ref a5, .ref a6])), (a1, .inl (cI, 7, .inl (nIf ki))), (a2, .inl (cI, 7, .inl (nIf op))), (a3, .inl (cI, 7, .inl (nIf fa))), (a4, .inl (cI, 6, .inl (nIf K))), (a5, .inl (cI, 6, .inl (nIf G))), (a6, .inl (cI, 6, .inl (nIf T))), (g0, .inr (0, [.int (nI cs), .ref g1, .ref g2, .ref g3])), (g1, .inl (cI, 8, .inl (nIf so))), (g2, .inl (cI, 8, .inl (nIf wh))), (g3, .inl (cI, 8, .inl (nIf va))), (y0, .inl (cI, 7, .inl (nIf (un R 3 (R 3 + 1)))))]
    refine v_iret zC zT dX4_back_16  ?_
    first | exact Or.inl ⟨by omega, rfl, rfl⟩ | exact Or.inr (Or.inl ⟨by omega, hz9, rfl, rfl⟩) | exact Or.inr (Or.inr (Or.inl ⟨by omega, hz9, rfl, rfl⟩)) | exact Or.inr (Or.inr (Or.inr (Or.inl ⟨by omega, hz9, rfl, rfl⟩))) | exact Or.inr (Or.inr (Or.inr (Or.inr ⟨by omega, hz9, rfl, rfl⟩)))
set_option maxRecDepth 100000 in
set_option maxHeartbeats 4000000 in
theorem c_X4_image (l : Launch) (D : va_G) (cI : ClassId) (x0 xm b0 g0 s0 w0 y0 : Nat) (pd : Bool) (rs : Nat) (a0 a1 a2 a3 a4 a5 a6 : Nat) (n m sh : Nat) (ki op fa K G T : Nat → Nat) (e0 e1 e2 e3 e4 e5 e6 : Nat) (n2 m2 sh2 aw2 : Nat) (ki2 op2 fa2 K2 G2 T2 : Nat → Nat) (hw : FW n m sh ki op fa K G T) (hw2 : FW n2 m2 sh2 ki2 op2 fa2 K2 G2 T2) : CT l yX4_image cX4_image 1 (some .int) { frames := 2, cells := 0, slots := 0, locals := 61 } D cI [.ref x0] [(x0, .inr (4, [.ref a0, .ref xm, .ref e0, .int (bz pd), .ref b0, .ref g0, .ref s0, .ref w0, .int (nI rs), .ref y0])), (a0, .inr (2, [.int (nI n), .int (nI m), .int (nI sh), .int (nI 0), .ref a1, .ref a2, .ref a3, .ref a4, .ref a5, .ref a6])), (a1, .inl (cI, 7, .inl (nIf ki))), (a2, .inl (cI, 7, .inl (nIf op))), (a3, .inl (cI, 7, .inl (nIf fa))), (a4, .inl (cI, 6, .inl (nIf K))), (a5, .inl (cI, 6, .inl (nIf G))), (a6, .inl (cI, 6, .inl (nIf T))), (e0, .inr (2, [.int (nI n2), .int (nI m2), .int (nI sh2), .int (nI aw2), .ref e1, .ref e2, .ref e3, .ref e4, .ref e5, .ref e6])), (e1, .inl (cI, 7, .inl (nIf ki2))), (e2, .inl (cI, 7, .inl (nIf op2))), (e3, .inl (cI, 7, .inl (nIf fa2))), (e4, .inl (cI, 6, .inl (nIf K2))), (e5, .inl (cI, 6, .inl (nIf G2))), (e6, .inl (cI, 6, .inl (nIf T2)))] (fun zr zw => (zr = some (.int (nI n)) ∧ zw = [(x0, .inr (4, [.ref a0, .ref xm, .ref e0, .int (bz true), .ref b0, .ref g0, .ref s0, .ref w0, .int (nI rs), .ref y0])), (a0, .inr (2, [.int (nI n), .int (nI m), .int (nI sh), .int (nI 0), .ref a1, .ref a2, .ref a3, .ref a4, .ref a5, .ref a6])), (a1, .inl (cI, 7, .inl (nIf ki))), (a2, .inl (cI, 7, .inl (nIf op))), (a3, .inl (cI, 7, .inl (nIf fa))), (a4, .inl (cI, 6, .inl (nIf K))), (a5, .inl (cI, 6, .inl (nIf G))), (a6, .inl (cI, 6, .inl (nIf T))), (e0, .inr (2, [.int (nI n), .int (nI m), .int (nI sh), .int (nI 0), .ref e1, .ref e2, .ref e3, .ref e4, .ref e5, .ref e6])), (e1, .inl (cI, 7, .inl (nIf ki))), (e2, .inl (cI, 7, .inl (nIf op))), (e3, .inl (cI, 7, .inl (nIf fa))), (e4, .inl (cI, 6, .inl (nIf K))), (e5, .inl (cI, 6, .inl (nIf G))), (e6, .inl (cI, 6, .inl (nIf T)))])) := by
  refine CT_of RX4 rfl (by decide +kernel) (Nat.le_of_ble_eq_true rfl) (fun E hnE zC zT => ?_)
  have hA : ∀ q, (ev_s E).heap.size ≤ q → ev_A E q := fun q h => by rw [zT.2]; exact Or.inr h
  obtain ⟨hn, hm, hsh, hki, hop, hfa, hK, hG, hT, vki, vop, vfa, vK, vG, vT⟩ := id hw
  show VV E 0 0 0 [(0, .ref x0)] [] [(x0, .inr (4, [.ref a0, .ref xm, .ref e0, .int (bz pd), .ref b0, .ref g0, .ref s0, .ref w0, .int (nI rs), .ref y0])), (a0, .inr (2, [.int (nI n), .int (nI m), .int (nI sh), .int (nI 0), .ref a1, .ref a2, .ref a3, .ref a4, .ref a5, .ref a6])), (a1, .inl (cI, 7, .inl (nIf ki))), (a2, .inl (cI, 7, .inl (nIf op))), (a3, .inl (cI, 7, .inl (nIf fa))), (a4, .inl (cI, 6, .inl (nIf K))), (a5, .inl (cI, 6, .inl (nIf G))), (a6, .inl (cI, 6, .inl (nIf T))), (e0, .inr (2, [.int (nI n2), .int (nI m2), .int (nI sh2), .int (nI aw2), .ref e1, .ref e2, .ref e3, .ref e4, .ref e5, .ref e6])), (e1, .inl (cI, 7, .inl (nIf ki2))), (e2, .inl (cI, 7, .inl (nIf op2))), (e3, .inl (cI, 7, .inl (nIf fa2))), (e4, .inl (cI, 6, .inl (nIf K2))), (e5, .inl (cI, 6, .inl (nIf G2))), (e6, .inl (cI, 6, .inl (nIf T2)))]
  refine v_al_n 1 zC dX4_image_0 0 rfl ?_
  refine v_gf 4 0 zC dX4_image_1 gf_X4_19 rfl rfl ?_
  refine v_al_n 5 zC dX4_image_4 0 rfl ?_
  refine v_gf 8 0 zC dX4_image_5 gf_X4_12 rfl rfl ?_
  refine v_cV (As := [.ref a0]) (st := []) 11 8 [8, 9, 10, 11, 12, 13, 14, 1, 2, 3, 4, 5, 6, 7] zC dX4_image_8 hA (c_X2_become (ev_l E) (ev_D E) cI (a0 := a0) (a1 := a1) (a2 := a2) (a3 := a3) (a4 := a4) (a5 := a5) (a6 := a6) (n := n) (m := m) (sh := sh) (aw := 0) (ki := ki) (op := op) (fa := fa) (K := K) (G := G) (T := T) (c0 := e0) (c1 := e1) (c2 := e2) (c3 := e3) (c4 := e4) (c5 := e5) (c6 := e6) (n1 := n2) (m1 := m2) (sh1 := sh2) (aw1 := aw2) (ki1 := ki2) (op1 := op2) (fa1 := fa2) (K1 := K2) (G1 := G2) (T1 := T2) (hw := hw) (hw1 := hw2)) cf_X2_become lk_X4_65 rfl rfl rfl rfl rfl (by decide +kernel) (Nat.le_of_ble_eq_true rfl) (fun rv_1 wv_2 hp_3 hm_4 => ?_)
  clear hm_4
  obtain ⟨rfl, rfl⟩ := hp_3
  show VV E 0 0 11 [(0, .ref x0)] [] [(x0, .inr (4, [.ref a0, .ref xm, .ref e0, .int (bz pd), .ref b0, .ref g0, .ref s0, .ref w0, .int (nI rs), .ref y0])), (a0, .inr (2, [.int (nI n), .int (nI m), .int (nI sh), .int (nI 0), .ref a1, .ref a2, .ref a3, .ref a4, .ref a5, .ref a6])), (a1, .inl (cI, 7, .inl (nIf ki))), (a2, .inl (cI, 7, .inl (nIf op))), (a3, .inl (cI, 7, .inl (nIf fa))), (a4, .inl (cI, 6, .inl (nIf K))), (a5, .inl (cI, 6, .inl (nIf G))), (a6, .inl (cI, 6, .inl (nIf T))), (e0, .inr (2, [.int (nI n), .int (nI m), .int (nI sh), .int (nI 0), .ref e1, .ref e2, .ref e3, .ref e4, .ref e5, .ref e6])), (e1, .inl (cI, 7, .inl (nIf ki))), (e2, .inl (cI, 7, .inl (nIf op))), (e3, .inl (cI, 7, .inl (nIf fa))), (e4, .inl (cI, 6, .inl (nIf K))), (e5, .inl (cI, 6, .inl (nIf G))), (e6, .inl (cI, 6, .inl (nIf T)))]
  refine v_al_n 12 zC dX4_image_11 0 rfl ?_
  refine v_ic (v := (nI 1)) 13 zC dX4_image_12 (by decide +kernel) ?_
  refine v_pf (ws2 := [(x0, .inr (4, [.ref a0, .ref xm, .ref e0, .int (nI 1), .ref b0, .ref g0, .ref s0, .ref w0, .int (nI rs), .ref y0])), (a0, .inr (2, [.int (nI n), .int (nI m), .int (nI sh), .int (nI 0), .ref a1, .ref a2, .ref a3, .ref a4, .ref a5, .ref a6])), (a1, .inl (cI, 7, .inl (nIf ki))), (a2, .inl (cI, 7, .inl (nIf op))), (a3, .inl (cI, 7, .inl (nIf fa))), (a4, .inl (cI, 6, .inl (nIf K))), (a5, .inl (cI, 6, .inl (nIf G))), (a6, .inl (cI, 6, .inl (nIf T))), (e0, .inr (2, [.int (nI n), .int (nI m), .int (nI sh), .int (nI 0), .ref e1, .ref e2, .ref e3, .ref e4, .ref e5, .ref e6])), (e1, .inl (cI, 7, .inl (nIf ki))), (e2, .inl (cI, 7, .inl (nIf op))), (e3, .inl (cI, 7, .inl (nIf fa))), (e4, .inl (cI, 6, .inl (nIf K))), (e5, .inl (cI, 6, .inl (nIf G))), (e6, .inl (cI, 6, .inl (nIf T)))]) 16 0 zC dX4_image_13 pf_X4_287 rfl (Nat.le_of_ble_eq_true rfl) (by decide +kernel) (by decide +kernel) rfl ?_
  refine v_al_n 17 zC dX4_image_16 0 rfl ?_
  refine v_gf 20 0 zC dX4_image_17 gf_X4_19 rfl rfl ?_
  refine v_gf 23 8 zC dX4_image_20 gf_X4_114 rfl rfl ?_
  refine v_iret zC zT dX4_image_23  ?_
  first | exact ⟨rfl, rfl⟩ | exact ⟨sb1 (by assumption), rfl⟩ | exact ⟨sb0 (by assumption), rfl⟩ | (exfalso; omega) | exact ⟨sb1 (by simp [*]), rfl⟩ | exact ⟨sb0 (by simp [*]), rfl⟩
set_option maxRecDepth 100000 in
set_option maxHeartbeats 4000000 in
theorem c_X4_restore (l : Launch) (D : va_G) (cI : ClassId) (x0 xm b0 g0 s0 w0 y0 : Nat) (pd : Bool) (rs : Nat) (a0 a1 a2 a3 a4 a5 a6 : Nat) (n m sh : Nat) (ki op fa K G T : Nat → Nat) (e0 e1 e2 e3 e4 e5 e6 : Nat) (n2 m2 sh2 aw2 : Nat) (ki2 op2 fa2 K2 G2 T2 : Nat → Nat) (g1 g2 g3 cs : Nat) (R : Nat → Nat) (hw : FW n m sh ki op fa K G T) (hw2 : FW n2 m2 sh2 ki2 op2 fa2 K2 G2 T2) : CT l yX4_restore cX4_restore 1 (some .int) { frames := 2, cells := 0, slots := 0, locals := 61 } D cI [.ref x0] [(x0, .inr (4, [.ref a0, .ref xm, .ref e0, .int (bz pd), .ref b0, .ref g0, .ref s0, .ref w0, .int (nI rs), .ref y0])), (a0, .inr (2, [.int (nI n), .int (nI m), .int (nI sh), .int (nI 0), .ref a1, .ref a2, .ref a3, .ref a4, .ref a5, .ref a6])), (a1, .inl (cI, 7, .inl (nIf ki))), (a2, .inl (cI, 7, .inl (nIf op))), (a3, .inl (cI, 7, .inl (nIf fa))), (a4, .inl (cI, 6, .inl (nIf K))), (a5, .inl (cI, 6, .inl (nIf G))), (a6, .inl (cI, 6, .inl (nIf T))), (e0, .inr (2, [.int (nI n2), .int (nI m2), .int (nI sh2), .int (nI aw2), .ref e1, .ref e2, .ref e3, .ref e4, .ref e5, .ref e6])), (e1, .inl (cI, 7, .inl (nIf ki2))), (e2, .inl (cI, 7, .inl (nIf op2))), (e3, .inl (cI, 7, .inl (nIf fa2))), (e4, .inl (cI, 6, .inl (nIf K2))), (e5, .inl (cI, 6, .inl (nIf G2))), (e6, .inl (cI, 6, .inl (nIf T2))), (g0, .inr (0, [.int (nI cs), .ref g1, .ref g2, .ref g3])), (y0, .inl (cI, 7, .inl (nIf R)))] (fun zr zw => ((pd = false) ∧ zr = some (.int (-3)) ∧ zw = [(x0, .inr (4, [.ref a0, .ref xm, .ref e0, .int (bz pd), .ref b0, .ref g0, .ref s0, .ref w0, .int (nI rs), .ref y0])), (a0, .inr (2, [.int (nI n), .int (nI m), .int (nI sh), .int (nI 0), .ref a1, .ref a2, .ref a3, .ref a4, .ref a5, .ref a6])), (a1, .inl (cI, 7, .inl (nIf ki))), (a2, .inl (cI, 7, .inl (nIf op))), (a3, .inl (cI, 7, .inl (nIf fa))), (a4, .inl (cI, 6, .inl (nIf K))), (a5, .inl (cI, 6, .inl (nIf G))), (a6, .inl (cI, 6, .inl (nIf T))), (e0, .inr (2, [.int (nI n2), .int (nI m2), .int (nI sh2), .int (nI aw2), .ref e1, .ref e2, .ref e3, .ref e4, .ref e5, .ref e6])), (e1, .inl (cI, 7, .inl (nIf ki2))), (e2, .inl (cI, 7, .inl (nIf op2))), (e3, .inl (cI, 7, .inl (nIf fa2))), (e4, .inl (cI, 6, .inl (nIf K2))), (e5, .inl (cI, 6, .inl (nIf G2))), (e6, .inl (cI, 6, .inl (nIf T2))), (g0, .inr (0, [.int (nI cs), .ref g1, .ref g2, .ref g3])), (y0, .inl (cI, 7, .inl (nIf (un R 3 (R 3 + 1)))))]) ∨ ((pd = true) ∧ zr = some (.int (nI n2)) ∧ zw = [(x0, .inr (4, [.ref a0, .ref xm, .ref e0, .int (bz pd), .ref b0, .ref g0, .ref s0, .ref w0, .int (nI rs), .ref y0])), (a0, .inr (2, [.int (nI n2), .int (nI m2), .int (nI sh2), .int (nI 0), .ref a1, .ref a2, .ref a3, .ref a4, .ref a5, .ref a6])), (a1, .inl (cI, 7, .inl (nIf ki2))), (a2, .inl (cI, 7, .inl (nIf op2))), (a3, .inl (cI, 7, .inl (nIf fa2))), (a4, .inl (cI, 6, .inl (nIf K2))), (a5, .inl (cI, 6, .inl (nIf G2))), (a6, .inl (cI, 6, .inl (nIf T2))), (e0, .inr (2, [.int (nI n2), .int (nI m2), .int (nI sh2), .int (nI aw2), .ref e1, .ref e2, .ref e3, .ref e4, .ref e5, .ref e6])), (e1, .inl (cI, 7, .inl (nIf ki2))), (e2, .inl (cI, 7, .inl (nIf op2))), (e3, .inl (cI, 7, .inl (nIf fa2))), (e4, .inl (cI, 6, .inl (nIf K2))), (e5, .inl (cI, 6, .inl (nIf G2))), (e6, .inl (cI, 6, .inl (nIf T2))), (g0, .inr (0, [.int (nI 0), .ref g1, .ref g2, .ref g3])), (y0, .inl (cI, 7, .inl (nIf R)))])) := by
  refine CT_of RX4 rfl (by decide +kernel) (Nat.le_of_ble_eq_true rfl) (fun E hnE zC zT => ?_)
  have hA : ∀ q, (ev_s E).heap.size ≤ q → ev_A E q := fun q h => by rw [zT.2]; exact Or.inr h
  obtain ⟨hn, hm, hsh, hki, hop, hfa, hK, hG, hT, vki, vop, vfa, vK, vG, vT⟩ := id hw
  obtain ⟨hn2, hm2, hsh2, hki2, hop2, hfa2, hK2, hG2, hT2, vki2, vop2, vfa2, vK2, vG2, vT2⟩ := id hw2
  show VV E 0 0 0 [(0, .ref x0)] [] [(x0, .inr (4, [.ref a0, .ref xm, .ref e0, .int (bz pd), .ref b0, .ref g0, .ref s0, .ref w0, .int (nI rs), .ref y0])), (a0, .inr (2, [.int (nI n), .int (nI m), .int (nI sh), .int (nI 0), .ref a1, .ref a2, .ref a3, .ref a4, .ref a5, .ref a6])), (a1, .inl (cI, 7, .inl (nIf ki))), (a2, .inl (cI, 7, .inl (nIf op))), (a3, .inl (cI, 7, .inl (nIf fa))), (a4, .inl (cI, 6, .inl (nIf K))), (a5, .inl (cI, 6, .inl (nIf G))), (a6, .inl (cI, 6, .inl (nIf T))), (e0, .inr (2, [.int (nI n2), .int (nI m2), .int (nI sh2), .int (nI aw2), .ref e1, .ref e2, .ref e3, .ref e4, .ref e5, .ref e6])), (e1, .inl (cI, 7, .inl (nIf ki2))), (e2, .inl (cI, 7, .inl (nIf op2))), (e3, .inl (cI, 7, .inl (nIf fa2))), (e4, .inl (cI, 6, .inl (nIf K2))), (e5, .inl (cI, 6, .inl (nIf G2))), (e6, .inl (cI, 6, .inl (nIf T2))), (g0, .inr (0, [.int (nI cs), .ref g1, .ref g2, .ref g3])), (y0, .inl (cI, 7, .inl (nIf R)))]
  refine v_al_n 1 zC dX4_restore_0 0 rfl ?_
  refine v_gf 4 0 zC dX4_restore_1 gf_X4_287 rfl rfl ?_
  refine v_ifb_ne 14 7 zC dX4_restore_4 (fun h_1 => ?_) (fun h_1 => ?_)
  ·
    refine v_al_n 15 zC dX4_restore_14 0 rfl ?_
    refine v_gf 18 0 zC dX4_restore_15 gf_X4_12 rfl rfl ?_
    refine v_al_n 19 zC dX4_restore_18 0 rfl ?_
    refine v_gf 22 0 zC dX4_restore_19 gf_X4_19 rfl rfl ?_
    refine v_cV (As := [.ref e0]) (st := []) 25 1 [1, 2, 3, 4, 5, 6, 7, 8, 9, 10, 11, 12, 13, 14] zC dX4_restore_22 hA (c_X2_become (ev_l E) (ev_D E) cI (a0 := e0) (a1 := e1) (a2 := e2) (a3 := e3) (a4 := e4) (a5 := e5) (a6 := e6) (n := n2) (m := m2) (sh := sh2) (aw := aw2) (ki := ki2) (op := op2) (fa := fa2) (K := K2) (G := G2) (T := T2) (c0 := a0) (c1 := a1) (c2 := a2) (c3 := a3) (c4 := a4) (c5 := a5) (c6 := a6) (n1 := n) (m1 := m) (sh1 := sh) (aw1 := 0) (ki1 := ki) (op1 := op) (fa1 := fa) (K1 := K) (G1 := G) (T1 := T) (hw := hw2) (hw1 := hw)) cf_X2_become lk_X4_65 rfl rfl rfl rfl rfl (by decide +kernel) (Nat.le_of_ble_eq_true rfl) (fun rv_2 wv_3 hp_4 hm_5 => ?_)
    clear hm_5
    obtain ⟨rfl, rfl⟩ := hp_4
    show VV E 0 0 25 [(0, .ref x0)] [] [(x0, .inr (4, [.ref a0, .ref xm, .ref e0, .int (bz pd), .ref b0, .ref g0, .ref s0, .ref w0, .int (nI rs), .ref y0])), (a0, .inr (2, [.int (nI n2), .int (nI m2), .int (nI sh2), .int (nI 0), .ref a1, .ref a2, .ref a3, .ref a4, .ref a5, .ref a6])), (a1, .inl (cI, 7, .inl (nIf ki2))), (a2, .inl (cI, 7, .inl (nIf op2))), (a3, .inl (cI, 7, .inl (nIf fa2))), (a4, .inl (cI, 6, .inl (nIf K2))), (a5, .inl (cI, 6, .inl (nIf G2))), (a6, .inl (cI, 6, .inl (nIf T2))), (e0, .inr (2, [.int (nI n2), .int (nI m2), .int (nI sh2), .int (nI aw2), .ref e1, .ref e2, .ref e3, .ref e4, .ref e5, .ref e6])), (e1, .inl (cI, 7, .inl (nIf ki2))), (e2, .inl (cI, 7, .inl (nIf op2))), (e3, .inl (cI, 7, .inl (nIf fa2))), (e4, .inl (cI, 6, .inl (nIf K2))), (e5, .inl (cI, 6, .inl (nIf G2))), (e6, .inl (cI, 6, .inl (nIf T2))), (g0, .inr (0, [.int (nI cs), .ref g1, .ref g2, .ref g3])), (y0, .inl (cI, 7, .inl (nIf R)))]
    refine v_al_n 26 zC dX4_restore_25 0 rfl ?_
    refine v_gf 29 0 zC dX4_restore_26 gf_X4_32 rfl rfl ?_
    refine v_cV (As := []) (st := []) 32 15 [15] zC dX4_restore_29 hA (c_X0_forget (ev_l E) (ev_D E) cI (g0 := g0) (g1 := g1) (g2 := g2) (g3 := g3) (cs := cs) ) cf_X0_forget lk_X4_76 rfl rfl rfl rfl rfl (by decide +kernel) (Nat.le_of_ble_eq_true rfl) (fun rv_6 wv_7 hp_8 hm_9 => ?_)
    clear hm_9
    obtain ⟨rfl, rfl⟩ := hp_8
    show VV E 0 0 32 [(0, .ref x0)] [] [(x0, .inr (4, [.ref a0, .ref xm, .ref e0, .int (bz pd), .ref b0, .ref g0, .ref s0, .ref w0, .int (nI rs), .ref y0])), (a0, .inr (2, [.int (nI n2), .int (nI m2), .int (nI sh2), .int (nI 0), .ref a1, .ref a2, .ref a3, .ref a4, .ref a5, .ref a6])), (a1, .inl (cI, 7, .inl (nIf ki2))), (a2, .inl (cI, 7, .inl (nIf op2))), (a3, .inl (cI, 7, .inl (nIf fa2))), (a4, .inl (cI, 6, .inl (nIf K2))), (a5, .inl (cI, 6, .inl (nIf G2))), (a6, .inl (cI, 6, .inl (nIf T2))), (e0, .inr (2, [.int (nI n2), .int (nI m2), .int (nI sh2), .int (nI aw2), .ref e1, .ref e2, .ref e3, .ref e4, .ref e5, .ref e6])), (e1, .inl (cI, 7, .inl (nIf ki2))), (e2, .inl (cI, 7, .inl (nIf op2))), (e3, .inl (cI, 7, .inl (nIf fa2))), (e4, .inl (cI, 6, .inl (nIf K2))), (e5, .inl (cI, 6, .inl (nIf G2))), (e6, .inl (cI, 6, .inl (nIf T2))), (g0, .inr (0, [.int (nI 0), .ref g1, .ref g2, .ref g3])), (y0, .inl (cI, 7, .inl (nIf R)))]
    refine v_al_n 33 zC dX4_restore_32 0 rfl ?_
    refine v_gf 36 0 zC dX4_restore_33 gf_X4_12 rfl rfl ?_
    refine v_gf 39 1 zC dX4_restore_36 gf_X4_114 rfl rfl ?_
    refine v_iret zC zT dX4_restore_39  ?_
    first | exact Or.inl ⟨by assumption, rfl, rfl⟩ | exact Or.inr ⟨by assumption, rfl, rfl⟩
  ·
    refine v_al_n 8 zC dX4_restore_7 0 rfl ?_
    refine v_bp (v := (-3)) 10 zC dX4_restore_8 (by decide +kernel) ?_
    refine v_cV (As := [.int (-3)]) (st := []) 13 0 [0, 16] zC dX4_restore_10 hA (c_X4_refuse (ev_l E) (ev_D E) cI (x0 := x0) (xn := a0) (xm := xm) (xp := e0) (b0 := b0) (g0 := g0) (s0 := s0) (w0 := w0) (y0 := y0) (pd := pd) (rs := rs) (R := R) (v := (-3)) (j := 3) (hv := (by first | omega | assumption | rfl | (simp only []; omega) | decide)) (h1 := (by first | omega | assumption | rfl | (simp only []; omega) | decide)) (h6 := (by first | omega | assumption | rfl | (simp only []; omega) | decide))) cf_X4_refuse lk_X4_50 rfl rfl rfl rfl rfl (by decide +kernel) (Nat.le_of_ble_eq_true rfl) (fun rv_10 wv_11 hp_12 hm_13 => ?_)
    clear hm_13
    obtain ⟨rfl, rfl⟩ := hp_12
    show VV E 0 0 13 [(0, .ref x0)] [.int (-3)] [(x0, .inr (4, [.ref a0, .ref xm, .ref e0, .int (bz pd), .ref b0, .ref g0, .ref s0, .ref w0, .int (nI rs), .ref y0])), (a0, .inr (2, [.int (nI n), .int (nI m), .int (nI sh), .int (nI 0), .ref a1, .ref a2, .ref a3, .ref a4, .ref a5, .ref a6])), (a1, .inl (cI, 7, .inl (nIf ki))), (a2, .inl (cI, 7, .inl (nIf op))), (a3, .inl (cI, 7, .inl (nIf fa))), (a4, .inl (cI, 6, .inl (nIf K))), (a5, .inl (cI, 6, .inl (nIf G))), (a6, .inl (cI, 6, .inl (nIf T))), (e0, .inr (2, [.int (nI n2), .int (nI m2), .int (nI sh2), .int (nI aw2), .ref e1, .ref e2, .ref e3, .ref e4, .ref e5, .ref e6])), (e1, .inl (cI, 7, .inl (nIf ki2))), (e2, .inl (cI, 7, .inl (nIf op2))), (e3, .inl (cI, 7, .inl (nIf fa2))), (e4, .inl (cI, 6, .inl (nIf K2))), (e5, .inl (cI, 6, .inl (nIf G2))), (e6, .inl (cI, 6, .inl (nIf T2))), (g0, .inr (0, [.int (nI cs), .ref g1, .ref g2, .ref g3])), (y0, .inl (cI, 7, .inl (nIf (un R 3 (R 3 + 1)))))]
    refine v_iret zC zT dX4_restore_13  ?_
    first | exact Or.inl ⟨by assumption, rfl, rfl⟩ | exact Or.inr ⟨by assumption, rfl, rfl⟩
set_option maxRecDepth 100000 in
set_option maxHeartbeats 4000000 in
theorem c_X4_judge (l : Launch) (D : va_G) (cI : ClassId) (x0 xm xp g0 s0 w0 y0 : Nat) (pd : Bool) (rs : Nat) (b0 b1 b2 b3 : Nat) (P Q : Nat) (mf : Nat → Nat) (M : Nat → Option Nat) (kn : Nat → Nat) (a0 a1 a2 a3 a4 a5 a6 : Nat) (n m sh : Nat) (ki op fa K G T : Nat → Nat) (rw : Nat → Nat) (hw : FW n m sh ki op fa K G T) (hB : ∀ z, kn z < 1024) (hr : rs ≤ 24) (hrw : ∀ z, rw z < 100) (hM : ∀ z v, M z = some v → v < 7) : CT l yX4_judge cX4_judge 3 (some .int) { frames := 4, cells := 0, slots := 0, locals := 99 } D cI [.ref x0] [(x0, .inr (4, [.ref a0, .ref xm, .ref xp, .int (bz pd), .ref b0, .ref g0, .ref s0, .ref w0, .int (nI rs), .ref y0])), (a0, .inr (2, [.int (nI n), .int (nI m), .int (nI sh), .int (nI 0), .ref a1, .ref a2, .ref a3, .ref a4, .ref a5, .ref a6])), (a1, .inl (cI, 7, .inl (nIf ki))), (a2, .inl (cI, 7, .inl (nIf op))), (a3, .inl (cI, 7, .inl (nIf fa))), (a4, .inl (cI, 6, .inl (nIf K))), (a5, .inl (cI, 6, .inl (nIf G))), (a6, .inl (cI, 6, .inl (nIf T))), (b0, .inr (1, [.int (nI P), .int (nI Q), .ref b1, .ref b2, .ref b3])), (b1, .inl (cI, 6, .inl (nIf mf))), (b2, .inl (cI, 144, .inl (mIf M))), (b3, .inl (cI, 175, .inl (nIf kn))), (w0, .inl (cI, 24, .inl (nIf rw)))] (fun zr zw => (∃ P1 : Nat, ∃ Q1 : Nat, ∃ mg : Nat → Nat, ∃ X : Nat → Nat, ∃ Y : Nat → Option Nat, (∀ z, X z < 1024) ∧ (∀ z v, Y z = some v → v < 7) ∧ zr = some (.int (mI (JUD (n, m, sh, 0, ki, op, fa, K, G, T) rw rs))) ∧ zw = [(x0, .inr (4, [.ref a0, .ref xm, .ref xp, .int (bz pd), .ref b0, .ref g0, .ref s0, .ref w0, .int (nI 0), .ref y0])), (a0, .inr (2, [.int (nI n), .int (nI m), .int (nI sh), .int (nI 0), .ref a1, .ref a2, .ref a3, .ref a4, .ref a5, .ref a6])), (a1, .inl (cI, 7, .inl (nIf ki))), (a2, .inl (cI, 7, .inl (nIf op))), (a3, .inl (cI, 7, .inl (nIf fa))), (a4, .inl (cI, 6, .inl (nIf K))), (a5, .inl (cI, 6, .inl (nIf G))), (a6, .inl (cI, 6, .inl (nIf T))), (b0, .inr (1, [.int (nI P1), .int (nI Q1), .ref b1, .ref b2, .ref b3])), (b1, .inl (cI, 6, .inl (nIf mg))), (b2, .inl (cI, 144, .inl (mIf Y))), (b3, .inl (cI, 175, .inl (nIf X))), (w0, .inl (cI, 24, .inl (nIf rw)))])) := by
  refine CT_of RX4 rfl (by decide +kernel) (Nat.le_of_ble_eq_true rfl) (fun E hnE zC zT => ?_)
  have hA : ∀ q, (ev_s E).heap.size ≤ q → ev_A E q := fun q h => by rw [zT.2]; exact Or.inr h
  obtain ⟨hn, hm, hsh, hki, hop, hfa, hK, hG, hT, vki, vop, vfa, vK, vG, vT⟩ := id hw
  show VV E 0 0 0 [(0, .ref x0)] [] [(x0, .inr (4, [.ref a0, .ref xm, .ref xp, .int (bz pd), .ref b0, .ref g0, .ref s0, .ref w0, .int (nI rs), .ref y0])), (a0, .inr (2, [.int (nI n), .int (nI m), .int (nI sh), .int (nI 0), .ref a1, .ref a2, .ref a3, .ref a4, .ref a5, .ref a6])), (a1, .inl (cI, 7, .inl (nIf ki))), (a2, .inl (cI, 7, .inl (nIf op))), (a3, .inl (cI, 7, .inl (nIf fa))), (a4, .inl (cI, 6, .inl (nIf K))), (a5, .inl (cI, 6, .inl (nIf G))), (a6, .inl (cI, 6, .inl (nIf T))), (b0, .inr (1, [.int (nI P), .int (nI Q), .ref b1, .ref b2, .ref b3])), (b1, .inl (cI, 6, .inl (nIf mf))), (b2, .inl (cI, 144, .inl (mIf M))), (b3, .inl (cI, 175, .inl (nIf kn))), (w0, .inl (cI, 24, .inl (nIf rw)))]
  refine v_al_n 1 zC dX4_judge_0 0 rfl ?_
  refine v_gf 4 0 zC dX4_judge_1 gf_X4_25 rfl rfl ?_
  refine v_al_n 5 zC dX4_judge_4 0 rfl ?_
  refine v_gf 8 0 zC dX4_judge_5 gf_X4_12 rfl rfl ?_
  refine v_cV (As := [.ref a0]) (st := []) 11 8 [8, 9, 10, 11, 1, 2, 3, 4, 5, 6, 7] zC dX4_judge_8 hA (c_X1_live (ev_l E) (ev_D E) cI (b0 := b0) (b1 := b1) (b2 := b2) (b3 := b3) (P := P) (Q := Q) (mf := mf) (M := M) (kn := kn) (a0 := a0) (a1 := a1) (a2 := a2) (a3 := a3) (a4 := a4) (a5 := a5) (a6 := a6) (n := n) (m := m) (sh := sh) (aw := 0) (ki := ki) (op := op) (fa := fa) (K := K) (G := G) (T := T) (hn := (by first | omega | assumption | rfl | (simp only []; omega) | decide)) (hm := (by first | omega | assumption | rfl | (simp only []; omega) | decide)) (hK := (by first | omega | assumption | rfl | (simp only []; omega) | decide)) (hG := (by first | omega | assumption | rfl | (simp only []; omega) | decide)) (hT := (by first | omega | assumption | rfl | (simp only []; omega) | decide)) (hA2 := (by first | omega | assumption | rfl | (simp only []; omega) | decide)) (hB := (by first | omega | assumption | rfl | (simp only []; omega) | decide)) (hM := (by first | omega | assumption | rfl | (simp only []; omega) | decide))) cf_X1_live lk_X4_158 rfl rfl rfl rfl rfl (by decide +kernel) (Nat.le_of_ble_eq_true rfl) (fun rv_1 wv_2 hp_3 hm_4 => ?_)
  clear hm_4
  obtain ⟨mg_5, X_6, Y_7, hD_8, rfl, rfl⟩ := hp_3
  show VV E 0 0 11 [(0, .ref x0)] [] [(x0, .inr (4, [.ref a0, .ref xm, .ref xp, .int (bz pd), .ref b0, .ref g0, .ref s0, .ref w0, .int (nI rs), .ref y0])), (a0, .inr (2, [.int (nI n), .int (nI m), .int (nI sh), .int (nI 0), .ref a1, .ref a2, .ref a3, .ref a4, .ref a5, .ref a6])), (a1, .inl (cI, 7, .inl (nIf ki))), (a2, .inl (cI, 7, .inl (nIf op))), (a3, .inl (cI, 7, .inl (nIf fa))), (a4, .inl (cI, 6, .inl (nIf K))), (a5, .inl (cI, 6, .inl (nIf G))), (a6, .inl (cI, 6, .inl (nIf T))), (b0, .inr (1, [.int (nI n), .int (nI m), .ref b1, .ref b2, .ref b3])), (b1, .inl (cI, 6, .inl (nIf mg_5))), (b2, .inl (cI, 144, .inl (mIf Y_7))), (b3, .inl (cI, 175, .inl (nIf X_6))), (w0, .inl (cI, 24, .inl (nIf rw)))]
  have hD9 := hD_8
  refine v_bp (v := (-9)) 13 zC dX4_judge_11 (by decide +kernel) ?_
  refine v_is_n (lv2 := [(1, .int (-9)), (0, .ref x0)]) 14 zC dX4_judge_13 (by rw [hnE]; decide) rfl ?_
  refine v_ic (v := (nI 0)) 15 zC dX4_judge_14 (by decide +kernel) ?_
  refine v_is_n (lv2 := [(2, .int (nI 0)), (1, .int (-9)), (0, .ref x0)]) 16 zC dX4_judge_15 (by rw [hnE]; decide) rfl ?_
  have lp16 : ∀ (mz : Nat) (B : Option Nat) (h : Nat), (B = fs (fun h => decide (rw h ≠ pcn (SPK (n, m, sh, 0, ki, op, fa, K, G, T) h))) h) → (h ≤ rs) → rs - h = mz → VV E 0 0 16 [(2, .int (nI h)), (1, .int (mI B)), (0, .ref x0)] [] [(x0, .inr (4, [.ref a0, .ref xm, .ref xp, .int (bz pd), .ref b0, .ref g0, .ref s0, .ref w0, .int (nI rs), .ref y0])), (a0, .inr (2, [.int (nI n), .int (nI m), .int (nI sh), .int (nI 0), .ref a1, .ref a2, .ref a3, .ref a4, .ref a5, .ref a6])), (a1, .inl (cI, 7, .inl (nIf ki))), (a2, .inl (cI, 7, .inl (nIf op))), (a3, .inl (cI, 7, .inl (nIf fa))), (a4, .inl (cI, 6, .inl (nIf K))), (a5, .inl (cI, 6, .inl (nIf G))), (a6, .inl (cI, 6, .inl (nIf T))), (b0, .inr (1, [.int (nI n), .int (nI m), .ref b1, .ref b2, .ref b3])), (b1, .inl (cI, 6, .inl (nIf mg_5))), (b2, .inl (cI, 144, .inl (mIf Y_7))), (b3, .inl (cI, 175, .inl (nIf X_6))), (w0, .inl (cI, 24, .inl (nIf rw)))] := by
    intro mz
    induction mz using Nat.strongRecOn with
    | _ mz ih16 =>
    intro B h hBe hh hm16
    refine v_il_n 17 zC dX4_judge_16 0 rfl ?_
    refine v_al_n 18 zC dX4_judge_17 2 rfl ?_
    refine v_gf 21 0 zC dX4_judge_18 gf_X4_221 rfl rfl ?_
    refine v_icmpn_ge 56 24 zC dX4_judge_21 (fun h_9 => ?_) (fun h_9 => ?_)
    ·
      have hend9 := fs_end hBe hh (Or.inl h_9)
      refine v_al_n 57 zC dX4_judge_56 2 rfl ?_
      refine v_ic (v := (nI 0)) 58 zC dX4_judge_57 (by decide +kernel) ?_
      refine v_pf (ws2 := [(x0, .inr (4, [.ref a0, .ref xm, .ref xp, .int (bz pd), .ref b0, .ref g0, .ref s0, .ref w0, .int (nI 0), .ref y0])), (a0, .inr (2, [.int (nI n), .int (nI m), .int (nI sh), .int (nI 0), .ref a1, .ref a2, .ref a3, .ref a4, .ref a5, .ref a6])), (a1, .inl (cI, 7, .inl (nIf ki))), (a2, .inl (cI, 7, .inl (nIf op))), (a3, .inl (cI, 7, .inl (nIf fa))), (a4, .inl (cI, 6, .inl (nIf K))), (a5, .inl (cI, 6, .inl (nIf G))), (a6, .inl (cI, 6, .inl (nIf T))), (b0, .inr (1, [.int (nI n), .int (nI m), .ref b1, .ref b2, .ref b3])), (b1, .inl (cI, 6, .inl (nIf mg_5))), (b2, .inl (cI, 144, .inl (mIf Y_7))), (b3, .inl (cI, 175, .inl (nIf X_6))), (w0, .inl (cI, 24, .inl (nIf rw)))]) 61 0 zC dX4_judge_58 pf_X4_221 rfl (Nat.le_of_ble_eq_true rfl) rfl rfl rfl ?_
      refine v_il_n 62 zC dX4_judge_61 1 rfl ?_
      refine v_iret zC zT dX4_judge_62  ?_
      exact ⟨_, _, _, _, _, hD9.2.2.1, hD9.2.2.2, by rw [hend9]; rfl, rfl⟩
    ·
      refine v_il_n 25 zC dX4_judge_24 1 rfl ?_
      refine v_ifo_ge 56 28 zC dX4_judge_25 (fun v e => Nat.lt_trans (fs_lt (hBe ▸ e)).1 (by omega)) (fun h_10 => ?_) (fun h_10 => ?_)
      ·
        have hend9 := fs_end hBe hh (Or.inr h_10)
        refine v_al_n 57 zC dX4_judge_56 2 rfl ?_
        refine v_ic (v := (nI 0)) 58 zC dX4_judge_57 (by decide +kernel) ?_
        refine v_pf (ws2 := [(x0, .inr (4, [.ref a0, .ref xm, .ref xp, .int (bz pd), .ref b0, .ref g0, .ref s0, .ref w0, .int (nI 0), .ref y0])), (a0, .inr (2, [.int (nI n), .int (nI m), .int (nI sh), .int (nI 0), .ref a1, .ref a2, .ref a3, .ref a4, .ref a5, .ref a6])), (a1, .inl (cI, 7, .inl (nIf ki))), (a2, .inl (cI, 7, .inl (nIf op))), (a3, .inl (cI, 7, .inl (nIf fa))), (a4, .inl (cI, 6, .inl (nIf K))), (a5, .inl (cI, 6, .inl (nIf G))), (a6, .inl (cI, 6, .inl (nIf T))), (b0, .inr (1, [.int (nI n), .int (nI m), .ref b1, .ref b2, .ref b3])), (b1, .inl (cI, 6, .inl (nIf mg_5))), (b2, .inl (cI, 144, .inl (mIf Y_7))), (b3, .inl (cI, 175, .inl (nIf X_6))), (w0, .inl (cI, 24, .inl (nIf rw)))]) 61 0 zC dX4_judge_58 pf_X4_221 rfl (Nat.le_of_ble_eq_true rfl) rfl rfl rfl ?_
        refine v_il_n 62 zC dX4_judge_61 1 rfl ?_
        refine v_iret zC zT dX4_judge_62  ?_
        exact ⟨_, _, _, _, _, hD9.2.2.1, hD9.2.2.2, by rw [hend9]; rfl, rfl⟩
      ·
        refine v_al_n 29 zC dX4_judge_28 2 rfl ?_
        refine v_gf 32 0 zC dX4_judge_29 gf_X4_43 rfl rfl ?_
        refine v_il_n 33 zC dX4_judge_32 0 rfl ?_
        refine v_ialn (v := (nI (rw h))) 34 12 zC dX4_judge_33 rfl (by omega) rfl ?_
        have hb_11 := hrw h
        refine v_al_n 35 zC dX4_judge_34 2 rfl ?_
        refine v_gf 38 0 zC dX4_judge_35 gf_X4_25 rfl rfl ?_
        refine v_il_n 39 zC dX4_judge_38 0 rfl ?_
        refine v_cV (As := [.int (nI h)]) (st := [.int (nI (rw h))]) 42 8 [8, 10] zC dX4_judge_39 hA (c_X1_speakers (ev_l E) (ev_D E) cI (b0 := b0) (b1 := b1) (b2 := b2) (b3 := b3) (P := n) (Q := m) (M := Y_7) (h := h) (hQ := (by first | omega | assumption | rfl | (simp only []; omega) | decide)) (hh := (by first | omega | assumption | rfl | (simp only []; omega) | decide)) (hM := hD9.2.2.2)) cf_X1_speakers lk_X4_175 rfl rfl rfl rfl rfl (by decide +kernel) (Nat.le_of_ble_eq_true rfl) (fun rv_12 wv_13 hp_14 hm_15 => ?_)
        clear hm_15
        obtain ⟨rfl, rfl⟩ := hp_14
        show VV E 0 0 42 [(2, .int (nI h)), (1, .int (mI B)), (0, .ref x0)] [.int (nI (mkn (fun d => (Y_7 (h * 6 + d)).isSome) m)), .int (nI (rw h))] [(x0, .inr (4, [.ref a0, .ref xm, .ref xp, .int (bz pd), .ref b0, .ref g0, .ref s0, .ref w0, .int (nI rs), .ref y0])), (a0, .inr (2, [.int (nI n), .int (nI m), .int (nI sh), .int (nI 0), .ref a1, .ref a2, .ref a3, .ref a4, .ref a5, .ref a6])), (a1, .inl (cI, 7, .inl (nIf ki))), (a2, .inl (cI, 7, .inl (nIf op))), (a3, .inl (cI, 7, .inl (nIf fa))), (a4, .inl (cI, 6, .inl (nIf K))), (a5, .inl (cI, 6, .inl (nIf G))), (a6, .inl (cI, 6, .inl (nIf T))), (b0, .inr (1, [.int (nI n), .int (nI m), .ref b1, .ref b2, .ref b3])), (b1, .inl (cI, 6, .inl (nIf mg_5))), (b2, .inl (cI, 144, .inl (mIf Y_7))), (b3, .inl (cI, 175, .inl (nIf X_6))), (w0, .inl (cI, 24, .inl (nIf rw)))]
        refine v_cS (As := [.int (nI (mkn (fun d => (Y_7 (h * 6 + d)).isSome) m))]) (st := [.int (nI (rw h))]) 45 [] zC dX4_judge_42 hA (c_J6_bitCount_0f7a4 (ev_l E) (ev_D E) cI (x := (mkn (fun d => (Y_7 (h * 6 + d)).isSome) m)) (hx := (Nat.lt_of_lt_of_le (mkn_lt _ _) (Nat.pow_le_pow_right (by decide) (by omega))))) cf_J6_bitCount_0f7a4 lk_X4_178 rfl rfl rfl (by decide +kernel) (Nat.le_of_ble_eq_true rfl) (fun rv_16 wv_17 hp_18 hm_19 => ?_)
        clear hm_19
        obtain ⟨rfl, rfl⟩ := hp_18
        show VV E 0 0 45 [(2, .int (nI h)), (1, .int (mI B)), (0, .ref x0)] [.int (nI (pcn (mkn (fun d => (Y_7 (h * 6 + d)).isSome) m))), .int (nI (rw h))] [(x0, .inr (4, [.ref a0, .ref xm, .ref xp, .int (bz pd), .ref b0, .ref g0, .ref s0, .ref w0, .int (nI rs), .ref y0])), (a0, .inr (2, [.int (nI n), .int (nI m), .int (nI sh), .int (nI 0), .ref a1, .ref a2, .ref a3, .ref a4, .ref a5, .ref a6])), (a1, .inl (cI, 7, .inl (nIf ki))), (a2, .inl (cI, 7, .inl (nIf op))), (a3, .inl (cI, 7, .inl (nIf fa))), (a4, .inl (cI, 6, .inl (nIf K))), (a5, .inl (cI, 6, .inl (nIf G))), (a6, .inl (cI, 6, .inl (nIf T))), (b0, .inr (1, [.int (nI n), .int (nI m), .ref b1, .ref b2, .ref b3])), (b1, .inl (cI, 6, .inl (nIf mg_5))), (b2, .inl (cI, 144, .inl (mIf Y_7))), (b3, .inl (cI, 175, .inl (nIf X_6))), (w0, .inl (cI, 24, .inl (nIf rw)))]
        have hp9 : (pcn (mkn (fun d => (Y_7 (h * 6 + d)).isSome) m)) ≤ m := pcn_k _ _ (mkn_lt _ _)
        refine v_icmpn_eq 50 48 zC dX4_judge_45 (fun h_20 => ?_) (fun h_20 => ?_)
        ·
          have hs9 := h_20
          rw [dk_spk hD9 (by omega)] at hs9
          refine v_inc (v := (nI (h + 1))) (lv2 := [(2, .int (nI (h + 1))), (1, .int (mI B)), (0, .ref x0)]) 53 zC dX4_judge_50 (j := 0) rfl (nI_add _ 1) (by rw [hnE]; decide) rfl ?_
          refine v_goto 16 zC dX4_judge_53 ?_
          refine v_lvs (lv2 := [(2, .int (nI (h + 1))), (1, .int (mI B)), (0, .ref x0)]) [0, 1, 2] rfl ?_
          exact ih16 _ (by omega) B (h + 1) (by first | exact fs_u hBe (by assumption) (decide_eq_true hs9) | exact fs_v hBe (decide_eq_false (fun z => z hs9))) (by first | omega | assumption | rfl | (simp only []; omega) | decide) rfl
        ·
          have hs9 := h_20
          rw [dk_spk hD9 (by omega)] at hs9
          refine v_il_n 49 zC dX4_judge_48 0 rfl ?_
          refine v_is_n (lv2 := [(1, .int (nI h)), (2, .int (nI h)), (0, .ref x0)]) 50 zC dX4_judge_49 (by rw [hnE]; decide) rfl ?_
          refine v_inc (v := (nI (h + 1))) (lv2 := [(2, .int (nI (h + 1))), (1, .int (nI h)), (0, .ref x0)]) 53 zC dX4_judge_50 (j := 1) rfl (nI_add _ 1) (by rw [hnE]; decide) rfl ?_
          refine v_goto 16 zC dX4_judge_53 ?_
          refine v_lvs (lv2 := [(2, .int (nI (h + 1))), (1, .int (mI (some h))), (0, .ref x0)]) [0, 1, 2] rfl ?_
          exact ih16 _ (by omega) (some h) (h + 1) (by first | exact fs_u hBe (by assumption) (decide_eq_true hs9) | exact fs_v hBe (decide_eq_false (fun z => z hs9))) (by first | omega | assumption | rfl | (simp only []; omega) | decide) rfl
  refine v_lvs (lv2 := [(2, .int (nI 0)), (1, .int (mI none)), (0, .ref x0)]) [0, 1, 2] rfl ?_
  exact lp16 _ none 0 (by first | omega | assumption | rfl | (simp only []; omega) | decide) (by first | omega | assumption | rfl | (simp only []; omega) | decide) rfl
