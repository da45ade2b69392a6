/-! the reference's changes -/
/-- a turn kept: the turns behind, and how many -/
def KT (s : SG) (t : Nat) (u : Nat → Nat) (t1 : Nat) (u1 : Nat → Nat) : Prop := (t < 8 ∧ t1 = t + 1 ∧ (∀ z, z < 48 * t → u1 z = u z) ∧ ∀ z, z < 48 → u1 (48 * t + z) = ENC s z) ∨ (t = 8 ∧ t1 = 8 ∧ (∀ z, z < 336 → u1 z = u (z + 48)) ∧ ∀ z, z < 48 → u1 (336 + z) = ENC s z)
theorem shf_x {sh j : Nat} : un (shF sh) j (1 - shF sh j) = shF (sh ^^^ 2 ^ j) := by
  funext z
  by_cases c : z = j
  · subst c
    rw [un_s]
    unfold shF
    rw [Nat.testBit_xor, Nat.testBit_two_pow, decide_eq_true (Eq.refl z)]
    cases Nat.testBit sh z <;> rfl
  · rw [un_n c]
    unfold shF
    rw [Nat.testBit_xor, Nat.testBit_two_pow, decide_eq_false (fun e => c e.symm), Bool.xor_false]
theorem shf_b {sh j : Nat} : nI (shF sh j) = bz (Nat.testBit sh j) := by
  unfold shF
  cases Nat.testBit sh j <;> rfl
theorem b_not (B : Bool) : nI 1 - bz B = bz (!B) := by cases B <;> decide +kernel
theorem shf_n {sh n : Nat} (h : sh < 2 ^ n) : un (shF sh) n 0 = shF sh := by
  funext z
  by_cases c : z = n
  · subst c
    rw [un_s, shf_z h (Nat.le_refl _)]
  · rw [un_n c]
theorem in_11 (w : Int32) : (w < nI 11 ∧ inB (Int32.toInt64 w) (lN 11) (lN 16) = false) ∨ (nI 16 < w ∧ inB (Int32.toInt64 w) (lN 11) (lN 16) = false) ∨ (∃ j : Nat, w = nI j ∧ 11 ≤ j ∧ j ≤ 16 ∧ inB (Int32.toInt64 w) (lN 11) (lN 16) = true) := by
  have e : inB (Int32.toInt64 w) (lN 11) (lN 16) = decide (nI 11 ≤ w ∧ w ≤ nI 16) := by
    rw [l2i_0 (show 11 < 2 ^ 31 by decide), l2i_0 (show 16 < 2 ^ 31 by decide)]
    unfold inB
    exact decide_eq_decide.mpr (and_congr i2l_le i2l_le)
  rw [e]
  by_cases c1 : w < nI 11
  · exact Or.inl ⟨c1, decide_eq_false (fun q => Int32.not_lt.mpr q.1 c1)⟩
  · by_cases c2 : nI 16 < w
    · exact Or.inr (Or.inl ⟨c2, decide_eq_false (fun q => Int32.not_lt.mpr q.2 c2)⟩)
    · obtain ⟨j, h1, h2, h3⟩ := ofR2 c1 c2 (by decide) (by decide)
      exact Or.inr (Or.inr ⟨j, h3, h1, h2, decide_eq_true ⟨Int32.not_lt.mp c1, Int32.not_lt.mp c2⟩⟩)

set_option maxRecDepth 100000 in
set_option maxHeartbeats 4000000 in
theorem c_X5_feed (l : Launch) (D : va_G) (cI : ClassId) (r0 k1 k2 k3 k4 k6 k7 k8 k10 k12 k13 k14 k15 k16 k21 k22 k23 k24 k25 k30 k31 k33 : Nat) (n m ls ap sq pl tz rs : Nat) (bd pd tk : Bool) (kv : Value) (sd : Int32) (sg R : Nat → Nat) (v : Int32) (hl : ls ≤ 96) : CT l yX5_feed cX5_feed 2 (some .int) { frames := 1, cells := 0, slots := 0, locals := 21 } D cI [.ref r0, .int v] [(r0, .inr (5, [.int (nI n), .ref k1, .ref k2, .ref k3, .ref k4, .int (nI m), .ref k6, .ref k7, .ref k8, .int (nI 0), .ref k10, .int (nI 0), .ref k12, .ref k13, .ref k14, .ref k15, .ref k16, .int (nI ls), .int (nI ap), .int (bz bd), .int (nI sq), .ref k21, .ref k22, .ref k23, .ref k24, .ref k25, .int (bz pd), .int (nI pl), .int (bz tk), kv, .ref k30, .ref k31, .int (nI tz), .ref k33, .int (nI rs), .int sd])), (k16, .inl (cI, 96, .inl (nIf sg))), (k10, .inl (cI, 7, .inl (nIf R)))] (fun zr zw => ((v < 0) ∧ zr = some (.int (-4)) ∧ zw = [(r0, .inr (5, [.int (nI n), .ref k1, .ref k2, .ref k3, .ref k4, .int (nI m), .ref k6, .ref k7, .ref k8, .int (nI 0), .ref k10, .int (nI 0), .ref k12, .ref k13, .ref k14, .ref k15, .ref k16, .int (nI ls), .int (nI ap), .int (bz bd), .int (nI sq), .ref k21, .ref k22, .ref k23, .ref k24, .ref k25, .int (bz pd), .int (nI pl), .int (bz tk), kv, .ref k30, .ref k31, .int (nI tz), .ref k33, .int (nI rs), .int sd])), (k16, .inl (cI, 96, .inl (nIf sg))), (k10, .inl (cI, 7, .inl (nIf (un R 4 (R 4 + 1)))))]) ∨ ((¬ v < 0) ∧ (IX 256 v = none ∨ ls = 96) ∧ zr = some (.int (-6)) ∧ zw = [(r0, .inr (5, [.int (nI n), .ref k1, .ref k2, .ref k3, .ref k4, .int (nI m), .ref k6, .ref k7, .ref k8, .int (nI 0), .ref k10, .int (nI 0), .ref k12, .ref k13, .ref k14, .ref k15, .ref k16, .int (nI ls), .int (nI ap), .int (bz bd), .int (nI sq), .ref k21, .ref k22, .ref k23, .ref k24, .ref k25, .int (bz pd), .int (nI pl), .int (bz tk), kv, .ref k30, .ref k31, .int (nI tz), .ref k33, .int (nI rs), .int sd])), (k16, .inl (cI, 96, .inl (nIf sg))), (k10, .inl (cI, 7, .inl (nIf (un R 6 (R 6 + 1)))))]) ∨ (∃ k : Nat, (IX 256 v = some k) ∧ (ls < 96) ∧ zr = some (.int (nI (ls + 1))) ∧ zw = [(r0, .inr (5, [.int (nI n), .ref k1, .ref k2, .ref k3, .ref k4, .int (nI m), .ref k6, .ref k7, .ref k8, .int (nI 0), .ref k10, .int (nI 0), .ref k12, .ref k13, .ref k14, .ref k15, .ref k16, .int (nI (ls + 1)), .int (nI ap), .int (bz bd), .int (nI sq), .ref k21, .ref k22, .ref k23, .ref k24, .ref k25, .int (bz pd), .int (nI pl), .int (bz tk), kv, .ref k30, .ref k31, .int (nI tz), .ref k33, .int (nI rs), .int sd])), (k16, .inl (cI, 96, .inl (nIf (un sg ls k)))), (k10, .inl (cI, 7, .inl (nIf R)))])) := by
  refine CT_of RX5 rfl (by decide +kernel) (Nat.le_of_ble_eq_true rfl) (fun E hnE zC zT => ?_)
  have hA : ∀ q, (ev_s E).heap.size ≤ q → ev_A E q := fun q h => by rw [zT.2]; exact Or.inr h
  show VV E 0 0 0 [(0, .ref r0), (1, .int v)] [] [(r0, .inr (5, [.int (nI n), .ref k1, .ref k2, .ref k3, .ref k4, .int (nI m), .ref k6, .ref k7, .ref k8, .int (nI 0), .ref k10, .int (nI 0), .ref k12, .ref k13, .ref k14, .ref k15, .ref k16, .int (nI ls), .int (nI ap), .int (bz bd), .int (nI sq), .ref k21, .ref k22, .ref k23, .ref k24, .ref k25, .int (bz pd), .int (nI pl), .int (bz tk), kv, .ref k30, .ref k31, .int (nI tz), .ref k33, .int (nI rs), .int sd])), (k16, .inl (cI, 96, .inl (nIf sg))), (k10, .inl (cI, 7, .inl (nIf R)))]
  refine v_al_n 1 zC dX5_feed_0 0 rfl ?_
  refine v_ic (v := (nI 0)) 2 zC dX5_feed_1 (by decide +kernel) ?_
  refine v_pf (ws2 := [(r0, .inr (5, [.int (nI n), .ref k1, .ref k2, .ref k3, .ref k4, .int (nI m), .ref k6, .ref k7, .ref k8, .int (nI 0), .ref k10, .int (nI 0), .ref k12, .ref k13, .ref k14, .ref k15, .ref k16, .int (nI ls), .int (nI ap), .int (bz bd), .int (nI sq), .ref k21, .ref k22, .ref k23, .ref k24, .ref k25, .int (bz pd), .int (nI pl), .int (bz tk), kv, .ref k30, .ref k31, .int (nI tz), .ref k33, .int (nI rs), .int sd])), (k16, .inl (cI, 96, .inl (nIf sg))), (k10, .inl (cI, 7, .inl (nIf R)))]) 5 0 zC dX5_feed_2 pf_X5_73 rfl (Nat.le_of_ble_eq_true rfl) rfl rfl rfl ?_
  refine v_il_n 6 zC dX5_feed_5 1 rfl ?_
  refine v_if_ge 16 9 zC dX5_feed_6 (fun h_1 => ?_) (fun h_1 => ?_)
  ·
    have hge : ¬ v < 0 := Int32.not_lt.mpr h_1
    refine v_il_n 17 zC dX5_feed_16 1 rfl ?_
    refine v_sp (v := (nI 255)) 20 zC dX5_feed_17 (by decide +kernel) ?_
    refine v_icmp_gt 32 23 zC dX5_feed_20 (fun h_2 => ?_) (fun h_2 => ?_)
    ·
      have hbi9 : IX 256 v = none := IX_hi h_2 (by decide)
      refine v_al_n 33 zC dX5_feed_32 0 rfl ?_
      refine v_bp (v := (-6)) 35 zC dX5_feed_33 (by decide +kernel) ?_
      refine v_cV (As := [.int (-6)]) (st := []) 38 0 [0, 2] zC dX5_feed_35 hA (c_X5_refuse (ev_l E) (ev_D E) cI (r0 := r0) (k1 := k1) (k2 := k2) (k3 := k3) (k4 := k4) (k6 := k6) (k7 := k7) (k8 := k8) (k10 := k10) (k12 := k12) (k13 := k13) (k14 := k14) (k15 := k15) (k16 := k16) (k21 := k21) (k22 := k22) (k23 := k23) (k24 := k24) (k25 := k25) (k30 := k30) (k31 := k31) (k33 := k33) (n := n) (m := m) (aw := 0) (ls := ls) (ap := ap) (sq := sq) (pl := pl) (tz := tz) (rs := rs) (bd := bd) (pd := pd) (tk := tk) (kv := kv) (sd := sd) (R := R) (v := (-6)) (j := 6) (hv := (by first | omega | assumption | rfl | (simp only []; omega) | decide)) (h1 := (by first | omega | assumption | rfl | (simp only []; omega) | decide)) (h6 := (by first | omega | assumption | rfl | (simp only []; omega) | decide))) cf_X5_refuse lk_X5_129 rfl rfl rfl rfl rfl (by decide +kernel) (Nat.le_of_ble_eq_true rfl) (fun rv_3 wv_4 hp_5 hm_6 => ?_)
      clear hm_6
      obtain ⟨rfl, rfl⟩ := hp_5
      show VV E 0 0 38 [(0, .ref r0), (1, .int v)] [.int (-6)] [(r0, .inr (5, [.int (nI n), .ref k1, .ref k2, .ref k3, .ref k4, .int (nI m), .ref k6, .ref k7, .ref k8, .int (nI 0), .ref k10, .int (nI 0), .ref k12, .ref k13, .ref k14, .ref k15, .ref k16, .int (nI ls), .int (nI ap), .int (bz bd), .int (nI sq), .ref k21, .ref k22, .ref k23, .ref k24, .ref k25, .int (bz pd), .int (nI pl), .int (bz tk), kv, .ref k30, .ref k31, .int (nI tz), .ref k33, .int (nI rs), .int sd])), (k16, .inl (cI, 96, .inl (nIf sg))), (k10, .inl (cI, 7, .inl (nIf (un R 6 (R 6 + 1)))))]
      refine v_iret zC zT dX5_feed_38  ?_
      first | exact Or.inl ⟨hlt9, rfl, rfl⟩ | exact Or.inr (Or.inl ⟨hge, Or.inl hbi9, rfl, rfl⟩) | exact Or.inr (Or.inl ⟨hge, Or.inr (by omega), rfl, rfl⟩) | exact Or.inr (Or.inr ⟨_, hi_v, by omega, rfl, rfl⟩)
    ·
      have hle := h_2
      obtain ⟨kz, hk_kz, he_kz⟩ := ofR hge hle
      subst he_kz
      have hc_kz := nI_clamp (show kz < 2 ^ 31 by omega)
      have hi_v := IX_nI (N := 256) (by decide) (show kz < 256 by omega)
      refine v_al_n 24 zC dX5_feed_23 0 rfl ?_
      refine v_gf 27 0 zC dX5_feed_24 gf_X5_132 rfl rfl ?_
      refine v_bp (v := (nI 96)) 29 zC dX5_feed_27 (by decide +kernel) ?_
      refine v_icmpn_ne 39 32 zC dX5_feed_29 (fun h_7 => ?_) (fun h_7 => ?_)
      ·
        refine v_al_n 40 zC dX5_feed_39 0 rfl ?_
        refine v_gf 43 0 zC dX5_feed_40 gf_X5_46 rfl rfl ?_
        refine v_al_n 44 zC dX5_feed_43 0 rfl ?_
        refine v_gf 47 0 zC dX5_feed_44 gf_X5_132 rfl rfl ?_
        refine v_il_n 48 zC dX5_feed_47 1 rfl ?_
        refine v_iasn (ws2 := [(r0, .inr (5, [.int (nI n), .ref k1, .ref k2, .ref k3, .ref k4, .int (nI m), .ref k6, .ref k7, .ref k8, .int (nI 0), .ref k10, .int (nI 0), .ref k12, .ref k13, .ref k14, .ref k15, .ref k16, .int (nI ls), .int (nI ap), .int (bz bd), .int (nI sq), .ref k21, .ref k22, .ref k23, .ref k24, .ref k25, .int (bz pd), .int (nI pl), .int (bz tk), kv, .ref k30, .ref k31, .int (nI tz), .ref k33, .int (nI rs), .int sd])), (k16, .inl (cI, 96, .inl (nIf (un sg ls kz)))), (k10, .inl (cI, 7, .inl (nIf R)))]) 49 1 zC dX5_feed_48 rfl (by omega) (by rw [upd_nIf]; first | done | rfl) ?_
        refine v_al_n 50 zC dX5_feed_49 0 rfl ?_
        refine v_dup 51 zC dX5_feed_50 rfl ?_
        refine v_gf 54 0 zC dX5_feed_51 gf_X5_132 rfl rfl ?_
        refine v_ic (v := (nI 1)) 55 zC dX5_feed_54 (by decide +kernel) ?_
        refine v_iadd (v := (nI (ls + 1))) 56 zC dX5_feed_55 (nI_add _ _) ?_
        refine v_pf (ws2 := [(r0, .inr (5, [.int (nI n), .ref k1, .ref k2, .ref k3, .ref k4, .int (nI m), .ref k6, .ref k7, .ref k8, .int (nI 0), .ref k10, .int (nI 0), .ref k12, .ref k13, .ref k14, .ref k15, .ref k16, .int (nI (ls + 1)), .int (nI ap), .int (bz bd), .int (nI sq), .ref k21, .ref k22, .ref k23, .ref k24, .ref k25, .int (bz pd), .int (nI pl), .int (bz tk), kv, .ref k30, .ref k31, .int (nI tz), .ref k33, .int (nI rs), .int sd])), (k16, .inl (cI, 96, .inl (nIf (un sg ls kz)))), (k10, .inl (cI, 7, .inl (nIf R)))]) 59 0 zC dX5_feed_56 pf_X5_132 rfl (Nat.le_of_ble_eq_true rfl) rfl rfl rfl ?_
        refine v_al_n 60 zC dX5_feed_59 0 rfl ?_
        refine v_gf 63 0 zC dX5_feed_60 gf_X5_132 rfl rfl ?_
        refine v_iret zC zT dX5_feed_63  ?_
        first | exact Or.inl ⟨hlt9, rfl, rfl⟩ | exact Or.inr (Or.inl ⟨hge, Or.inl hbi9, rfl, rfl⟩) | exact Or.inr (Or.inl ⟨hge, Or.inr (by omega), rfl, rfl⟩) | exact Or.inr (Or.inr ⟨_, hi_v, by omega, rfl, rfl⟩)
      ·
        refine v_al_n 33 zC dX5_feed_32 0 rfl ?_
        refine v_bp (v := (-6)) 35 zC dX5_feed_33 (by decide +kernel) ?_
        refine v_cV (As := [.int (-6)]) (st := []) 38 0 [0, 2] zC dX5_feed_35 hA (c_X5_refuse (ev_l E) (ev_D E) cI (r0 := r0) (k1 := k1) (k2 := k2) (k3 := k3) (k4 := k4) (k6 := k6) (k7 := k7) (k8 := k8) (k10 := k10) (k12 := k12) (k13 := k13) (k14 := k14) (k15 := k15) (k16 := k16) (k21 := k21) (k22 := k22) (k23 := k23) (k24 := k24) (k25 := k25) (k30 := k30) (k31 := k31) (k33 := k33) (n := n) (m := m) (aw := 0) (ls := ls) (ap := ap) (sq := sq) (pl := pl) (tz := tz) (rs := rs) (bd := bd) (pd := pd) (tk := tk) (kv := kv) (sd := sd) (R := R) (v := (-6)) (j := 6) (hv := (by first | omega | assumption | rfl | (simp only []; omega) | decide)) (h1 := (by first | omega | assumption | rfl | (simp only []; omega) | decide)) (h6 := (by first | omega | assumption | rfl | (simp only []; omega) | decide))) cf_X5_refuse lk_X5_129 rfl rfl rfl rfl rfl (by decide +kernel) (Nat.le_of_ble_eq_true rfl) (fun rv_8 wv_9 hp_10 hm_11 => ?_)
        clear hm_11
        obtain ⟨rfl, rfl⟩ := hp_10
        show VV E 0 0 38 [(0, .ref r0), (1, .int (nI kz))] [.int (-6)] [(r0, .inr (5, [.int (nI n), .ref k1, .ref k2, .ref k3, .ref k4, .int (nI m), .ref k6, .ref k7, .ref k8, .int (nI 0), .ref k10, .int (nI 0), .ref k12, .ref k13, .ref k14, .ref k15, .ref k16, .int (nI ls), .int (nI ap), .int (bz bd), .int (nI sq), .ref k21, .ref k22, .ref k23, .ref k24, .ref k25, .int (bz pd), .int (nI pl), .int (bz tk), kv, .ref k30, .ref k31, .int (nI tz), .ref k33, .int (nI rs), .int sd])), (k16, .inl (cI, 96, .inl (nIf sg))), (k10, .inl (cI, 7, .inl (nIf (un R 6 (R 6 + 1)))))]
        refine v_iret zC zT dX5_feed_38  ?_
        first | exact Or.inl ⟨hlt9, rfl, rfl⟩ | exact Or.inr (Or.inl ⟨hge, Or.inl hbi9, rfl, rfl⟩) | exact Or.inr (Or.inl ⟨hge, Or.inr (by omega), rfl, rfl⟩) | exact Or.inr (Or.inr ⟨_, hi_v, by omega, rfl, rfl⟩)
  ·
    have hlt9 := Int32.not_le.mp h_1
    refine v_al_n 10 zC dX5_feed_9 0 rfl ?_
    refine v_bp (v := (-4)) 12 zC dX5_feed_10 (by decide +kernel) ?_
    refine v_cV (As := [.int (-4)]) (st := []) 15 0 [0, 2] zC dX5_feed_12 hA (c_X5_refuse (ev_l E) (ev_D E) cI (r0 := r0) (k1 := k1) (k2 := k2) (k3 := k3) (k4 := k4) (k6 := k6) (k7 := k7) (k8 := k8) (k10 := k10) (k12 := k12) (k13 := k13) (k14 := k14) (k15 := k15) (k16 := k16) (k21 := k21) (k22 := k22) (k23 := k23) (k24 := k24) (k25 := k25) (k30 := k30) (k31 := k31) (k33 := k33) (n := n) (m := m) (aw := 0) (ls := ls) (ap := ap) (sq := sq) (pl := pl) (tz := tz) (rs := rs) (bd := bd) (pd := pd) (tk := tk) (kv := kv) (sd := sd) (R := R) (v := (-4)) (j := 4) (hv := (by first | omega | assumption | rfl | (simp only []; omega) | decide)) (h1 := (by first | omega | assumption | rfl | (simp only []; omega) | decide)) (h6 := (by first | omega | assumption | rfl | (simp only []; omega) | decide))) cf_X5_refuse lk_X5_129 rfl rfl rfl rfl rfl (by decide +kernel) (Nat.le_of_ble_eq_true rfl) (fun rv_12 wv_13 hp_14 hm_15 => ?_)
    clear hm_15
    obtain ⟨rfl, rfl⟩ := hp_14
    show VV E 0 0 15 [(0, .ref r0), (1, .int v)] [.int (-4)] [(r0, .inr (5, [.int (nI n), .ref k1, .ref k2, .ref k3, .ref k4, .int (nI m), .ref k6, .ref k7, .ref k8, .int (nI 0), .ref k10, .int (nI 0), .ref k12, .ref k13, .ref k14, .ref k15, .ref k16, .int (nI ls), .int (nI ap), .int (bz bd), .int (nI sq), .ref k21, .ref k22, .ref k23, .ref k24, .ref k25, .int (bz pd), .int (nI pl), .int (bz tk), kv, .ref k30, .ref k31, .int (nI tz), .ref k33, .int (nI rs), .int sd])), (k16, .inl (cI, 96, .inl (nIf sg))), (k10, .inl (cI, 7, .inl (nIf (un R 4 (R 4 + 1)))))]
    refine v_iret zC zT dX5_feed_15  ?_
    first | exact Or.inl ⟨hlt9, rfl, rfl⟩ | exact Or.inr (Or.inl ⟨hge, Or.inl hbi9, rfl, rfl⟩) | exact Or.inr (Or.inl ⟨hge, Or.inr (by omega), rfl, rfl⟩) | exact Or.inr (Or.inr ⟨_, hi_v, by omega, rfl, rfl⟩)
set_option maxRecDepth 100000 in
set_option maxHeartbeats 4000000 in
theorem c_X5_row (l : Launch) (D : va_G) (cI : ClassId) (r0 k1 k2 k3 k4 k6 k7 k8 k10 k12 k13 k14 k15 k16 k21 k22 k23 k24 k25 k30 k31 k33 : Nat) (n m ls ap sq pl tz rs : Nat) (bd pd tk : Bool) (kv : Value) (sd : Int32) (rw R : Nat → Nat) (v : Int32) (hr : rs ≤ 24) : CT l yX5_row cX5_row 2 (some .int) { frames := 1, cells := 0, slots := 0, locals := 21 } D cI [.ref r0, .int v] [(r0, .inr (5, [.int (nI n), .ref k1, .ref k2, .ref k3, .ref k4, .int (nI m), .ref k6, .ref k7, .ref k8, .int (nI 0), .ref k10, .int (nI 0), .ref k12, .ref k13, .ref k14, .ref k15, .ref k16, .int (nI ls), .int (nI ap), .int (bz bd), .int (nI sq), .ref k21, .ref k22, .ref k23, .ref k24, .ref k25, .int (bz pd), .int (nI pl), .int (bz tk), kv, .ref k30, .ref k31, .int (nI tz), .ref k33, .int (nI rs), .int sd])), (k33, .inl (cI, 24, .inl (nIf rw))), (k10, .inl (cI, 7, .inl (nIf R)))] (fun zr zw => ((v < 0) ∧ zr = some (.int (-4)) ∧ zw = [(r0, .inr (5, [.int (nI n), .ref k1, .ref k2, .ref k3, .ref k4, .int (nI m), .ref k6, .ref k7, .ref k8, .int (nI 0), .ref k10, .int (nI 0), .ref k12, .ref k13, .ref k14, .ref k15, .ref k16, .int (nI ls), .int (nI ap), .int (bz bd), .int (nI sq), .ref k21, .ref k22, .ref k23, .ref k24, .ref k25, .int (bz pd), .int (nI pl), .int (bz tk), kv, .ref k30, .ref k31, .int (nI tz), .ref k33, .int (nI rs), .int sd])), (k33, .inl (cI, 24, .inl (nIf rw))), (k10, .inl (cI, 7, .inl (nIf (un R 4 (R 4 + 1)))))]) ∨ ((¬ v < 0) ∧ (IX 100 v = none ∨ rs = 24) ∧ zr = some (.int (-6)) ∧ zw = [(r0, .inr (5, [.int (nI n), .ref k1, .ref k2, .ref k3, .ref k4, .int (nI m), .ref k6, .ref k7, .ref k8, .int (nI 0), .ref k10, .int (nI 0), .ref k12, .ref k13, .ref k14, .ref k15, .ref k16, .int (nI ls), .int (nI ap), .int (bz bd), .int (nI sq), .ref k21, .ref k22, .ref k23, .ref k24, .ref k25, .int (bz pd), .int (nI pl), .int (bz tk), kv, .ref k30, .ref k31, .int (nI tz), .ref k33, .int (nI rs), .int sd])), (k33, .inl (cI, 24, .inl (nIf rw))), (k10, .inl (cI, 7, .inl (nIf (un R 6 (R 6 + 1)))))]) ∨ (∃ k : Nat, (IX 100 v = some k) ∧ (rs < 24) ∧ zr = some (.int (nI (rs + 1))) ∧ zw = [(r0, .inr (5, [.int (nI n), .ref k1, .ref k2, .ref k3, .ref k4, .int (nI m), .ref k6, .ref k7, .ref k8, .int (nI 0), .ref k10, .int (nI 0), .ref k12, .ref k13, .ref k14, .ref k15, .ref k16, .int (nI ls), .int (nI ap), .int (bz bd), .int (nI sq), .ref k21, .ref k22, .ref k23, .ref k24, .ref k25, .int (bz pd), .int (nI pl), .int (bz tk), kv, .ref k30, .ref k31, .int (nI tz), .ref k33, .int (nI (rs + 1)), .int sd])), (k33, .inl (cI, 24, .inl (nIf (un rw rs k)))), (k10, .inl (cI, 7, .inl (nIf R)))])) := by
  refine CT_of RX5 rfl (by decide +kernel) (Nat.le_of_ble_eq_true rfl) (fun E hnE zC zT => ?_)
  have hA : ∀ q, (ev_s E).heap.size ≤ q → ev_A E q := fun q h => by rw [zT.2]; exact Or.inr h
  show VV E 0 0 0 [(0, .ref r0), (1, .int v)] [] [(r0, .inr (5, [.int (nI n), .ref k1, .ref k2, .ref k3, .ref k4, .int (nI m), .ref k6, .ref k7, .ref k8, .int (nI 0), .ref k10, .int (nI 0), .ref k12, .ref k13, .ref k14, .ref k15, .ref k16, .int (nI ls), .int (nI ap), .int (bz bd), .int (nI sq), .ref k21, .ref k22, .ref k23, .ref k24, .ref k25, .int (bz pd), .int (nI pl), .int (bz tk), kv, .ref k30, .ref k31, .int (nI tz), .ref k33, .int (nI rs), .int sd])), (k33, .inl (cI, 24, .inl (nIf rw))), (k10, .inl (cI, 7, .inl (nIf R)))]
  refine v_al_n 1 zC dX5_row_0 0 rfl ?_
  refine v_ic (v := (nI 0)) 2 zC dX5_row_1 (by decide +kernel) ?_
  refine v_pf (ws2 := [(r0, .inr (5, [.int (nI n), .ref k1, .ref k2, .ref k3, .ref k4, .int (nI m), .ref k6, .ref k7, .ref k8, .int (nI 0), .ref k10, .int (nI 0), .ref k12, .ref k13, .ref k14, .ref k15, .ref k16, .int (nI ls), .int (nI ap), .int (bz bd), .int (nI sq), .ref k21, .ref k22, .ref k23, .ref k24, .ref k25, .int (bz pd), .int (nI pl), .int (bz tk), kv, .ref k30, .ref k31, .int (nI tz), .ref k33, .int (nI rs), .int sd])), (k33, .inl (cI, 24, .inl (nIf rw))), (k10, .inl (cI, 7, .inl (nIf R)))]) 5 0 zC dX5_row_2 pf_X5_73 rfl (Nat.le_of_ble_eq_true rfl) rfl rfl rfl ?_
  refine v_il_n 6 zC dX5_row_5 1 rfl ?_
  refine v_if_ge 16 9 zC dX5_row_6 (fun h_1 => ?_) (fun h_1 => ?_)
  ·
    have hge : ¬ v < 0 := Int32.not_lt.mpr h_1
    refine v_il_n 17 zC dX5_row_16 1 rfl ?_
    refine v_bp (v := (nI 99)) 19 zC dX5_row_17 (by decide +kernel) ?_
    refine v_icmp_gt 31 22 zC dX5_row_19 (fun h_2 => ?_) (fun h_2 => ?_)
    ·
      have hbi9 : IX 100 v = none := IX_hi h_2 (by decide)
      refine v_al_n 32 zC dX5_row_31 0 rfl ?_
      refine v_bp (v := (-6)) 34 zC dX5_row_32 (by decide +kernel) ?_
      refine v_cV (As := [.int (-6)]) (st := []) 37 0 [0, 2] zC dX5_row_34 hA (c_X5_refuse (ev_l E) (ev_D E) cI (r0 := r0) (k1 := k1) (k2 := k2) (k3 := k3) (k4 := k4) (k6 := k6) (k7 := k7) (k8 := k8) (k10 := k10) (k12 := k12) (k13 := k13) (k14 := k14) (k15 := k15) (k16 := k16) (k21 := k21) (k22 := k22) (k23 := k23) (k24 := k24) (k25 := k25) (k30 := k30) (k31 := k31) (k33 := k33) (n := n) (m := m) (aw := 0) (ls := ls) (ap := ap) (sq := sq) (pl := pl) (tz := tz) (rs := rs) (bd := bd) (pd := pd) (tk := tk) (kv := kv) (sd := sd) (R := R) (v := (-6)) (j := 6) (hv := (by first | omega | assumption | rfl | (simp only []; omega) | decide)) (h1 := (by first | omega | assumption | rfl | (simp only []; omega) | decide)) (h6 := (by first | omega | assumption | rfl | (simp only []; omega) | decide))) cf_X5_refuse lk_X5_129 rfl rfl rfl rfl rfl (by decide +kernel) (Nat.le_of_ble_eq_true rfl) (fun rv_3 wv_4 hp_5 hm_6 => ?_)
      clear hm_6
      obtain ⟨rfl, rfl⟩ := hp_5
      show VV E 0 0 37 [(0, .ref r0), (1, .int v)] [.int (-6)] [(r0, .inr (5, [.int (nI n), .ref k1, .ref k2, .ref k3, .ref k4, .int (nI m), .ref k6, .ref k7, .ref k8, .int (nI 0), .ref k10, .int (nI 0), .ref k12, .ref k13, .ref k14, .ref k15, .ref k16, .int (nI ls), .int (nI ap), .int (bz bd), .int (nI sq), .ref k21, .ref k22, .ref k23, .ref k24, .ref k25, .int (bz pd), .int (nI pl), .int (bz tk), kv, .ref k30, .ref k31, .int (nI tz), .ref k33, .int (nI rs), .int sd])), (k33, .inl (cI, 24, .inl (nIf rw))), (k10, .inl (cI, 7, .inl (nIf (un R 6 (R 6 + 1)))))]
      refine v_iret zC zT dX5_row_37  ?_
      first | exact Or.inl ⟨hlt9, rfl, rfl⟩ | exact Or.inr (Or.inl ⟨hge, Or.inl hbi9, rfl, rfl⟩) | exact Or.inr (Or.inl ⟨hge, Or.inr (by omega), rfl, rfl⟩) | exact Or.inr (Or.inr ⟨_, hi_v, by omega, rfl, rfl⟩)
    ·
      have hle := h_2
      obtain ⟨kz, hk_kz, he_kz⟩ := ofR hge hle
      subst he_kz
      have hc_kz := nI_clamp (show kz < 2 ^ 31 by omega)
      have hi_v := IX_nI (N := 100) (by decide) (show kz < 100 by omega)
      refine v_al_n 23 zC dX5_row_22 0 rfl ?_
      refine v_gf 26 0 zC dX5_row_23 gf_X5_270 rfl rfl ?_
      refine v_bp (v := (nI 24)) 28 zC dX5_row_26 (by decide +kernel) ?_
      refine v_icmpn_ne 38 31 zC dX5_row_28 (fun h_7 => ?_) (fun h_7 => ?_)
      ·
        refine v_al_n 39 zC dX5_row_38 0 rfl ?_
        refine v_gf 42 0 zC dX5_row_39 gf_X5_70 rfl rfl ?_
        refine v_al_n 43 zC dX5_row_42 0 rfl ?_
        refine v_gf 46 0 zC dX5_row_43 gf_X5_270 rfl rfl ?_
        refine v_il_n 47 zC dX5_row_46 1 rfl ?_
        refine v_iasn (ws2 := [(r0, .inr (5, [.int (nI n), .ref k1, .ref k2, .ref k3, .ref k4, .int (nI m), .ref k6, .ref k7, .ref k8, .int (nI 0), .ref k10, .int (nI 0), .ref k12, .ref k13, .ref k14, .ref k15, .ref k16, .int (nI ls), .int (nI ap), .int (bz bd), .int (nI sq), .ref k21, .ref k22, .ref k23, .ref k24, .ref k25, .int (bz pd), .int (nI pl), .int (bz tk), kv, .ref k30, .ref k31, .int (nI tz), .ref k33, .int (nI rs), .int sd])), (k33, .inl (cI, 24, .inl (nIf (un rw rs kz)))), (k10, .inl (cI, 7, .inl (nIf R)))]) 48 1 zC dX5_row_47 rfl (by omega) (by rw [upd_nIf]; first | done | rfl) ?_
        refine v_al_n 49 zC dX5_row_48 0 rfl ?_
        refine v_dup 50 zC dX5_row_49 rfl ?_
        refine v_gf 53 0 zC dX5_row_50 gf_X5_270 rfl rfl ?_
        refine v_ic (v := (nI 1)) 54 zC dX5_row_53 (by decide +kernel) ?_
        refine v_iadd (v := (nI (rs + 1))) 55 zC dX5_row_54 (nI_add _ _) ?_
        refine v_pf (ws2 := [(r0, .inr (5, [.int (nI n), .ref k1, .ref k2, .ref k3, .ref k4, .int (nI m), .ref k6, .ref k7, .ref k8, .int (nI 0), .ref k10, .int (nI 0), .ref k12, .ref k13, .ref k14, .ref k15, .ref k16, .int (nI ls), .int (nI ap), .int (bz bd), .int (nI sq), .ref k21, .ref k22, .ref k23, .ref k24, .ref k25, .int (bz pd), .int (nI pl), .int (bz tk), kv, .ref k30, .ref k31, .int (nI tz), .ref k33, .int (nI (rs + 1)), .int sd])), (k33, .inl (cI, 24, .inl (nIf (un rw rs kz)))), (k10, .inl (cI, 7, .inl (nIf R)))]) 58 0 zC dX5_row_55 pf_X5_270 rfl (Nat.le_of_ble_eq_true rfl) rfl rfl rfl ?_
        refine v_al_n 59 zC dX5_row_58 0 rfl ?_
        refine v_gf 62 0 zC dX5_row_59 gf_X5_270 rfl rfl ?_
        refine v_iret zC zT dX5_row_62  ?_
        first | exact Or.inl ⟨hlt9, rfl, rfl⟩ | exact Or.inr (Or.inl ⟨hge, Or.inl hbi9, rfl, rfl⟩) | exact Or.inr (Or.inl ⟨hge, Or.inr (by omega), rfl, rfl⟩) | exact Or.inr (Or.inr ⟨_, hi_v, by omega, rfl, rfl⟩)
      ·
        refine v_al_n 32 zC dX5_row_31 0 rfl ?_
        refine v_bp (v := (-6)) 34 zC dX5_row_32 (by decide +kernel) ?_
        refine v_cV (As := [.int (-6)]) (st := []) 37 0 [0, 2] zC dX5_row_34 hA (c_X5_refuse (ev_l E) (ev_D E) cI (r0 := r0) (k1 := k1) (k2 := k2) (k3 := k3) (k4 := k4) (k6 := k6) (k7 := k7) (k8 := k8) (k10 := k10) (k12 := k12) (k13 := k13) (k14 := k14) (k15 := k15) (k16 := k16) (k21 := k21) (k22 := k22) (k23 := k23) (k24 := k24) (k25 := k25) (k30 := k30) (k31 := k31) (k33 := k33) (n := n) (m := m) (aw := 0) (ls := ls) (ap := ap) (sq := sq) (pl := pl) (tz := tz) (rs := rs) (bd := bd) (pd := pd) (tk := tk) (kv := kv) (sd := sd) (R := R) (v := (-6)) (j := 6) (hv := (by first | omega | assumption | rfl | (simp only []; omega) | decide)) (h1 := (by first | omega | assumption | rfl | (simp only []; omega) | decide)) (h6 := (by first | omega | assumption | rfl | (simp only []; omega) | decide))) cf_X5_refuse lk_X5_129 rfl rfl rfl rfl rfl (by decide +kernel) (Nat.le_of_ble_eq_true rfl) (fun rv_8 wv_9 hp_10 hm_11 => ?_)
        clear hm_11
        obtain ⟨rfl, rfl⟩ := hp_10
        show VV E 0 0 37 [(0, .ref r0), (1, .int (nI kz))] [.int (-6)] [(r0, .inr (5, [.int (nI n), .ref k1, .ref k2, .ref k3, .ref k4, .int (nI m), .ref k6, .ref k7, .ref k8, .int (nI 0), .ref k10, .int (nI 0), .ref k12, .ref k13, .ref k14, .ref k15, .ref k16, .int (nI ls), .int (nI ap), .int (bz bd), .int (nI sq), .ref k21, .ref k22, .ref k23, .ref k24, .ref k25, .int (bz pd), .int (nI pl), .int (bz tk), kv, .ref k30, .ref k31, .int (nI tz), .ref k33, .int (nI rs), .int sd])), (k33, .inl (cI, 24, .inl (nIf rw))), (k10, .inl (cI, 7, .inl (nIf (un R 6 (R 6 + 1)))))]
        refine v_iret zC zT dX5_row_37  ?_
        first | exact Or.inl ⟨hlt9, rfl, rfl⟩ | exact Or.inr (Or.inl ⟨hge, Or.inl hbi9, rfl, rfl⟩) | exact Or.inr (Or.inl ⟨hge, Or.inr (by omega), rfl, rfl⟩) | exact Or.inr (Or.inr ⟨_, hi_v, by omega, rfl, rfl⟩)
  ·
    have hlt9 := Int32.not_le.mp h_1
    refine v_al_n 10 zC dX5_row_9 0 rfl ?_
    refine v_bp (v := (-4)) 12 zC dX5_row_10 (by decide +kernel) ?_
    refine v_cV (As := [.int (-4)]) (st := []) 15 0 [0, 2] zC dX5_row_12 hA (c_X5_refuse (ev_l E) (ev_D E) cI (r0 := r0) (k1 := k1) (k2 := k2) (k3 := k3) (k4 := k4) (k6 := k6) (k7 := k7) (k8 := k8) (k10 := k10) (k12 := k12) (k13 := k13) (k14 := k14) (k15 := k15) (k16 := k16) (k21 := k21) (k22 := k22) (k23 := k23) (k24 := k24) (k25 := k25) (k30 := k30) (k31 := k31) (k33 := k33) (n := n) (m := m) (aw := 0) (ls := ls) (ap := ap) (sq := sq) (pl := pl) (tz := tz) (rs := rs) (bd := bd) (pd := pd) (tk := tk) (kv := kv) (sd := sd) (R := R) (v := (-4)) (j := 4) (hv := (by first | omega | assumption | rfl | (simp only []; omega) | decide)) (h1 := (by first | omega | assumption | rfl | (simp only []; omega) | decide)) (h6 := (by first | omega | assumption | rfl | (simp only []; omega) | decide))) cf_X5_refuse lk_X5_129 rfl rfl rfl rfl rfl (by decide +kernel) (Nat.le_of_ble_eq_true rfl) (fun rv_12 wv_13 hp_14 hm_15 => ?_)
    clear hm_15
    obtain ⟨rfl, rfl⟩ := hp_14
    show VV E 0 0 15 [(0, .ref r0), (1, .int v)] [.int (-4)] [(r0, .inr (5, [.int (nI n), .ref k1, .ref k2, .ref k3, .ref k4, .int (nI m), .ref k6, .ref k7, .ref k8, .int (nI 0), .ref k10, .int (nI 0), .ref k12, .ref k13, .ref k14, .ref k15, .ref k16, .int (nI ls), .int (nI ap), .int (bz bd), .int (nI sq), .ref k21, .ref k22, .ref k23, .ref k24, .ref k25, .int (bz pd), .int (nI pl), .int (bz tk), kv, .ref k30, .ref k31, .int (nI tz), .ref k33, .int (nI rs), .int sd])), (k33, .inl (cI, 24, .inl (nIf rw))), (k10, .inl (cI, 7, .inl (nIf (un R 4 (R 4 + 1)))))]
    refine v_iret zC zT dX5_row_15  ?_
    first | exact Or.inl ⟨hlt9, rfl, rfl⟩ | exact Or.inr (Or.inl ⟨hge, Or.inl hbi9, rfl, rfl⟩) | exact Or.inr (Or.inl ⟨hge, Or.inr (by omega), rfl, rfl⟩) | exact Or.inr (Or.inr ⟨_, hi_v, by omega, rfl, rfl⟩)
set_option maxRecDepth 100000 in
set_option maxHeartbeats 4000000 in
theorem c_X5_clear (l : Launch) (D : va_G) (cI : ClassId) (r0 k1 k2 k3 k4 k6 k7 k8 k10 k12 k13 k14 k15 k16 k21 k22 k23 k24 k25 k30 k31 k33 : Nat) (n m ls ap sq pl tz rs : Nat) (bd pd tk : Bool) (kv : Value) (sd : Int32)  : CT l yX5_clear cX5_clear 2 (some .int) { frames := 0, cells := 0, slots := 0, locals := 0 } D cI [.ref r0] [(r0, .inr (5, [.int (nI n), .ref k1, .ref k2, .ref k3, .ref k4, .int (nI m), .ref k6, .ref k7, .ref k8, .int (nI 0), .ref k10, .int (nI 0), .ref k12, .ref k13, .ref k14, .ref k15, .ref k16, .int (nI ls), .int (nI ap), .int (bz bd), .int (nI sq), .ref k21, .ref k22, .ref k23, .ref k24, .ref k25, .int (bz pd), .int (nI pl), .int (bz tk), kv, .ref k30, .ref k31, .int (nI tz), .ref k33, .int (nI rs), .int sd]))] (fun zr zw => (zr = some (.int (nI rs)) ∧ zw = [(r0, .inr (5, [.int (nI n), .ref k1, .ref k2, .ref k3, .ref k4, .int (nI m), .ref k6, .ref k7, .ref k8, .int (nI 0), .ref k10, .int (nI 0), .ref k12, .ref k13, .ref k14, .ref k15, .ref k16, .int (nI ls), .int (nI ap), .int (bz bd), .int (nI sq), .ref k21, .ref k22, .ref k23, .ref k24, .ref k25, .int (bz pd), .int (nI pl), .int (bz tk), kv, .ref k30, .ref k31, .int (nI tz), .ref k33, .int (nI 0), .int sd]))])) := by
  refine CT_of RX5 rfl (by decide +kernel) (Nat.le_of_ble_eq_true rfl) (fun E hnE zC zT => ?_)
  have hA : ∀ q, (ev_s E).heap.size ≤ q → ev_A E q := fun q h => by rw [zT.2]; exact Or.inr h
  show VV E 0 0 0 [(0, .ref r0)] [] [(r0, .inr (5, [.int (nI n), .ref k1, .ref k2, .ref k3, .ref k4, .int (nI m), .ref k6, .ref k7, .ref k8, .int (nI 0), .ref k10, .int (nI 0), .ref k12, .ref k13, .ref k14, .ref k15, .ref k16, .int (nI ls), .int (nI ap), .int (bz bd), .int (nI sq), .ref k21, .ref k22, .ref k23, .ref k24, .ref k25, .int (bz pd), .int (nI pl), .int (bz tk), kv, .ref k30, .ref k31, .int (nI tz), .ref k33, .int (nI rs), .int sd]))]
  refine v_al_n 1 zC dX5_clear_0 0 rfl ?_
  refine v_ic (v := (nI 0)) 2 zC dX5_clear_1 (by decide +kernel) ?_
  refine v_pf (ws2 := [(r0, .inr (5, [.int (nI n), .ref k1, .ref k2, .ref k3, .ref k4, .int (nI m), .ref k6, .ref k7, .ref k8, .int (nI 0), .ref k10, .int (nI 0), .ref k12, .ref k13, .ref k14, .ref k15, .ref k16, .int (nI ls), .int (nI ap), .int (bz bd), .int (nI sq), .ref k21, .ref k22, .ref k23, .ref k24, .ref k25, .int (bz pd), .int (nI pl), .int (bz tk), kv, .ref k30, .ref k31, .int (nI tz), .ref k33, .int (nI rs), .int sd]))]) 5 0 zC dX5_clear_2 pf_X5_73 rfl (Nat.le_of_ble_eq_true rfl) rfl rfl rfl ?_
  refine v_al_n 6 zC dX5_clear_5 0 rfl ?_
  refine v_gf 9 0 zC dX5_clear_6 gf_X5_270 rfl rfl ?_
  refine v_is_n (lv2 := [(1, .int (nI rs)), (0, .ref r0)]) 10 zC dX5_clear_9 (by rw [hnE]; decide) rfl ?_
  refine v_al_n 11 zC dX5_clear_10 1 rfl ?_
  refine v_ic (v := (nI 0)) 12 zC dX5_clear_11 (by decide +kernel) ?_
  refine v_pf (ws2 := [(r0, .inr (5, [.int (nI n), .ref k1, .ref k2, .ref k3, .ref k4, .int (nI m), .ref k6, .ref k7, .ref k8, .int (nI 0), .ref k10, .int (nI 0), .ref k12, .ref k13, .ref k14, .ref k15, .ref k16, .int (nI ls), .int (nI ap), .int (bz bd), .int (nI sq), .ref k21, .ref k22, .ref k23, .ref k24, .ref k25, .int (bz pd), .int (nI pl), .int (bz tk), kv, .ref k30, .ref k31, .int (nI tz), .ref k33, .int (nI 0), .int sd]))]) 15 0 zC dX5_clear_12 pf_X5_270 rfl (Nat.le_of_ble_eq_true rfl) rfl rfl rfl ?_
  refine v_il_n 16 zC dX5_clear_15 0 rfl ?_
  refine v_iret zC zT dX5_clear_16  ?_
  first | exact ⟨rfl, rfl⟩ | exact ⟨sb1 (by assumption), rfl⟩ | exact ⟨sb0 (by assumption), rfl⟩ | (exfalso; omega) | exact ⟨sb1 (by simp [*]), rfl⟩ | exact ⟨sb0 (by simp [*]), rfl⟩
set_option maxRecDepth 100000 in
set_option maxHeartbeats 4000000 in
theorem c_X5_person (l : Launch) (D : va_G) (cI : ClassId) (r0 k1 k2 k3 k4 k6 k7 k8 k10 k12 k13 k14 k15 k16 k21 k22 k23 k24 k25 k30 k31 k33 : Nat) (n m ls ap sq pl tz rs : Nat) (bd pd tk : Bool) (kv : Value) (sd : Int32) (ki op fa K G T : Nat → Nat) (sh : Nat) (R : Nat → Nat) (p w : Int32) (hn : n ≤ 7) : CT l yX5_person cX5_person 3 (some .int) { frames := 2, cells := 0, slots := 0, locals := 46 } D cI [.ref r0, .int p, .int w] [(r0, .inr (5, [.int (nI n), .ref k1, .ref k2, .ref k3, .ref k4, .int (nI m), .ref k6, .ref k7, .ref k8, .int (nI 0), .ref k10, .int (nI 0), .ref k12, .ref k13, .ref k14, .ref k15, .ref k16, .int (nI ls), .int (nI ap), .int (bz bd), .int (nI sq), .ref k21, .ref k22, .ref k23, .ref k24, .ref k25, .int (bz pd), .int (nI pl), .int (bz tk), kv, .ref k30, .ref k31, .int (nI tz), .ref k33, .int (nI rs), .int sd])), (k1, .inl (cI, 7, .inl (nIf ki))), (k2, .inl (cI, 7, .inl (nIf op))), (k3, .inl (cI, 7, .inl (nIf (shF sh)))), (k4, .inl (cI, 7, .inl (nIf fa))), (k10, .inl (cI, 7, .inl (nIf R)))] (fun zr zw => (∃ rc : Nat, ∃ rv : Int32, (q_person (n, m, sh, 0, ki, op, fa, K, G, T) p w = (rc, rv)) ∧ zr = some (.int rv) ∧ zw = [(r0, .inr (5, [.int (nI n), .ref k1, .ref k2, .ref k3, .ref k4, .int (nI m), .ref k6, .ref k7, .ref k8, .int (nI 0), .ref k10, .int (nI 0), .ref k12, .ref k13, .ref k14, .ref k15, .ref k16, .int (nI ls), .int (nI ap), .int (bz bd), .int (nI sq), .ref k21, .ref k22, .ref k23, .ref k24, .ref k25, .int (bz pd), .int (nI pl), .int (bz tk), kv, .ref k30, .ref k31, .int (nI tz), .ref k33, .int (nI rs), .int sd])), (k1, .inl (cI, 7, .inl (nIf ki))), (k2, .inl (cI, 7, .inl (nIf op))), (k3, .inl (cI, 7, .inl (nIf (shF sh)))), (k4, .inl (cI, 7, .inl (nIf fa))), (k10, .inl (cI, 7, .inl (nIf (rf R rc))))])) := by
  refine CT_of RX5 rfl (by decide +kernel) (Nat.le_of_ble_eq_true rfl) (fun E hnE zC zT => ?_)
  have hA : ∀ q, (ev_s E).heap.size ≤ q → ev_A E q := fun q h => by rw [zT.2]; exact Or.inr h
  show VV E 0 0 0 [(0, .ref r0), (1, .int p), (2, .int w)] [] [(r0, .inr (5, [.int (nI n), .ref k1, .ref k2, .ref k3, .ref k4, .int (nI m), .ref k6, .ref k7, .ref k8, .int (nI 0), .ref k10, .int (nI 0), .ref k12, .ref k13, .ref k14, .ref k15, .ref k16, .int (nI ls), .int (nI ap), .int (bz bd), .int (nI sq), .ref k21, .ref k22, .ref k23, .ref k24, .ref k25, .int (bz pd), .int (nI pl), .int (bz tk), kv, .ref k30, .ref k31, .int (nI tz), .ref k33, .int (nI rs), .int sd])), (k1, .inl (cI, 7, .inl (nIf ki))), (k2, .inl (cI, 7, .inl (nIf op))), (k3, .inl (cI, 7, .inl (nIf (shF sh)))), (k4, .inl (cI, 7, .inl (nIf fa))), (k10, .inl (cI, 7, .inl (nIf R)))]
  refine v_al_n 1 zC dX5_person_0 0 rfl ?_
  refine v_ic (v := (nI 0)) 2 zC dX5_person_1 (by decide +kernel) ?_
  refine v_pf (ws2 := [(r0, .inr (5, [.int (nI n), .ref k1, .ref k2, .ref k3, .ref k4, .int (nI m), .ref k6, .ref k7, .ref k8, .int (nI 0), .ref k10, .int (nI 0), .ref k12, .ref k13, .ref k14, .ref k15, .ref k16, .int (nI ls), .int (nI ap), .int (bz bd), .int (nI sq), .ref k21, .ref k22, .ref k23, .ref k24, .ref k25, .int (bz pd), .int (nI pl), .int (bz tk), kv, .ref k30, .ref k31, .int (nI tz), .ref k33, .int (nI rs), .int sd])), (k1, .inl (cI, 7, .inl (nIf ki))), (k2, .inl (cI, 7, .inl (nIf op))), (k3, .inl (cI, 7, .inl (nIf (shF sh)))), (k4, .inl (cI, 7, .inl (nIf fa))), (k10, .inl (cI, 7, .inl (nIf R)))]) 5 0 zC dX5_person_2 pf_X5_73 rfl (Nat.le_of_ble_eq_true rfl) rfl rfl rfl ?_
  refine v_al_n 6 zC dX5_person_5 0 rfl ?_
  refine v_il_n 7 zC dX5_person_6 1 rfl ?_
  refine v_cV (As := [.int p]) (st := []) 10 0 [0] zC dX5_person_7 hA (c_X5_isOne (ev_l E) (ev_D E) cI (r0 := r0) (k1 := k1) (k2 := k2) (k3 := k3) (k4 := k4) (k6 := k6) (k7 := k7) (k8 := k8) (k10 := k10) (k12 := k12) (k13 := k13) (k14 := k14) (k15 := k15) (k16 := k16) (k21 := k21) (k22 := k22) (k23 := k23) (k24 := k24) (k25 := k25) (k30 := k30) (k31 := k31) (k33 := k33) (n := n) (m := m) (aw := 0) (ls := ls) (ap := ap) (sq := sq) (pl := pl) (tz := tz) (rs := rs) (bd := bd) (pd := pd) (tk := tk) (kv := kv) (sd := sd) (p := p) (hn := (by first | omega | assumption | rfl | (simp only []; omega) | decide))) cf_X5_isOne lk_X5_164 rfl rfl rfl rfl rfl (by decide +kernel) (Nat.le_of_ble_eq_true rfl) (fun rv_1 wv_2 hp_3 hm_4 => ?_)
  clear hm_4
  rcases hp_3 with ⟨hi_5, rfl, rfl⟩ | ⟨j_6, he_7, hi_8, hj_9, rfl, rfl⟩
  ·
    show VV E 0 0 10 [(0, .ref r0), (1, .int p), (2, .int w)] [.int (nI 0)] [(r0, .inr (5, [.int (nI n), .ref k1, .ref k2, .ref k3, .ref k4, .int (nI m), .ref k6, .ref k7, .ref k8, .int (nI 0), .ref k10, .int (nI 0), .ref k12, .ref k13, .ref k14, .ref k15, .ref k16, .int (nI ls), .int (nI ap), .int (bz bd), .int (nI sq), .ref k21, .ref k22, .ref k23, .ref k24, .ref k25, .int (bz pd), .int (nI pl), .int (bz tk), kv, .ref k30, .ref k31, .int (nI tz), .ref k33, .int (nI rs), .int sd])), (k1, .inl (cI, 7, .inl (nIf ki))), (k2, .inl (cI, 7, .inl (nIf op))), (k3, .inl (cI, 7, .inl (nIf (shF sh)))), (k4, .inl (cI, 7, .inl (nIf fa))), (k10, .inl (cI, 7, .inl (nIf R)))]
    have hn_p := hi_5
    refine v_if_eq 25 13 zC dX5_person_10 (fun _ => ?_) (fun z => absurd (by decide +kernel) z)
    refine v_al_n 26 zC dX5_person_25 0 rfl ?_
    refine v_al_n 27 zC dX5_person_26 0 rfl ?_
    refine v_il_n 28 zC dX5_person_27 1 rfl ?_
    refine v_cV (As := [.int p]) (st := [.ref r0]) 31 0 [0] zC dX5_person_28 hA (c_X5_isOne (ev_l E) (ev_D E) cI (r0 := r0) (k1 := k1) (k2 := k2) (k3 := k3) (k4 := k4) (k6 := k6) (k7 := k7) (k8 := k8) (k10 := k10) (k12 := k12) (k13 := k13) (k14 := k14) (k15 := k15) (k16 := k16) (k21 := k21) (k22 := k22) (k23 := k23) (k24 := k24) (k25 := k25) (k30 := k30) (k31 := k31) (k33 := k33) (n := n) (m := m) (aw := 0) (ls := ls) (ap := ap) (sq := sq) (pl := pl) (tz := tz) (rs := rs) (bd := bd) (pd := pd) (tk := tk) (kv := kv) (sd := sd) (p := p) (hn := (by first | omega | assumption | rfl | (simp only []; omega) | decide))) cf_X5_isOne lk_X5_164 rfl rfl rfl rfl rfl (by decide +kernel) (Nat.le_of_ble_eq_true rfl) (fun rv_11 wv_12 hp_13 hm_14 => ?_)
    clear hm_14
    rcases hp_13 with ⟨hi_15, rfl, rfl⟩ | ⟨j_16, he_17, hi_18, hj_19, rfl, rfl⟩
    ·
      show VV E 0 0 31 [(0, .ref r0), (1, .int p), (2, .int w)] [.int (nI 0), .ref r0] [(r0, .inr (5, [.int (nI n), .ref k1, .ref k2, .ref k3, .ref k4, .int (nI m), .ref k6, .ref k7, .ref k8, .int (nI 0), .ref k10, .int (nI 0), .ref k12, .ref k13, .ref k14, .ref k15, .ref k16, .int (nI ls), .int (nI ap), .int (bz bd), .int (nI sq), .ref k21, .ref k22, .ref k23, .ref k24, .ref k25, .int (bz pd), .int (nI pl), .int (bz tk), kv, .ref k30, .ref k31, .int (nI tz), .ref k33, .int (nI rs), .int sd])), (k1, .inl (cI, 7, .inl (nIf ki))), (k2, .inl (cI, 7, .inl (nIf op))), (k3, .inl (cI, 7, .inl (nIf (shF sh)))), (k4, .inl (cI, 7, .inl (nIf fa))), (k10, .inl (cI, 7, .inl (nIf R)))]
      refine v_if_eq 39 34 zC dX5_person_31 (fun _ => ?_) (fun z => absurd (by decide +kernel) z)
      refine v_ic (v := (-1)) 40 zC dX5_person_39 (by decide +kernel) ?_
      refine v_cV (As := [.int (-1)]) (st := []) 43 0 [0, 5] zC dX5_person_40 hA (c_X5_refuse (ev_l E) (ev_D E) cI (r0 := r0) (k1 := k1) (k2 := k2) (k3 := k3) (k4 := k4) (k6 := k6) (k7 := k7) (k8 := k8) (k10 := k10) (k12 := k12) (k13 := k13) (k14 := k14) (k15 := k15) (k16 := k16) (k21 := k21) (k22 := k22) (k23 := k23) (k24 := k24) (k25 := k25) (k30 := k30) (k31 := k31) (k33 := k33) (n := n) (m := m) (aw := 0) (ls := ls) (ap := ap) (sq := sq) (pl := pl) (tz := tz) (rs := rs) (bd := bd) (pd := pd) (tk := tk) (kv := kv) (sd := sd) (R := R) (v := (-1)) (j := 1) (hv := (by first | omega | assumption | rfl | (simp only []; omega) | decide)) (h1 := (by first | omega | assumption | rfl | (simp only []; omega) | decide)) (h6 := (by first | omega | assumption | rfl | (simp only []; omega) | decide))) cf_X5_refuse lk_X5_129 rfl rfl rfl rfl rfl (by decide +kernel) (Nat.le_of_ble_eq_true rfl) (fun rv_21 wv_22 hp_23 hm_24 => ?_)
      clear hm_24
      obtain ⟨rfl, rfl⟩ := hp_23
      show VV E 0 0 43 [(0, .ref r0), (1, .int p), (2, .int w)] [.int (-1)] [(r0, .inr (5, [.int (nI n), .ref k1, .ref k2, .ref k3, .ref k4, .int (nI m), .ref k6, .ref k7, .ref k8, .int (nI 0), .ref k10, .int (nI 0), .ref k12, .ref k13, .ref k14, .ref k15, .ref k16, .int (nI ls), .int (nI ap), .int (bz bd), .int (nI sq), .ref k21, .ref k22, .ref k23, .ref k24, .ref k25, .int (bz pd), .int (nI pl), .int (bz tk), kv, .ref k30, .ref k31, .int (nI tz), .ref k33, .int (nI rs), .int sd])), (k1, .inl (cI, 7, .inl (nIf ki))), (k2, .inl (cI, 7, .inl (nIf op))), (k3, .inl (cI, 7, .inl (nIf (shF sh)))), (k4, .inl (cI, 7, .inl (nIf fa))), (k10, .inl (cI, 7, .inl (nIf (un R 1 (R 1 + 1)))))]
      refine v_iret zC zT dX5_person_43  ?_
      first | (have g9 := hn_p; exact ⟨1, _, by unfold q_person; rw [hn_p], rfl, rfl⟩) | (have g9 := hn_w; exact ⟨2, _, by unfold q_person; rw [hi_p]; dsimp only; rw [hn_w], rfl, rfl⟩) | exact ⟨0, _, by unfold q_person; rw [hi_p]; dsimp only; rw [hi_w]; dsimp only; first | (rw [if_pos hc0]; done) | (rw [if_neg hc0, if_pos hc1]; done) | (rw [if_neg hc0, if_neg hc1, if_pos hc2]; rfl) | (rw [if_neg hc0, if_neg hc1, if_neg hc2]; done) | (rw [if_neg hc0, if_neg hc1]; done), rfl, rfl⟩
    ·
      show VV E 0 0 31 [(0, .ref r0), (1, .int p), (2, .int w)] [.int (nI 1), .ref r0] [(r0, .inr (5, [.int (nI n), .ref k1, .ref k2, .ref k3, .ref k4, .int (nI m), .ref k6, .ref k7, .ref k8, .int (nI 0), .ref k10, .int (nI 0), .ref k12, .ref k13, .ref k14, .ref k15, .ref k16, .int (nI ls), .int (nI ap), .int (bz bd), .int (nI sq), .ref k21, .ref k22, .ref k23, .ref k24, .ref k25, .int (bz pd), .int (nI pl), .int (bz tk), kv, .ref k30, .ref k31, .int (nI tz), .ref k33, .int (nI rs), .int sd])), (k1, .inl (cI, 7, .inl (nIf ki))), (k2, .inl (cI, 7, .inl (nIf op))), (k3, .inl (cI, 7, .inl (nIf (shF sh)))), (k4, .inl (cI, 7, .inl (nIf fa))), (k10, .inl (cI, 7, .inl (nIf R)))]
      rw [he_17] at hn_p
      exact absurd (hn_p.symm.trans hi_18) (fun z => by cases z)
  ·
    show VV E 0 0 10 [(0, .ref r0), (1, .int p), (2, .int w)] [.int (nI 1)] [(r0, .inr (5, [.int (nI n), .ref k1, .ref k2, .ref k3, .ref k4, .int (nI m), .ref k6, .ref k7, .ref k8, .int (nI 0), .ref k10, .int (nI 0), .ref k12, .ref k13, .ref k14, .ref k15, .ref k16, .int (nI ls), .int (nI ap), .int (bz bd), .int (nI sq), .ref k21, .ref k22, .ref k23, .ref k24, .ref k25, .int (bz pd), .int (nI pl), .int (bz tk), kv, .ref k30, .ref k31, .int (nI tz), .ref k33, .int (nI rs), .int sd])), (k1, .inl (cI, 7, .inl (nIf ki))), (k2, .inl (cI, 7, .inl (nIf op))), (k3, .inl (cI, 7, .inl (nIf (shF sh)))), (k4, .inl (cI, 7, .inl (nIf fa))), (k10, .inl (cI, 7, .inl (nIf R)))]
    subst he_7
    have hi_p := hi_8
    obtain ⟨jp, hx_jp⟩ : ∃ z, z = j_6 := ⟨_, rfl⟩
    subst hx_jp
    refine v_if_eq 25 13 zC dX5_person_10 (fun z => absurd z (by decide +kernel)) (fun _ => ?_)
    refine v_il_n 14 zC dX5_person_13 2 rfl ?_
    refine v_i2l (v := (Int32.toInt64 w)) 15 zC dX5_person_14 rfl ?_
    refine v_lc (v := lN 0) 16 zC dX5_person_15 (by decide +kernel) ?_
    refine v_ldc2 (v := (lN 3)) 19 zC dX5_person_16 kc_X5_206 ?_
    refine v_cS (As := [.long (Int32.toInt64 w), .long (lN 0), .long (lN 3)]) (st := []) 22 [] zC dX5_person_19 hA (c_X5_in (ev_l E) (ev_D E) cI (x := (Int32.toInt64 w)) (y := (lN 0)) (z := (lN 3)) ) cf_X5_in lk_X5_80 rfl rfl rfl (by decide +kernel) (Nat.le_of_ble_eq_true rfl) (fun rv_26 wv_27 hp_28 hm_29 => ?_)
    clear hm_29
    obtain ⟨rfl, rfl⟩ := hp_28
    show VV E 0 0 22 [(0, .ref r0), (1, .int (nI jp)), (2, .int w)] [.int (bz (inB (Int32.toInt64 w) (lN 0) (lN 3)))] [(r0, .inr (5, [.int (nI n), .ref k1, .ref k2, .ref k3, .ref k4, .int (nI m), .ref k6, .ref k7, .ref k8, .int (nI 0), .ref k10, .int (nI 0), .ref k12, .ref k13, .ref k14, .ref k15, .ref k16, .int (nI ls), .int (nI ap), .int (bz bd), .int (nI sq), .ref k21, .ref k22, .ref k23, .ref k24, .ref k25, .int (bz pd), .int (nI pl), .int (bz tk), kv, .ref k30, .ref k31, .int (nI tz), .ref k33, .int (nI rs), .int sd])), (k1, .inl (cI, 7, .inl (nIf ki))), (k2, .inl (cI, 7, .inl (nIf op))), (k3, .inl (cI, 7, .inl (nIf (shF sh)))), (k4, .inl (cI, 7, .inl (nIf fa))), (k10, .inl (cI, 7, .inl (nIf R)))]
    rcases in_ix1 (N := 4) (p := w) (show 3 < 2 ^ 29 by decide) rfl with ⟨e9, b9⟩ | ⟨jw, e9, i9, l9, b9⟩
    ·
      rw [b9]
      have hn_w := e9
      refine v_ifb_ne 44 25 zC dX5_person_22 (fun z => absurd z (by decide)) (fun _ => ?_)
      refine v_al_n 26 zC dX5_person_25 0 rfl ?_
      refine v_al_n 27 zC dX5_person_26 0 rfl ?_
      refine v_il_n 28 zC dX5_person_27 1 rfl ?_
      refine v_cV (As := [.int (nI jp)]) (st := [.ref r0]) 31 0 [0] zC dX5_person_28 hA (c_X5_isOne (ev_l E) (ev_D E) cI (r0 := r0) (k1 := k1) (k2 := k2) (k3 := k3) (k4 := k4) (k6 := k6) (k7 := k7) (k8 := k8) (k10 := k10) (k12 := k12) (k13 := k13) (k14 := k14) (k15 := k15) (k16 := k16) (k21 := k21) (k22 := k22) (k23 := k23) (k24 := k24) (k25 := k25) (k30 := k30) (k31 := k31) (k33 := k33) (n := n) (m := m) (aw := 0) (ls := ls) (ap := ap) (sq := sq) (pl := pl) (tz := tz) (rs := rs) (bd := bd) (pd := pd) (tk := tk) (kv := kv) (sd := sd) (p := (nI jp)) (hn := (by first | omega | assumption | rfl | (simp only []; omega) | decide))) cf_X5_isOne lk_X5_164 rfl rfl rfl rfl rfl (by decide +kernel) (Nat.le_of_ble_eq_true rfl) (fun rv_31 wv_32 hp_33 hm_34 => ?_)
      clear hm_34
      rcases hp_33 with ⟨hi_35, rfl, rfl⟩ | ⟨j_36, he_37, hi_38, hj_39, rfl, rfl⟩
      ·
        show VV E 0 0 31 [(0, .ref r0), (1, .int (nI jp)), (2, .int w)] [.int (nI 0), .ref r0] [(r0, .inr (5, [.int (nI n), .ref k1, .ref k2, .ref k3, .ref k4, .int (nI m), .ref k6, .ref k7, .ref k8, .int (nI 0), .ref k10, .int (nI 0), .ref k12, .ref k13, .ref k14, .ref k15, .ref k16, .int (nI ls), .int (nI ap), .int (bz bd), .int (nI sq), .ref k21, .ref k22, .ref k23, .ref k24, .ref k25, .int (bz pd), .int (nI pl), .int (bz tk), kv, .ref k30, .ref k31, .int (nI tz), .ref k33, .int (nI rs), .int sd])), (k1, .inl (cI, 7, .inl (nIf ki))), (k2, .inl (cI, 7, .inl (nIf op))), (k3, .inl (cI, 7, .inl (nIf (shF sh)))), (k4, .inl (cI, 7, .inl (nIf fa))), (k10, .inl (cI, 7, .inl (nIf R)))]
        exact absurd (hi_p.symm.trans hi_35) (fun z => by cases z)
      ·
        show VV E 0 0 31 [(0, .ref r0), (1, .int (nI jp)), (2, .int w)] [.int (nI 1), .ref r0] [(r0, .inr (5, [.int (nI n), .ref k1, .ref k2, .ref k3, .ref k4, .int (nI m), .ref k6, .ref k7, .ref k8, .int (nI 0), .ref k10, .int (nI 0), .ref k12, .ref k13, .ref k14, .ref k15, .ref k16, .int (nI ls), .int (nI ap), .int (bz bd), .int (nI sq), .ref k21, .ref k22, .ref k23, .ref k24, .ref k25, .int (bz pd), .int (nI pl), .int (bz tk), kv, .ref k30, .ref k31, .int (nI tz), .ref k33, .int (nI rs), .int sd])), (k1, .inl (cI, 7, .inl (nIf ki))), (k2, .inl (cI, 7, .inl (nIf op))), (k3, .inl (cI, 7, .inl (nIf (shF sh)))), (k4, .inl (cI, 7, .inl (nIf fa))), (k10, .inl (cI, 7, .inl (nIf R)))]
        refine v_if_eq 39 34 zC dX5_person_31 (fun z => absurd z (by decide +kernel)) (fun _ => ?_)
        refine v_bp (v := (-2)) 36 zC dX5_person_34 (by decide +kernel) ?_
        refine v_goto 40 zC dX5_person_36 ?_
        refine v_cV (As := [.int (-2)]) (st := []) 43 0 [0, 5] zC dX5_person_40 hA (c_X5_refuse (ev_l E) (ev_D E) cI (r0 := r0) (k1 := k1) (k2 := k2) (k3 := k3) (k4 := k4) (k6 := k6) (k7 := k7) (k8 := k8) (k10 := k10) (k12 := k12) (k13 := k13) (k14 := k14) (k15 := k15) (k16 := k16) (k21 := k21) (k22 := k22) (k23 := k23) (k24 := k24) (k25 := k25) (k30 := k30) (k31 := k31) (k33 := k33) (n := n) (m := m) (aw := 0) (ls := ls) (ap := ap) (sq := sq) (pl := pl) (tz := tz) (rs := rs) (bd := bd) (pd := pd) (tk := tk) (kv := kv) (sd := sd) (R := R) (v := (-2)) (j := 2) (hv := (by first | omega | assumption | rfl | (simp only []; omega) | decide)) (h1 := (by first | omega | assumption | rfl | (simp only []; omega) | decide)) (h6 := (by first | omega | assumption | rfl | (simp only []; omega) | decide))) cf_X5_refuse lk_X5_129 rfl rfl rfl rfl rfl (by decide +kernel) (Nat.le_of_ble_eq_true rfl) (fun rv_41 wv_42 hp_43 hm_44 => ?_)
        clear hm_44
        obtain ⟨rfl, rfl⟩ := hp_43
        show VV E 0 0 43 [(0, .ref r0), (1, .int (nI jp)), (2, .int w)] [.int (-2)] [(r0, .inr (5, [.int (nI n), .ref k1, .ref k2, .ref k3, .ref k4, .int (nI m), .ref k6, .ref k7, .ref k8, .int (nI 0), .ref k10, .int (nI 0), .ref k12, .ref k13, .ref k14, .ref k15, .ref k16, .int (nI ls), .int (nI ap), .int (bz bd), .int (nI sq), .ref k21, .ref k22, .ref k23, .ref k24, .ref k25, .int (bz pd), .int (nI pl), .int (bz tk), kv, .ref k30, .ref k31, .int (nI tz), .ref k33, .int (nI rs), .int sd])), (k1, .inl (cI, 7, .inl (nIf ki))), (k2, .inl (cI, 7, .inl (nIf op))), (k3, .inl (cI, 7, .inl (nIf (shF sh)))), (k4, .inl (cI, 7, .inl (nIf fa))), (k10, .inl (cI, 7, .inl (nIf (un R 2 (R 2 + 1)))))]
        refine v_iret zC zT dX5_person_43  ?_
        first | (have g9 := hn_p; exact ⟨1, _, by unfold q_person; rw [hn_p], rfl, rfl⟩) | (have g9 := hn_w; exact ⟨2, _, by unfold q_person; rw [hi_p]; dsimp only; rw [hn_w], rfl, rfl⟩) | exact ⟨0, _, by unfold q_person; rw [hi_p]; dsimp only; rw [hi_w]; dsimp only; first | (rw [if_pos hc0]; done) | (rw [if_neg hc0, if_pos hc1]; done) | (rw [if_neg hc0, if_neg hc1, if_pos hc2]; rfl) | (rw [if_neg hc0, if_neg hc1, if_neg hc2]; done) | (rw [if_neg hc0, if_neg hc1]; done), rfl, rfl⟩
    ·
      rw [b9]
      subst e9
      have hi_w := i9
      have hl_w := l9
      refine v_ifb_ne 44 25 zC dX5_person_22 (fun _ => ?_) (fun z => absurd z (by decide))
      refine v_il_n 45 zC dX5_person_44 2 rfl ?_
      refine v_ifn_ne 57 48 zC dX5_person_45 (fun h_46 => ?_) (fun h_46 => ?_)
      ·
        have hc0 := h_46
        refine v_il_n 58 zC dX5_person_57 2 rfl ?_
        refine v_ic (v := (nI 1)) 59 zC dX5_person_58 (by decide +kernel) ?_
        refine v_icmpn_ne 71 62 zC dX5_person_59 (fun h_47 => ?_) (fun h_47 => ?_)
        ·
          have hc1 := h_47
          refine v_il_n 72 zC dX5_person_71 2 rfl ?_
          refine v_ic (v := (nI 2)) 73 zC dX5_person_72 (by decide +kernel) ?_
          refine v_icmpn_ne 85 76 zC dX5_person_73 (fun h_48 => ?_) (fun h_48 => ?_)
          ·
            have hc2 := h_48
            refine v_al_n 86 zC dX5_person_85 0 rfl ?_
            refine v_gf 89 0 zC dX5_person_86 gf_X5_19 rfl rfl ?_
            refine v_il_n 90 zC dX5_person_89 1 rfl ?_
            refine v_ialn (v := (nI (fa jp))) 91 4 zC dX5_person_90 rfl (by omega) rfl ?_
            refine v_iret zC zT dX5_person_91  ?_
            first | (have g9 := hn_p; exact ⟨1, _, by unfold q_person; rw [hn_p], rfl, rfl⟩) | (have g9 := hn_w; exact ⟨2, _, by unfold q_person; rw [hi_p]; dsimp only; rw [hn_w], rfl, rfl⟩) | exact ⟨0, _, by unfold q_person; rw [hi_p]; dsimp only; rw [hi_w]; dsimp only; first | (rw [if_pos hc0]; done) | (rw [if_neg hc0, if_pos hc1]; done) | (rw [if_neg hc0, if_neg hc1, if_pos hc2]; rfl) | (rw [if_neg hc0, if_neg hc1, if_neg hc2]; done) | (rw [if_neg hc0, if_neg hc1]; done), rfl, rfl⟩
          ·
            have hc2 := h_48
            refine v_al_n 77 zC dX5_person_76 0 rfl ?_
            refine v_gf 80 0 zC dX5_person_77 gf_X5_16 rfl rfl ?_
            refine v_il_n 81 zC dX5_person_80 1 rfl ?_
            refine v_ialn (v := (nI ((shF sh) jp))) 82 3 zC dX5_person_81 rfl (by omega) rfl ?_
            refine v_goto 91 zC dX5_person_82 ?_
            refine v_iret zC zT dX5_person_91  ?_
            first | (have g9 := hn_p; exact ⟨1, _, by unfold q_person; rw [hn_p], rfl, rfl⟩) | (have g9 := hn_w; exact ⟨2, _, by unfold q_person; rw [hi_p]; dsimp only; rw [hn_w], rfl, rfl⟩) | exact ⟨0, _, by unfold q_person; rw [hi_p]; dsimp only; rw [hi_w]; dsimp only; first | (rw [if_pos hc0]; done) | (rw [if_neg hc0, if_pos hc1]; done) | (rw [if_neg hc0, if_neg hc1, if_pos hc2]; rfl) | (rw [if_neg hc0, if_neg hc1, if_neg hc2]; done) | (rw [if_neg hc0, if_neg hc1]; done), rfl, rfl⟩
        ·
          have hc1 := h_47
          refine v_al_n 63 zC dX5_person_62 0 rfl ?_
          refine v_gf 66 0 zC dX5_person_63 gf_X5_13 rfl rfl ?_
          refine v_il_n 67 zC dX5_person_66 1 rfl ?_
          refine v_ialn (v := (nI (op jp))) 68 2 zC dX5_person_67 rfl (by omega) rfl ?_
          refine v_goto 91 zC dX5_person_68 ?_
          refine v_iret zC zT dX5_person_91  ?_
          first | (have g9 := hn_p; exact ⟨1, _, by unfold q_person; rw [hn_p], rfl, rfl⟩) | (have g9 := hn_w; exact ⟨2, _, by unfold q_person; rw [hi_p]; dsimp only; rw [hn_w], rfl, rfl⟩) | exact ⟨0, _, by unfold q_person; rw [hi_p]; dsimp only; rw [hi_w]; dsimp only; first | (rw [if_pos hc0]; done) | (rw [if_neg hc0, if_pos hc1]; done) | (rw [if_neg hc0, if_neg hc1, if_pos hc2]; rfl) | (rw [if_neg hc0, if_neg hc1, if_neg hc2]; done) | (rw [if_neg hc0, if_neg hc1]; done), rfl, rfl⟩
      ·
        have hc0 := h_46
        refine v_al_n 49 zC dX5_person_48 0 rfl ?_
        refine v_gf 52 0 zC dX5_person_49 gf_X5_7 rfl rfl ?_
        refine v_il_n 53 zC dX5_person_52 1 rfl ?_
        refine v_ialn (v := (nI (ki jp))) 54 1 zC dX5_person_53 rfl (by omega) rfl ?_
        refine v_goto 91 zC dX5_person_54 ?_
        refine v_iret zC zT dX5_person_91  ?_
        first | (have g9 := hn_p; exact ⟨1, _, by unfold q_person; rw [hn_p], rfl, rfl⟩) | (have g9 := hn_w; exact ⟨2, _, by unfold q_person; rw [hi_p]; dsimp only; rw [hn_w], rfl, rfl⟩) | exact ⟨0, _, by unfold q_person; rw [hi_p]; dsimp only; rw [hi_w]; dsimp only; first | (rw [if_pos hc0]; done) | (rw [if_neg hc0, if_pos hc1]; done) | (rw [if_neg hc0, if_neg hc1, if_pos hc2]; rfl) | (rw [if_neg hc0, if_neg hc1, if_neg hc2]; done) | (rw [if_neg hc0, if_neg hc1]; done), rfl, rfl⟩
set_option maxRecDepth 100000 in
set_option maxHeartbeats 4000000 in
theorem c_X5_dead (l : Launch) (D : va_G) (cI : ClassId) (r0 k1 k2 k3 k4 k6 k7 k8 k10 k12 k13 k14 k15 k16 k21 k22 k23 k24 k25 k30 k31 k33 : Nat) (n m ls ap sq pl tz rs : Nat) (bd pd tk : Bool) (kv : Value) (sd : Int32) (ki op fa K G T : Nat → Nat) (sh : Nat) (R : Nat → Nat) (d w : Int32) (hm : m ≤ 6) : CT l yX5_dead cX5_dead 3 (some .int) { frames := 2, cells := 0, slots := 0, locals := 46 } D cI [.ref r0, .int d, .int w] [(r0, .inr (5, [.int (nI n), .ref k1, .ref k2, .ref k3, .ref k4, .int (nI m), .ref k6, .ref k7, .ref k8, .int (nI 0), .ref k10, .int (nI 0), .ref k12, .ref k13, .ref k14, .ref k15, .ref k16, .int (nI ls), .int (nI ap), .int (bz bd), .int (nI sq), .ref k21, .ref k22, .ref k23, .ref k24, .ref k25, .int (bz pd), .int (nI pl), .int (bz tk), kv, .ref k30, .ref k31, .int (nI tz), .ref k33, .int (nI rs), .int sd])), (k6, .inl (cI, 6, .inl (nIf K))), (k7, .inl (cI, 6, .inl (nIf G))), (k8, .inl (cI, 6, .inl (nIf T))), (k10, .inl (cI, 7, .inl (nIf R)))] (fun zr zw => (∃ rc : Nat, ∃ rv : Int32, (q_dead (n, m, sh, 0, ki, op, fa, K, G, T) d w = (rc, rv)) ∧ zr = some (.int rv) ∧ zw = [(r0, .inr (5, [.int (nI n), .ref k1, .ref k2, .ref k3, .ref k4, .int (nI m), .ref k6, .ref k7, .ref k8, .int (nI 0), .ref k10, .int (nI 0), .ref k12, .ref k13, .ref k14, .ref k15, .ref k16, .int (nI ls), .int (nI ap), .int (bz bd), .int (nI sq), .ref k21, .ref k22, .ref k23, .ref k24, .ref k25, .int (bz pd), .int (nI pl), .int (bz tk), kv, .ref k30, .ref k31, .int (nI tz), .ref k33, .int (nI rs), .int sd])), (k6, .inl (cI, 6, .inl (nIf K))), (k7, .inl (cI, 6, .inl (nIf G))), (k8, .inl (cI, 6, .inl (nIf T))), (k10, .inl (cI, 7, .inl (nIf (rf R rc))))])) := by
  refine CT_of RX5 rfl (by decide +kernel) (Nat.le_of_ble_eq_true rfl) (fun E hnE zC zT => ?_)
  have hA : ∀ q, (ev_s E).heap.size ≤ q → ev_A E q := fun q h => by rw [zT.2]; exact Or.inr h
  show VV E 0 0 0 [(0, .ref r0), (1, .int d), (2, .int w)] [] [(r0, .inr (5, [.int (nI n), .ref k1, .ref k2, .ref k3, .ref k4, .int (nI m), .ref k6, .ref k7, .ref k8, .int (nI 0), .ref k10, .int (nI 0), .ref k12, .ref k13, .ref k14, .ref k15, .ref k16, .int (nI ls), .int (nI ap), .int (bz bd), .int (nI sq), .ref k21, .ref k22, .ref k23, .ref k24, .ref k25, .int (bz pd), .int (nI pl), .int (bz tk), kv, .ref k30, .ref k31, .int (nI tz), .ref k33, .int (nI rs), .int sd])), (k6, .inl (cI, 6, .inl (nIf K))), (k7, .inl (cI, 6, .inl (nIf G))), (k8, .inl (cI, 6, .inl (nIf T))), (k10, .inl (cI, 7, .inl (nIf R)))]
  refine v_al_n 1 zC dX5_dead_0 0 rfl ?_
  refine v_ic (v := (nI 0)) 2 zC dX5_dead_1 (by decide +kernel) ?_
  refine v_pf (ws2 := [(r0, .inr (5, [.int (nI n), .ref k1, .ref k2, .ref k3, .ref k4, .int (nI m), .ref k6, .ref k7, .ref k8, .int (nI 0), .ref k10, .int (nI 0), .ref k12, .ref k13, .ref k14, .ref k15, .ref k16, .int (nI ls), .int (nI ap), .int (bz bd), .int (nI sq), .ref k21, .ref k22, .ref k23, .ref k24, .ref k25, .int (bz pd), .int (nI pl), .int (bz tk), kv, .ref k30, .ref k31, .int (nI tz), .ref k33, .int (nI rs), .int sd])), (k6, .inl (cI, 6, .inl (nIf K))), (k7, .inl (cI, 6, .inl (nIf G))), (k8, .inl (cI, 6, .inl (nIf T))), (k10, .inl (cI, 7, .inl (nIf R)))]) 5 0 zC dX5_dead_2 pf_X5_73 rfl (Nat.le_of_ble_eq_true rfl) rfl rfl rfl ?_
  refine v_al_n 6 zC dX5_dead_5 0 rfl ?_
  refine v_il_n 7 zC dX5_dead_6 1 rfl ?_
  refine v_cV (As := [.int d]) (st := []) 10 0 [0] zC dX5_dead_7 hA (c_X5_isDead (ev_l E) (ev_D E) cI (r0 := r0) (k1 := k1) (k2 := k2) (k3 := k3) (k4 := k4) (k6 := k6) (k7 := k7) (k8 := k8) (k10 := k10) (k12 := k12) (k13 := k13) (k14 := k14) (k15 := k15) (k16 := k16) (k21 := k21) (k22 := k22) (k23 := k23) (k24 := k24) (k25 := k25) (k30 := k30) (k31 := k31) (k33 := k33) (n := n) (m := m) (aw := 0) (ls := ls) (ap := ap) (sq := sq) (pl := pl) (tz := tz) (rs := rs) (bd := bd) (pd := pd) (tk := tk) (kv := kv) (sd := sd) (p := d) (hn := (by first | omega | assumption | rfl | (simp only []; omega) | decide))) cf_X5_isDead lk_X5_208 rfl rfl rfl rfl rfl (by decide +kernel) (Nat.le_of_ble_eq_true rfl) (fun rv_1 wv_2 hp_3 hm_4 => ?_)
  clear hm_4
  rcases hp_3 with ⟨hi_5, rfl, rfl⟩ | ⟨j_6, he_7, hi_8, hj_9, rfl, rfl⟩
  ·
    show VV E 0 0 10 [(0, .ref r0), (1, .int d), (2, .int w)] [.int (nI 0)] [(r0, .inr (5, [.int (nI n), .ref k1, .ref k2, .ref k3, .ref k4, .int (nI m), .ref k6, .ref k7, .ref k8, .int (nI 0), .ref k10, .int (nI 0), .ref k12, .ref k13, .ref k14, .ref k15, .ref k16, .int (nI ls), .int (nI ap), .int (bz bd), .int (nI sq), .ref k21, .ref k22, .ref k23, .ref k24, .ref k25, .int (bz pd), .int (nI pl), .int (bz tk), kv, .ref k30, .ref k31, .int (nI tz), .ref k33, .int (nI rs), .int sd])), (k6, .inl (cI, 6, .inl (nIf K))), (k7, .inl (cI, 6, .inl (nIf G))), (k8, .inl (cI, 6, .inl (nIf T))), (k10, .inl (cI, 7, .inl (nIf R)))]
    have hn_d := hi_5
    refine v_if_eq 25 13 zC dX5_dead_10 (fun _ => ?_) (fun z => absurd (by decide +kernel) z)
    refine v_al_n 26 zC dX5_dead_25 0 rfl ?_
    refine v_al_n 27 zC dX5_dead_26 0 rfl ?_
    refine v_il_n 28 zC dX5_dead_27 1 rfl ?_
    refine v_cV (As := [.int d]) (st := [.ref r0]) 31 0 [0] zC dX5_dead_28 hA (c_X5_isDead (ev_l E) (ev_D E) cI (r0 := r0) (k1 := k1) (k2 := k2) (k3 := k3) (k4 := k4) (k6 := k6) (k7 := k7) (k8 := k8) (k10 := k10) (k12 := k12) (k13 := k13) (k14 := k14) (k15 := k15) (k16 := k16) (k21 := k21) (k22 := k22) (k23 := k23) (k24 := k24) (k25 := k25) (k30 := k30) (k31 := k31) (k33 := k33) (n := n) (m := m) (aw := 0) (ls := ls) (ap := ap) (sq := sq) (pl := pl) (tz := tz) (rs := rs) (bd := bd) (pd := pd) (tk := tk) (kv := kv) (sd := sd) (p := d) (hn := (by first | omega | assumption | rfl | (simp only []; omega) | decide))) cf_X5_isDead lk_X5_208 rfl rfl rfl rfl rfl (by decide +kernel) (Nat.le_of_ble_eq_true rfl) (fun rv_11 wv_12 hp_13 hm_14 => ?_)
    clear hm_14
    rcases hp_13 with ⟨hi_15, rfl, rfl⟩ | ⟨j_16, he_17, hi_18, hj_19, rfl, rfl⟩
    ·
      show VV E 0 0 31 [(0, .ref r0), (1, .int d), (2, .int w)] [.int (nI 0), .ref r0] [(r0, .inr (5, [.int (nI n), .ref k1, .ref k2, .ref k3, .ref k4, .int (nI m), .ref k6, .ref k7, .ref k8, .int (nI 0), .ref k10, .int (nI 0), .ref k12, .ref k13, .ref k14, .ref k15, .ref k16, .int (nI ls), .int (nI ap), .int (bz bd), .int (nI sq), .ref k21, .ref k22, .ref k23, .ref k24, .ref k25, .int (bz pd), .int (nI pl), .int (bz tk), kv, .ref k30, .ref k31, .int (nI tz), .ref k33, .int (nI rs), .int sd])), (k6, .inl (cI, 6, .inl (nIf K))), (k7, .inl (cI, 6, .inl (nIf G))), (k8, .inl (cI, 6, .inl (nIf T))), (k10, .inl (cI, 7, .inl (nIf R)))]
      refine v_if_eq 39 34 zC dX5_dead_31 (fun _ => ?_) (fun z => absurd (by decide +kernel) z)
      refine v_ic (v := (-1)) 40 zC dX5_dead_39 (by decide +kernel) ?_
      refine v_cV (As := [.int (-1)]) (st := []) 43 0 [0, 4] zC dX5_dead_40 hA (c_X5_refuse (ev_l E) (ev_D E) cI (r0 := r0) (k1 := k1) (k2 := k2) (k3 := k3) (k4 := k4) (k6 := k6) (k7 := k7) (k8 := k8) (k10 := k10) (k12 := k12) (k13 := k13) (k14 := k14) (k15 := k15) (k16 := k16) (k21 := k21) (k22 := k22) (k23 := k23) (k24 := k24) (k25 := k25) (k30 := k30) (k31 := k31) (k33 := k33) (n := n) (m := m) (aw := 0) (ls := ls) (ap := ap) (sq := sq) (pl := pl) (tz := tz) (rs := rs) (bd := bd) (pd := pd) (tk := tk) (kv := kv) (sd := sd) (R := R) (v := (-1)) (j := 1) (hv := (by first | omega | assumption | rfl | (simp only []; omega) | decide)) (h1 := (by first | omega | assumption | rfl | (simp only []; omega) | decide)) (h6 := (by first | omega | assumption | rfl | (simp only []; omega) | decide))) cf_X5_refuse lk_X5_129 rfl rfl rfl rfl rfl (by decide +kernel) (Nat.le_of_ble_eq_true rfl) (fun rv_21 wv_22 hp_23 hm_24 => ?_)
      clear hm_24
      obtain ⟨rfl, rfl⟩ := hp_23
      show VV E 0 0 43 [(0, .ref r0), (1, .int d), (2, .int w)] [.int (-1)] [(r0, .inr (5, [.int (nI n), .ref k1, .ref k2, .ref k3, .ref k4, .int (nI m), .ref k6, .ref k7, .ref k8, .int (nI 0), .ref k10, .int (nI 0), .ref k12, .ref k13, .ref k14, .ref k15, .ref k16, .int (nI ls), .int (nI ap), .int (bz bd), .int (nI sq), .ref k21, .ref k22, .ref k23, .ref k24, .ref k25, .int (bz pd), .int (nI pl), .int (bz tk), kv, .ref k30, .ref k31, .int (nI tz), .ref k33, .int (nI rs), .int sd])), (k6, .inl (cI, 6, .inl (nIf K))), (k7, .inl (cI, 6, .inl (nIf G))), (k8, .inl (cI, 6, .inl (nIf T))), (k10, .inl (cI, 7, .inl (nIf (un R 1 (R 1 + 1)))))]
      refine v_iret zC zT dX5_dead_43  ?_
      first | (have g9 := hn_d; exact ⟨1, _, by unfold q_dead; rw [hn_d], rfl, rfl⟩) | (have g9 := hn_w; exact ⟨2, _, by unfold q_dead; rw [hi_d]; dsimp only; rw [hn_w], rfl, rfl⟩) | exact ⟨0, _, by unfold q_dead; rw [hi_d]; dsimp only; rw [hi_w]; dsimp only; first | (rw [if_pos hc0]; done) | (rw [if_neg hc0, if_pos hc1]; done) | (rw [if_neg hc0, if_neg hc1, if_pos hc2]; rfl) | (rw [if_neg hc0, if_neg hc1, if_neg hc2]; done) | (rw [if_neg hc0, if_neg hc1]; done), rfl, rfl⟩
    ·
      show VV E 0 0 31 [(0, .ref r0), (1, .int d), (2, .int w)] [.int (nI 1), .ref r0] [(r0, .inr (5, [.int (nI n), .ref k1, .ref k2, .ref k3, .ref k4, .int (nI m), .ref k6, .ref k7, .ref k8, .int (nI 0), .ref k10, .int (nI 0), .ref k12, .ref k13, .ref k14, .ref k15, .ref k16, .int (nI ls), .int (nI ap), .int (bz bd), .int (nI sq), .ref k21, .ref k22, .ref k23, .ref k24, .ref k25, .int (bz pd), .int (nI pl), .int (bz tk), kv, .ref k30, .ref k31, .int (nI tz), .ref k33, .int (nI rs), .int sd])), (k6, .inl (cI, 6, .inl (nIf K))), (k7, .inl (cI, 6, .inl (nIf G))), (k8, .inl (cI, 6, .inl (nIf T))), (k10, .inl (cI, 7, .inl (nIf R)))]
      rw [he_17] at hn_d
      exact absurd (hn_d.symm.trans hi_18) (fun z => by cases z)
  ·
    show VV E 0 0 10 [(0, .ref r0), (1, .int d), (2, .int w)] [.int (nI 1)] [(r0, .inr (5, [.int (nI n), .ref k1, .ref k2, .ref k3, .ref k4, .int (nI m), .ref k6, .ref k7, .ref k8, .int (nI 0), .ref k10, .int (nI 0), .ref k12, .ref k13, .ref k14, .ref k15, .ref k16, .int (nI ls), .int (nI ap), .int (bz bd), .int (nI sq), .ref k21, .ref k22, .ref k23, .ref k24, .ref k25, .int (bz pd), .int (nI pl), .int (bz tk), kv, .ref k30, .ref k31, .int (nI tz), .ref k33, .int (nI rs), .int sd])), (k6, .inl (cI, 6, .inl (nIf K))), (k7, .inl (cI, 6, .inl (nIf G))), (k8, .inl (cI, 6, .inl (nIf T))), (k10, .inl (cI, 7, .inl (nIf R)))]
    subst he_7
    have hi_d := hi_8
    obtain ⟨jd, hx_jd⟩ : ∃ z, z = j_6 := ⟨_, rfl⟩
    subst hx_jd
    refine v_if_eq 25 13 zC dX5_dead_10 (fun z => absurd z (by decide +kernel)) (fun _ => ?_)
    refine v_il_n 14 zC dX5_dead_13 2 rfl ?_
    refine v_i2l (v := (Int32.toInt64 w)) 15 zC dX5_dead_14 rfl ?_
    refine v_lc (v := lN 0) 16 zC dX5_dead_15 (by decide +kernel) ?_
    refine v_ldc2 (v := (lN 2)) 19 zC dX5_dead_16 kc_X5_211 ?_
    refine v_cS (As := [.long (Int32.toInt64 w), .long (lN 0), .long (lN 2)]) (st := []) 22 [] zC dX5_dead_19 hA (c_X5_in (ev_l E) (ev_D E) cI (x := (Int32.toInt64 w)) (y := (lN 0)) (z := (lN 2)) ) cf_X5_in lk_X5_80 rfl rfl rfl (by decide +kernel) (Nat.le_of_ble_eq_true rfl) (fun rv_26 wv_27 hp_28 hm_29 => ?_)
    clear hm_29
    obtain ⟨rfl, rfl⟩ := hp_28
    show VV E 0 0 22 [(0, .ref r0), (1, .int (nI jd)), (2, .int w)] [.int (bz (inB (Int32.toInt64 w) (lN 0) (lN 2)))] [(r0, .inr (5, [.int (nI n), .ref k1, .ref k2, .ref k3, .ref k4, .int (nI m), .ref k6, .ref k7, .ref k8, .int (nI 0), .ref k10, .int (nI 0), .ref k12, .ref k13, .ref k14, .ref k15, .ref k16, .int (nI ls), .int (nI ap), .int (bz bd), .int (nI sq), .ref k21, .ref k22, .ref k23, .ref k24, .ref k25, .int (bz pd), .int (nI pl), .int (bz tk), kv, .ref k30, .ref k31, .int (nI tz), .ref k33, .int (nI rs), .int sd])), (k6, .inl (cI, 6, .inl (nIf K))), (k7, .inl (cI, 6, .inl (nIf G))), (k8, .inl (cI, 6, .inl (nIf T))), (k10, .inl (cI, 7, .inl (nIf R)))]
    rcases in_ix1 (N := 3) (p := w) (show 2 < 2 ^ 29 by decide) rfl with ⟨e9, b9⟩ | ⟨jw, e9, i9, l9, b9⟩
    ·
      rw [b9]
      have hn_w := e9
      refine v_ifb_ne 44 25 zC dX5_dead_22 (fun z => absurd z (by decide)) (fun _ => ?_)
      refine v_al_n 26 zC dX5_dead_25 0 rfl ?_
      refine v_al_n 27 zC dX5_dead_26 0 rfl ?_
      refine v_il_n 28 zC dX5_dead_27 1 rfl ?_
      refine v_cV (As := [.int (nI jd)]) (st := [.ref r0]) 31 0 [0] zC dX5_dead_28 hA (c_X5_isDead (ev_l E) (ev_D E) cI (r0 := r0) (k1 := k1) (k2 := k2) (k3 := k3) (k4 := k4) (k6 := k6) (k7 := k7) (k8 := k8) (k10 := k10) (k12 := k12) (k13 := k13) (k14 := k14) (k15 := k15) (k16 := k16) (k21 := k21) (k22 := k22) (k23 := k23) (k24 := k24) (k25 := k25) (k30 := k30) (k31 := k31) (k33 := k33) (n := n) (m := m) (aw := 0) (ls := ls) (ap := ap) (sq := sq) (pl := pl) (tz := tz) (rs := rs) (bd := bd) (pd := pd) (tk := tk) (kv := kv) (sd := sd) (p := (nI jd)) (hn := (by first | omega | assumption | rfl | (simp only []; omega) | decide))) cf_X5_isDead lk_X5_208 rfl rfl rfl rfl rfl (by decide +kernel) (Nat.le_of_ble_eq_true rfl) (fun rv_31 wv_32 hp_33 hm_34 => ?_)
      clear hm_34
      rcases hp_33 with ⟨hi_35, rfl, rfl⟩ | ⟨j_36, he_37, hi_38, hj_39, rfl, rfl⟩
      ·
        show VV E 0 0 31 [(0, .ref r0), (1, .int (nI jd)), (2, .int w)] [.int (nI 0), .ref r0] [(r0, .inr (5, [.int (nI n), .ref k1, .ref k2, .ref k3, .ref k4, .int (nI m), .ref k6, .ref k7, .ref k8, .int (nI 0), .ref k10, .int (nI 0), .ref k12, .ref k13, .ref k14, .ref k15, .ref k16, .int (nI ls), .int (nI ap), .int (bz bd), .int (nI sq), .ref k21, .ref k22, .ref k23, .ref k24, .ref k25, .int (bz pd), .int (nI pl), .int (bz tk), kv, .ref k30, .ref k31, .int (nI tz), .ref k33, .int (nI rs), .int sd])), (k6, .inl (cI, 6, .inl (nIf K))), (k7, .inl (cI, 6, .inl (nIf G))), (k8, .inl (cI, 6, .inl (nIf T))), (k10, .inl (cI, 7, .inl (nIf R)))]
        exact absurd (hi_d.symm.trans hi_35) (fun z => by cases z)
      ·
        show VV E 0 0 31 [(0, .ref r0), (1, .int (nI jd)), (2, .int w)] [.int (nI 1), .ref r0] [(r0, .inr (5, [.int (nI n), .ref k1, .ref k2, .ref k3, .ref k4, .int (nI m), .ref k6, .ref k7, .ref k8, .int (nI 0), .ref k10, .int (nI 0), .ref k12, .ref k13, .ref k14, .ref k15, .ref k16, .int (nI ls), .int (nI ap), .int (bz bd), .int (nI sq), .ref k21, .ref k22, .ref k23, .ref k24, .ref k25, .int (bz pd), .int (nI pl), .int (bz tk), kv, .ref k30, .ref k31, .int (nI tz), .ref k33, .int (nI rs), .int sd])), (k6, .inl (cI, 6, .inl (nIf K))), (k7, .inl (cI, 6, .inl (nIf G))), (k8, .inl (cI, 6, .inl (nIf T))), (k10, .inl (cI, 7, .inl (nIf R)))]
        refine v_if_eq 39 34 zC dX5_dead_31 (fun z => absurd z (by decide +kernel)) (fun _ => ?_)
        refine v_bp (v := (-2)) 36 zC dX5_dead_34 (by decide +kernel) ?_
        refine v_goto 40 zC dX5_dead_36 ?_
        refine v_cV (As := [.int (-2)]) (st := []) 43 0 [0, 4] zC dX5_dead_40 hA (c_X5_refuse (ev_l E) (ev_D E) cI (r0 := r0) (k1 := k1) (k2 := k2) (k3 := k3) (k4 := k4) (k6 := k6) (k7 := k7) (k8 := k8) (k10 := k10) (k12 := k12) (k13 := k13) (k14 := k14) (k15 := k15) (k16 := k16) (k21 := k21) (k22 := k22) (k23 := k23) (k24 := k24) (k25 := k25) (k30 := k30) (k31 := k31) (k33 := k33) (n := n) (m := m) (aw := 0) (ls := ls) (ap := ap) (sq := sq) (pl := pl) (tz := tz) (rs := rs) (bd := bd) (pd := pd) (tk := tk) (kv := kv) (sd := sd) (R := R) (v := (-2)) (j := 2) (hv := (by first | omega | assumption | rfl | (simp only []; omega) | decide)) (h1 := (by first | omega | assumption | rfl | (simp only []; omega) | decide)) (h6 := (by first | omega | assumption | rfl | (simp only []; omega) | decide))) cf_X5_refuse lk_X5_129 rfl rfl rfl rfl rfl (by decide +kernel) (Nat.le_of_ble_eq_true rfl) (fun rv_41 wv_42 hp_43 hm_44 => ?_)
        clear hm_44
        obtain ⟨rfl, rfl⟩ := hp_43
        show VV E 0 0 43 [(0, .ref r0), (1, .int (nI jd)), (2, .int w)] [.int (-2)] [(r0, .inr (5, [.int (nI n), .ref k1, .ref k2, .ref k3, .ref k4, .int (nI m), .ref k6, .ref k7, .ref k8, .int (nI 0), .ref k10, .int (nI 0), .ref k12, .ref k13, .ref k14, .ref k15, .ref k16, .int (nI ls), .int (nI ap), .int (bz bd), .int (nI sq), .ref k21, .ref k22, .ref k23, .ref k24, .ref k25, .int (bz pd), .int (nI pl), .int (bz tk), kv, .ref k30, .ref k31, .int (nI tz), .ref k33, .int (nI rs), .int sd])), (k6, .inl (cI, 6, .inl (nIf K))), (k7, .inl (cI, 6, .inl (nIf G))), (k8, .inl (cI, 6, .inl (nIf T))), (k10, .inl (cI, 7, .inl (nIf (un R 2 (R 2 + 1)))))]
        refine v_iret zC zT dX5_dead_43  ?_
        first | (have g9 := hn_d; exact ⟨1, _, by unfold q_dead; rw [hn_d], rfl, rfl⟩) | (have g9 := hn_w; exact ⟨2, _, by unfold q_dead; rw [hi_d]; dsimp only; rw [hn_w], rfl, rfl⟩) | exact ⟨0, _, by unfold q_dead; rw [hi_d]; dsimp only; rw [hi_w]; dsimp only; first | (rw [if_pos hc0]; done) | (rw [if_neg hc0, if_pos hc1]; done) | (rw [if_neg hc0, if_neg hc1, if_pos hc2]; rfl) | (rw [if_neg hc0, if_neg hc1, if_neg hc2]; done) | (rw [if_neg hc0, if_neg hc1]; done), rfl, rfl⟩
    ·
      rw [b9]
      subst e9
      have hi_w := i9
      have hl_w := l9
      refine v_ifb_ne 44 25 zC dX5_dead_22 (fun _ => ?_) (fun z => absurd z (by decide))
      refine v_il_n 45 zC dX5_dead_44 2 rfl ?_
      refine v_ifn_ne 57 48 zC dX5_dead_45 (fun h_46 => ?_) (fun h_46 => ?_)
      ·
        have hc0 := h_46
        refine v_il_n 58 zC dX5_dead_57 2 rfl ?_
        refine v_ic (v := (nI 1)) 59 zC dX5_dead_58 (by decide +kernel) ?_
        refine v_icmpn_ne 71 62 zC dX5_dead_59 (fun h_47 => ?_) (fun h_47 => ?_)
        ·
          have hc1 := h_47
          refine v_al_n 72 zC dX5_dead_71 0 rfl ?_
          refine v_gf 75 0 zC dX5_dead_72 gf_X5_28 rfl rfl ?_
          refine v_il_n 76 zC dX5_dead_75 1 rfl ?_
          refine v_ialn (v := (nI (T jd))) 77 3 zC dX5_dead_76 rfl (by omega) rfl ?_
          refine v_iret zC zT dX5_dead_77  ?_
          first | (have g9 := hn_d; exact ⟨1, _, by unfold q_dead; rw [hn_d], rfl, rfl⟩) | (have g9 := hn_w; exact ⟨2, _, by unfold q_dead; rw [hi_d]; dsimp only; rw [hn_w], rfl, rfl⟩) | exact ⟨0, _, by unfold q_dead; rw [hi_d]; dsimp only; rw [hi_w]; dsimp only; first | (rw [if_pos hc0]; done) | (rw [if_neg hc0, if_pos hc1]; done) | (rw [if_neg hc0, if_neg hc1, if_pos hc2]; rfl) | (rw [if_neg hc0, if_neg hc1, if_neg hc2]; done) | (rw [if_neg hc0, if_neg hc1]; done), rfl, rfl⟩
        ·
          have hc1 := h_47
          refine v_al_n 63 zC dX5_dead_62 0 rfl ?_
          refine v_gf 66 0 zC dX5_dead_63 gf_X5_25 rfl rfl ?_
          refine v_il_n 67 zC dX5_dead_66 1 rfl ?_
          refine v_ialn (v := (nI (G jd))) 68 2 zC dX5_dead_67 rfl (by omega) rfl ?_
          refine v_goto 77 zC dX5_dead_68 ?_
          refine v_iret zC zT dX5_dead_77  ?_
          first | (have g9 := hn_d; exact ⟨1, _, by unfold q_dead; rw [hn_d], rfl, rfl⟩) | (have g9 := hn_w; exact ⟨2, _, by unfold q_dead; rw [hi_d]; dsimp only; rw [hn_w], rfl, rfl⟩) | exact ⟨0, _, by unfold q_dead; rw [hi_d]; dsimp only; rw [hi_w]; dsimp only; first | (rw [if_pos hc0]; done) | (rw [if_neg hc0, if_pos hc1]; done) | (rw [if_neg hc0, if_neg hc1, if_pos hc2]; rfl) | (rw [if_neg hc0, if_neg hc1, if_neg hc2]; done) | (rw [if_neg hc0, if_neg hc1]; done), rfl, rfl⟩
      ·
        have hc0 := h_46
        refine v_al_n 49 zC dX5_dead_48 0 rfl ?_
        refine v_gf 52 0 zC dX5_dead_49 gf_X5_22 rfl rfl ?_
        refine v_il_n 53 zC dX5_dead_52 1 rfl ?_
        refine v_ialn (v := (nI (K jd))) 54 1 zC dX5_dead_53 rfl (by omega) rfl ?_
        refine v_goto 77 zC dX5_dead_54 ?_
        refine v_iret zC zT dX5_dead_77  ?_
        first | (have g9 := hn_d; exact ⟨1, _, by unfold q_dead; rw [hn_d], rfl, rfl⟩) | (have g9 := hn_w; exact ⟨2, _, by unfold q_dead; rw [hi_d]; dsimp only; rw [hn_w], rfl, rfl⟩) | exact ⟨0, _, by unfold q_dead; rw [hi_d]; dsimp only; rw [hi_w]; dsimp only; first | (rw [if_pos hc0]; done) | (rw [if_neg hc0, if_pos hc1]; done) | (rw [if_neg hc0, if_neg hc1, if_pos hc2]; rfl) | (rw [if_neg hc0, if_neg hc1, if_neg hc2]; done) | (rw [if_neg hc0, if_neg hc1]; done), rfl, rfl⟩
set_option maxRecDepth 100000 in
set_option maxHeartbeats 4000000 in
theorem c_X5_oneComes (l : Launch) (D : va_G) (cI : ClassId) (r0 k1 k2 k3 k4 k6 k7 k8 k10 k12 k13 k14 k15 k16 k21 k22 k23 k24 k25 k30 k31 k33 : Nat) (n m aw ls ap sq pl tz rs : Nat) (bd pd tk : Bool) (kv : Value) (sd : Int32) (ki op fa : Nat → Nat) (sh : Nat) (k : Nat) (hn : n < 7) (hsh : sh < 2 ^ n) : CT l yX5_oneComes cX5_oneComes 2 none { frames := 0, cells := 0, slots := 0, locals := 0 } D cI [.ref r0, .int (nI k)] [(r0, .inr (5, [.int (nI n), .ref k1, .ref k2, .ref k3, .ref k4, .int (nI m), .ref k6, .ref k7, .ref k8, .int (nI 0), .ref k10, .int (nI aw), .ref k12, .ref k13, .ref k14, .ref k15, .ref k16, .int (nI ls), .int (nI ap), .int (bz bd), .int (nI sq), .ref k21, .ref k22, .ref k23, .ref k24, .ref k25, .int (bz pd), .int (nI pl), .int (bz tk), kv, .ref k30, .ref k31, .int (nI tz), .ref k33, .int (nI rs), .int sd])), (k1, .inl (cI, 7, .inl (nIf ki))), (k2, .inl (cI, 7, .inl (nIf op))), (k3, .inl (cI, 7, .inl (nIf (shF sh)))), (k4, .inl (cI, 7, .inl (nIf fa)))] (fun zr zw => (zr = none ∧ zw = [(r0, .inr (5, [.int (nI (n + 1)), .ref k1, .ref k2, .ref k3, .ref k4, .int (nI m), .ref k6, .ref k7, .ref k8, .int (nI 0), .ref k10, .int (nI aw), .ref k12, .ref k13, .ref k14, .ref k15, .ref k16, .int (nI ls), .int (nI ap), .int (bz bd), .int (nI sq), .ref k21, .ref k22, .ref k23, .ref k24, .ref k25, .int (bz pd), .int (nI pl), .int (bz tk), kv, .ref k30, .ref k31, .int (nI tz), .ref k33, .int (nI rs), .int sd])), (k1, .inl (cI, 7, .inl (nIf (un ki n k)))), (k2, .inl (cI, 7, .inl (nIf (un op n 0)))), (k3, .inl (cI, 7, .inl (nIf (shF sh)))), (k4, .inl (cI, 7, .inl (nIf (un fa n 0))))])) := by
  refine CT_of RX5 rfl (by decide +kernel) (Nat.le_of_ble_eq_true rfl) (fun E hnE zC zT => ?_)
  have hA : ∀ q, (ev_s E).heap.size ≤ q → ev_A E q := fun q h => by rw [zT.2]; exact Or.inr h
  show VV E 0 0 0 [(0, .ref r0), (1, .int (nI k))] [] [(r0, .inr (5, [.int (nI n), .ref k1, .ref k2, .ref k3, .ref k4, .int (nI m), .ref k6, .ref k7, .ref k8, .int (nI 0), .ref k10, .int (nI aw), .ref k12, .ref k13, .ref k14, .ref k15, .ref k16, .int (nI ls), .int (nI ap), .int (bz bd), .int (nI sq), .ref k21, .ref k22, .ref k23, .ref k24, .ref k25, .int (bz pd), .int (nI pl), .int (bz tk), kv, .ref k30, .ref k31, .int (nI tz), .ref k33, .int (nI rs), .int sd])), (k1, .inl (cI, 7, .inl (nIf ki))), (k2, .inl (cI, 7, .inl (nIf op))), (k3, .inl (cI, 7, .inl (nIf (shF sh)))), (k4, .inl (cI, 7, .inl (nIf fa)))]
  refine v_al_n 1 zC dX5_oneComes_0 0 rfl ?_
  refine v_gf 4 0 zC dX5_oneComes_1 gf_X5_7 rfl rfl ?_
  refine v_al_n 5 zC dX5_oneComes_4 0 rfl ?_
  refine v_gf 8 0 zC dX5_oneComes_5 gf_X5_77 rfl rfl ?_
  refine v_il_n 9 zC dX5_oneComes_8 1 rfl ?_
  refine v_iasn (ws2 := [(r0, .inr (5, [.int (nI n), .ref k1, .ref k2, .ref k3, .ref k4, .int (nI m), .ref k6, .ref k7, .ref k8, .int (nI 0), .ref k10, .int (nI aw), .ref k12, .ref k13, .ref k14, .ref k15, .ref k16, .int (nI ls), .int (nI ap), .int (bz bd), .int (nI sq), .ref k21, .ref k22, .ref k23, .ref k24, .ref k25, .int (bz pd), .int (nI pl), .int (bz tk), kv, .ref k30, .ref k31, .int (nI tz), .ref k33, .int (nI rs), .int sd])), (k1, .inl (cI, 7, .inl (nIf (un ki n k)))), (k2, .inl (cI, 7, .inl (nIf op))), (k3, .inl (cI, 7, .inl (nIf (shF sh)))), (k4, .inl (cI, 7, .inl (nIf fa)))]) 10 1 zC dX5_oneComes_9 rfl (by omega) (by rw [upd_nIf]; first | done | rfl) ?_
  refine v_al_n 11 zC dX5_oneComes_10 0 rfl ?_
  refine v_gf 14 0 zC dX5_oneComes_11 gf_X5_13 rfl rfl ?_
  refine v_al_n 15 zC dX5_oneComes_14 0 rfl ?_
  refine v_gf 18 0 zC dX5_oneComes_15 gf_X5_77 rfl rfl ?_
  refine v_ic (v := (nI 0)) 19 zC dX5_oneComes_18 (by decide +kernel) ?_
  refine v_iasn (ws2 := [(r0, .inr (5, [.int (nI n), .ref k1, .ref k2, .ref k3, .ref k4, .int (nI m), .ref k6, .ref k7, .ref k8, .int (nI 0), .ref k10, .int (nI aw), .ref k12, .ref k13, .ref k14, .ref k15, .ref k16, .int (nI ls), .int (nI ap), .int (bz bd), .int (nI sq), .ref k21, .ref k22, .ref k23, .ref k24, .ref k25, .int (bz pd), .int (nI pl), .int (bz tk), kv, .ref k30, .ref k31, .int (nI tz), .ref k33, .int (nI rs), .int sd])), (k1, .inl (cI, 7, .inl (nIf (un ki n k)))), (k2, .inl (cI, 7, .inl (nIf (un op n 0)))), (k3, .inl (cI, 7, .inl (nIf (shF sh)))), (k4, .inl (cI, 7, .inl (nIf fa)))]) 20 2 zC dX5_oneComes_19 rfl (by omega) (by rw [upd_nIf]; first | done | rfl) ?_
  refine v_al_n 21 zC dX5_oneComes_20 0 rfl ?_
  refine v_gf 24 0 zC dX5_oneComes_21 gf_X5_16 rfl rfl ?_
  refine v_al_n 25 zC dX5_oneComes_24 0 rfl ?_
  refine v_gf 28 0 zC dX5_oneComes_25 gf_X5_77 rfl rfl ?_
  refine v_ic (v := (nI 0)) 29 zC dX5_oneComes_28 (by decide +kernel) ?_
  refine v_iasn (ws2 := [(r0, .inr (5, [.int (nI n), .ref k1, .ref k2, .ref k3, .ref k4, .int (nI m), .ref k6, .ref k7, .ref k8, .int (nI 0), .ref k10, .int (nI aw), .ref k12, .ref k13, .ref k14, .ref k15, .ref k16, .int (nI ls), .int (nI ap), .int (bz bd), .int (nI sq), .ref k21, .ref k22, .ref k23, .ref k24, .ref k25, .int (bz pd), .int (nI pl), .int (bz tk), kv, .ref k30, .ref k31, .int (nI tz), .ref k33, .int (nI rs), .int sd])), (k1, .inl (cI, 7, .inl (nIf (un ki n k)))), (k2, .inl (cI, 7, .inl (nIf (un op n 0)))), (k3, .inl (cI, 7, .inl (nIf (un (shF sh) n 0)))), (k4, .inl (cI, 7, .inl (nIf fa)))]) 30 3 zC dX5_oneComes_29 rfl (by omega) (by rw [upd_nIf]; first | done | rfl) ?_
  refine v_al_n 31 zC dX5_oneComes_30 0 rfl ?_
  refine v_gf 34 0 zC dX5_oneComes_31 gf_X5_19 rfl rfl ?_
  refine v_al_n 35 zC dX5_oneComes_34 0 rfl ?_
  refine v_gf 38 0 zC dX5_oneComes_35 gf_X5_77 rfl rfl ?_
  refine v_ic (v := (nI 0)) 39 zC dX5_oneComes_38 (by decide +kernel) ?_
  refine v_iasn (ws2 := [(r0, .inr (5, [.int (nI n), .ref k1, .ref k2, .ref k3, .ref k4, .int (nI m), .ref k6, .ref k7, .ref k8, .int (nI 0), .ref k10, .int (nI aw), .ref k12, .ref k13, .ref k14, .ref k15, .ref k16, .int (nI ls), .int (nI ap), .int (bz bd), .int (nI sq), .ref k21, .ref k22, .ref k23, .ref k24, .ref k25, .int (bz pd), .int (nI pl), .int (bz tk), kv, .ref k30, .ref k31, .int (nI tz), .ref k33, .int (nI rs), .int sd])), (k1, .inl (cI, 7, .inl (nIf (un ki n k)))), (k2, .inl (cI, 7, .inl (nIf (un op n 0)))), (k3, .inl (cI, 7, .inl (nIf (un (shF sh) n 0)))), (k4, .inl (cI, 7, .inl (nIf (un fa n 0))))]) 40 4 zC dX5_oneComes_39 rfl (by omega) (by rw [upd_nIf]; first | done | rfl) ?_
  refine v_al_n 41 zC dX5_oneComes_40 0 rfl ?_
  refine v_dup 42 zC dX5_oneComes_41 rfl ?_
  refine v_gf 45 0 zC dX5_oneComes_42 gf_X5_77 rfl rfl ?_
  refine v_ic (v := (nI 1)) 46 zC dX5_oneComes_45 (by decide +kernel) ?_
  refine v_iadd (v := (nI (n + 1))) 47 zC dX5_oneComes_46 (nI_add _ _) ?_
  refine v_pf (ws2 := [(r0, .inr (5, [.int (nI (n + 1)), .ref k1, .ref k2, .ref k3, .ref k4, .int (nI m), .ref k6, .ref k7, .ref k8, .int (nI 0), .ref k10, .int (nI aw), .ref k12, .ref k13, .ref k14, .ref k15, .ref k16, .int (nI ls), .int (nI ap), .int (bz bd), .int (nI sq), .ref k21, .ref k22, .ref k23, .ref k24, .ref k25, .int (bz pd), .int (nI pl), .int (bz tk), kv, .ref k30, .ref k31, .int (nI tz), .ref k33, .int (nI rs), .int sd])), (k1, .inl (cI, 7, .inl (nIf (un ki n k)))), (k2, .inl (cI, 7, .inl (nIf (un op n 0)))), (k3, .inl (cI, 7, .inl (nIf (un (shF sh) n 0)))), (k4, .inl (cI, 7, .inl (nIf (un fa n 0))))]) 50 0 zC dX5_oneComes_47 pf_X5_77 rfl (Nat.le_of_ble_eq_true rfl) rfl rfl rfl ?_
  refine v_vret zC zT dX5_oneComes_50  ?_
  exact ⟨rfl, by rw [shf_n hsh]⟩
set_option maxRecDepth 100000 in
set_option maxHeartbeats 4000000 in
theorem c_X5_oneDies (l : Launch) (D : va_G) (cI : ClassId) (r0 k1 k2 k3 k4 k6 k7 k8 k10 k12 k13 k14 k15 k16 k21 k22 k23 k24 k25 k30 k31 k33 : Nat) (n m aw ls ap sq pl tz rs : Nat) (bd pd tk : Bool) (kv : Value) (sd : Int32) (K G T : Nat → Nat) (k g t : Nat) (hm : m < 6) : CT l yX5_oneDies cX5_oneDies 4 none { frames := 0, cells := 0, slots := 0, locals := 0 } D cI [.ref r0, .int (nI k), .int (nI g), .int (nI t)] [(r0, .inr (5, [.int (nI n), .ref k1, .ref k2, .ref k3, .ref k4, .int (nI m), .ref k6, .ref k7, .ref k8, .int (nI 0), .ref k10, .int (nI aw), .ref k12, .ref k13, .ref k14, .ref k15, .ref k16, .int (nI ls), .int (nI ap), .int (bz bd), .int (nI sq), .ref k21, .ref k22, .ref k23, .ref k24, .ref k25, .int (bz pd), .int (nI pl), .int (bz tk), kv, .ref k30, .ref k31, .int (nI tz), .ref k33, .int (nI rs), .int sd])), (k6, .inl (cI, 6, .inl (nIf K))), (k7, .inl (cI, 6, .inl (nIf G))), (k8, .inl (cI, 6, .inl (nIf T)))] (fun zr zw => (zr = none ∧ zw = [(r0, .inr (5, [.int (nI n), .ref k1, .ref k2, .ref k3, .ref k4, .int (nI (m + 1)), .ref k6, .ref k7, .ref k8, .int (nI 0), .ref k10, .int (nI aw), .ref k12, .ref k13, .ref k14, .ref k15, .ref k16, .int (nI ls), .int (nI ap), .int (bz bd), .int (nI sq), .ref k21, .ref k22, .ref k23, .ref k24, .ref k25, .int (bz pd), .int (nI pl), .int (bz tk), kv, .ref k30, .ref k31, .int (nI tz), .ref k33, .int (nI rs), .int sd])), (k6, .inl (cI, 6, .inl (nIf (un K m k)))), (k7, .inl (cI, 6, .inl (nIf (un G m g)))), (k8, .inl (cI, 6, .inl (nIf (un T m t))))])) := by
  refine CT_of RX5 rfl (by decide +kernel) (Nat.le_of_ble_eq_true rfl) (fun E hnE zC zT => ?_)
  have hA : ∀ q, (ev_s E).heap.size ≤ q → ev_A E q := fun q h => by rw [zT.2]; exact Or.inr h
  show VV E 0 0 0 [(0, .ref r0), (1, .int (nI k)), (2, .int (nI g)), (3, .int (nI t))] [] [(r0, .inr (5, [.int (nI n), .ref k1, .ref k2, .ref k3, .ref k4, .int (nI m), .ref k6, .ref k7, .ref k8, .int (nI 0), .ref k10, .int (nI aw), .ref k12, .ref k13, .ref k14, .ref k15, .ref k16, .int (nI ls), .int (nI ap), .int (bz bd), .int (nI sq), .ref k21, .ref k22, .ref k23, .ref k24, .ref k25, .int (bz pd), .int (nI pl), .int (bz tk), kv, .ref k30, .ref k31, .int (nI tz), .ref k33, .int (nI rs), .int sd])), (k6, .inl (cI, 6, .inl (nIf K))), (k7, .inl (cI, 6, .inl (nIf G))), (k8, .inl (cI, 6, .inl (nIf T)))]
  refine v_al_n 1 zC dX5_oneDies_0 0 rfl ?_
  refine v_gf 4 0 zC dX5_oneDies_1 gf_X5_22 rfl rfl ?_
  refine v_al_n 5 zC dX5_oneDies_4 0 rfl ?_
  refine v_gf 8 0 zC dX5_oneDies_5 gf_X5_84 rfl rfl ?_
  refine v_il_n 9 zC dX5_oneDies_8 1 rfl ?_
  refine v_iasn (ws2 := [(r0, .inr (5, [.int (nI n), .ref k1, .ref k2, .ref k3, .ref k4, .int (nI m), .ref k6, .ref k7, .ref k8, .int (nI 0), .ref k10, .int (nI aw), .ref k12, .ref k13, .ref k14, .ref k15, .ref k16, .int (nI ls), .int (nI ap), .int (bz bd), .int (nI sq), .ref k21, .ref k22, .ref k23, .ref k24, .ref k25, .int (bz pd), .int (nI pl), .int (bz tk), kv, .ref k30, .ref k31, .int (nI tz), .ref k33, .int (nI rs), .int sd])), (k6, .inl (cI, 6, .inl (nIf (un K m k)))), (k7, .inl (cI, 6, .inl (nIf G))), (k8, .inl (cI, 6, .inl (nIf T)))]) 10 1 zC dX5_oneDies_9 rfl (by omega) (by rw [upd_nIf]; first | done | rfl) ?_
  refine v_al_n 11 zC dX5_oneDies_10 0 rfl ?_
  refine v_gf 14 0 zC dX5_oneDies_11 gf_X5_25 rfl rfl ?_
  refine v_al_n 15 zC dX5_oneDies_14 0 rfl ?_
  refine v_gf 18 0 zC dX5_oneDies_15 gf_X5_84 rfl rfl ?_
  refine v_il_n 19 zC dX5_oneDies_18 2 rfl ?_
  refine v_iasn (ws2 := [(r0, .inr (5, [.int (nI n), .ref k1, .ref k2, .ref k3, .ref k4, .int (nI m), .ref k6, .ref k7, .ref k8, .int (nI 0), .ref k10, .int (nI aw), .ref k12, .ref k13, .ref k14, .ref k15, .ref k16, .int (nI ls), .int (nI ap), .int (bz bd), .int (nI sq), .ref k21, .ref k22, .ref k23, .ref k24, .ref k25, .int (bz pd), .int (nI pl), .int (bz tk), kv, .ref k30, .ref k31, .int (nI tz), .ref k33, .int (nI rs), .int sd])), (k6, .inl (cI, 6, .inl (nIf (un K m k)))), (k7, .inl (cI, 6, .inl (nIf (un G m g)))), (k8, .inl (cI, 6, .inl (nIf T)))]) 20 2 zC dX5_oneDies_19 rfl (by omega) (by rw [upd_nIf]; first | done | rfl) ?_
  refine v_al_n 21 zC dX5_oneDies_20 0 rfl ?_
  refine v_gf 24 0 zC dX5_oneDies_21 gf_X5_28 rfl rfl ?_
  refine v_al_n 25 zC dX5_oneDies_24 0 rfl ?_
  refine v_gf 28 0 zC dX5_oneDies_25 gf_X5_84 rfl rfl ?_
  refine v_il_n 29 zC dX5_oneDies_28 3 rfl ?_
  refine v_iasn (ws2 := [(r0, .inr (5, [.int (nI n), .ref k1, .ref k2, .ref k3, .ref k4, .int (nI m), .ref k6, .ref k7, .ref k8, .int (nI 0), .ref k10, .int (nI aw), .ref k12, .ref k13, .ref k14, .ref k15, .ref k16, .int (nI ls), .int (nI ap), .int (bz bd), .int (nI sq), .ref k21, .ref k22, .ref k23, .ref k24, .ref k25, .int (bz pd), .int (nI pl), .int (bz tk), kv, .ref k30, .ref k31, .int (nI tz), .ref k33, .int (nI rs), .int sd])), (k6, .inl (cI, 6, .inl (nIf (un K m k)))), (k7, .inl (cI, 6, .inl (nIf (un G m g)))), (k8, .inl (cI, 6, .inl (nIf (un T m t))))]) 30 3 zC dX5_oneDies_29 rfl (by omega) (by rw [upd_nIf]; first | done | rfl) ?_
  refine v_al_n 31 zC dX5_oneDies_30 0 rfl ?_
  refine v_dup 32 zC dX5_oneDies_31 rfl ?_
  refine v_gf 35 0 zC dX5_oneDies_32 gf_X5_84 rfl rfl ?_
  refine v_ic (v := (nI 1)) 36 zC dX5_oneDies_35 (by decide +kernel) ?_
  refine v_iadd (v := (nI (m + 1))) 37 zC dX5_oneDies_36 (nI_add _ _) ?_
  refine v_pf (ws2 := [(r0, .inr (5, [.int (nI n), .ref k1, .ref k2, .ref k3, .ref k4, .int (nI (m + 1)), .ref k6, .ref k7, .ref k8, .int (nI 0), .ref k10, .int (nI aw), .ref k12, .ref k13, .ref k14, .ref k15, .ref k16, .int (nI ls), .int (nI ap), .int (bz bd), .int (nI sq), .ref k21, .ref k22, .ref k23, .ref k24, .ref k25, .int (bz pd), .int (nI pl), .int (bz tk), kv, .ref k30, .ref k31, .int (nI tz), .ref k33, .int (nI rs), .int sd])), (k6, .inl (cI, 6, .inl (nIf (un K m k)))), (k7, .inl (cI, 6, .inl (nIf (un G m g)))), (k8, .inl (cI, 6, .inl (nIf (un T m t))))]) 40 0 zC dX5_oneDies_37 pf_X5_84 rfl (Nat.le_of_ble_eq_true rfl) rfl rfl rfl ?_
  refine v_vret zC zT dX5_oneDies_40  ?_
  first | exact ⟨rfl, rfl⟩ | exact ⟨sb1 (by assumption), rfl⟩ | exact ⟨sb0 (by assumption), rfl⟩ | (exfalso; omega) | exact ⟨sb1 (by simp [*]), rfl⟩ | exact ⟨sb0 (by simp [*]), rfl⟩
set_option maxRecDepth 100000 in
set_option maxHeartbeats 4000000 in
theorem c_X5_comes (l : Launch) (D : va_G) (cI : ClassId) (r0 k1 k2 k3 k4 k6 k7 k8 k10 k12 k13 k14 k15 k16 k21 k22 k23 k24 k25 k30 k31 k33 : Nat) (n m ls ap sq pl tz rs : Nat) (bd pd tk : Bool) (kv : Value) (sd : Int32) (ki op fa : Nat → Nat) (sh : Nat) (R : Nat → Nat) (v : Int32) (hn : n ≤ 7) (hsh : sh < 2 ^ n) : CT l yX5_comes cX5_comes 3 (some .int) { frames := 1, cells := 0, slots := 0, locals := 22 } D cI [.ref r0, .int v] [(r0, .inr (5, [.int (nI n), .ref k1, .ref k2, .ref k3, .ref k4, .int (nI m), .ref k6, .ref k7, .ref k8, .int (nI 0), .ref k10, .int (nI 0), .ref k12, .ref k13, .ref k14, .ref k15, .ref k16, .int (nI ls), .int (nI ap), .int (bz bd), .int (nI sq), .ref k21, .ref k22, .ref k23, .ref k24, .ref k25, .int (bz pd), .int (nI pl), .int (bz tk), kv, .ref k30, .ref k31, .int (nI tz), .ref k33, .int (nI rs), .int sd])), (k1, .inl (cI, 7, .inl (nIf ki))), (k2, .inl (cI, 7, .inl (nIf op))), (k3, .inl (cI, 7, .inl (nIf (shF sh)))), (k4, .inl (cI, 7, .inl (nIf fa))), (k10, .inl (cI, 7, .inl (nIf R)))] (fun zr zw => ((v < 0) ∧ zr = some (.int (-4)) ∧ zw = [(r0, .inr (5, [.int (nI n), .ref k1, .ref k2, .ref k3, .ref k4, .int (nI m), .ref k6, .ref k7, .ref k8, .int (nI 0), .ref k10, .int (nI 0), .ref k12, .ref k13, .ref k14, .ref k15, .ref k16, .int (nI ls), .int (nI ap), .int (bz bd), .int (nI sq), .ref k21, .ref k22, .ref k23, .ref k24, .ref k25, .int (bz pd), .int (nI pl), .int (bz tk), kv, .ref k30, .ref k31, .int (nI tz), .ref k33, .int (nI rs), .int sd])), (k1, .inl (cI, 7, .inl (nIf ki))), (k2, .inl (cI, 7, .inl (nIf op))), (k3, .inl (cI, 7, .inl (nIf (shF sh)))), (k4, .inl (cI, 7, .inl (nIf fa))), (k10, .inl (cI, 7, .inl (nIf (un R 4 (R 4 + 1)))))]) ∨ ((¬ v < 0) ∧ (IX 64 v = none ∨ n = 7) ∧ zr = some (.int (-6)) ∧ zw = [(r0, .inr (5, [.int (nI n), .ref k1, .ref k2, .ref k3, .ref k4, .int (nI m), .ref k6, .ref k7, .ref k8, .int (nI 0), .ref k10, .int (nI 0), .ref k12, .ref k13, .ref k14, .ref k15, .ref k16, .int (nI ls), .int (nI ap), .int (bz bd), .int (nI sq), .ref k21, .ref k22, .ref k23, .ref k24, .ref k25, .int (bz pd), .int (nI pl), .int (bz tk), kv, .ref k30, .ref k31, .int (nI tz), .ref k33, .int (nI rs), .int sd])), (k1, .inl (cI, 7, .inl (nIf ki))), (k2, .inl (cI, 7, .inl (nIf op))), (k3, .inl (cI, 7, .inl (nIf (shF sh)))), (k4, .inl (cI, 7, .inl (nIf fa))), (k10, .inl (cI, 7, .inl (nIf (un R 6 (R 6 + 1)))))]) ∨ (∃ k : Nat, (IX 64 v = some k) ∧ (n < 7) ∧ zr = some (.int (nI n)) ∧ zw = [(r0, .inr (5, [.int (nI (n + 1)), .ref k1, .ref k2, .ref k3, .ref k4, .int (nI m), .ref k6, .ref k7, .ref k8, .int (nI 0), .ref k10, .int (nI 0), .ref k12, .ref k13, .ref k14, .ref k15, .ref k16, .int (nI ls), .int (nI ap), .int (bz bd), .int (nI sq), .ref k21, .ref k22, .ref k23, .ref k24, .ref k25, .int (bz pd), .int (nI pl), .int (bz tk), kv, .ref k30, .ref k31, .int (nI 0), .ref k33, .int (nI rs), .int sd])), (k1, .inl (cI, 7, .inl (nIf (un ki n k)))), (k2, .inl (cI, 7, .inl (nIf (un op n 0)))), (k3, .inl (cI, 7, .inl (nIf (shF sh)))), (k4, .inl (cI, 7, .inl (nIf (un fa n 0)))), (k10, .inl (cI, 7, .inl (nIf R)))])) := by
  refine CT_of RX5 rfl (by decide +kernel) (Nat.le_of_ble_eq_true rfl) (fun E hnE zC zT => ?_)
  have hA : ∀ q, (ev_s E).heap.size ≤ q → ev_A E q := fun q h => by rw [zT.2]; exact Or.inr h
  show VV E 0 0 0 [(0, .ref r0), (1, .int v)] [] [(r0, .inr (5, [.int (nI n), .ref k1, .ref k2, .ref k3, .ref k4, .int (nI m), .ref k6, .ref k7, .ref k8, .int (nI 0), .ref k10, .int (nI 0), .ref k12, .ref k13, .ref k14, .ref k15, .ref k16, .int (nI ls), .int (nI ap), .int (bz bd), .int (nI sq), .ref k21, .ref k22, .ref k23, .ref k24, .ref k25, .int (bz pd), .int (nI pl), .int (bz tk), kv, .ref k30, .ref k31, .int (nI tz), .ref k33, .int (nI rs), .int sd])), (k1, .inl (cI, 7, .inl (nIf ki))), (k2, .inl (cI, 7, .inl (nIf op))), (k3, .inl (cI, 7, .inl (nIf (shF sh)))), (k4, .inl (cI, 7, .inl (nIf fa))), (k10, .inl (cI, 7, .inl (nIf R)))]
  refine v_al_n 1 zC dX5_comes_0 0 rfl ?_
  refine v_ic (v := (nI 0)) 2 zC dX5_comes_1 (by decide +kernel) ?_
  refine v_pf (ws2 := [(r0, .inr (5, [.int (nI n), .ref k1, .ref k2, .ref k3, .ref k4, .int (nI m), .ref k6, .ref k7, .ref k8, .int (nI 0), .ref k10, .int (nI 0), .ref k12, .ref k13, .ref k14, .ref k15, .ref k16, .int (nI ls), .int (nI ap), .int (bz bd), .int (nI sq), .ref k21, .ref k22, .ref k23, .ref k24, .ref k25, .int (bz pd), .int (nI pl), .int (bz tk), kv, .ref k30, .ref k31, .int (nI tz), .ref k33, .int (nI rs), .int sd])), (k1, .inl (cI, 7, .inl (nIf ki))), (k2, .inl (cI, 7, .inl (nIf op))), (k3, .inl (cI, 7, .inl (nIf (shF sh)))), (k4, .inl (cI, 7, .inl (nIf fa))), (k10, .inl (cI, 7, .inl (nIf R)))]) 5 0 zC dX5_comes_2 pf_X5_73 rfl (Nat.le_of_ble_eq_true rfl) rfl rfl rfl ?_
  refine v_il_n 6 zC dX5_comes_5 1 rfl ?_
  refine v_ic (v := (nI 0)) 7 zC dX5_comes_6 (by decide +kernel) ?_
  refine v_bp (v := (nI 63)) 9 zC dX5_comes_7 (by decide +kernel) ?_
  refine v_cS (As := [.int v, .int (nI 0), .int (nI 63)]) (st := []) 12 [] zC dX5_comes_9 hA (c_X5_wrongNumber (ev_l E) (ev_D E) cI (v := v) (a := 0) (b := 63) (ha := (by first | omega | assumption | rfl | (simp only []; omega) | decide)) (hb := (by first | omega | assumption | rfl | (simp only []; omega) | decide))) cf_X5_wrongNumber lk_X5_213 rfl rfl rfl (by decide +kernel) (Nat.le_of_ble_eq_true rfl) (fun rv_1 wv_2 hp_3 hm_4 => ?_)
  clear hm_4
  rcases hp_3 with ⟨hq_5, rfl, rfl⟩ | ⟨hq_6, hq2_7, rfl, rfl⟩ | ⟨j_8, he_9, h1_10, h2_11, rfl, rfl⟩
  ·
    show VV E 0 0 12 [(0, .ref r0), (1, .int v)] [.int (-4)] [(r0, .inr (5, [.int (nI n), .ref k1, .ref k2, .ref k3, .ref k4, .int (nI m), .ref k6, .ref k7, .ref k8, .int (nI 0), .ref k10, .int (nI 0), .ref k12, .ref k13, .ref k14, .ref k15, .ref k16, .int (nI ls), .int (nI ap), .int (bz bd), .int (nI sq), .ref k21, .ref k22, .ref k23, .ref k24, .ref k25, .int (bz pd), .int (nI pl), .int (bz tk), kv, .ref k30, .ref k31, .int (nI tz), .ref k33, .int (nI rs), .int sd])), (k1, .inl (cI, 7, .inl (nIf ki))), (k2, .inl (cI, 7, .inl (nIf op))), (k3, .inl (cI, 7, .inl (nIf (shF sh)))), (k4, .inl (cI, 7, .inl (nIf fa))), (k10, .inl (cI, 7, .inl (nIf R)))]
    have hlt9 : v < 0 := hq_5
    refine v_is_n (lv2 := [(2, .int (-4)), (0, .ref r0), (1, .int v)]) 13 zC dX5_comes_12 (by rw [hnE]; decide) rfl ?_
    refine v_il_n 14 zC dX5_comes_13 0 rfl ?_
    refine v_if_ne 31 17 zC dX5_comes_14 (fun _ => ?_) (fun z => absurd z (by decide +kernel))
    refine v_il_n 32 zC dX5_comes_31 0 rfl ?_
    refine v_is_n (lv2 := [(2, .int (-4)), (0, .ref r0), (1, .int v)]) 33 zC dX5_comes_32 (by rw [hnE]; decide) rfl ?_
    refine v_il_n 34 zC dX5_comes_33 0 rfl ?_
    refine v_if_ge 43 37 zC dX5_comes_34 (fun z => absurd z (by decide +kernel)) (fun _ => ?_)
    refine v_al_n 38 zC dX5_comes_37 1 rfl ?_
    refine v_il_n 39 zC dX5_comes_38 0 rfl ?_
    refine v_cV (As := [.int (-4)]) (st := []) 42 0 [0, 5] zC dX5_comes_39 hA (c_X5_refuse (ev_l E) (ev_D E) cI (r0 := r0) (k1 := k1) (k2 := k2) (k3 := k3) (k4 := k4) (k6 := k6) (k7 := k7) (k8 := k8) (k10 := k10) (k12 := k12) (k13 := k13) (k14 := k14) (k15 := k15) (k16 := k16) (k21 := k21) (k22 := k22) (k23 := k23) (k24 := k24) (k25 := k25) (k30 := k30) (k31 := k31) (k33 := k33) (n := n) (m := m) (aw := 0) (ls := ls) (ap := ap) (sq := sq) (pl := pl) (tz := tz) (rs := rs) (bd := bd) (pd := pd) (tk := tk) (kv := kv) (sd := sd) (R := R) (v := (-4)) (j := 4) (hv := (by first | omega | assumption | rfl | (simp only []; omega) | decide)) (h1 := (by first | omega | assumption | rfl | (simp only []; omega) | decide)) (h6 := (by first | omega | assumption | rfl | (simp only []; omega) | decide))) cf_X5_refuse lk_X5_129 rfl rfl rfl rfl rfl (by decide +kernel) (Nat.le_of_ble_eq_true rfl) (fun rv_14 wv_15 hp_16 hm_17 => ?_)
    clear hm_17
    obtain ⟨rfl, rfl⟩ := hp_16
    show VV E 0 0 42 [(2, .int (-4)), (0, .ref r0), (1, .int v)] [.int (-4)] [(r0, .inr (5, [.int (nI n), .ref k1, .ref k2, .ref k3, .ref k4, .int (nI m), .ref k6, .ref k7, .ref k8, .int (nI 0), .ref k10, .int (nI 0), .ref k12, .ref k13, .ref k14, .ref k15, .ref k16, .int (nI ls), .int (nI ap), .int (bz bd), .int (nI sq), .ref k21, .ref k22, .ref k23, .ref k24, .ref k25, .int (bz pd), .int (nI pl), .int (bz tk), kv, .ref k30, .ref k31, .int (nI tz), .ref k33, .int (nI rs), .int sd])), (k1, .inl (cI, 7, .inl (nIf ki))), (k2, .inl (cI, 7, .inl (nIf op))), (k3, .inl (cI, 7, .inl (nIf (shF sh)))), (k4, .inl (cI, 7, .inl (nIf fa))), (k10, .inl (cI, 7, .inl (nIf (un R 4 (R 4 + 1)))))]
    refine v_iret zC zT dX5_comes_42  ?_
    first | (have g9 := hlt9; exact Or.inl ⟨hlt9, rfl, rfl⟩) | (have g9 := hbi9; exact Or.inr (Or.inl ⟨hge8, Or.inl hbi9, rfl, rfl⟩)) | exact Or.inr (Or.inl ⟨hge9, Or.inr (by omega), rfl, rfl⟩) | exact Or.inr (Or.inr ⟨_, hi_v, by omega, rfl, rfl⟩)
  ·
    show VV E 0 0 12 [(0, .ref r0), (1, .int v)] [.int (-6)] [(r0, .inr (5, [.int (nI n), .ref k1, .ref k2, .ref k3, .ref k4, .int (nI m), .ref k6, .ref k7, .ref k8, .int (nI 0), .ref k10, .int (nI 0), .ref k12, .ref k13, .ref k14, .ref k15, .ref k16, .int (nI ls), .int (nI ap), .int (bz bd), .int (nI sq), .ref k21, .ref k22, .ref k23, .ref k24, .ref k25, .int (bz pd), .int (nI pl), .int (bz tk), kv, .ref k30, .ref k31, .int (nI tz), .ref k33, .int (nI rs), .int sd])), (k1, .inl (cI, 7, .inl (nIf ki))), (k2, .inl (cI, 7, .inl (nIf op))), (k3, .inl (cI, 7, .inl (nIf (shF sh)))), (k4, .inl (cI, 7, .inl (nIf fa))), (k10, .inl (cI, 7, .inl (nIf R)))]
    have hge8 : ¬ v < 0 := hq_6
    have hbi9 : IX 64 v = none := IX_hi hq2_7 (by decide)
    refine v_is_n (lv2 := [(2, .int (-6)), (0, .ref r0), (1, .int v)]) 13 zC dX5_comes_12 (by rw [hnE]; decide) rfl ?_
    refine v_il_n 14 zC dX5_comes_13 0 rfl ?_
    refine v_if_ne 31 17 zC dX5_comes_14 (fun _ => ?_) (fun z => absurd z (by decide +kernel))
    refine v_il_n 32 zC dX5_comes_31 0 rfl ?_
    refine v_is_n (lv2 := [(2, .int (-6)), (0, .ref r0), (1, .int v)]) 33 zC dX5_comes_32 (by rw [hnE]; decide) rfl ?_
    refine v_il_n 34 zC dX5_comes_33 0 rfl ?_
    refine v_if_ge 43 37 zC dX5_comes_34 (fun z => absurd z (by decide +kernel)) (fun _ => ?_)
    refine v_al_n 38 zC dX5_comes_37 1 rfl ?_
    refine v_il_n 39 zC dX5_comes_38 0 rfl ?_
    refine v_cV (As := [.int (-6)]) (st := []) 42 0 [0, 5] zC dX5_comes_39 hA (c_X5_refuse (ev_l E) (ev_D E) cI (r0 := r0) (k1 := k1) (k2 := k2) (k3 := k3) (k4 := k4) (k6 := k6) (k7 := k7) (k8 := k8) (k10 := k10) (k12 := k12) (k13 := k13) (k14 := k14) (k15 := k15) (k16 := k16) (k21 := k21) (k22 := k22) (k23 := k23) (k24 := k24) (k25 := k25) (k30 := k30) (k31 := k31) (k33 := k33) (n := n) (m := m) (aw := 0) (ls := ls) (ap := ap) (sq := sq) (pl := pl) (tz := tz) (rs := rs) (bd := bd) (pd := pd) (tk := tk) (kv := kv) (sd := sd) (R := R) (v := (-6)) (j := 6) (hv := (by first | omega | assumption | rfl | (simp only []; omega) | decide)) (h1 := (by first | omega | assumption | rfl | (simp only []; omega) | decide)) (h6 := (by first | omega | assumption | rfl | (simp only []; omega) | decide))) cf_X5_refuse lk_X5_129 rfl rfl rfl rfl rfl (by decide +kernel) (Nat.le_of_ble_eq_true rfl) (fun rv_20 wv_21 hp_22 hm_23 => ?_)
    clear hm_23
    obtain ⟨rfl, rfl⟩ := hp_22
    show VV E 0 0 42 [(2, .int (-6)), (0, .ref r0), (1, .int v)] [.int (-6)] [(r0, .inr (5, [.int (nI n), .ref k1, .ref k2, .ref k3, .ref k4, .int (nI m), .ref k6, .ref k7, .ref k8, .int (nI 0), .ref k10, .int (nI 0), .ref k12, .ref k13, .ref k14, .ref k15, .ref k16, .int (nI ls), .int (nI ap), .int (bz bd), .int (nI sq), .ref k21, .ref k22, .ref k23, .ref k24, .ref k25, .int (bz pd), .int (nI pl), .int (bz tk), kv, .ref k30, .ref k31, .int (nI tz), .ref k33, .int (nI rs), .int sd])), (k1, .inl (cI, 7, .inl (nIf ki))), (k2, .inl (cI, 7, .inl (nIf op))), (k3, .inl (cI, 7, .inl (nIf (shF sh)))), (k4, .inl (cI, 7, .inl (nIf fa))), (k10, .inl (cI, 7, .inl (nIf (un R 6 (R 6 + 1)))))]
    refine v_iret zC zT dX5_comes_42  ?_
    first | (have g9 := hlt9; exact Or.inl ⟨hlt9, rfl, rfl⟩) | (have g9 := hbi9; exact Or.inr (Or.inl ⟨hge8, Or.inl hbi9, rfl, rfl⟩)) | exact Or.inr (Or.inl ⟨hge9, Or.inr (by omega), rfl, rfl⟩) | exact Or.inr (Or.inr ⟨_, hi_v, by omega, rfl, rfl⟩)
  ·
    show VV E 0 0 12 [(0, .ref r0), (1, .int v)] [.int (nI 0)] [(r0, .inr (5, [.int (nI n), .ref k1, .ref k2, .ref k3, .ref k4, .int (nI m), .ref k6, .ref k7, .ref k8, .int (nI 0), .ref k10, .int (nI 0), .ref k12, .ref k13, .ref k14, .ref k15, .ref k16, .int (nI ls), .int (nI ap), .int (bz bd), .int (nI sq), .ref k21, .ref k22, .ref k23, .ref k24, .ref k25, .int (bz pd), .int (nI pl), .int (bz tk), kv, .ref k30, .ref k31, .int (nI tz), .ref k33, .int (nI rs), .int sd])), (k1, .inl (cI, 7, .inl (nIf ki))), (k2, .inl (cI, 7, .inl (nIf op))), (k3, .inl (cI, 7, .inl (nIf (shF sh)))), (k4, .inl (cI, 7, .inl (nIf fa))), (k10, .inl (cI, 7, .inl (nIf R)))]
    subst he_9
    obtain ⟨kz, he_kz⟩ : ∃ z, z = j_8 := ⟨_, rfl⟩
    subst he_kz
    have h2_kz := h2_11
    have hge9 := nI_pos (show kz < 2 ^ 31 by omega)
    have hi_v := IX_nI (N := 64) (by decide) (show kz < 64 by omega)
    refine v_is_n (lv2 := [(2, .int (nI 0)), (0, .ref r0), (1, .int (nI kz))]) 13 zC dX5_comes_12 (by rw [hnE]; decide) rfl ?_
    refine v_il_n 14 zC dX5_comes_13 0 rfl ?_
    refine v_if_ne 31 17 zC dX5_comes_14 (fun z => absurd (by decide +kernel) z) (fun _ => ?_)
    refine v_al_n 18 zC dX5_comes_17 1 rfl ?_
    refine v_gf 21 0 zC dX5_comes_18 gf_X5_77 rfl rfl ?_
    refine v_bp (v := (nI 7)) 23 zC dX5_comes_21 (by decide +kernel) ?_
    refine v_icmpn_ne 31 26 zC dX5_comes_23 (fun h_25 => ?_) (fun h_25 => ?_)
    ·
      refine v_il_n 32 zC dX5_comes_31 0 rfl ?_
      refine v_is_n (lv2 := [(2, .int (nI 0)), (0, .ref r0), (1, .int (nI kz))]) 33 zC dX5_comes_32 (by rw [hnE]; decide) rfl ?_
      refine v_il_n 34 zC dX5_comes_33 0 rfl ?_
      refine v_if_ge 43 37 zC dX5_comes_34 (fun _ => ?_) (fun z => absurd (by decide +kernel) z)
      refine v_al_n 44 zC dX5_comes_43 1 rfl ?_
      refine v_il_n 45 zC dX5_comes_44 2 rfl ?_
      refine v_cV (As := [.int (nI kz)]) (st := []) 48 0 [0, 1, 2, 3, 4] zC dX5_comes_45 hA (c_X5_oneComes (ev_l E) (ev_D E) cI (r0 := r0) (k1 := k1) (k2 := k2) (k3 := k3) (k4 := k4) (k6 := k6) (k7 := k7) (k8 := k8) (k10 := k10) (k12 := k12) (k13 := k13) (k14 := k14) (k15 := k15) (k16 := k16) (k21 := k21) (k22 := k22) (k23 := k23) (k24 := k24) (k25 := k25) (k30 := k30) (k31 := k31) (k33 := k33) (n := n) (m := m) (aw := 0) (ls := ls) (ap := ap) (sq := sq) (pl := pl) (tz := tz) (rs := rs) (bd := bd) (pd := pd) (tk := tk) (kv := kv) (sd := sd) (ki := ki) (op := op) (fa := fa) (sh := sh) (k := kz) (hn := (by first | omega | assumption | rfl | (simp only []; omega) | decide)) (hsh := (by first | omega | assumption | rfl | (simp only []; omega) | decide))) cf_X5_oneComes lk_X5_167 rfl rfl rfl rfl rfl (by decide +kernel) (Nat.le_of_ble_eq_true rfl) (fun rv_27 wv_28 hp_29 hm_30 => ?_)
      clear hm_30
      obtain ⟨rfl, rfl⟩ := hp_29
      show VV E 0 0 48 [(2, .int (nI 0)), (0, .ref r0), (1, .int (nI kz))] [] [(r0, .inr (5, [.int (nI (n + 1)), .ref k1, .ref k2, .ref k3, .ref k4, .int (nI m), .ref k6, .ref k7, .ref k8, .int (nI 0), .ref k10, .int (nI 0), .ref k12, .ref k13, .ref k14, .ref k15, .ref k16, .int (nI ls), .int (nI ap), .int (bz bd), .int (nI sq), .ref k21, .ref k22, .ref k23, .ref k24, .ref k25, .int (bz pd), .int (nI pl), .int (bz tk), kv, .ref k30, .ref k31, .int (nI tz), .ref k33, .int (nI rs), .int sd])), (k1, .inl (cI, 7, .inl (nIf (un ki n kz)))), (k2, .inl (cI, 7, .inl (nIf (un op n 0)))), (k3, .inl (cI, 7, .inl (nIf (shF sh)))), (k4, .inl (cI, 7, .inl (nIf (un fa n 0)))), (k10, .inl (cI, 7, .inl (nIf R)))]
      refine v_al_n 49 zC dX5_comes_48 1 rfl ?_
      refine v_ic (v := (nI 0)) 50 zC dX5_comes_49 (by decide +kernel) ?_
      refine v_pf (ws2 := [(r0, .inr (5, [.int (nI (n + 1)), .ref k1, .ref k2, .ref k3, .ref k4, .int (nI m), .ref k6, .ref k7, .ref k8, .int (nI 0), .ref k10, .int (nI 0), .ref k12, .ref k13, .ref k14, .ref k15, .ref k16, .int (nI ls), .int (nI ap), .int (bz bd), .int (nI sq), .ref k21, .ref k22, .ref k23, .ref k24, .ref k25, .int (bz pd), .int (nI pl), .int (bz tk), kv, .ref k30, .ref k31, .int (nI 0), .ref k33, .int (nI rs), .int sd])), (k1, .inl (cI, 7, .inl (nIf (un ki n kz)))), (k2, .inl (cI, 7, .inl (nIf (un op n 0)))), (k3, .inl (cI, 7, .inl (nIf (shF sh)))), (k4, .inl (cI, 7, .inl (nIf (un fa n 0)))), (k10, .inl (cI, 7, .inl (nIf R)))]) 53 0 zC dX5_comes_50 pf_X5_188 rfl (Nat.le_of_ble_eq_true rfl) rfl rfl rfl ?_
      refine v_al_n 54 zC dX5_comes_53 1 rfl ?_
      refine v_gf 57 0 zC dX5_comes_54 gf_X5_77 rfl rfl ?_
      refine v_ic (v := (nI 1)) 58 zC dX5_comes_57 (by decide +kernel) ?_
      refine v_isub (v := (nI n)) 59 zC dX5_comes_58 (pk_sub (by omega)) ?_
      refine v_iret zC zT dX5_comes_59  ?_
      first | (have g9 := hlt9; exact Or.inl ⟨hlt9, rfl, rfl⟩) | (have g9 := hbi9; exact Or.inr (Or.inl ⟨hge8, Or.inl hbi9, rfl, rfl⟩)) | exact Or.inr (Or.inl ⟨hge9, Or.inr (by omega), rfl, rfl⟩) | exact Or.inr (Or.inr ⟨_, hi_v, by omega, rfl, rfl⟩)
    ·
      refine v_bp (v := (-6)) 28 zC dX5_comes_26 (by decide +kernel) ?_
      refine v_goto 32 zC dX5_comes_28 ?_
      refine v_is_n (lv2 := [(2, .int (-6)), (0, .ref r0), (1, .int (nI kz))]) 33 zC dX5_comes_32 (by rw [hnE]; decide) rfl ?_
      refine v_il_n 34 zC dX5_comes_33 0 rfl ?_
      refine v_if_ge 43 37 zC dX5_comes_34 (fun z => absurd z (by decide +kernel)) (fun _ => ?_)
      refine v_al_n 38 zC dX5_comes_37 1 rfl ?_
      refine v_il_n 39 zC dX5_comes_38 0 rfl ?_
      refine v_cV (As := [.int (-6)]) (st := []) 42 0 [0, 5] zC dX5_comes_39 hA (c_X5_refuse (ev_l E) (ev_D E) cI (r0 := r0) (k1 := k1) (k2 := k2) (k3 := k3) (k4 := k4) (k6 := k6) (k7 := k7) (k8 := k8) (k10 := k10) (k12 := k12) (k13 := k13) (k14 := k14) (k15 := k15) (k16 := k16) (k21 := k21) (k22 := k22) (k23 := k23) (k24 := k24) (k25 := k25) (k30 := k30) (k31 := k31) (k33 := k33) (n := n) (m := m) (aw := 0) (ls := ls) (ap := ap) (sq := sq) (pl := pl) (tz := tz) (rs := rs) (bd := bd) (pd := pd) (tk := tk) (kv := kv) (sd := sd) (R := R) (v := (-6)) (j := 6) (hv := (by first | omega | assumption | rfl | (simp only []; omega) | decide)) (h1 := (by first | omega | assumption | rfl | (simp only []; omega) | decide)) (h6 := (by first | omega | assumption | rfl | (simp only []; omega) | decide))) cf_X5_refuse lk_X5_129 rfl rfl rfl rfl rfl (by decide +kernel) (Nat.le_of_ble_eq_true rfl) (fun rv_32 wv_33 hp_34 hm_35 => ?_)
      clear hm_35
      obtain ⟨rfl, rfl⟩ := hp_34
      show VV E 0 0 42 [(2, .int (-6)), (0, .ref r0), (1, .int (nI kz))] [.int (-6)] [(r0, .inr (5, [.int (nI n), .ref k1, .ref k2, .ref k3, .ref k4, .int (nI m), .ref k6, .ref k7, .ref k8, .int (nI 0), .ref k10, .int (nI 0), .ref k12, .ref k13, .ref k14, .ref k15, .ref k16, .int (nI ls), .int (nI ap), .int (bz bd), .int (nI sq), .ref k21, .ref k22, .ref k23, .ref k24, .ref k25, .int (bz pd), .int (nI pl), .int (bz tk), kv, .ref k30, .ref k31, .int (nI tz), .ref k33, .int (nI rs), .int sd])), (k1, .inl (cI, 7, .inl (nIf ki))), (k2, .inl (cI, 7, .inl (nIf op))), (k3, .inl (cI, 7, .inl (nIf (shF sh)))), (k4, .inl (cI, 7, .inl (nIf fa))), (k10, .inl (cI, 7, .inl (nIf (un R 6 (R 6 + 1)))))]
      refine v_iret zC zT dX5_comes_42  ?_
      first | (have g9 := hlt9; exact Or.inl ⟨hlt9, rfl, rfl⟩) | (have g9 := hbi9; exact Or.inr (Or.inl ⟨hge8, Or.inl hbi9, rfl, rfl⟩)) | exact Or.inr (Or.inl ⟨hge9, Or.inr (by omega), rfl, rfl⟩) | exact Or.inr (Or.inr ⟨_, hi_v, by omega, rfl, rfl⟩)
set_option maxRecDepth 100000 in
set_option maxHeartbeats 4000000 in
theorem c_X5_dies (l : Launch) (D : va_G) (cI : ClassId) (r0 k1 k2 k3 k4 k6 k7 k8 k10 k12 k13 k14 k15 k16 k21 k22 k23 k24 k25 k30 k31 k33 : Nat) (n m ls ap sq pl tz rs : Nat) (bd pd tk : Bool) (kv : Value) (sd : Int32) (K G T : Nat → Nat) (R : Nat → Nat) (k g t : Int32) (hm : m ≤ 6) : CT l yX5_dies cX5_dies 5 (some .int) { frames := 1, cells := 0, slots := 0, locals := 25 } D cI [.ref r0, .int k, .int g, .int t] [(r0, .inr (5, [.int (nI n), .ref k1, .ref k2, .ref k3, .ref k4, .int (nI m), .ref k6, .ref k7, .ref k8, .int (nI 0), .ref k10, .int (nI 0), .ref k12, .ref k13, .ref k14, .ref k15, .ref k16, .int (nI ls), .int (nI ap), .int (bz bd), .int (nI sq), .ref k21, .ref k22, .ref k23, .ref k24, .ref k25, .int (bz pd), .int (nI pl), .int (bz tk), kv, .ref k30, .ref k31, .int (nI tz), .ref k33, .int (nI rs), .int sd])), (k6, .inl (cI, 6, .inl (nIf K))), (k7, .inl (cI, 6, .inl (nIf G))), (k8, .inl (cI, 6, .inl (nIf T))), (k10, .inl (cI, 7, .inl (nIf R)))] (fun zr zw => ((IX 6 k = none) ∧ zr = some (.int (-2)) ∧ zw = [(r0, .inr (5, [.int (nI n), .ref k1, .ref k2, .ref k3, .ref k4, .int (nI m), .ref k6, .ref k7, .ref k8, .int (nI 0), .ref k10, .int (nI 0), .ref k12, .ref k13, .ref k14, .ref k15, .ref k16, .int (nI ls), .int (nI ap), .int (bz bd), .int (nI sq), .ref k21, .ref k22, .ref k23, .ref k24, .ref k25, .int (bz pd), .int (nI pl), .int (bz tk), kv, .ref k30, .ref k31, .int (nI tz), .ref k33, .int (nI rs), .int sd])), (k6, .inl (cI, 6, .inl (nIf K))), (k7, .inl (cI, 6, .inl (nIf G))), (k8, .inl (cI, 6, .inl (nIf T))), (k10, .inl (cI, 7, .inl (nIf (un R 2 (R 2 + 1)))))]) ∨ ((¬ IX 6 k = none) ∧ (g < 0 ∨ t < 0) ∧ zr = some (.int (-4)) ∧ zw = [(r0, .inr (5, [.int (nI n), .ref k1, .ref k2, .ref k3, .ref k4, .int (nI m), .ref k6, .ref k7, .ref k8, .int (nI 0), .ref k10, .int (nI 0), .ref k12, .ref k13, .ref k14, .ref k15, .ref k16, .int (nI ls), .int (nI ap), .int (bz bd), .int (nI sq), .ref k21, .ref k22, .ref k23, .ref k24, .ref k25, .int (bz pd), .int (nI pl), .int (bz tk), kv, .ref k30, .ref k31, .int (nI tz), .ref k33, .int (nI rs), .int sd])), (k6, .inl (cI, 6, .inl (nIf K))), (k7, .inl (cI, 6, .inl (nIf G))), (k8, .inl (cI, 6, .inl (nIf T))), (k10, .inl (cI, 7, .inl (nIf (un R 4 (R 4 + 1)))))]) ∨ ((¬ IX 6 k = none) ∧ (¬ (g < 0 ∨ t < 0)) ∧ (IX 10 g = none ∨ IX 10 t = none ∨ m = 6) ∧ zr = some (.int (-6)) ∧ zw = [(r0, .inr (5, [.int (nI n), .ref k1, .ref k2, .ref k3, .ref k4, .int (nI m), .ref k6, .ref k7, .ref k8, .int (nI 0), .ref k10, .int (nI 0), .ref k12, .ref k13, .ref k14, .ref k15, .ref k16, .int (nI ls), .int (nI ap), .int (bz bd), .int (nI sq), .ref k21, .ref k22, .ref k23, .ref k24, .ref k25, .int (bz pd), .int (nI pl), .int (bz tk), kv, .ref k30, .ref k31, .int (nI tz), .ref k33, .int (nI rs), .int sd])), (k6, .inl (cI, 6, .inl (nIf K))), (k7, .inl (cI, 6, .inl (nIf G))), (k8, .inl (cI, 6, .inl (nIf T))), (k10, .inl (cI, 7, .inl (nIf (un R 6 (R 6 + 1)))))]) ∨ (∃ kk : Nat, ∃ gg : Nat, ∃ tt : Nat, (IX 6 k = some kk) ∧ (IX 10 g = some gg) ∧ (IX 10 t = some tt) ∧ (m < 6) ∧ zr = some (.int (nI m)) ∧ zw = [(r0, .inr (5, [.int (nI n), .ref k1, .ref k2, .ref k3, .ref k4, .int (nI (m + 1)), .ref k6, .ref k7, .ref k8, .int (nI 0), .ref k10, .int (nI 0), .ref k12, .ref k13, .ref k14, .ref k15, .ref k16, .int (nI ls), .int (nI ap), .int (bz bd), .int (nI sq), .ref k21, .ref k22, .ref k23, .ref k24, .ref k25, .int (bz pd), .int (nI pl), .int (bz tk), kv, .ref k30, .ref k31, .int (nI 0), .ref k33, .int (nI rs), .int sd])), (k6, .inl (cI, 6, .inl (nIf (un K m kk)))), (k7, .inl (cI, 6, .inl (nIf (un G m gg)))), (k8, .inl (cI, 6, .inl (nIf (un T m tt)))), (k10, .inl (cI, 7, .inl (nIf R)))])) := by
  refine CT_of RX5 rfl (by decide +kernel) (Nat.le_of_ble_eq_true rfl) (fun E hnE zC zT => ?_)
  have hA : ∀ q, (ev_s E).heap.size ≤ q → ev_A E q := fun q h => by rw [zT.2]; exact Or.inr h
  show VV E 0 0 0 [(0, .ref r0), (1, .int k), (2, .int g), (3, .int t)] [] [(r0, .inr (5, [.int (nI n), .ref k1, .ref k2, .ref k3, .ref k4, .int (nI m), .ref k6, .ref k7, .ref k8, .int (nI 0), .ref k10, .int (nI 0), .ref k12, .ref k13, .ref k14, .ref k15, .ref k16, .int (nI ls), .int (nI ap), .int (bz bd), .int (nI sq), .ref k21, .ref k22, .ref k23, .ref k24, .ref k25, .int (bz pd), .int (nI pl), .int (bz tk), kv, .ref k30, .ref k31, .int (nI tz), .ref k33, .int (nI rs), .int sd])), (k6, .inl (cI, 6, .inl (nIf K))), (k7, .inl (cI, 6, .inl (nIf G))), (k8, .inl (cI, 6, .inl (nIf T))), (k10, .inl (cI, 7, .inl (nIf R)))]
  refine v_al_n 1 zC dX5_dies_0 0 rfl ?_
  refine v_ic (v := (nI 0)) 2 zC dX5_dies_1 (by decide +kernel) ?_
  refine v_pf (ws2 := [(r0, .inr (5, [.int (nI n), .ref k1, .ref k2, .ref k3, .ref k4, .int (nI m), .ref k6, .ref k7, .ref k8, .int (nI 0), .ref k10, .int (nI 0), .ref k12, .ref k13, .ref k14, .ref k15, .ref k16, .int (nI ls), .int (nI ap), .int (bz bd), .int (nI sq), .ref k21, .ref k22, .ref k23, .ref k24, .ref k25, .int (bz pd), .int (nI pl), .int (bz tk), kv, .ref k30, .ref k31, .int (nI tz), .ref k33, .int (nI rs), .int sd])), (k6, .inl (cI, 6, .inl (nIf K))), (k7, .inl (cI, 6, .inl (nIf G))), (k8, .inl (cI, 6, .inl (nIf T))), (k10, .inl (cI, 7, .inl (nIf R)))]) 5 0 zC dX5_dies_2 pf_X5_73 rfl (Nat.le_of_ble_eq_true rfl) rfl rfl rfl ?_
  refine v_ic (v := (nI 0)) 6 zC dX5_dies_5 (by decide +kernel) ?_
  refine v_is (lv2 := [(4, .int (nI 0)), (0, .ref r0), (1, .int k), (2, .int g), (3, .int t)]) 8 zC dX5_dies_6 (by rw [hnE]; decide) rfl ?_
  refine v_il_n 9 zC dX5_dies_8 2 rfl ?_
  refine v_i2l (v := (Int32.toInt64 k)) 10 zC dX5_dies_9 rfl ?_
  refine v_lc (v := lN 0) 11 zC dX5_dies_10 (by decide +kernel) ?_
  refine v_ldc2 (v := (lN 5)) 14 zC dX5_dies_11 kc_X5_217 ?_
  refine v_cS (As := [.long (Int32.toInt64 k), .long (lN 0), .long (lN 5)]) (st := []) 17 [] zC dX5_dies_14 hA (c_X5_in (ev_l E) (ev_D E) cI (x := (Int32.toInt64 k)) (y := (lN 0)) (z := (lN 5)) ) cf_X5_in lk_X5_80 rfl rfl rfl (by decide +kernel) (Nat.le_of_ble_eq_true rfl) (fun rv_1 wv_2 hp_3 hm_4 => ?_)
  clear hm_4
  obtain ⟨rfl, rfl⟩ := hp_3
  show VV E 0 0 17 [(4, .int (nI 0)), (0, .ref r0), (1, .int k), (2, .int g), (3, .int t)] [.int (bz (inB (Int32.toInt64 k) (lN 0) (lN 5)))] [(r0, .inr (5, [.int (nI n), .ref k1, .ref k2, .ref k3, .ref k4, .int (nI m), .ref k6, .ref k7, .ref k8, .int (nI 0), .ref k10, .int (nI 0), .ref k12, .ref k13, .ref k14, .ref k15, .ref k16, .int (nI ls), .int (nI ap), .int (bz bd), .int (nI sq), .ref k21, .ref k22, .ref k23, .ref k24, .ref k25, .int (bz pd), .int (nI pl), .int (bz tk), kv, .ref k30, .ref k31, .int (nI tz), .ref k33, .int (nI rs), .int sd])), (k6, .inl (cI, 6, .inl (nIf K))), (k7, .inl (cI, 6, .inl (nIf G))), (k8, .inl (cI, 6, .inl (nIf T))), (k10, .inl (cI, 7, .inl (nIf R)))]
  rcases in_ix1 (N := 6) (p := k) (show 5 < 2 ^ 29 by decide) rfl with ⟨e9, b9⟩ | ⟨kk, e9, hi_k, hl_kk, b9⟩
  ·
    rw [b9]
    have hbi9 : IX 6 k = none := e9
    refine v_ifb_ne 27 20 zC dX5_dies_17 (fun z => absurd z (by decide)) (fun _ => ?_)
    refine v_bp (v := (-2)) 22 zC dX5_dies_20 (by decide +kernel) ?_
    refine v_is (lv2 := [(4, .int (-2)), (0, .ref r0), (1, .int k), (2, .int g), (3, .int t)]) 24 zC dX5_dies_22 (by rw [hnE]; decide) rfl ?_
    refine v_goto 67 zC dX5_dies_24 ?_
    refine v_il 69 zC dX5_dies_67 0 rfl ?_
    refine v_if_ge 79 72 zC dX5_dies_69 (fun z => absurd z (by decide +kernel)) (fun _ => ?_)
    refine v_al_n 73 zC dX5_dies_72 1 rfl ?_
    refine v_il 75 zC dX5_dies_73 0 rfl ?_
    refine v_cV (As := [.int (-2)]) (st := []) 78 0 [0, 4] zC dX5_dies_75 hA (c_X5_refuse (ev_l E) (ev_D E) cI (r0 := r0) (k1 := k1) (k2 := k2) (k3 := k3) (k4 := k4) (k6 := k6) (k7 := k7) (k8 := k8) (k10 := k10) (k12 := k12) (k13 := k13) (k14 := k14) (k15 := k15) (k16 := k16) (k21 := k21) (k22 := k22) (k23 := k23) (k24 := k24) (k25 := k25) (k30 := k30) (k31 := k31) (k33 := k33) (n := n) (m := m) (aw := 0) (ls := ls) (ap := ap) (sq := sq) (pl := pl) (tz := tz) (rs := rs) (bd := bd) (pd := pd) (tk := tk) (kv := kv) (sd := sd) (R := R) (v := (-2)) (j := 2) (hv := (by first | omega | assumption | rfl | (simp only []; omega) | decide)) (h1 := (by first | omega | assumption | rfl | (simp only []; omega) | decide)) (h6 := (by first | omega | assumption | rfl | (simp only []; omega) | decide))) cf_X5_refuse lk_X5_129 rfl rfl rfl rfl rfl (by decide +kernel) (Nat.le_of_ble_eq_true rfl) (fun rv_7 wv_8 hp_9 hm_10 => ?_)
    clear hm_10
    obtain ⟨rfl, rfl⟩ := hp_9
    show VV E 0 0 78 [(4, .int (-2)), (0, .ref r0), (1, .int k), (2, .int g), (3, .int t)] [.int (-2)] [(r0, .inr (5, [.int (nI n), .ref k1, .ref k2, .ref k3, .ref k4, .int (nI m), .ref k6, .ref k7, .ref k8, .int (nI 0), .ref k10, .int (nI 0), .ref k12, .ref k13, .ref k14, .ref k15, .ref k16, .int (nI ls), .int (nI ap), .int (bz bd), .int (nI sq), .ref k21, .ref k22, .ref k23, .ref k24, .ref k25, .int (bz pd), .int (nI pl), .int (bz tk), kv, .ref k30, .ref k31, .int (nI tz), .ref k33, .int (nI rs), .int sd])), (k6, .inl (cI, 6, .inl (nIf K))), (k7, .inl (cI, 6, .inl (nIf G))), (k8, .inl (cI, 6, .inl (nIf T))), (k10, .inl (cI, 7, .inl (nIf (un R 2 (R 2 + 1)))))]
    refine v_iret zC zT dX5_dies_78  ?_
    first | (have g9 := hbi9; exact Or.inl ⟨hbi9, rfl, rfl⟩) | (have g9 := hlt9; exact Or.inr (Or.inl ⟨hnn9, hlt9, rfl, rfl⟩)) | exact Or.inr (Or.inr (Or.inl ⟨hnn9, hnl9, dz (k := kk) (by omega) hk_kg hk_kt hl_kk, rfl, rfl⟩)) | exact Or.inr (Or.inr (Or.inr ⟨_, _, _, hi_k, IX_nI (N := 10) (by decide) (by omega), IX_nI (N := 10) (by decide) (by omega), by omega, rfl, rfl⟩))
  ·
    rw [b9]
    subst e9
    have hnn9 : ¬ IX 6 (nI kk) = none := by rw [hi_k]; exact Option.some_ne_none _
    refine v_ifb_ne 27 20 zC dX5_dies_17 (fun _ => ?_) (fun z => absurd z (by decide))
    refine v_il_n 28 zC dX5_dies_27 3 rfl ?_
    refine v_if_lt 35 31 zC dX5_dies_28 (fun h_12 => ?_) (fun h_12 => ?_)
    ·
      have hlt9 : g < 0 ∨ t < 0 := Or.inl h_12
      refine v_bp (v := (-4)) 37 zC dX5_dies_35 (by decide +kernel) ?_
      refine v_is (lv2 := [(4, .int (-4)), (0, .ref r0), (1, .int (nI kk)), (2, .int g), (3, .int t)]) 39 zC dX5_dies_37 (by rw [hnE]; decide) rfl ?_
      refine v_goto 67 zC dX5_dies_39 ?_
      refine v_il 69 zC dX5_dies_67 0 rfl ?_
      refine v_if_ge 79 72 zC dX5_dies_69 (fun z => absurd z (by decide +kernel)) (fun _ => ?_)
      refine v_al_n 73 zC dX5_dies_72 1 rfl ?_
      refine v_il 75 zC dX5_dies_73 0 rfl ?_
      refine v_cV (As := [.int (-4)]) (st := []) 78 0 [0, 4] zC dX5_dies_75 hA (c_X5_refuse (ev_l E) (ev_D E) cI (r0 := r0) (k1 := k1) (k2 := k2) (k3 := k3) (k4 := k4) (k6 := k6) (k7 := k7) (k8 := k8) (k10 := k10) (k12 := k12) (k13 := k13) (k14 := k14) (k15 := k15) (k16 := k16) (k21 := k21) (k22 := k22) (k23 := k23) (k24 := k24) (k25 := k25) (k30 := k30) (k31 := k31) (k33 := k33) (n := n) (m := m) (aw := 0) (ls := ls) (ap := ap) (sq := sq) (pl := pl) (tz := tz) (rs := rs) (bd := bd) (pd := pd) (tk := tk) (kv := kv) (sd := sd) (R := R) (v := (-4)) (j := 4) (hv := (by first | omega | assumption | rfl | (simp only []; omega) | decide)) (h1 := (by first | omega | assumption | rfl | (simp only []; omega) | decide)) (h6 := (by first | omega | assumption | rfl | (simp only []; omega) | decide))) cf_X5_refuse lk_X5_129 rfl rfl rfl rfl rfl (by decide +kernel) (Nat.le_of_ble_eq_true rfl) (fun rv_14 wv_15 hp_16 hm_17 => ?_)
      clear hm_17
      obtain ⟨rfl, rfl⟩ := hp_16
      show VV E 0 0 78 [(4, .int (-4)), (0, .ref r0), (1, .int (nI kk)), (2, .int g), (3, .int t)] [.int (-4)] [(r0, .inr (5, [.int (nI n), .ref k1, .ref k2, .ref k3, .ref k4, .int (nI m), .ref k6, .ref k7, .ref k8, .int (nI 0), .ref k10, .int (nI 0), .ref k12, .ref k13, .ref k14, .ref k15, .ref k16, .int (nI ls), .int (nI ap), .int (bz bd), .int (nI sq), .ref k21, .ref k22, .ref k23, .ref k24, .ref k25, .int (bz pd), .int (nI pl), .int (bz tk), kv, .ref k30, .ref k31, .int (nI tz), .ref k33, .int (nI rs), .int sd])), (k6, .inl (cI, 6, .inl (nIf K))), (k7, .inl (cI, 6, .inl (nIf G))), (k8, .inl (cI, 6, .inl (nIf T))), (k10, .inl (cI, 7, .inl (nIf (un R 4 (R 4 + 1)))))]
      refine v_iret zC zT dX5_dies_78  ?_
      first | (have g9 := hbi9; exact Or.inl ⟨hbi9, rfl, rfl⟩) | (have g9 := hlt9; exact Or.inr (Or.inl ⟨hnn9, hlt9, rfl, rfl⟩)) | exact Or.inr (Or.inr (Or.inl ⟨hnn9, hnl9, dz (k := kk) (by omega) hk_kg hk_kt hl_kk, rfl, rfl⟩)) | exact Or.inr (Or.inr (Or.inr ⟨_, _, _, hi_k, IX_nI (N := 10) (by decide) (by omega), IX_nI (N := 10) (by decide) (by omega), by omega, rfl, rfl⟩))
    ·
      have hge_g : ¬ g < 0 := h_12
      obtain ⟨kg, hk_kg, he_kg⟩ := nI_of hge_g
      subst he_kg
      refine v_il_n 32 zC dX5_dies_31 4 rfl ?_
      refine v_if_ge 42 35 zC dX5_dies_32 (fun h_18 => ?_) (fun h_18 => ?_)
      ·
        have hge_t : ¬ t < 0 := Int32.not_lt.mpr h_18
        obtain ⟨kt, hk_kt, he_kt⟩ := nI_of hge_t
        subst he_kt
        have hnl9 : ¬ (nI kg < 0 ∨ nI kt < 0) := fun z => z.elim (nI_pos hk_kg) (nI_pos hk_kt)
        refine v_il_n 43 zC dX5_dies_42 3 rfl ?_
        refine v_bp (v := (nI 9)) 45 zC dX5_dies_43 (by decide +kernel) ?_
        refine v_icmpn_gt 63 48 zC dX5_dies_45 (fun h_19 => ?_) (fun h_19 => ?_)
        ·
          refine v_bp (v := (-6)) 65 zC dX5_dies_63 (by decide +kernel) ?_
          refine v_is (lv2 := [(4, .int (-6)), (0, .ref r0), (1, .int (nI kk)), (2, .int (nI kg)), (3, .int (nI kt))]) 67 zC dX5_dies_65 (by rw [hnE]; decide) rfl ?_
          refine v_il 69 zC dX5_dies_67 0 rfl ?_
          refine v_if_ge 79 72 zC dX5_dies_69 (fun z => absurd z (by decide +kernel)) (fun _ => ?_)
          refine v_al_n 73 zC dX5_dies_72 1 rfl ?_
          refine v_il 75 zC dX5_dies_73 0 rfl ?_
          refine v_cV (As := [.int (-6)]) (st := []) 78 0 [0, 4] zC dX5_dies_75 hA (c_X5_refuse (ev_l E) (ev_D E) cI (r0 := r0) (k1 := k1) (k2 := k2) (k3 := k3) (k4 := k4) (k6 := k6) (k7 := k7) (k8 := k8) (k10 := k10) (k12 := k12) (k13 := k13) (k14 := k14) (k15 := k15) (k16 := k16) (k21 := k21) (k22 := k22) (k23 := k23) (k24 := k24) (k25 := k25) (k30 := k30) (k31 := k31) (k33 := k33) (n := n) (m := m) (aw := 0) (ls := ls) (ap := ap) (sq := sq) (pl := pl) (tz := tz) (rs := rs) (bd := bd) (pd := pd) (tk := tk) (kv := kv) (sd := sd) (R := R) (v := (-6)) (j := 6) (hv := (by first | omega | assumption | rfl | (simp only []; omega) | decide)) (h1 := (by first | omega | assumption | rfl | (simp only []; omega) | decide)) (h6 := (by first | omega | assumption | rfl | (simp only []; omega) | decide))) cf_X5_refuse lk_X5_129 rfl rfl rfl rfl rfl (by decide +kernel) (Nat.le_of_ble_eq_true rfl) (fun rv_21 wv_22 hp_23 hm_24 => ?_)
          clear hm_24
          obtain ⟨rfl, rfl⟩ := hp_23
          show VV E 0 0 78 [(4, .int (-6)), (0, .ref r0), (1, .int (nI kk)), (2, .int (nI kg)), (3, .int (nI kt))] [.int (-6)] [(r0, .inr (5, [.int (nI n), .ref k1, .ref k2, .ref k3, .ref k4, .int (nI m), .ref k6, .ref k7, .ref k8, .int (nI 0), .ref k10, .int (nI 0), .ref k12, .ref k13, .ref k14, .ref k15, .ref k16, .int (nI ls), .int (nI ap), .int (bz bd), .int (nI sq), .ref k21, .ref k22, .ref k23, .ref k24, .ref k25, .int (bz pd), .int (nI pl), .int (bz tk), kv, .ref k30, .ref k31, .int (nI tz), .ref k33, .int (nI rs), .int sd])), (k6, .inl (cI, 6, .inl (nIf K))), (k7, .inl (cI, 6, .inl (nIf G))), (k8, .inl (cI, 6, .inl (nIf T))), (k10, .inl (cI, 7, .inl (nIf (un R 6 (R 6 + 1)))))]
          refine v_iret zC zT dX5_dies_78  ?_
          first | (have g9 := hbi9; exact Or.inl ⟨hbi9, rfl, rfl⟩) | (have g9 := hlt9; exact Or.inr (Or.inl ⟨hnn9, hlt9, rfl, rfl⟩)) | exact Or.inr (Or.inr (Or.inl ⟨hnn9, hnl9, dz (k := kk) (by omega) hk_kg hk_kt hl_kk, rfl, rfl⟩)) | exact Or.inr (Or.inr (Or.inr ⟨_, _, _, hi_k, IX_nI (N := 10) (by decide) (by omega), IX_nI (N := 10) (by decide) (by omega), by omega, rfl, rfl⟩))
        ·
          refine v_il_n 49 zC dX5_dies_48 4 rfl ?_
          refine v_bp (v := (nI 9)) 51 zC dX5_dies_49 (by decide +kernel) ?_
          refine v_icmpn_gt 63 54 zC dX5_dies_51 (fun h_25 => ?_) (fun h_25 => ?_)
          ·
            refine v_bp (v := (-6)) 65 zC dX5_dies_63 (by decide +kernel) ?_
            refine v_is (lv2 := [(4, .int (-6)), (0, .ref r0), (1, .int (nI kk)), (2, .int (nI kg)), (3, .int (nI kt))]) 67 zC dX5_dies_65 (by rw [hnE]; decide) rfl ?_
            refine v_il 69 zC dX5_dies_67 0 rfl ?_
            refine v_if_ge 79 72 zC dX5_dies_69 (fun z => absurd z (by decide +kernel)) (fun _ => ?_)
            refine v_al_n 73 zC dX5_dies_72 1 rfl ?_
            refine v_il 75 zC dX5_dies_73 0 rfl ?_
            refine v_cV (As := [.int (-6)]) (st := []) 78 0 [0, 4] zC dX5_dies_75 hA (c_X5_refuse (ev_l E) (ev_D E) cI (r0 := r0) (k1 := k1) (k2 := k2) (k3 := k3) (k4 := k4) (k6 := k6) (k7 := k7) (k8 := k8) (k10 := k10) (k12 := k12) (k13 := k13) (k14 := k14) (k15 := k15) (k16 := k16) (k21 := k21) (k22 := k22) (k23 := k23) (k24 := k24) (k25 := k25) (k30 := k30) (k31 := k31) (k33 := k33) (n := n) (m := m) (aw := 0) (ls := ls) (ap := ap) (sq := sq) (pl := pl) (tz := tz) (rs := rs) (bd := bd) (pd := pd) (tk := tk) (kv := kv) (sd := sd) (R := R) (v := (-6)) (j := 6) (hv := (by first | omega | assumption | rfl | (simp only []; omega) | decide)) (h1 := (by first | omega | assumption | rfl | (simp only []; omega) | decide)) (h6 := (by first | omega | assumption | rfl | (simp only []; omega) | decide))) cf_X5_refuse lk_X5_129 rfl rfl rfl rfl rfl (by decide +kernel) (Nat.le_of_ble_eq_true rfl) (fun rv_27 wv_28 hp_29 hm_30 => ?_)
            clear hm_30
            obtain ⟨rfl, rfl⟩ := hp_29
            show VV E 0 0 78 [(4, .int (-6)), (0, .ref r0), (1, .int (nI kk)), (2, .int (nI kg)), (3, .int (nI kt))] [.int (-6)] [(r0, .inr (5, [.int (nI n), .ref k1, .ref k2, .ref k3, .ref k4, .int (nI m), .ref k6, .ref k7, .ref k8, .int (nI 0), .ref k10, .int (nI 0), .ref k12, .ref k13, .ref k14, .ref k15, .ref k16, .int (nI ls), .int (nI ap), .int (bz bd), .int (nI sq), .ref k21, .ref k22, .ref k23, .ref k24, .ref k25, .int (bz pd), .int (nI pl), .int (bz tk), kv, .ref k30, .ref k31, .int (nI tz), .ref k33, .int (nI rs), .int sd])), (k6, .inl (cI, 6, .inl (nIf K))), (k7, .inl (cI, 6, .inl (nIf G))), (k8, .inl (cI, 6, .inl (nIf T))), (k10, .inl (cI, 7, .inl (nIf (un R 6 (R 6 + 1)))))]
            refine v_iret zC zT dX5_dies_78  ?_
            first | (have g9 := hbi9; exact Or.inl ⟨hbi9, rfl, rfl⟩) | (have g9 := hlt9; exact Or.inr (Or.inl ⟨hnn9, hlt9, rfl, rfl⟩)) | exact Or.inr (Or.inr (Or.inl ⟨hnn9, hnl9, dz (k := kk) (by omega) hk_kg hk_kt hl_kk, rfl, rfl⟩)) | exact Or.inr (Or.inr (Or.inr ⟨_, _, _, hi_k, IX_nI (N := 10) (by decide) (by omega), IX_nI (N := 10) (by decide) (by omega), by omega, rfl, rfl⟩))
          ·
            refine v_al_n 55 zC dX5_dies_54 1 rfl ?_
            refine v_gf 58 0 zC dX5_dies_55 gf_X5_84 rfl rfl ?_
            refine v_bp (v := (nI 6)) 60 zC dX5_dies_58 (by decide +kernel) ?_
            refine v_icmpn_ne 67 63 zC dX5_dies_60 (fun h_31 => ?_) (fun h_31 => ?_)
            ·
              refine v_il 69 zC dX5_dies_67 0 rfl ?_
              refine v_if_ge 79 72 zC dX5_dies_69 (fun _ => ?_) (fun z => absurd (by decide +kernel) z)
              refine v_al_n 80 zC dX5_dies_79 1 rfl ?_
              refine v_il_n 81 zC dX5_dies_80 2 rfl ?_
              refine v_il_n 82 zC dX5_dies_81 3 rfl ?_
              refine v_il_n 83 zC dX5_dies_82 4 rfl ?_
              refine v_cV (As := [.int (nI kk), .int (nI kg), .int (nI kt)]) (st := []) 86 0 [0, 1, 2, 3] zC dX5_dies_83 hA (c_X5_oneDies (ev_l E) (ev_D E) cI (r0 := r0) (k1 := k1) (k2 := k2) (k3 := k3) (k4 := k4) (k6 := k6) (k7 := k7) (k8 := k8) (k10 := k10) (k12 := k12) (k13 := k13) (k14 := k14) (k15 := k15) (k16 := k16) (k21 := k21) (k22 := k22) (k23 := k23) (k24 := k24) (k25 := k25) (k30 := k30) (k31 := k31) (k33 := k33) (n := n) (m := m) (aw := 0) (ls := ls) (ap := ap) (sq := sq) (pl := pl) (tz := tz) (rs := rs) (bd := bd) (pd := pd) (tk := tk) (kv := kv) (sd := sd) (K := K) (G := G) (T := T) (k := kk) (g := kg) (t := kt) (hm := (by first | omega | assumption | rfl | (simp only []; omega) | decide))) cf_X5_oneDies lk_X5_170 rfl rfl rfl rfl rfl (by decide +kernel) (Nat.le_of_ble_eq_true rfl) (fun rv_33 wv_34 hp_35 hm_36 => ?_)
              clear hm_36
              obtain ⟨rfl, rfl⟩ := hp_35
              show VV E 0 0 86 [(4, .int (nI 0)), (0, .ref r0), (1, .int (nI kk)), (2, .int (nI kg)), (3, .int (nI kt))] [] [(r0, .inr (5, [.int (nI n), .ref k1, .ref k2, .ref k3, .ref k4, .int (nI (m + 1)), .ref k6, .ref k7, .ref k8, .int (nI 0), .ref k10, .int (nI 0), .ref k12, .ref k13, .ref k14, .ref k15, .ref k16, .int (nI ls), .int (nI ap), .int (bz bd), .int (nI sq), .ref k21, .ref k22, .ref k23, .ref k24, .ref k25, .int (bz pd), .int (nI pl), .int (bz tk), kv, .ref k30, .ref k31, .int (nI tz), .ref k33, .int (nI rs), .int sd])), (k6, .inl (cI, 6, .inl (nIf (un K m kk)))), (k7, .inl (cI, 6, .inl (nIf (un G m kg)))), (k8, .inl (cI, 6, .inl (nIf (un T m kt)))), (k10, .inl (cI, 7, .inl (nIf R)))]
              refine v_al_n 87 zC dX5_dies_86 1 rfl ?_
              refine v_ic (v := (nI 0)) 88 zC dX5_dies_87 (by decide +kernel) ?_
              refine v_pf (ws2 := [(r0, .inr (5, [.int (nI n), .ref k1, .ref k2, .ref k3, .ref k4, .int (nI (m + 1)), .ref k6, .ref k7, .ref k8, .int (nI 0), .ref k10, .int (nI 0), .ref k12, .ref k13, .ref k14, .ref k15, .ref k16, .int (nI ls), .int (nI ap), .int (bz bd), .int (nI sq), .ref k21, .ref k22, .ref k23, .ref k24, .ref k25, .int (bz pd), .int (nI pl), .int (bz tk), kv, .ref k30, .ref k31, .int (nI 0), .ref k33, .int (nI rs), .int sd])), (k6, .inl (cI, 6, .inl (nIf (un K m kk)))), (k7, .inl (cI, 6, .inl (nIf (un G m kg)))), (k8, .inl (cI, 6, .inl (nIf (un T m kt)))), (k10, .inl (cI, 7, .inl (nIf R)))]) 91 0 zC dX5_dies_88 pf_X5_188 rfl (Nat.le_of_ble_eq_true rfl) rfl rfl rfl ?_
              refine v_al_n 92 zC dX5_dies_91 1 rfl ?_
              refine v_gf 95 0 zC dX5_dies_92 gf_X5_84 rfl rfl ?_
              refine v_ic (v := (nI 1)) 96 zC dX5_dies_95 (by decide +kernel) ?_
              refine v_isub (v := (nI m)) 97 zC dX5_dies_96 (pk_sub (by omega)) ?_
              refine v_iret zC zT dX5_dies_97  ?_
              first | (have g9 := hbi9; exact Or.inl ⟨hbi9, rfl, rfl⟩) | (have g9 := hlt9; exact Or.inr (Or.inl ⟨hnn9, hlt9, rfl, rfl⟩)) | exact Or.inr (Or.inr (Or.inl ⟨hnn9, hnl9, dz (k := kk) (by omega) hk_kg hk_kt hl_kk, rfl, rfl⟩)) | exact Or.inr (Or.inr (Or.inr ⟨_, _, _, hi_k, IX_nI (N := 10) (by decide) (by omega), IX_nI (N := 10) (by decide) (by omega), by omega, rfl, rfl⟩))
            ·
              refine v_bp (v := (-6)) 65 zC dX5_dies_63 (by decide +kernel) ?_
              refine v_is (lv2 := [(4, .int (-6)), (0, .ref r0), (1, .int (nI kk)), (2, .int (nI kg)), (3, .int (nI kt))]) 67 zC dX5_dies_65 (by rw [hnE]; decide) rfl ?_
              refine v_il 69 zC dX5_dies_67 0 rfl ?_
              refine v_if_ge 79 72 zC dX5_dies_69 (fun z => absurd z (by decide +kernel)) (fun _ => ?_)
              refine v_al_n 73 zC dX5_dies_72 1 rfl ?_
              refine v_il 75 zC dX5_dies_73 0 rfl ?_
              refine v_cV (As := [.int (-6)]) (st := []) 78 0 [0, 4] zC dX5_dies_75 hA (c_X5_refuse (ev_l E) (ev_D E) cI (r0 := r0) (k1 := k1) (k2 := k2) (k3 := k3) (k4 := k4) (k6 := k6) (k7 := k7) (k8 := k8) (k10 := k10) (k12 := k12) (k13 := k13) (k14 := k14) (k15 := k15) (k16 := k16) (k21 := k21) (k22 := k22) (k23 := k23) (k24 := k24) (k25 := k25) (k30 := k30) (k31 := k31) (k33 := k33) (n := n) (m := m) (aw := 0) (ls := ls) (ap := ap) (sq := sq) (pl := pl) (tz := tz) (rs := rs) (bd := bd) (pd := pd) (tk := tk) (kv := kv) (sd := sd) (R := R) (v := (-6)) (j := 6) (hv := (by first | omega | assumption | rfl | (simp only []; omega) | decide)) (h1 := (by first | omega | assumption | rfl | (simp only []; omega) | decide)) (h6 := (by first | omega | assumption | rfl | (simp only []; omega) | decide))) cf_X5_refuse lk_X5_129 rfl rfl rfl rfl rfl (by decide +kernel) (Nat.le_of_ble_eq_true rfl) (fun rv_38 wv_39 hp_40 hm_41 => ?_)
              clear hm_41
              obtain ⟨rfl, rfl⟩ := hp_40
              show VV E 0 0 78 [(4, .int (-6)), (0, .ref r0), (1, .int (nI kk)), (2, .int (nI kg)), (3, .int (nI kt))] [.int (-6)] [(r0, .inr (5, [.int (nI n), .ref k1, .ref k2, .ref k3, .ref k4, .int (nI m), .ref k6, .ref k7, .ref k8, .int (nI 0), .ref k10, .int (nI 0), .ref k12, .ref k13, .ref k14, .ref k15, .ref k16, .int (nI ls), .int (nI ap), .int (bz bd), .int (nI sq), .ref k21, .ref k22, .ref k23, .ref k24, .ref k25, .int (bz pd), .int (nI pl), .int (bz tk), kv, .ref k30, .ref k31, .int (nI tz), .ref k33, .int (nI rs), .int sd])), (k6, .inl (cI, 6, .inl (nIf K))), (k7, .inl (cI, 6, .inl (nIf G))), (k8, .inl (cI, 6, .inl (nIf T))), (k10, .inl (cI, 7, .inl (nIf (un R 6 (R 6 + 1)))))]
              refine v_iret zC zT dX5_dies_78  ?_
              first | (have g9 := hbi9; exact Or.inl ⟨hbi9, rfl, rfl⟩) | (have g9 := hlt9; exact Or.inr (Or.inl ⟨hnn9, hlt9, rfl, rfl⟩)) | exact Or.inr (Or.inr (Or.inl ⟨hnn9, hnl9, dz (k := kk) (by omega) hk_kg hk_kt hl_kk, rfl, rfl⟩)) | exact Or.inr (Or.inr (Or.inr ⟨_, _, _, hi_k, IX_nI (N := 10) (by decide) (by omega), IX_nI (N := 10) (by decide) (by omega), by omega, rfl, rfl⟩))
      ·
        have hlt9 : nI kg < 0 ∨ t < 0 := Or.inr (Int32.not_le.mp h_18)
        refine v_bp (v := (-4)) 37 zC dX5_dies_35 (by decide +kernel) ?_
        refine v_is (lv2 := [(4, .int (-4)), (0, .ref r0), (1, .int (nI kk)), (2, .int (nI kg)), (3, .int t)]) 39 zC dX5_dies_37 (by rw [hnE]; decide) rfl ?_
        refine v_goto 67 zC dX5_dies_39 ?_
        refine v_il 69 zC dX5_dies_67 0 rfl ?_
        refine v_if_ge 79 72 zC dX5_dies_69 (fun z => absurd z (by decide +kernel)) (fun _ => ?_)
        refine v_al_n 73 zC dX5_dies_72 1 rfl ?_
        refine v_il 75 zC dX5_dies_73 0 rfl ?_
        refine v_cV (As := [.int (-4)]) (st := []) 78 0 [0, 4] zC dX5_dies_75 hA (c_X5_refuse (ev_l E) (ev_D E) cI (r0 := r0) (k1 := k1) (k2 := k2) (k3 := k3) (k4 := k4) (k6 := k6) (k7 := k7) (k8 := k8) (k10 := k10) (k12 := k12) (k13 := k13) (k14 := k14) (k15 := k15) (k16 := k16) (k21 := k21) (k22 := k22) (k23 := k23) (k24 := k24) (k25 := k25) (k30 := k30) (k31 := k31) (k33 := k33) (n := n) (m := m) (aw := 0) (ls := ls) (ap := ap) (sq := sq) (pl := pl) (tz := tz) (rs := rs) (bd := bd) (pd := pd) (tk := tk) (kv := kv) (sd := sd) (R := R) (v := (-4)) (j := 4) (hv := (by first | omega | assumption | rfl | (simp only []; omega) | decide)) (h1 := (by first | omega | assumption | rfl | (simp only []; omega) | decide)) (h6 := (by first | omega | assumption | rfl | (simp only []; omega) | decide))) cf_X5_refuse lk_X5_129 rfl rfl rfl rfl rfl (by decide +kernel) (Nat.le_of_ble_eq_true rfl) (fun rv_43 wv_44 hp_45 hm_46 => ?_)
        clear hm_46
        obtain ⟨rfl, rfl⟩ := hp_45
        show VV E 0 0 78 [(4, .int (-4)), (0, .ref r0), (1, .int (nI kk)), (2, .int (nI kg)), (3, .int t)] [.int (-4)] [(r0, .inr (5, [.int (nI n), .ref k1, .ref k2, .ref k3, .ref k4, .int (nI m), .ref k6, .ref k7, .ref k8, .int (nI 0), .ref k10, .int (nI 0), .ref k12, .ref k13, .ref k14, .ref k15, .ref k16, .int (nI ls), .int (nI ap), .int (bz bd), .int (nI sq), .ref k21, .ref k22, .ref k23, .ref k24, .ref k25, .int (bz pd), .int (nI pl), .int (bz tk), kv, .ref k30, .ref k31, .int (nI tz), .ref k33, .int (nI rs), .int sd])), (k6, .inl (cI, 6, .inl (nIf K))), (k7, .inl (cI, 6, .inl (nIf G))), (k8, .inl (cI, 6, .inl (nIf T))), (k10, .inl (cI, 7, .inl (nIf (un R 4 (R 4 + 1)))))]
        refine v_iret zC zT dX5_dies_78  ?_
        first | (have g9 := hbi9; exact Or.inl ⟨hbi9, rfl, rfl⟩) | (have g9 := hlt9; exact Or.inr (Or.inl ⟨hnn9, hlt9, rfl, rfl⟩)) | exact Or.inr (Or.inr (Or.inl ⟨hnn9, hnl9, dz (k := kk) (by omega) hk_kg hk_kt hl_kk, rfl, rfl⟩)) | exact Or.inr (Or.inr (Or.inr ⟨_, _, _, hi_k, IX_nI (N := 10) (by decide) (by omega), IX_nI (N := 10) (by decide) (by omega), by omega, rfl, rfl⟩))
set_option maxRecDepth 100000 in
set_option maxHeartbeats 4000000 in
theorem c_X5_keepTurn (l : Launch) (D : va_G) (cI : ClassId) (r0 k1 k2 k3 k4 k6 k7 k8 k10 k12 k13 k14 k15 k16 k21 k22 k23 k24 k25 k30 k31 k33 : Nat) (n m aw ls ap sq pl tz rs : Nat) (bd pd tk : Bool) (kv : Value) (sd : Int32) (ki op fa K G T : Nat → Nat) (sh : Nat) (tu to : Nat → Nat) (ht : tz ≤ 8) : CT l yX5_keepTurn cX5_keepTurn 2 none { frames := 2, cells := 0, slots := 0, locals := 44 } D cI [.ref r0] [(r0, .inr (5, [.int (nI n), .ref k1, .ref k2, .ref k3, .ref k4, .int (nI m), .ref k6, .ref k7, .ref k8, .int (nI 0), .ref k10, .int (nI aw), .ref k12, .ref k13, .ref k14, .ref k15, .ref k16, .int (nI ls), .int (nI ap), .int (bz bd), .int (nI sq), .ref k21, .ref k22, .ref k23, .ref k24, .ref k25, .int (bz pd), .int (nI pl), .int (bz tk), kv, .ref k30, .ref k31, .int (nI tz), .ref k33, .int (nI rs), .int sd])), (k1, .inl (cI, 7, .inl (nIf ki))), (k2, .inl (cI, 7, .inl (nIf op))), (k3, .inl (cI, 7, .inl (nIf (shF sh)))), (k4, .inl (cI, 7, .inl (nIf fa))), (k6, .inl (cI, 6, .inl (nIf K))), (k7, .inl (cI, 6, .inl (nIf G))), (k8, .inl (cI, 6, .inl (nIf T))), (k30, .inl (cI, 384, .inl (nIf tu))), (k31, .inl (cI, 48, .inl (nIf to)))] (fun zr zw => (∃ t1 : Nat, ∃ u1 : Nat → Nat, ∃ o1 : Nat → Nat, (KT (n, m, sh, aw, ki, op, fa, K, G, T) tz tu t1 u1) ∧ (t1 ≤ 8) ∧ zr = none ∧ zw = [(r0, .inr (5, [.int (nI n), .ref k1, .ref k2, .ref k3, .ref k4, .int (nI m), .ref k6, .ref k7, .ref k8, .int (nI 0), .ref k10, .int (nI aw), .ref k12, .ref k13, .ref k14, .ref k15, .ref k16, .int (nI ls), .int (nI ap), .int (bz bd), .int (nI sq), .ref k21, .ref k22, .ref k23, .ref k24, .ref k25, .int (bz pd), .int (nI 48), .int (bz true), .ref k31, .ref k30, .ref k31, .int (nI t1), .ref k33, .int (nI rs), .int sd])), (k1, .inl (cI, 7, .inl (nIf ki))), (k2, .inl (cI, 7, .inl (nIf op))), (k3, .inl (cI, 7, .inl (nIf (shF sh)))), (k4, .inl (cI, 7, .inl (nIf fa))), (k6, .inl (cI, 6, .inl (nIf K))), (k7, .inl (cI, 6, .inl (nIf G))), (k8, .inl (cI, 6, .inl (nIf T))), (k30, .inl (cI, 384, .inl (nIf u1))), (k31, .inl (cI, 48, .inl (nIf o1)))])) := by
  refine CT_of RX5 rfl (by decide +kernel) (Nat.le_of_ble_eq_true rfl) (fun E hnE zC zT => ?_)
  have hA : ∀ q, (ev_s E).heap.size ≤ q → ev_A E q := fun q h => by rw [zT.2]; exact Or.inr h
  show VV E 0 0 0 [(0, .ref r0)] [] [(r0, .inr (5, [.int (nI n), .ref k1, .ref k2, .ref k3, .ref k4, .int (nI m), .ref k6, .ref k7, .ref k8, .int (nI 0), .ref k10, .int (nI aw), .ref k12, .ref k13, .ref k14, .ref k15, .ref k16, .int (nI ls), .int (nI ap), .int (bz bd), .int (nI sq), .ref k21, .ref k22, .ref k23, .ref k24, .ref k25, .int (bz pd), .int (nI pl), .int (bz tk), kv, .ref k30, .ref k31, .int (nI tz), .ref k33, .int (nI rs), .int sd])), (k1, .inl (cI, 7, .inl (nIf ki))), (k2, .inl (cI, 7, .inl (nIf op))), (k3, .inl (cI, 7, .inl (nIf (shF sh)))), (k4, .inl (cI, 7, .inl (nIf fa))), (k6, .inl (cI, 6, .inl (nIf K))), (k7, .inl (cI, 6, .inl (nIf G))), (k8, .inl (cI, 6, .inl (nIf T))), (k30, .inl (cI, 384, .inl (nIf tu))), (k31, .inl (cI, 48, .inl (nIf to)))]
  refine v_al_n 1 zC dX5_keepTurn_0 0 rfl ?_
  refine v_gf 4 0 zC dX5_keepTurn_1 gf_X5_188 rfl rfl ?_
  refine v_bp (v := (nI 8)) 6 zC dX5_keepTurn_4 (by decide +kernel) ?_
  refine v_icmpn_ne 50 9 zC dX5_keepTurn_6 (fun h_1 => ?_) (fun h_1 => ?_)
  ·
    have h8n := h_1
    refine v_al_n 51 zC dX5_keepTurn_50 0 rfl ?_
    refine v_al_n 52 zC dX5_keepTurn_51 0 rfl ?_
    refine v_gf 55 0 zC dX5_keepTurn_52 gf_X5_67 rfl rfl ?_
    refine v_ic (v := (nI 1)) 56 zC dX5_keepTurn_55 (by decide +kernel) ?_
    refine v_cV (As := [.ref k31, .int (nI 1)]) (st := []) 59 0 [0, 1, 2, 3, 4, 5, 6, 7, 9] zC dX5_keepTurn_56 hA (c_X5_carryAll__T (ev_l E) (ev_D E) cI (r0 := r0) (k1 := k1) (k2 := k2) (k3 := k3) (k4 := k4) (k6 := k6) (k7 := k7) (k8 := k8) (k10 := k10) (k12 := k12) (k13 := k13) (k14 := k14) (k15 := k15) (k16 := k16) (k21 := k21) (k22 := k22) (k23 := k23) (k24 := k24) (k25 := k25) (k30 := k30) (k31 := k31) (k33 := k33) (n := n) (m := m) (aw := aw) (ls := ls) (ap := ap) (sq := sq) (pl := pl) (tz := tz) (rs := rs) (bd := bd) (pd := pd) (tk := tk) (kv := kv) (sd := sd) (ki := ki) (op := op) (fa := fa) (K := K) (G := G) (T := T) (sh := sh) (q := k31) (En := to) ) cf_X5_carryAll lk_X5_181 rfl rfl rfl rfl rfl (by decide +kernel) (Nat.le_of_ble_eq_true rfl) (fun rv_2 wv_3 hp_4 hm_5 => ?_)
    clear hm_5
    obtain ⟨E1_6, hE_7, rfl, rfl⟩ := hp_4
    show VV E 0 0 59 [(0, .ref r0)] [] [(r0, .inr (5, [.int (nI n), .ref k1, .ref k2, .ref k3, .ref k4, .int (nI m), .ref k6, .ref k7, .ref k8, .int (nI 0), .ref k10, .int (nI aw), .ref k12, .ref k13, .ref k14, .ref k15, .ref k16, .int (nI ls), .int (nI ap), .int (bz bd), .int (nI sq), .ref k21, .ref k22, .ref k23, .ref k24, .ref k25, .int (bz pd), .int (nI 48), .int (nI 1), .ref k31, .ref k30, .ref k31, .int (nI tz), .ref k33, .int (nI rs), .int sd])), (k1, .inl (cI, 7, .inl (nIf ki))), (k2, .inl (cI, 7, .inl (nIf op))), (k3, .inl (cI, 7, .inl (nIf (shF sh)))), (k4, .inl (cI, 7, .inl (nIf fa))), (k6, .inl (cI, 6, .inl (nIf K))), (k7, .inl (cI, 6, .inl (nIf G))), (k8, .inl (cI, 6, .inl (nIf T))), (k30, .inl (cI, 384, .inl (nIf tu))), (k31, .inl (cI, 48, .inl (nIf E1_6)))]
    have hE9 := hE_7
    refine v_ic (v := (nI 0)) 60 zC dX5_keepTurn_59 (by decide +kernel) ?_
    refine v_is_n (lv2 := [(1, .int (nI 0)), (0, .ref r0)]) 61 zC dX5_keepTurn_60 (by rw [hnE]; decide) rfl ?_
    have lp61 : ∀ (mz : Nat) (U2 : Nat → Nat) (i : Nat), (∀ z, z < 48 * tz → U2 z = tu z) → (∀ z, z < i → U2 (48 * tz + z) = E1_6 z) → (i ≤ 48) → 48 - i = mz → VV E 0 0 61 [(1, .int (nI i)), (0, .ref r0)] [] [(r0, .inr (5, [.int (nI n), .ref k1, .ref k2, .ref k3, .ref k4, .int (nI m), .ref k6, .ref k7, .ref k8, .int (nI 0), .ref k10, .int (nI aw), .ref k12, .ref k13, .ref k14, .ref k15, .ref k16, .int (nI ls), .int (nI ap), .int (bz bd), .int (nI sq), .ref k21, .ref k22, .ref k23, .ref k24, .ref k25, .int (bz pd), .int (nI 48), .int (nI 1), .ref k31, .ref k30, .ref k31, .int (nI tz), .ref k33, .int (nI rs), .int sd])), (k1, .inl (cI, 7, .inl (nIf ki))), (k2, .inl (cI, 7, .inl (nIf op))), (k3, .inl (cI, 7, .inl (nIf (shF sh)))), (k4, .inl (cI, 7, .inl (nIf fa))), (k6, .inl (cI, 6, .inl (nIf K))), (k7, .inl (cI, 6, .inl (nIf G))), (k8, .inl (cI, 6, .inl (nIf T))), (k30, .inl (cI, 384, .inl (nIf U2))), (k31, .inl (cI, 48, .inl (nIf E1_6)))] := by
      intro mz
      induction mz using Nat.strongRecOn with
      | _ mz ih61 =>
      intro U2 i hG hN hi hm61
      refine v_il_n 62 zC dX5_keepTurn_61 0 rfl ?_
      refine v_bp (v := (nI 48)) 64 zC dX5_keepTurn_62 (by decide +kernel) ?_
      refine v_icmpn_ge 93 67 zC dX5_keepTurn_64 (fun h_8 => ?_) (fun h_8 => ?_)
      ·
        refine v_al_n 94 zC dX5_keepTurn_93 1 rfl ?_
        refine v_dup 95 zC dX5_keepTurn_94 rfl ?_
        refine v_gf 98 0 zC dX5_keepTurn_95 gf_X5_188 rfl rfl ?_
        refine v_ic (v := (nI 1)) 99 zC dX5_keepTurn_98 (by decide +kernel) ?_
        refine v_iadd (v := (nI (tz + 1))) 100 zC dX5_keepTurn_99 (nI_add _ _) ?_
        refine v_pf (ws2 := [(r0, .inr (5, [.int (nI n), .ref k1, .ref k2, .ref k3, .ref k4, .int (nI m), .ref k6, .ref k7, .ref k8, .int (nI 0), .ref k10, .int (nI aw), .ref k12, .ref k13, .ref k14, .ref k15, .ref k16, .int (nI ls), .int (nI ap), .int (bz bd), .int (nI sq), .ref k21, .ref k22, .ref k23, .ref k24, .ref k25, .int (bz pd), .int (nI 48), .int (nI 1), .ref k31, .ref k30, .ref k31, .int (nI (tz + 1)), .ref k33, .int (nI rs), .int sd])), (k1, .inl (cI, 7, .inl (nIf ki))), (k2, .inl (cI, 7, .inl (nIf op))), (k3, .inl (cI, 7, .inl (nIf (shF sh)))), (k4, .inl (cI, 7, .inl (nIf fa))), (k6, .inl (cI, 6, .inl (nIf K))), (k7, .inl (cI, 6, .inl (nIf G))), (k8, .inl (cI, 6, .inl (nIf T))), (k30, .inl (cI, 384, .inl (nIf U2))), (k31, .inl (cI, 48, .inl (nIf E1_6)))]) 103 0 zC dX5_keepTurn_100 pf_X5_188 rfl (Nat.le_of_ble_eq_true rfl) rfl rfl rfl ?_
        refine v_vret zC zT dX5_keepTurn_103  ?_
        first | (have g9 := h8y; subst h8y; exact ⟨_, _, _, Or.inr ⟨rfl, rfl, fun z hz => (hG z (by omega)).trans (hAx z (by omega)), fun z hz => (hN z (by omega)).trans (hE9 z hz)⟩, by omega, rfl, rfl⟩) | exact ⟨_, _, _, Or.inl ⟨by omega, rfl, hG, fun z hz => (hN z (by omega)).trans (hE9 z hz)⟩, by omega, rfl, rfl⟩
      ·
        refine v_al_n 68 zC dX5_keepTurn_67 1 rfl ?_
        refine v_gf 71 0 zC dX5_keepTurn_68 gf_X5_64 rfl rfl ?_
        refine v_bp (v := (nI 48)) 73 zC dX5_keepTurn_71 (by decide +kernel) ?_
        refine v_al_n 74 zC dX5_keepTurn_73 1 rfl ?_
        refine v_gf 77 0 zC dX5_keepTurn_74 gf_X5_188 rfl rfl ?_
        refine v_imul (v := (nI (48 * tz))) 78 zC dX5_keepTurn_77 (pk_mul _ _) ?_
        refine v_il_n 79 zC dX5_keepTurn_78 0 rfl ?_
        refine v_iadd (v := (nI ((48 * tz) + i))) 80 zC dX5_keepTurn_79 (nI_add _ _) ?_
        refine v_al_n 81 zC dX5_keepTurn_80 1 rfl ?_
        refine v_gf 84 0 zC dX5_keepTurn_81 gf_X5_67 rfl rfl ?_
        refine v_il_n 85 zC dX5_keepTurn_84 0 rfl ?_
        refine v_ialn (v := (nI (E1_6 i))) 86 9 zC dX5_keepTurn_85 rfl (by omega) rfl ?_
        refine v_iasn (ws2 := [(r0, .inr (5, [.int (nI n), .ref k1, .ref k2, .ref k3, .ref k4, .int (nI m), .ref k6, .ref k7, .ref k8, .int (nI 0), .ref k10, .int (nI aw), .ref k12, .ref k13, .ref k14, .ref k15, .ref k16, .int (nI ls), .int (nI ap), .int (bz bd), .int (nI sq), .ref k21, .ref k22, .ref k23, .ref k24, .ref k25, .int (bz pd), .int (nI 48), .int (nI 1), .ref k31, .ref k30, .ref k31, .int (nI tz), .ref k33, .int (nI rs), .int sd])), (k1, .inl (cI, 7, .inl (nIf ki))), (k2, .inl (cI, 7, .inl (nIf op))), (k3, .inl (cI, 7, .inl (nIf (shF sh)))), (k4, .inl (cI, 7, .inl (nIf fa))), (k6, .inl (cI, 6, .inl (nIf K))), (k7, .inl (cI, 6, .inl (nIf G))), (k8, .inl (cI, 6, .inl (nIf T))), (k30, .inl (cI, 384, .inl (nIf (un U2 ((48 * tz) + i) (E1_6 i))))), (k31, .inl (cI, 48, .inl (nIf E1_6)))]) 87 8 zC dX5_keepTurn_86 rfl (by omega) (by rw [upd_nIf]; first | done | rfl) ?_
        refine v_inc (v := (nI (i + 1))) (lv2 := [(1, .int (nI (i + 1))), (0, .ref r0)]) 90 zC dX5_keepTurn_87 (j := 0) rfl (nI_add _ 1) (by rw [hnE]; decide) rfl ?_
        refine v_goto 61 zC dX5_keepTurn_90 ?_
        refine v_lvs (lv2 := [(1, .int (nI (i + 1))), (0, .ref r0)]) [0, 1] rfl ?_
        exact ih61 _ (by omega) (un U2 ((48 * tz) + i) (E1_6 i)) (i + 1) (fun z hz => by rw [un_n (by omega)]; exact hG z hz) (fun z hz => by by_cases q9 : z = i; (· subst q9; exact un_s); (· rw [un_n (by omega)]; exact hN z (by omega))) (by first | omega | assumption | rfl | (simp only []; omega) | decide) rfl
    refine v_lvs (lv2 := [(1, .int (nI 0)), (0, .ref r0)]) [0, 1] rfl ?_
    exact lp61 _ tu 0 (fun _ _ => rfl) (fun z hz => absurd hz (Nat.not_lt_zero z)) (by first | omega | assumption | rfl | (simp only []; omega) | decide) rfl
  ·
    have h8y : tz = 8 := h_1
    refine v_bp (v := (nI 48)) 11 zC dX5_keepTurn_9 (by decide +kernel) ?_
    refine v_is_n (lv2 := [(1, .int (nI 48)), (0, .ref r0)]) 12 zC dX5_keepTurn_11 (by rw [hnE]; decide) rfl ?_
    have lp12 : ∀ (mz : Nat) (U : Nat → Nat) (k : Nat), (∀ z, z + 48 < k → U z = tu (z + 48)) → (∀ z, k ≤ z + 48 → U z = tu z) → (48 ≤ k) → (k ≤ 384) → 384 - k = mz → VV E 0 0 12 [(1, .int (nI k)), (0, .ref r0)] [] [(r0, .inr (5, [.int (nI n), .ref k1, .ref k2, .ref k3, .ref k4, .int (nI m), .ref k6, .ref k7, .ref k8, .int (nI 0), .ref k10, .int (nI aw), .ref k12, .ref k13, .ref k14, .ref k15, .ref k16, .int (nI ls), .int (nI ap), .int (bz bd), .int (nI sq), .ref k21, .ref k22, .ref k23, .ref k24, .ref k25, .int (bz pd), .int (nI pl), .int (bz tk), kv, .ref k30, .ref k31, .int (nI tz), .ref k33, .int (nI rs), .int sd])), (k1, .inl (cI, 7, .inl (nIf ki))), (k2, .inl (cI, 7, .inl (nIf op))), (k3, .inl (cI, 7, .inl (nIf (shF sh)))), (k4, .inl (cI, 7, .inl (nIf fa))), (k6, .inl (cI, 6, .inl (nIf K))), (k7, .inl (cI, 6, .inl (nIf G))), (k8, .inl (cI, 6, .inl (nIf T))), (k30, .inl (cI, 384, .inl (nIf U))), (k31, .inl (cI, 48, .inl (nIf to)))] := by
      intro mz
      induction mz using Nat.strongRecOn with
      | _ mz ih12 =>
      intro U k hAx hB hk1 hk2 hm12
      refine v_il_n 13 zC dX5_keepTurn_12 0 rfl ?_
      refine v_sp (v := (nI 384)) 16 zC dX5_keepTurn_13 (by decide +kernel) ?_
      refine v_icmpn_ge 40 19 zC dX5_keepTurn_16 (fun h_9 => ?_) (fun h_9 => ?_)
      ·
        refine v_al_n 41 zC dX5_keepTurn_40 1 rfl ?_
        refine v_dup 42 zC dX5_keepTurn_41 rfl ?_
        refine v_gf 45 0 zC dX5_keepTurn_42 gf_X5_188 rfl rfl ?_
        refine v_ic (v := (nI 1)) 46 zC dX5_keepTurn_45 (by decide +kernel) ?_
        refine v_isub (v := (nI (tz - 1))) 47 zC dX5_keepTurn_46 (pk_sub (by first | omega | exact Nat.one_le_two_pow)) ?_
        refine v_pf (ws2 := [(r0, .inr (5, [.int (nI n), .ref k1, .ref k2, .ref k3, .ref k4, .int (nI m), .ref k6, .ref k7, .ref k8, .int (nI 0), .ref k10, .int (nI aw), .ref k12, .ref k13, .ref k14, .ref k15, .ref k16, .int (nI ls), .int (nI ap), .int (bz bd), .int (nI sq), .ref k21, .ref k22, .ref k23, .ref k24, .ref k25, .int (bz pd), .int (nI pl), .int (bz tk), kv, .ref k30, .ref k31, .int (nI (tz - 1)), .ref k33, .int (nI rs), .int sd])), (k1, .inl (cI, 7, .inl (nIf ki))), (k2, .inl (cI, 7, .inl (nIf op))), (k3, .inl (cI, 7, .inl (nIf (shF sh)))), (k4, .inl (cI, 7, .inl (nIf fa))), (k6, .inl (cI, 6, .inl (nIf K))), (k7, .inl (cI, 6, .inl (nIf G))), (k8, .inl (cI, 6, .inl (nIf T))), (k30, .inl (cI, 384, .inl (nIf U))), (k31, .inl (cI, 48, .inl (nIf to)))]) 50 0 zC dX5_keepTurn_47 pf_X5_188 rfl (Nat.le_of_ble_eq_true rfl) rfl rfl rfl ?_
        refine v_al_n 51 zC dX5_keepTurn_50 1 rfl ?_
        refine v_al_n 52 zC dX5_keepTurn_51 1 rfl ?_
        refine v_gf 55 0 zC dX5_keepTurn_52 gf_X5_67 rfl rfl ?_
        refine v_ic (v := (nI 1)) 56 zC dX5_keepTurn_55 (by decide +kernel) ?_
        refine v_cV (As := [.ref k31, .int (nI 1)]) (st := []) 59 0 [0, 1, 2, 3, 4, 5, 6, 7, 9] zC dX5_keepTurn_56 hA (c_X5_carryAll__T (ev_l E) (ev_D E) cI (r0 := r0) (k1 := k1) (k2 := k2) (k3 := k3) (k4 := k4) (k6 := k6) (k7 := k7) (k8 := k8) (k10 := k10) (k12 := k12) (k13 := k13) (k14 := k14) (k15 := k15) (k16 := k16) (k21 := k21) (k22 := k22) (k23 := k23) (k24 := k24) (k25 := k25) (k30 := k30) (k31 := k31) (k33 := k33) (n := n) (m := m) (aw := aw) (ls := ls) (ap := ap) (sq := sq) (pl := pl) (tz := (tz - 1)) (rs := rs) (bd := bd) (pd := pd) (tk := tk) (kv := kv) (sd := sd) (ki := ki) (op := op) (fa := fa) (K := K) (G := G) (T := T) (sh := sh) (q := k31) (En := to) ) cf_X5_carryAll lk_X5_181 rfl rfl rfl rfl rfl (by decide +kernel) (Nat.le_of_ble_eq_true rfl) (fun rv_10 wv_11 hp_12 hm_13 => ?_)
        clear hm_13
        obtain ⟨E1_14, hE_15, rfl, rfl⟩ := hp_12
        show VV E 0 0 59 [(1, .int (nI k)), (0, .ref r0)] [] [(r0, .inr (5, [.int (nI n), .ref k1, .ref k2, .ref k3, .ref k4, .int (nI m), .ref k6, .ref k7, .ref k8, .int (nI 0), .ref k10, .int (nI aw), .ref k12, .ref k13, .ref k14, .ref k15, .ref k16, .int (nI ls), .int (nI ap), .int (bz bd), .int (nI sq), .ref k21, .ref k22, .ref k23, .ref k24, .ref k25, .int (bz pd), .int (nI 48), .int (nI 1), .ref k31, .ref k30, .ref k31, .int (nI (tz - 1)), .ref k33, .int (nI rs), .int sd])), (k1, .inl (cI, 7, .inl (nIf ki))), (k2, .inl (cI, 7, .inl (nIf op))), (k3, .inl (cI, 7, .inl (nIf (shF sh)))), (k4, .inl (cI, 7, .inl (nIf fa))), (k6, .inl (cI, 6, .inl (nIf K))), (k7, .inl (cI, 6, .inl (nIf G))), (k8, .inl (cI, 6, .inl (nIf T))), (k30, .inl (cI, 384, .inl (nIf U))), (k31, .inl (cI, 48, .inl (nIf E1_14)))]
        have hE9 := hE_15
        refine v_ic (v := (nI 0)) 60 zC dX5_keepTurn_59 (by decide +kernel) ?_
        refine v_is_n (lv2 := [(1, .int (nI 0)), (0, .ref r0)]) 61 zC dX5_keepTurn_60 (by rw [hnE]; decide) rfl ?_
        have lp61 : ∀ (mz : Nat) (U2 : Nat → Nat) (i : Nat), (∀ z, z < 48 * (tz - 1) → U2 z = U z) → (∀ z, z < i → U2 (48 * (tz - 1) + z) = E1_14 z) → (i ≤ 48) → 48 - i = mz → VV E 0 0 61 [(1, .int (nI i)), (0, .ref r0)] [] [(r0, .inr (5, [.int (nI n), .ref k1, .ref k2, .ref k3, .ref k4, .int (nI m), .ref k6, .ref k7, .ref k8, .int (nI 0), .ref k10, .int (nI aw), .ref k12, .ref k13, .ref k14, .ref k15, .ref k16, .int (nI ls), .int (nI ap), .int (bz bd), .int (nI sq), .ref k21, .ref k22, .ref k23, .ref k24, .ref k25, .int (bz pd), .int (nI 48), .int (nI 1), .ref k31, .ref k30, .ref k31, .int (nI (tz - 1)), .ref k33, .int (nI rs), .int sd])), (k1, .inl (cI, 7, .inl (nIf ki))), (k2, .inl (cI, 7, .inl (nIf op))), (k3, .inl (cI, 7, .inl (nIf (shF sh)))), (k4, .inl (cI, 7, .inl (nIf fa))), (k6, .inl (cI, 6, .inl (nIf K))), (k7, .inl (cI, 6, .inl (nIf G))), (k8, .inl (cI, 6, .inl (nIf T))), (k30, .inl (cI, 384, .inl (nIf U2))), (k31, .inl (cI, 48, .inl (nIf E1_14)))] := by
          intro mz
          induction mz using Nat.strongRecOn with
          | _ mz ih61 =>
          intro U2 i hG hN hi hm61
          refine v_il_n 62 zC dX5_keepTurn_61 0 rfl ?_
          refine v_bp (v := (nI 48)) 64 zC dX5_keepTurn_62 (by decide +kernel) ?_
          refine v_icmpn_ge 93 67 zC dX5_keepTurn_64 (fun h_16 => ?_) (fun h_16 => ?_)
          ·
            refine v_al_n 94 zC dX5_keepTurn_93 1 rfl ?_
            refine v_dup 95 zC dX5_keepTurn_94 rfl ?_
            refine v_gf 98 0 zC dX5_keepTurn_95 gf_X5_188 rfl rfl ?_
            refine v_ic (v := (nI 1)) 99 zC dX5_keepTurn_98 (by decide +kernel) ?_
            refine v_iadd (v := (nI ((tz - 1) + 1))) 100 zC dX5_keepTurn_99 (nI_add _ _) ?_
            refine v_pf (ws2 := [(r0, .inr (5, [.int (nI n), .ref k1, .ref k2, .ref k3, .ref k4, .int (nI m), .ref k6, .ref k7, .ref k8, .int (nI 0), .ref k10, .int (nI aw), .ref k12, .ref k13, .ref k14, .ref k15, .ref k16, .int (nI ls), .int (nI ap), .int (bz bd), .int (nI sq), .ref k21, .ref k22, .ref k23, .ref k24, .ref k25, .int (bz pd), .int (nI 48), .int (nI 1), .ref k31, .ref k30, .ref k31, .int (nI ((tz - 1) + 1)), .ref k33, .int (nI rs), .int sd])), (k1, .inl (cI, 7, .inl (nIf ki))), (k2, .inl (cI, 7, .inl (nIf op))), (k3, .inl (cI, 7, .inl (nIf (shF sh)))), (k4, .inl (cI, 7, .inl (nIf fa))), (k6, .inl (cI, 6, .inl (nIf K))), (k7, .inl (cI, 6, .inl (nIf G))), (k8, .inl (cI, 6, .inl (nIf T))), (k30, .inl (cI, 384, .inl (nIf U2))), (k31, .inl (cI, 48, .inl (nIf E1_14)))]) 103 0 zC dX5_keepTurn_100 pf_X5_188 rfl (Nat.le_of_ble_eq_true rfl) rfl rfl rfl ?_
            refine v_vret zC zT dX5_keepTurn_103  ?_
            first | (have g9 := h8y; subst h8y; exact ⟨_, _, _, Or.inr ⟨rfl, rfl, fun z hz => (hG z (by omega)).trans (hAx z (by omega)), fun z hz => (hN z (by omega)).trans (hE9 z hz)⟩, by omega, rfl, rfl⟩) | exact ⟨_, _, _, Or.inl ⟨by omega, rfl, hG, fun z hz => (hN z (by omega)).trans (hE9 z hz)⟩, by omega, rfl, rfl⟩
          ·
            refine v_al_n 68 zC dX5_keepTurn_67 1 rfl ?_
            refine v_gf 71 0 zC dX5_keepTurn_68 gf_X5_64 rfl rfl ?_
            refine v_bp (v := (nI 48)) 73 zC dX5_keepTurn_71 (by decide +kernel) ?_
            refine v_al_n 74 zC dX5_keepTurn_73 1 rfl ?_
            refine v_gf 77 0 zC dX5_keepTurn_74 gf_X5_188 rfl rfl ?_
            refine v_imul (v := (nI (48 * (tz - 1)))) 78 zC dX5_keepTurn_77 (pk_mul _ _) ?_
            refine v_il_n 79 zC dX5_keepTurn_78 0 rfl ?_
            refine v_iadd (v := (nI ((48 * (tz - 1)) + i))) 80 zC dX5_keepTurn_79 (nI_add _ _) ?_
            refine v_al_n 81 zC dX5_keepTurn_80 1 rfl ?_
            refine v_gf 84 0 zC dX5_keepTurn_81 gf_X5_67 rfl rfl ?_
            refine v_il_n 85 zC dX5_keepTurn_84 0 rfl ?_
            refine v_ialn (v := (nI (E1_14 i))) 86 9 zC dX5_keepTurn_85 rfl (by omega) rfl ?_
            refine v_iasn (ws2 := [(r0, .inr (5, [.int (nI n), .ref k1, .ref k2, .ref k3, .ref k4, .int (nI m), .ref k6, .ref k7, .ref k8, .int (nI 0), .ref k10, .int (nI aw), .ref k12, .ref k13, .ref k14, .ref k15, .ref k16, .int (nI ls), .int (nI ap), .int (bz bd), .int (nI sq), .ref k21, .ref k22, .ref k23, .ref k24, .ref k25, .int (bz pd), .int (nI 48), .int (nI 1), .ref k31, .ref k30, .ref k31, .int (nI (tz - 1)), .ref k33, .int (nI rs), .int sd])), (k1, .inl (cI, 7, .inl (nIf ki))), (k2, .inl (cI, 7, .inl (nIf op))), (k3, .inl (cI, 7, .inl (nIf (shF sh)))), (k4, .inl (cI, 7, .inl (nIf fa))), (k6, .inl (cI, 6, .inl (nIf K))), (k7, .inl (cI, 6, .inl (nIf G))), (k8, .inl (cI, 6, .inl (nIf T))), (k30, .inl (cI, 384, .inl (nIf (un U2 ((48 * (tz - 1)) + i) (E1_14 i))))), (k31, .inl (cI, 48, .inl (nIf E1_14)))]) 87 8 zC dX5_keepTurn_86 rfl (by omega) (by rw [upd_nIf]; first | done | rfl) ?_
            refine v_inc (v := (nI (i + 1))) (lv2 := [(1, .int (nI (i + 1))), (0, .ref r0)]) 90 zC dX5_keepTurn_87 (j := 0) rfl (nI_add _ 1) (by rw [hnE]; decide) rfl ?_
            refine v_goto 61 zC dX5_keepTurn_90 ?_
            refine v_lvs (lv2 := [(1, .int (nI (i + 1))), (0, .ref r0)]) [0, 1] rfl ?_
            exact ih61 _ (by omega) (un U2 ((48 * (tz - 1)) + i) (E1_14 i)) (i + 1) (fun z hz => by rw [un_n (by omega)]; exact hG z hz) (fun z hz => by by_cases q9 : z = i; (· subst q9; exact un_s); (· rw [un_n (by omega)]; exact hN z (by omega))) (by first | omega | assumption | rfl | (simp only []; omega) | decide) rfl
        refine v_lvs (lv2 := [(1, .int (nI 0)), (0, .ref r0)]) [0, 1] rfl ?_
        exact lp61 _ U 0 (fun _ _ => rfl) (fun z hz => absurd hz (Nat.not_lt_zero z)) (by first | omega | assumption | rfl | (simp only []; omega) | decide) rfl
      ·
        refine v_al_n 20 zC dX5_keepTurn_19 1 rfl ?_
        refine v_gf 23 0 zC dX5_keepTurn_20 gf_X5_64 rfl rfl ?_
        refine v_il_n 24 zC dX5_keepTurn_23 0 rfl ?_
        refine v_bp (v := (nI 48)) 26 zC dX5_keepTurn_24 (by decide +kernel) ?_
        refine v_isub (v := (nI (k - 48))) 27 zC dX5_keepTurn_26 (pk_sub (by first | omega | exact Nat.one_le_two_pow)) ?_
        refine v_al_n 28 zC dX5_keepTurn_27 1 rfl ?_
        refine v_gf 31 0 zC dX5_keepTurn_28 gf_X5_64 rfl rfl ?_
        refine v_il_n 32 zC dX5_keepTurn_31 0 rfl ?_
        refine v_ialn (v := (nI (U k))) 33 8 zC dX5_keepTurn_32 rfl (by omega) rfl ?_
        refine v_iasn (ws2 := [(r0, .inr (5, [.int (nI n), .ref k1, .ref k2, .ref k3, .ref k4, .int (nI m), .ref k6, .ref k7, .ref k8, .int (nI 0), .ref k10, .int (nI aw), .ref k12, .ref k13, .ref k14, .ref k15, .ref k16, .int (nI ls), .int (nI ap), .int (bz bd), .int (nI sq), .ref k21, .ref k22, .ref k23, .ref k24, .ref k25, .int (bz pd), .int (nI pl), .int (bz tk), kv, .ref k30, .ref k31, .int (nI tz), .ref k33, .int (nI rs), .int sd])), (k1, .inl (cI, 7, .inl (nIf ki))), (k2, .inl (cI, 7, .inl (nIf op))), (k3, .inl (cI, 7, .inl (nIf (shF sh)))), (k4, .inl (cI, 7, .inl (nIf fa))), (k6, .inl (cI, 6, .inl (nIf K))), (k7, .inl (cI, 6, .inl (nIf G))), (k8, .inl (cI, 6, .inl (nIf T))), (k30, .inl (cI, 384, .inl (nIf (un U (k - 48) (U k))))), (k31, .inl (cI, 48, .inl (nIf to)))]) 34 8 zC dX5_keepTurn_33 rfl (by omega) (by rw [upd_nIf]; first | done | rfl) ?_
        refine v_inc (v := (nI (k + 1))) (lv2 := [(1, .int (nI (k + 1))), (0, .ref r0)]) 37 zC dX5_keepTurn_34 (j := 0) rfl (nI_add _ 1) (by rw [hnE]; decide) rfl ?_
        refine v_goto 12 zC dX5_keepTurn_37 ?_
        refine v_lvs (lv2 := [(1, .int (nI (k + 1))), (0, .ref r0)]) [0, 1] rfl ?_
        exact ih12 _ (by omega) (un U (k - 48) (U k)) (k + 1) (fun z hz => by by_cases q9 : z = k - 48; (· rw [q9, un_s, show k - 48 + 48 = k by omega]; exact hB k (by omega)); (· rw [un_n q9]; exact hAx z (by omega))) (fun z hz => by rw [un_n (by omega)]; exact hB z (by omega)) (by first | omega | assumption | rfl | (simp only []; omega) | decide) (by first | omega | assumption | rfl | (simp only []; omega) | decide) rfl
    refine v_lvs (lv2 := [(1, .int (nI 48)), (0, .ref r0)]) [0, 1] rfl ?_
    exact lp12 _ tu 48 (fun z hz => by omega) (fun _ _ => rfl) (by first | omega | assumption | rfl | (simp only []; omega) | decide) (by first | omega | assumption | rfl | (simp only []; omega) | decide) rfl
set_option maxRecDepth 100000 in
set_option maxHeartbeats 4000000 in
theorem c_X5_open (l : Launch) (D : va_G) (cI : ClassId) (r0 k1 k2 k3 k4 k6 k7 k8 k10 k12 k13 k14 k15 k16 k21 k22 k23 k24 k25 k30 k31 k33 : Nat) (n m ls ap sq pl tz rs : Nat) (bd pd tk : Bool) (kv : Value) (sd : Int32) (ki op fa K G T : Nat → Nat) (sh : Nat) (tu to R : Nat → Nat) (p h : Int32) (hw : FW n m sh ki op fa K G T) (ht : tz ≤ 8) : CT l yX5_open cX5_open 3 (some .int) { frames := 3, cells := 0, slots := 0, locals := 65 } D cI [.ref r0, .int p, .int h] [(r0, .inr (5, [.int (nI n), .ref k1, .ref k2, .ref k3, .ref k4, .int (nI m), .ref k6, .ref k7, .ref k8, .int (nI 0), .ref k10, .int (nI 0), .ref k12, .ref k13, .ref k14, .ref k15, .ref k16, .int (nI ls), .int (nI ap), .int (bz bd), .int (nI sq), .ref k21, .ref k22, .ref k23, .ref k24, .ref k25, .int (bz pd), .int (nI pl), .int (bz tk), kv, .ref k30, .ref k31, .int (nI tz), .ref k33, .int (nI rs), .int sd])), (k1, .inl (cI, 7, .inl (nIf ki))), (k2, .inl (cI, 7, .inl (nIf op))), (k3, .inl (cI, 7, .inl (nIf (shF sh)))), (k4, .inl (cI, 7, .inl (nIf fa))), (k6, .inl (cI, 6, .inl (nIf K))), (k7, .inl (cI, 6, .inl (nIf G))), (k8, .inl (cI, 6, .inl (nIf T))), (k30, .inl (cI, 384, .inl (nIf tu))), (k31, .inl (cI, 48, .inl (nIf to))), (k10, .inl (cI, 7, .inl (nIf R)))] (fun zr zw => ((IX n p = none ∨ IX 24 h = none) ∧ zr = some (.int (-1)) ∧ zw = [(r0, .inr (5, [.int (nI n), .ref k1, .ref k2, .ref k3, .ref k4, .int (nI m), .ref k6, .ref k7, .ref k8, .int (nI 0), .ref k10, .int (nI 0), .ref k12, .ref k13, .ref k14, .ref k15, .ref k16, .int (nI ls), .int (nI ap), .int (bz bd), .int (nI sq), .ref k21, .ref k22, .ref k23, .ref k24, .ref k25, .int (bz pd), .int (nI pl), .int (bz tk), kv, .ref k30, .ref k31, .int (nI tz), .ref k33, .int (nI rs), .int sd])), (k1, .inl (cI, 7, .inl (nIf ki))), (k2, .inl (cI, 7, .inl (nIf op))), (k3, .inl (cI, 7, .inl (nIf (shF sh)))), (k4, .inl (cI, 7, .inl (nIf fa))), (k6, .inl (cI, 6, .inl (nIf K))), (k7, .inl (cI, 6, .inl (nIf G))), (k8, .inl (cI, 6, .inl (nIf T))), (k30, .inl (cI, 384, .inl (nIf tu))), (k31, .inl (cI, 48, .inl (nIf to))), (k10, .inl (cI, 7, .inl (nIf (un R 1 (R 1 + 1)))))]) ∨ (∃ j : Nat, ∃ k : Nat, ∃ t1 : Nat, ∃ u1 : Nat → Nat, ∃ o1 : Nat → Nat, (IX n p = some j) ∧ (IX 24 h = some k) ∧ (KT (n, m, sh, 0, ki, op, fa, K, G, T) tz tu t1 u1) ∧ (t1 ≤ 8) ∧ zr = some (.int (bz (Nat.testBit (un op j (op j ^^^ 2 ^ k) j) k))) ∧ zw = [(r0, .inr (5, [.int (nI n), .ref k1, .ref k2, .ref k3, .ref k4, .int (nI m), .ref k6, .ref k7, .ref k8, .int (nI 0), .ref k10, .int (nI 0), .ref k12, .ref k13, .ref k14, .ref k15, .ref k16, .int (nI ls), .int (nI ap), .int (bz bd), .int (nI sq), .ref k21, .ref k22, .ref k23, .ref k24, .ref k25, .int (bz pd), .int (nI 48), .int (bz true), .ref k31, .ref k30, .ref k31, .int (nI t1), .ref k33, .int (nI rs), .int sd])), (k1, .inl (cI, 7, .inl (nIf ki))), (k2, .inl (cI, 7, .inl (nIf (un op j (op j ^^^ 2 ^ k))))), (k3, .inl (cI, 7, .inl (nIf (shF sh)))), (k4, .inl (cI, 7, .inl (nIf fa))), (k6, .inl (cI, 6, .inl (nIf K))), (k7, .inl (cI, 6, .inl (nIf G))), (k8, .inl (cI, 6, .inl (nIf T))), (k30, .inl (cI, 384, .inl (nIf u1))), (k31, .inl (cI, 48, .inl (nIf o1))), (k10, .inl (cI, 7, .inl (nIf R)))])) := by
  refine CT_of RX5 rfl (by decide +kernel) (Nat.le_of_ble_eq_true rfl) (fun E hnE zC zT => ?_)
  have hA : ∀ q, (ev_s E).heap.size ≤ q → ev_A E q := fun q h => by rw [zT.2]; exact Or.inr h
  obtain ⟨hn, hm, hsh, hki, hop, hfa, hK, hG, hT, vki, vop, vfa, vK, vG, vT⟩ := id hw
  show VV E 0 0 0 [(0, .ref r0), (1, .int p), (2, .int h)] [] [(r0, .inr (5, [.int (nI n), .ref k1, .ref k2, .ref k3, .ref k4, .int (nI m), .ref k6, .ref k7, .ref k8, .int (nI 0), .ref k10, .int (nI 0), .ref k12, .ref k13, .ref k14, .ref k15, .ref k16, .int (nI ls), .int (nI ap), .int (bz bd), .int (nI sq), .ref k21, .ref k22, .ref k23, .ref k24, .ref k25, .int (bz pd), .int (nI pl), .int (bz tk), kv, .ref k30, .ref k31, .int (nI tz), .ref k33, .int (nI rs), .int sd])), (k1, .inl (cI, 7, .inl (nIf ki))), (k2, .inl (cI, 7, .inl (nIf op))), (k3, .inl (cI, 7, .inl (nIf (shF sh)))), (k4, .inl (cI, 7, .inl (nIf fa))), (k6, .inl (cI, 6, .inl (nIf K))), (k7, .inl (cI, 6, .inl (nIf G))), (k8, .inl (cI, 6, .inl (nIf T))), (k30, .inl (cI, 384, .inl (nIf tu))), (k31, .inl (cI, 48, .inl (nIf to))), (k10, .inl (cI, 7, .inl (nIf R)))]
  refine v_al_n 1 zC dX5_open_0 0 rfl ?_
  refine v_ic (v := (nI 0)) 2 zC dX5_open_1 (by decide +kernel) ?_
  refine v_pf (ws2 := [(r0, .inr (5, [.int (nI n), .ref k1, .ref k2, .ref k3, .ref k4, .int (nI m), .ref k6, .ref k7, .ref k8, .int (nI 0), .ref k10, .int (nI 0), .ref k12, .ref k13, .ref k14, .ref k15, .ref k16, .int (nI ls), .int (nI ap), .int (bz bd), .int (nI sq), .ref k21, .ref k22, .ref k23, .ref k24, .ref k25, .int (bz pd), .int (nI pl), .int (bz tk), kv, .ref k30, .ref k31, .int (nI tz), .ref k33, .int (nI rs), .int sd])), (k1, .inl (cI, 7, .inl (nIf ki))), (k2, .inl (cI, 7, .inl (nIf op))), (k3, .inl (cI, 7, .inl (nIf (shF sh)))), (k4, .inl (cI, 7, .inl (nIf fa))), (k6, .inl (cI, 6, .inl (nIf K))), (k7, .inl (cI, 6, .inl (nIf G))), (k8, .inl (cI, 6, .inl (nIf T))), (k30, .inl (cI, 384, .inl (nIf tu))), (k31, .inl (cI, 48, .inl (nIf to))), (k10, .inl (cI, 7, .inl (nIf R)))]) 5 0 zC dX5_open_2 pf_X5_73 rfl (Nat.le_of_ble_eq_true rfl) rfl rfl rfl ?_
  refine v_al_n 6 zC dX5_open_5 0 rfl ?_
  refine v_il_n 7 zC dX5_open_6 1 rfl ?_
  refine v_cV (As := [.int p]) (st := []) 10 0 [0] zC dX5_open_7 hA (c_X5_isOne (ev_l E) (ev_D E) cI (r0 := r0) (k1 := k1) (k2 := k2) (k3 := k3) (k4 := k4) (k6 := k6) (k7 := k7) (k8 := k8) (k10 := k10) (k12 := k12) (k13 := k13) (k14 := k14) (k15 := k15) (k16 := k16) (k21 := k21) (k22 := k22) (k23 := k23) (k24 := k24) (k25 := k25) (k30 := k30) (k31 := k31) (k33 := k33) (n := n) (m := m) (aw := 0) (ls := ls) (ap := ap) (sq := sq) (pl := pl) (tz := tz) (rs := rs) (bd := bd) (pd := pd) (tk := tk) (kv := kv) (sd := sd) (p := p) (hn := (by first | omega | assumption | rfl | (simp only []; omega) | decide))) cf_X5_isOne lk_X5_164 rfl rfl rfl rfl rfl (by decide +kernel) (Nat.le_of_ble_eq_true rfl) (fun rv_1 wv_2 hp_3 hm_4 => ?_)
  clear hm_4
  rcases hp_3 with ⟨hi_5, rfl, rfl⟩ | ⟨j_6, he_7, hi_8, hj_9, rfl, rfl⟩
  ·
    show VV E 0 0 10 [(0, .ref r0), (1, .int p), (2, .int h)] [.int (nI 0)] [(r0, .inr (5, [.int (nI n), .ref k1, .ref k2, .ref k3, .ref k4, .int (nI m), .ref k6, .ref k7, .ref k8, .int (nI 0), .ref k10, .int (nI 0), .ref k12, .ref k13, .ref k14, .ref k15, .ref k16, .int (nI ls), .int (nI ap), .int (bz bd), .int (nI sq), .ref k21, .ref k22, .ref k23, .ref k24, .ref k25, .int (bz pd), .int (nI pl), .int (bz tk), kv, .ref k30, .ref k31, .int (nI tz), .ref k33, .int (nI rs), .int sd])), (k1, .inl (cI, 7, .inl (nIf ki))), (k2, .inl (cI, 7, .inl (nIf op))), (k3, .inl (cI, 7, .inl (nIf (shF sh)))), (k4, .inl (cI, 7, .inl (nIf fa))), (k6, .inl (cI, 6, .inl (nIf K))), (k7, .inl (cI, 6, .inl (nIf G))), (k8, .inl (cI, 6, .inl (nIf T))), (k30, .inl (cI, 384, .inl (nIf tu))), (k31, .inl (cI, 48, .inl (nIf to))), (k10, .inl (cI, 7, .inl (nIf R)))]
    have hn_p := hi_5
    refine v_if_eq 20 13 zC dX5_open_10 (fun _ => ?_) (fun z => absurd (by decide +kernel) z)
    refine v_al_n 21 zC dX5_open_20 0 rfl ?_
    refine v_ic (v := (-1)) 22 zC dX5_open_21 (by decide +kernel) ?_
    refine v_cV (As := [.int (-1)]) (st := []) 25 0 [0, 10] zC dX5_open_22 hA (c_X5_refuse (ev_l E) (ev_D E) cI (r0 := r0) (k1 := k1) (k2 := k2) (k3 := k3) (k4 := k4) (k6 := k6) (k7 := k7) (k8 := k8) (k10 := k10) (k12 := k12) (k13 := k13) (k14 := k14) (k15 := k15) (k16 := k16) (k21 := k21) (k22 := k22) (k23 := k23) (k24 := k24) (k25 := k25) (k30 := k30) (k31 := k31) (k33 := k33) (n := n) (m := m) (aw := 0) (ls := ls) (ap := ap) (sq := sq) (pl := pl) (tz := tz) (rs := rs) (bd := bd) (pd := pd) (tk := tk) (kv := kv) (sd := sd) (R := R) (v := (-1)) (j := 1) (hv := (by first | omega | assumption | rfl | (simp only []; omega) | decide)) (h1 := (by first | omega | assumption | rfl | (simp only []; omega) | decide)) (h6 := (by first | omega | assumption | rfl | (simp only []; omega) | decide))) cf_X5_refuse lk_X5_129 rfl rfl rfl rfl rfl (by decide +kernel) (Nat.le_of_ble_eq_true rfl) (fun rv_11 wv_12 hp_13 hm_14 => ?_)
    clear hm_14
    obtain ⟨rfl, rfl⟩ := hp_13
    show VV E 0 0 25 [(0, .ref r0), (1, .int p), (2, .int h)] [.int (-1)] [(r0, .inr (5, [.int (nI n), .ref k1, .ref k2, .ref k3, .ref k4, .int (nI m), .ref k6, .ref k7, .ref k8, .int (nI 0), .ref k10, .int (nI 0), .ref k12, .ref k13, .ref k14, .ref k15, .ref k16, .int (nI ls), .int (nI ap), .int (bz bd), .int (nI sq), .ref k21, .ref k22, .ref k23, .ref k24, .ref k25, .int (bz pd), .int (nI pl), .int (bz tk), kv, .ref k30, .ref k31, .int (nI tz), .ref k33, .int (nI rs), .int sd])), (k1, .inl (cI, 7, .inl (nIf ki))), (k2, .inl (cI, 7, .inl (nIf op))), (k3, .inl (cI, 7, .inl (nIf (shF sh)))), (k4, .inl (cI, 7, .inl (nIf fa))), (k6, .inl (cI, 6, .inl (nIf K))), (k7, .inl (cI, 6, .inl (nIf G))), (k8, .inl (cI, 6, .inl (nIf T))), (k30, .inl (cI, 384, .inl (nIf tu))), (k31, .inl (cI, 48, .inl (nIf to))), (k10, .inl (cI, 7, .inl (nIf (un R 1 (R 1 + 1)))))]
    refine v_iret zC zT dX5_open_25  ?_
    first | (have g9 := hn_p; exact Or.inl ⟨Or.inl hn_p, rfl, rfl⟩) | (have g9 := hn_h; exact Or.inl ⟨Or.inr hn_h, rfl, rfl⟩) | exact Or.inr ⟨_, _, _, _, _, hi_p, hi_h, hK9, hT9, rfl, rfl⟩
  ·
    show VV E 0 0 10 [(0, .ref r0), (1, .int p), (2, .int h)] [.int (nI 1)] [(r0, .inr (5, [.int (nI n), .ref k1, .ref k2, .ref k3, .ref k4, .int (nI m), .ref k6, .ref k7, .ref k8, .int (nI 0), .ref k10, .int (nI 0), .ref k12, .ref k13, .ref k14, .ref k15, .ref k16, .int (nI ls), .int (nI ap), .int (bz bd), .int (nI sq), .ref k21, .ref k22, .ref k23, .ref k24, .ref k25, .int (bz pd), .int (nI pl), .int (bz tk), kv, .ref k30, .ref k31, .int (nI tz), .ref k33, .int (nI rs), .int sd])), (k1, .inl (cI, 7, .inl (nIf ki))), (k2, .inl (cI, 7, .inl (nIf op))), (k3, .inl (cI, 7, .inl (nIf (shF sh)))), (k4, .inl (cI, 7, .inl (nIf fa))), (k6, .inl (cI, 6, .inl (nIf K))), (k7, .inl (cI, 6, .inl (nIf G))), (k8, .inl (cI, 6, .inl (nIf T))), (k30, .inl (cI, 384, .inl (nIf tu))), (k31, .inl (cI, 48, .inl (nIf to))), (k10, .inl (cI, 7, .inl (nIf R)))]
    subst he_7
    have hi_p := hi_8
    obtain ⟨jp, hx_jp⟩ : ∃ z, z = j_6 := ⟨_, rfl⟩
    subst hx_jp
    refine v_if_eq 20 13 zC dX5_open_10 (fun z => absurd z (by decide +kernel)) (fun _ => ?_)
    refine v_il_n 14 zC dX5_open_13 2 rfl ?_
    refine v_cS (As := [.int h]) (st := []) 17 [] zC dX5_open_14 hA (c_X5_isHour (ev_l E) (ev_D E) cI (p := h) ) cf_X5_isHour lk_X5_219 rfl rfl rfl (by decide +kernel) (Nat.le_of_ble_eq_true rfl) (fun rv_16 wv_17 hp_18 hm_19 => ?_)
    clear hm_19
    rcases hp_18 with ⟨hi_20, rfl, rfl⟩ | ⟨j_21, he_22, hi_23, hj_24, rfl, rfl⟩
    ·
      show VV E 0 0 17 [(0, .ref r0), (1, .int (nI jp)), (2, .int h)] [.int (nI 0)] [(r0, .inr (5, [.int (nI n), .ref k1, .ref k2, .ref k3, .ref k4, .int (nI m), .ref k6, .ref k7, .ref k8, .int (nI 0), .ref k10, .int (nI 0), .ref k12, .ref k13, .ref k14, .ref k15, .ref k16, .int (nI ls), .int (nI ap), .int (bz bd), .int (nI sq), .ref k21, .ref k22, .ref k23, .ref k24, .ref k25, .int (bz pd), .int (nI pl), .int (bz tk), kv, .ref k30, .ref k31, .int (nI tz), .ref k33, .int (nI rs), .int sd])), (k1, .inl (cI, 7, .inl (nIf ki))), (k2, .inl (cI, 7, .inl (nIf op))), (k3, .inl (cI, 7, .inl (nIf (shF sh)))), (k4, .inl (cI, 7, .inl (nIf fa))), (k6, .inl (cI, 6, .inl (nIf K))), (k7, .inl (cI, 6, .inl (nIf G))), (k8, .inl (cI, 6, .inl (nIf T))), (k30, .inl (cI, 384, .inl (nIf tu))), (k31, .inl (cI, 48, .inl (nIf to))), (k10, .inl (cI, 7, .inl (nIf R)))]
      have hn_h := hi_20
      refine v_if_ne 26 20 zC dX5_open_17 (fun z => absurd (by decide +kernel) z) (fun _ => ?_)
      refine v_al_n 21 zC dX5_open_20 0 rfl ?_
      refine v_ic (v := (-1)) 22 zC dX5_open_21 (by decide +kernel) ?_
      refine v_cV (As := [.int (-1)]) (st := []) 25 0 [0, 10] zC dX5_open_22 hA (c_X5_refuse (ev_l E) (ev_D E) cI (r0 := r0) (k1 := k1) (k2 := k2) (k3 := k3) (k4 := k4) (k6 := k6) (k7 := k7) (k8 := k8) (k10 := k10) (k12 := k12) (k13 := k13) (k14 := k14) (k15 := k15) (k16 := k16) (k21 := k21) (k22 := k22) (k23 := k23) (k24 := k24) (k25 := k25) (k30 := k30) (k31 := k31) (k33 := k33) (n := n) (m := m) (aw := 0) (ls := ls) (ap := ap) (sq := sq) (pl := pl) (tz := tz) (rs := rs) (bd := bd) (pd := pd) (tk := tk) (kv := kv) (sd := sd) (R := R) (v := (-1)) (j := 1) (hv := (by first | omega | assumption | rfl | (simp only []; omega) | decide)) (h1 := (by first | omega | assumption | rfl | (simp only []; omega) | decide)) (h6 := (by first | omega | assumption | rfl | (simp only []; omega) | decide))) cf_X5_refuse lk_X5_129 rfl rfl rfl rfl rfl (by decide +kernel) (Nat.le_of_ble_eq_true rfl) (fun rv_26 wv_27 hp_28 hm_29 => ?_)
      clear hm_29
      obtain ⟨rfl, rfl⟩ := hp_28
      show VV E 0 0 25 [(0, .ref r0), (1, .int (nI jp)), (2, .int h)] [.int (-1)] [(r0, .inr (5, [.int (nI n), .ref k1, .ref k2, .ref k3, .ref k4, .int (nI m), .ref k6, .ref k7, .ref k8, .int (nI 0), .ref k10, .int (nI 0), .ref k12, .ref k13, .ref k14, .ref k15, .ref k16, .int (nI ls), .int (nI ap), .int (bz bd), .int (nI sq), .ref k21, .ref k22, .ref k23, .ref k24, .ref k25, .int (bz pd), .int (nI pl), .int (bz tk), kv, .ref k30, .ref k31, .int (nI tz), .ref k33, .int (nI rs), .int sd])), (k1, .inl (cI, 7, .inl (nIf ki))), (k2, .inl (cI, 7, .inl (nIf op))), (k3, .inl (cI, 7, .inl (nIf (shF sh)))), (k4, .inl (cI, 7, .inl (nIf fa))), (k6, .inl (cI, 6, .inl (nIf K))), (k7, .inl (cI, 6, .inl (nIf G))), (k8, .inl (cI, 6, .inl (nIf T))), (k30, .inl (cI, 384, .inl (nIf tu))), (k31, .inl (cI, 48, .inl (nIf to))), (k10, .inl (cI, 7, .inl (nIf (un R 1 (R 1 + 1)))))]
      refine v_iret zC zT dX5_open_25  ?_
      first | (have g9 := hn_p; exact Or.inl ⟨Or.inl hn_p, rfl, rfl⟩) | (have g9 := hn_h; exact Or.inl ⟨Or.inr hn_h, rfl, rfl⟩) | exact Or.inr ⟨_, _, _, _, _, hi_p, hi_h, hK9, hT9, rfl, rfl⟩
    ·
      show VV E 0 0 17 [(0, .ref r0), (1, .int (nI jp)), (2, .int h)] [.int (nI 1)] [(r0, .inr (5, [.int (nI n), .ref k1, .ref k2, .ref k3, .ref k4, .int (nI m), .ref k6, .ref k7, .ref k8, .int (nI 0), .ref k10, .int (nI 0), .ref k12, .ref k13, .ref k14, .ref k15, .ref k16, .int (nI ls), .int (nI ap), .int (bz bd), .int (nI sq), .ref k21, .ref k22, .ref k23, .ref k24, .ref k25, .int (bz pd), .int (nI pl), .int (bz tk), kv, .ref k30, .ref k31, .int (nI tz), .ref k33, .int (nI rs), .int sd])), (k1, .inl (cI, 7, .inl (nIf ki))), (k2, .inl (cI, 7, .inl (nIf op))), (k3, .inl (cI, 7, .inl (nIf (shF sh)))), (k4, .inl (cI, 7, .inl (nIf fa))), (k6, .inl (cI, 6, .inl (nIf K))), (k7, .inl (cI, 6, .inl (nIf G))), (k8, .inl (cI, 6, .inl (nIf T))), (k30, .inl (cI, 384, .inl (nIf tu))), (k31, .inl (cI, 48, .inl (nIf to))), (k10, .inl (cI, 7, .inl (nIf R)))]
      subst he_22
      have hi_h := hi_23
      obtain ⟨jh, hx_jh⟩ : ∃ z, z = j_21 := ⟨_, rfl⟩
      subst hx_jh
      refine v_if_ne 26 20 zC dX5_open_17 (fun _ => ?_) (fun z => absurd z (by decide +kernel))
      refine v_al_n 27 zC dX5_open_26 0 rfl ?_
      refine v_cV (As := []) (st := []) 30 0 [0, 1, 2, 3, 4, 5, 6, 7, 8, 9] zC dX5_open_27 hA (c_X5_keepTurn (ev_l E) (ev_D E) cI (r0 := r0) (k1 := k1) (k2 := k2) (k3 := k3) (k4 := k4) (k6 := k6) (k7 := k7) (k8 := k8) (k10 := k10) (k12 := k12) (k13 := k13) (k14 := k14) (k15 := k15) (k16 := k16) (k21 := k21) (k22 := k22) (k23 := k23) (k24 := k24) (k25 := k25) (k30 := k30) (k31 := k31) (k33 := k33) (n := n) (m := m) (aw := 0) (ls := ls) (ap := ap) (sq := sq) (pl := pl) (tz := tz) (rs := rs) (bd := bd) (pd := pd) (tk := tk) (kv := kv) (sd := sd) (ki := ki) (op := op) (fa := fa) (K := K) (G := G) (T := T) (sh := sh) (tu := tu) (to := to) (ht := (by first | omega | assumption | rfl | (simp only []; omega) | decide))) cf_X5_keepTurn lk_X5_222 rfl rfl rfl rfl rfl (by decide +kernel) (Nat.le_of_ble_eq_true rfl) (fun rv_31 wv_32 hp_33 hm_34 => ?_)
      clear hm_34
      obtain ⟨t1_35, u1_36, o1_37, hK_38, ht1_39, rfl, rfl⟩ := hp_33
      show VV E 0 0 30 [(0, .ref r0), (1, .int (nI jp)), (2, .int (nI jh))] [] [(r0, .inr (5, [.int (nI n), .ref k1, .ref k2, .ref k3, .ref k4, .int (nI m), .ref k6, .ref k7, .ref k8, .int (nI 0), .ref k10, .int (nI 0), .ref k12, .ref k13, .ref k14, .ref k15, .ref k16, .int (nI ls), .int (nI ap), .int (bz bd), .int (nI sq), .ref k21, .ref k22, .ref k23, .ref k24, .ref k25, .int (bz pd), .int (nI 48), .int (bz true), .ref k31, .ref k30, .ref k31, .int (nI t1_35), .ref k33, .int (nI rs), .int sd])), (k1, .inl (cI, 7, .inl (nIf ki))), (k2, .inl (cI, 7, .inl (nIf op))), (k3, .inl (cI, 7, .inl (nIf (shF sh)))), (k4, .inl (cI, 7, .inl (nIf fa))), (k6, .inl (cI, 6, .inl (nIf K))), (k7, .inl (cI, 6, .inl (nIf G))), (k8, .inl (cI, 6, .inl (nIf T))), (k30, .inl (cI, 384, .inl (nIf u1_36))), (k31, .inl (cI, 48, .inl (nIf o1_37))), (k10, .inl (cI, 7, .inl (nIf R)))]
      have hK9 := hK_38
      have hT9 := ht1_39
      refine v_al_n 31 zC dX5_open_30 0 rfl ?_
      refine v_gf 34 0 zC dX5_open_31 gf_X5_13 rfl rfl ?_
      refine v_il_n 35 zC dX5_open_34 1 rfl ?_
      refine v_dup2 36 zC dX5_open_35 rfl rfl ?_
      refine v_ialn (v := (nI (op jp))) 37 2 zC dX5_open_36 rfl (by omega) rfl ?_
      refine v_ic (v := (nI 1)) 38 zC dX5_open_37 (by decide +kernel) ?_
      refine v_il_n 39 zC dX5_open_38 2 rfl ?_
      refine v_ishl (v := (nI (2 ^ jh))) 40 zC dX5_open_39 (b1n (by omega)) ?_
      refine v_ixor (v := (nI ((op jp) ^^^ (2 ^ jh)))) 41 zC dX5_open_40 (fb_xorI _ _) ?_
      refine v_iasn (ws2 := [(r0, .inr (5, [.int (nI n), .ref k1, .ref k2, .ref k3, .ref k4, .int (nI m), .ref k6, .ref k7, .ref k8, .int (nI 0), .ref k10, .int (nI 0), .ref k12, .ref k13, .ref k14, .ref k15, .ref k16, .int (nI ls), .int (nI ap), .int (bz bd), .int (nI sq), .ref k21, .ref k22, .ref k23, .ref k24, .ref k25, .int (bz pd), .int (nI 48), .int (bz true), .ref k31, .ref k30, .ref k31, .int (nI t1_35), .ref k33, .int (nI rs), .int sd])), (k1, .inl (cI, 7, .inl (nIf ki))), (k2, .inl (cI, 7, .inl (nIf (un op jp ((op jp) ^^^ (2 ^ jh)))))), (k3, .inl (cI, 7, .inl (nIf (shF sh)))), (k4, .inl (cI, 7, .inl (nIf fa))), (k6, .inl (cI, 6, .inl (nIf K))), (k7, .inl (cI, 6, .inl (nIf G))), (k8, .inl (cI, 6, .inl (nIf T))), (k30, .inl (cI, 384, .inl (nIf u1_36))), (k31, .inl (cI, 48, .inl (nIf o1_37))), (k10, .inl (cI, 7, .inl (nIf R)))]) 42 2 zC dX5_open_41 rfl (by omega) (by rw [upd_nIf]; first | done | rfl) ?_
      refine v_al_n 43 zC dX5_open_42 0 rfl ?_
      refine v_gf 46 0 zC dX5_open_43 gf_X5_13 rfl rfl ?_
      refine v_il_n 47 zC dX5_open_46 1 rfl ?_
      refine v_ialn (v := (nI ((un op jp ((op jp) ^^^ (2 ^ jh))) jp))) 48 2 zC dX5_open_47 rfl (by omega) rfl ?_
      refine v_il_n 49 zC dX5_open_48 2 rfl ?_
      refine v_ishr (v := ((nI ((un op jp ((op jp) ^^^ (2 ^ jh))) jp)) >>> (nI jh))) 50 zC dX5_open_49 (sr_of (by omega)) ?_
      refine v_ic (v := (nI 1)) 51 zC dX5_open_50 (by decide +kernel) ?_
      refine v_iand (v := (bz (Nat.testBit ((un op jp ((op jp) ^^^ (2 ^ jh))) jp) jh))) 52 zC dX5_open_51 (tb_of _ (by omega)) ?_
      refine v_iret zC zT dX5_open_52  ?_
      first | (have g9 := hn_p; exact Or.inl ⟨Or.inl hn_p, rfl, rfl⟩) | (have g9 := hn_h; exact Or.inl ⟨Or.inr hn_h, rfl, rfl⟩) | exact Or.inr ⟨_, _, _, _, _, hi_p, hi_h, hK9, hT9, rfl, rfl⟩
set_option maxRecDepth 100000 in
set_option maxHeartbeats 4000000 in
theorem c_X5_kin (l : Launch) (D : va_G) (cI : ClassId) (r0 k1 k2 k3 k4 k6 k7 k8 k10 k12 k13 k14 k15 k16 k21 k22 k23 k24 k25 k30 k31 k33 : Nat) (n m ls ap sq pl tz rs : Nat) (bd pd tk : Bool) (kv : Value) (sd : Int32) (ki op fa K G T : Nat → Nat) (sh : Nat) (tu to R : Nat → Nat) (p h : Int32) (hw : FW n m sh ki op fa K G T) (ht : tz ≤ 8) : CT l yX5_kin cX5_kin 3 (some .int) { frames := 3, cells := 0, slots := 0, locals := 65 } D cI [.ref r0, .int p, .int h] [(r0, .inr (5, [.int (nI n), .ref k1, .ref k2, .ref k3, .ref k4, .int (nI m), .ref k6, .ref k7, .ref k8, .int (nI 0), .ref k10, .int (nI 0), .ref k12, .ref k13, .ref k14, .ref k15, .ref k16, .int (nI ls), .int (nI ap), .int (bz bd), .int (nI sq), .ref k21, .ref k22, .ref k23, .ref k24, .ref k25, .int (bz pd), .int (nI pl), .int (bz tk), kv, .ref k30, .ref k31, .int (nI tz), .ref k33, .int (nI rs), .int sd])), (k1, .inl (cI, 7, .inl (nIf ki))), (k2, .inl (cI, 7, .inl (nIf op))), (k3, .inl (cI, 7, .inl (nIf (shF sh)))), (k4, .inl (cI, 7, .inl (nIf fa))), (k6, .inl (cI, 6, .inl (nIf K))), (k7, .inl (cI, 6, .inl (nIf G))), (k8, .inl (cI, 6, .inl (nIf T))), (k30, .inl (cI, 384, .inl (nIf tu))), (k31, .inl (cI, 48, .inl (nIf to))), (k10, .inl (cI, 7, .inl (nIf R)))] (fun zr zw => ((IX n p = none ∨ IX m h = none) ∧ zr = some (.int (-1)) ∧ zw = [(r0, .inr (5, [.int (nI n), .ref k1, .ref k2, .ref k3, .ref k4, .int (nI m), .ref k6, .ref k7, .ref k8, .int (nI 0), .ref k10, .int (nI 0), .ref k12, .ref k13, .ref k14, .ref k15, .ref k16, .int (nI ls), .int (nI ap), .int (bz bd), .int (nI sq), .ref k21, .ref k22, .ref k23, .ref k24, .ref k25, .int (bz pd), .int (nI pl), .int (bz tk), kv, .ref k30, .ref k31, .int (nI tz), .ref k33, .int (nI rs), .int sd])), (k1, .inl (cI, 7, .inl (nIf ki))), (k2, .inl (cI, 7, .inl (nIf op))), (k3, .inl (cI, 7, .inl (nIf (shF sh)))), (k4, .inl (cI, 7, .inl (nIf fa))), (k6, .inl (cI, 6, .inl (nIf K))), (k7, .inl (cI, 6, .inl (nIf G))), (k8, .inl (cI, 6, .inl (nIf T))), (k30, .inl (cI, 384, .inl (nIf tu))), (k31, .inl (cI, 48, .inl (nIf to))), (k10, .inl (cI, 7, .inl (nIf (un R 1 (R 1 + 1)))))]) ∨ (∃ j : Nat, ∃ k : Nat, ∃ t1 : Nat, ∃ u1 : Nat → Nat, ∃ o1 : Nat → Nat, (IX n p = some j) ∧ (IX m h = some k) ∧ (KT (n, m, sh, 0, ki, op, fa, K, G, T) tz tu t1 u1) ∧ (t1 ≤ 8) ∧ zr = some (.int (bz (Nat.testBit (un ki j (ki j ^^^ 2 ^ k) j) k))) ∧ zw = [(r0, .inr (5, [.int (nI n), .ref k1, .ref k2, .ref k3, .ref k4, .int (nI m), .ref k6, .ref k7, .ref k8, .int (nI 0), .ref k10, .int (nI 0), .ref k12, .ref k13, .ref k14, .ref k15, .ref k16, .int (nI ls), .int (nI ap), .int (bz bd), .int (nI sq), .ref k21, .ref k22, .ref k23, .ref k24, .ref k25, .int (bz pd), .int (nI 48), .int (bz true), .ref k31, .ref k30, .ref k31, .int (nI t1), .ref k33, .int (nI rs), .int sd])), (k1, .inl (cI, 7, .inl (nIf (un ki j (ki j ^^^ 2 ^ k))))), (k2, .inl (cI, 7, .inl (nIf op))), (k3, .inl (cI, 7, .inl (nIf (shF sh)))), (k4, .inl (cI, 7, .inl (nIf fa))), (k6, .inl (cI, 6, .inl (nIf K))), (k7, .inl (cI, 6, .inl (nIf G))), (k8, .inl (cI, 6, .inl (nIf T))), (k30, .inl (cI, 384, .inl (nIf u1))), (k31, .inl (cI, 48, .inl (nIf o1))), (k10, .inl (cI, 7, .inl (nIf R)))])) := by
  refine CT_of RX5 rfl (by decide +kernel) (Nat.le_of_ble_eq_true rfl) (fun E hnE zC zT => ?_)
  have hA : ∀ q, (ev_s E).heap.size ≤ q → ev_A E q := fun q h => by rw [zT.2]; exact Or.inr h
  obtain ⟨hn, hm, hsh, hki, hop, hfa, hK, hG, hT, vki, vop, vfa, vK, vG, vT⟩ := id hw
  show VV E 0 0 0 [(0, .ref r0), (1, .int p), (2, .int h)] [] [(r0, .inr (5, [.int (nI n), .ref k1, .ref k2, .ref k3, .ref k4, .int (nI m), .ref k6, .ref k7, .ref k8, .int (nI 0), .ref k10, .int (nI 0), .ref k12, .ref k13, .ref k14, .ref k15, .ref k16, .int (nI ls), .int (nI ap), .int (bz bd), .int (nI sq), .ref k21, .ref k22, .ref k23, .ref k24, .ref k25, .int (bz pd), .int (nI pl), .int (bz tk), kv, .ref k30, .ref k31, .int (nI tz), .ref k33, .int (nI rs), .int sd])), (k1, .inl (cI, 7, .inl (nIf ki))), (k2, .inl (cI, 7, .inl (nIf op))), (k3, .inl (cI, 7, .inl (nIf (shF sh)))), (k4, .inl (cI, 7, .inl (nIf fa))), (k6, .inl (cI, 6, .inl (nIf K))), (k7, .inl (cI, 6, .inl (nIf G))), (k8, .inl (cI, 6, .inl (nIf T))), (k30, .inl (cI, 384, .inl (nIf tu))), (k31, .inl (cI, 48, .inl (nIf to))), (k10, .inl (cI, 7, .inl (nIf R)))]
  refine v_al_n 1 zC dX5_kin_0 0 rfl ?_
  refine v_ic (v := (nI 0)) 2 zC dX5_kin_1 (by decide +kernel) ?_
  refine v_pf (ws2 := [(r0, .inr (5, [.int (nI n), .ref k1, .ref k2, .ref k3, .ref k4, .int (nI m), .ref k6, .ref k7, .ref k8, .int (nI 0), .ref k10, .int (nI 0), .ref k12, .ref k13, .ref k14, .ref k15, .ref k16, .int (nI ls), .int (nI ap), .int (bz bd), .int (nI sq), .ref k21, .ref k22, .ref k23, .ref k24, .ref k25, .int (bz pd), .int (nI pl), .int (bz tk), kv, .ref k30, .ref k31, .int (nI tz), .ref k33, .int (nI rs), .int sd])), (k1, .inl (cI, 7, .inl (nIf ki))), (k2, .inl (cI, 7, .inl (nIf op))), (k3, .inl (cI, 7, .inl (nIf (shF sh)))), (k4, .inl (cI, 7, .inl (nIf fa))), (k6, .inl (cI, 6, .inl (nIf K))), (k7, .inl (cI, 6, .inl (nIf G))), (k8, .inl (cI, 6, .inl (nIf T))), (k30, .inl (cI, 384, .inl (nIf tu))), (k31, .inl (cI, 48, .inl (nIf to))), (k10, .inl (cI, 7, .inl (nIf R)))]) 5 0 zC dX5_kin_2 pf_X5_73 rfl (Nat.le_of_ble_eq_true rfl) rfl rfl rfl ?_
  refine v_al_n 6 zC dX5_kin_5 0 rfl ?_
  refine v_il_n 7 zC dX5_kin_6 1 rfl ?_
  refine v_cV (As := [.int p]) (st := []) 10 0 [0] zC dX5_kin_7 hA (c_X5_isOne (ev_l E) (ev_D E) cI (r0 := r0) (k1 := k1) (k2 := k2) (k3 := k3) (k4 := k4) (k6 := k6) (k7 := k7) (k8 := k8) (k10 := k10) (k12 := k12) (k13 := k13) (k14 := k14) (k15 := k15) (k16 := k16) (k21 := k21) (k22 := k22) (k23 := k23) (k24 := k24) (k25 := k25) (k30 := k30) (k31 := k31) (k33 := k33) (n := n) (m := m) (aw := 0) (ls := ls) (ap := ap) (sq := sq) (pl := pl) (tz := tz) (rs := rs) (bd := bd) (pd := pd) (tk := tk) (kv := kv) (sd := sd) (p := p) (hn := (by first | omega | assumption | rfl | (simp only []; omega) | decide))) cf_X5_isOne lk_X5_164 rfl rfl rfl rfl rfl (by decide +kernel) (Nat.le_of_ble_eq_true rfl) (fun rv_1 wv_2 hp_3 hm_4 => ?_)
  clear hm_4
  rcases hp_3 with ⟨hi_5, rfl, rfl⟩ | ⟨j_6, he_7, hi_8, hj_9, rfl, rfl⟩
  ·
    show VV E 0 0 10 [(0, .ref r0), (1, .int p), (2, .int h)] [.int (nI 0)] [(r0, .inr (5, [.int (nI n), .ref k1, .ref k2, .ref k3, .ref k4, .int (nI m), .ref k6, .ref k7, .ref k8, .int (nI 0), .ref k10, .int (nI 0), .ref k12, .ref k13, .ref k14, .ref k15, .ref k16, .int (nI ls), .int (nI ap), .int (bz bd), .int (nI sq), .ref k21, .ref k22, .ref k23, .ref k24, .ref k25, .int (bz pd), .int (nI pl), .int (bz tk), kv, .ref k30, .ref k31, .int (nI tz), .ref k33, .int (nI rs), .int sd])), (k1, .inl (cI, 7, .inl (nIf ki))), (k2, .inl (cI, 7, .inl (nIf op))), (k3, .inl (cI, 7, .inl (nIf (shF sh)))), (k4, .inl (cI, 7, .inl (nIf fa))), (k6, .inl (cI, 6, .inl (nIf K))), (k7, .inl (cI, 6, .inl (nIf G))), (k8, .inl (cI, 6, .inl (nIf T))), (k30, .inl (cI, 384, .inl (nIf tu))), (k31, .inl (cI, 48, .inl (nIf to))), (k10, .inl (cI, 7, .inl (nIf R)))]
    have hn_p := hi_5
    refine v_if_eq 21 13 zC dX5_kin_10 (fun _ => ?_) (fun z => absurd (by decide +kernel) z)
    refine v_al_n 22 zC dX5_kin_21 0 rfl ?_
    refine v_ic (v := (-1)) 23 zC dX5_kin_22 (by decide +kernel) ?_
    refine v_cV (As := [.int (-1)]) (st := []) 26 0 [0, 10] zC dX5_kin_23 hA (c_X5_refuse (ev_l E) (ev_D E) cI (r0 := r0) (k1 := k1) (k2 := k2) (k3 := k3) (k4 := k4) (k6 := k6) (k7 := k7) (k8 := k8) (k10 := k10) (k12 := k12) (k13 := k13) (k14 := k14) (k15 := k15) (k16 := k16) (k21 := k21) (k22 := k22) (k23 := k23) (k24 := k24) (k25 := k25) (k30 := k30) (k31 := k31) (k33 := k33) (n := n) (m := m) (aw := 0) (ls := ls) (ap := ap) (sq := sq) (pl := pl) (tz := tz) (rs := rs) (bd := bd) (pd := pd) (tk := tk) (kv := kv) (sd := sd) (R := R) (v := (-1)) (j := 1) (hv := (by first | omega | assumption | rfl | (simp only []; omega) | decide)) (h1 := (by first | omega | assumption | rfl | (simp only []; omega) | decide)) (h6 := (by first | omega | assumption | rfl | (simp only []; omega) | decide))) cf_X5_refuse lk_X5_129 rfl rfl rfl rfl rfl (by decide +kernel) (Nat.le_of_ble_eq_true rfl) (fun rv_11 wv_12 hp_13 hm_14 => ?_)
    clear hm_14
    obtain ⟨rfl, rfl⟩ := hp_13
    show VV E 0 0 26 [(0, .ref r0), (1, .int p), (2, .int h)] [.int (-1)] [(r0, .inr (5, [.int (nI n), .ref k1, .ref k2, .ref k3, .ref k4, .int (nI m), .ref k6, .ref k7, .ref k8, .int (nI 0), .ref k10, .int (nI 0), .ref k12, .ref k13, .ref k14, .ref k15, .ref k16, .int (nI ls), .int (nI ap), .int (bz bd), .int (nI sq), .ref k21, .ref k22, .ref k23, .ref k24, .ref k25, .int (bz pd), .int (nI pl), .int (bz tk), kv, .ref k30, .ref k31, .int (nI tz), .ref k33, .int (nI rs), .int sd])), (k1, .inl (cI, 7, .inl (nIf ki))), (k2, .inl (cI, 7, .inl (nIf op))), (k3, .inl (cI, 7, .inl (nIf (shF sh)))), (k4, .inl (cI, 7, .inl (nIf fa))), (k6, .inl (cI, 6, .inl (nIf K))), (k7, .inl (cI, 6, .inl (nIf G))), (k8, .inl (cI, 6, .inl (nIf T))), (k30, .inl (cI, 384, .inl (nIf tu))), (k31, .inl (cI, 48, .inl (nIf to))), (k10, .inl (cI, 7, .inl (nIf (un R 1 (R 1 + 1)))))]
    refine v_iret zC zT dX5_kin_26  ?_
    first | (have g9 := hn_p; exact Or.inl ⟨Or.inl hn_p, rfl, rfl⟩) | (have g9 := hn_h; exact Or.inl ⟨Or.inr hn_h, rfl, rfl⟩) | exact Or.inr ⟨_, _, _, _, _, hi_p, hi_h, hK9, hT9, rfl, rfl⟩
  ·
    show VV E 0 0 10 [(0, .ref r0), (1, .int p), (2, .int h)] [.int (nI 1)] [(r0, .inr (5, [.int (nI n), .ref k1, .ref k2, .ref k3, .ref k4, .int (nI m), .ref k6, .ref k7, .ref k8, .int (nI 0), .ref k10, .int (nI 0), .ref k12, .ref k13, .ref k14, .ref k15, .ref k16, .int (nI ls), .int (nI ap), .int (bz bd), .int (nI sq), .ref k21, .ref k22, .ref k23, .ref k24, .ref k25, .int (bz pd), .int (nI pl), .int (bz tk), kv, .ref k30, .ref k31, .int (nI tz), .ref k33, .int (nI rs), .int sd])), (k1, .inl (cI, 7, .inl (nIf ki))), (k2, .inl (cI, 7, .inl (nIf op))), (k3, .inl (cI, 7, .inl (nIf (shF sh)))), (k4, .inl (cI, 7, .inl (nIf fa))), (k6, .inl (cI, 6, .inl (nIf K))), (k7, .inl (cI, 6, .inl (nIf G))), (k8, .inl (cI, 6, .inl (nIf T))), (k30, .inl (cI, 384, .inl (nIf tu))), (k31, .inl (cI, 48, .inl (nIf to))), (k10, .inl (cI, 7, .inl (nIf R)))]
    subst he_7
    have hi_p := hi_8
    obtain ⟨jp, hx_jp⟩ : ∃ z, z = j_6 := ⟨_, rfl⟩
    subst hx_jp
    refine v_if_eq 21 13 zC dX5_kin_10 (fun z => absurd z (by decide +kernel)) (fun _ => ?_)
    refine v_al_n 14 zC dX5_kin_13 0 rfl ?_
    refine v_il_n 15 zC dX5_kin_14 2 rfl ?_
    refine v_cV (As := [.int h]) (st := []) 18 0 [0] zC dX5_kin_15 hA (c_X5_isDead (ev_l E) (ev_D E) cI (r0 := r0) (k1 := k1) (k2 := k2) (k3 := k3) (k4 := k4) (k6 := k6) (k7 := k7) (k8 := k8) (k10 := k10) (k12 := k12) (k13 := k13) (k14 := k14) (k15 := k15) (k16 := k16) (k21 := k21) (k22 := k22) (k23 := k23) (k24 := k24) (k25 := k25) (k30 := k30) (k31 := k31) (k33 := k33) (n := n) (m := m) (aw := 0) (ls := ls) (ap := ap) (sq := sq) (pl := pl) (tz := tz) (rs := rs) (bd := bd) (pd := pd) (tk := tk) (kv := kv) (sd := sd) (p := h) (hn := (by first | omega | assumption | rfl | (simp only []; omega) | decide))) cf_X5_isDead lk_X5_208 rfl rfl rfl rfl rfl (by decide +kernel) (Nat.le_of_ble_eq_true rfl) (fun rv_16 wv_17 hp_18 hm_19 => ?_)
    clear hm_19
    rcases hp_18 with ⟨hi_20, rfl, rfl⟩ | ⟨j_21, he_22, hi_23, hj_24, rfl, rfl⟩
    ·
      show VV E 0 0 18 [(0, .ref r0), (1, .int (nI jp)), (2, .int h)] [.int (nI 0)] [(r0, .inr (5, [.int (nI n), .ref k1, .ref k2, .ref k3, .ref k4, .int (nI m), .ref k6, .ref k7, .ref k8, .int (nI 0), .ref k10, .int (nI 0), .ref k12, .ref k13, .ref k14, .ref k15, .ref k16, .int (nI ls), .int (nI ap), .int (bz bd), .int (nI sq), .ref k21, .ref k22, .ref k23, .ref k24, .ref k25, .int (bz pd), .int (nI pl), .int (bz tk), kv, .ref k30, .ref k31, .int (nI tz), .ref k33, .int (nI rs), .int sd])), (k1, .inl (cI, 7, .inl (nIf ki))), (k2, .inl (cI, 7, .inl (nIf op))), (k3, .inl (cI, 7, .inl (nIf (shF sh)))), (k4, .inl (cI, 7, .inl (nIf fa))), (k6, .inl (cI, 6, .inl (nIf K))), (k7, .inl (cI, 6, .inl (nIf G))), (k8, .inl (cI, 6, .inl (nIf T))), (k30, .inl (cI, 384, .inl (nIf tu))), (k31, .inl (cI, 48, .inl (nIf to))), (k10, .inl (cI, 7, .inl (nIf R)))]
      have hn_h := hi_20
      refine v_if_ne 27 21 zC dX5_kin_18 (fun z => absurd (by decide +kernel) z) (fun _ => ?_)
      refine v_al_n 22 zC dX5_kin_21 0 rfl ?_
      refine v_ic (v := (-1)) 23 zC dX5_kin_22 (by decide +kernel) ?_
      refine v_cV (As := [.int (-1)]) (st := []) 26 0 [0, 10] zC dX5_kin_23 hA (c_X5_refuse (ev_l E) (ev_D E) cI (r0 := r0) (k1 := k1) (k2 := k2) (k3 := k3) (k4 := k4) (k6 := k6) (k7 := k7) (k8 := k8) (k10 := k10) (k12 := k12) (k13 := k13) (k14 := k14) (k15 := k15) (k16 := k16) (k21 := k21) (k22 := k22) (k23 := k23) (k24 := k24) (k25 := k25) (k30 := k30) (k31 := k31) (k33 := k33) (n := n) (m := m) (aw := 0) (ls := ls) (ap := ap) (sq := sq) (pl := pl) (tz := tz) (rs := rs) (bd := bd) (pd := pd) (tk := tk) (kv := kv) (sd := sd) (R := R) (v := (-1)) (j := 1) (hv := (by first | omega | assumption | rfl | (simp only []; omega) | decide)) (h1 := (by first | omega | assumption | rfl | (simp only []; omega) | decide)) (h6 := (by first | omega | assumption | rfl | (simp only []; omega) | decide))) cf_X5_refuse lk_X5_129 rfl rfl rfl rfl rfl (by decide +kernel) (Nat.le_of_ble_eq_true rfl) (fun rv_26 wv_27 hp_28 hm_29 => ?_)
      clear hm_29
      obtain ⟨rfl, rfl⟩ := hp_28
      show VV E 0 0 26 [(0, .ref r0), (1, .int (nI jp)), (2, .int h)] [.int (-1)] [(r0, .inr (5, [.int (nI n), .ref k1, .ref k2, .ref k3, .ref k4, .int (nI m), .ref k6, .ref k7, .ref k8, .int (nI 0), .ref k10, .int (nI 0), .ref k12, .ref k13, .ref k14, .ref k15, .ref k16, .int (nI ls), .int (nI ap), .int (bz bd), .int (nI sq), .ref k21, .ref k22, .ref k23, .ref k24, .ref k25, .int (bz pd), .int (nI pl), .int (bz tk), kv, .ref k30, .ref k31, .int (nI tz), .ref k33, .int (nI rs), .int sd])), (k1, .inl (cI, 7, .inl (nIf ki))), (k2, .inl (cI, 7, .inl (nIf op))), (k3, .inl (cI, 7, .inl (nIf (shF sh)))), (k4, .inl (cI, 7, .inl (nIf fa))), (k6, .inl (cI, 6, .inl (nIf K))), (k7, .inl (cI, 6, .inl (nIf G))), (k8, .inl (cI, 6, .inl (nIf T))), (k30, .inl (cI, 384, .inl (nIf tu))), (k31, .inl (cI, 48, .inl (nIf to))), (k10, .inl (cI, 7, .inl (nIf (un R 1 (R 1 + 1)))))]
      refine v_iret zC zT dX5_kin_26  ?_
      first | (have g9 := hn_p; exact Or.inl ⟨Or.inl hn_p, rfl, rfl⟩) | (have g9 := hn_h; exact Or.inl ⟨Or.inr hn_h, rfl, rfl⟩) | exact Or.inr ⟨_, _, _, _, _, hi_p, hi_h, hK9, hT9, rfl, rfl⟩
    ·
      show VV E 0 0 18 [(0, .ref r0), (1, .int (nI jp)), (2, .int h)] [.int (nI 1)] [(r0, .inr (5, [.int (nI n), .ref k1, .ref k2, .ref k3, .ref k4, .int (nI m), .ref k6, .ref k7, .ref k8, .int (nI 0), .ref k10, .int (nI 0), .ref k12, .ref k13, .ref k14, .ref k15, .ref k16, .int (nI ls), .int (nI ap), .int (bz bd), .int (nI sq), .ref k21, .ref k22, .ref k23, .ref k24, .ref k25, .int (bz pd), .int (nI pl), .int (bz tk), kv, .ref k30, .ref k31, .int (nI tz), .ref k33, .int (nI rs), .int sd])), (k1, .inl (cI, 7, .inl (nIf ki))), (k2, .inl (cI, 7, .inl (nIf op))), (k3, .inl (cI, 7, .inl (nIf (shF sh)))), (k4, .inl (cI, 7, .inl (nIf fa))), (k6, .inl (cI, 6, .inl (nIf K))), (k7, .inl (cI, 6, .inl (nIf G))), (k8, .inl (cI, 6, .inl (nIf T))), (k30, .inl (cI, 384, .inl (nIf tu))), (k31, .inl (cI, 48, .inl (nIf to))), (k10, .inl (cI, 7, .inl (nIf R)))]
      subst he_22
      have hi_h := hi_23
      obtain ⟨jh, hx_jh⟩ : ∃ z, z = j_21 := ⟨_, rfl⟩
      subst hx_jh
      refine v_if_ne 27 21 zC dX5_kin_18 (fun _ => ?_) (fun z => absurd z (by decide +kernel))
      refine v_al_n 28 zC dX5_kin_27 0 rfl ?_
      refine v_cV (As := []) (st := []) 31 0 [0, 1, 2, 3, 4, 5, 6, 7, 8, 9] zC dX5_kin_28 hA (c_X5_keepTurn (ev_l E) (ev_D E) cI (r0 := r0) (k1 := k1) (k2 := k2) (k3 := k3) (k4 := k4) (k6 := k6) (k7 := k7) (k8 := k8) (k10 := k10) (k12 := k12) (k13 := k13) (k14 := k14) (k15 := k15) (k16 := k16) (k21 := k21) (k22 := k22) (k23 := k23) (k24 := k24) (k25 := k25) (k30 := k30) (k31 := k31) (k33 := k33) (n := n) (m := m) (aw := 0) (ls := ls) (ap := ap) (sq := sq) (pl := pl) (tz := tz) (rs := rs) (bd := bd) (pd := pd) (tk := tk) (kv := kv) (sd := sd) (ki := ki) (op := op) (fa := fa) (K := K) (G := G) (T := T) (sh := sh) (tu := tu) (to := to) (ht := (by first | omega | assumption | rfl | (simp only []; omega) | decide))) cf_X5_keepTurn lk_X5_222 rfl rfl rfl rfl rfl (by decide +kernel) (Nat.le_of_ble_eq_true rfl) (fun rv_31 wv_32 hp_33 hm_34 => ?_)
      clear hm_34
      obtain ⟨t1_35, u1_36, o1_37, hK_38, ht1_39, rfl, rfl⟩ := hp_33
      show VV E 0 0 31 [(0, .ref r0), (1, .int (nI jp)), (2, .int (nI jh))] [] [(r0, .inr (5, [.int (nI n), .ref k1, .ref k2, .ref k3, .ref k4, .int (nI m), .ref k6, .ref k7, .ref k8, .int (nI 0), .ref k10, .int (nI 0), .ref k12, .ref k13, .ref k14, .ref k15, .ref k16, .int (nI ls), .int (nI ap), .int (bz bd), .int (nI sq), .ref k21, .ref k22, .ref k23, .ref k24, .ref k25, .int (bz pd), .int (nI 48), .int (bz true), .ref k31, .ref k30, .ref k31, .int (nI t1_35), .ref k33, .int (nI rs), .int sd])), (k1, .inl (cI, 7, .inl (nIf ki))), (k2, .inl (cI, 7, .inl (nIf op))), (k3, .inl (cI, 7, .inl (nIf (shF sh)))), (k4, .inl (cI, 7, .inl (nIf fa))), (k6, .inl (cI, 6, .inl (nIf K))), (k7, .inl (cI, 6, .inl (nIf G))), (k8, .inl (cI, 6, .inl (nIf T))), (k30, .inl (cI, 384, .inl (nIf u1_36))), (k31, .inl (cI, 48, .inl (nIf o1_37))), (k10, .inl (cI, 7, .inl (nIf R)))]
      have hK9 := hK_38
      have hT9 := ht1_39
      refine v_al_n 32 zC dX5_kin_31 0 rfl ?_
      refine v_gf 35 0 zC dX5_kin_32 gf_X5_7 rfl rfl ?_
      refine v_il_n 36 zC dX5_kin_35 1 rfl ?_
      refine v_dup2 37 zC dX5_kin_36 rfl rfl ?_
      refine v_ialn (v := (nI (ki jp))) 38 1 zC dX5_kin_37 rfl (by omega) rfl ?_
      refine v_ic (v := (nI 1)) 39 zC dX5_kin_38 (by decide +kernel) ?_
      refine v_il_n 40 zC dX5_kin_39 2 rfl ?_
      refine v_ishl (v := (nI (2 ^ jh))) 41 zC dX5_kin_40 (b1n (by omega)) ?_
      refine v_ixor (v := (nI ((ki jp) ^^^ (2 ^ jh)))) 42 zC dX5_kin_41 (fb_xorI _ _) ?_
      refine v_iasn (ws2 := [(r0, .inr (5, [.int (nI n), .ref k1, .ref k2, .ref k3, .ref k4, .int (nI m), .ref k6, .ref k7, .ref k8, .int (nI 0), .ref k10, .int (nI 0), .ref k12, .ref k13, .ref k14, .ref k15, .ref k16, .int (nI ls), .int (nI ap), .int (bz bd), .int (nI sq), .ref k21, .ref k22, .ref k23, .ref k24, .ref k25, .int (bz pd), .int (nI 48), .int (bz true), .ref k31, .ref k30, .ref k31, .int (nI t1_35), .ref k33, .int (nI rs), .int sd])), (k1, .inl (cI, 7, .inl (nIf (un ki jp ((ki jp) ^^^ (2 ^ jh)))))), (k2, .inl (cI, 7, .inl (nIf op))), (k3, .inl (cI, 7, .inl (nIf (shF sh)))), (k4, .inl (cI, 7, .inl (nIf fa))), (k6, .inl (cI, 6, .inl (nIf K))), (k7, .inl (cI, 6, .inl (nIf G))), (k8, .inl (cI, 6, .inl (nIf T))), (k30, .inl (cI, 384, .inl (nIf u1_36))), (k31, .inl (cI, 48, .inl (nIf o1_37))), (k10, .inl (cI, 7, .inl (nIf R)))]) 43 1 zC dX5_kin_42 rfl (by omega) (by rw [upd_nIf]; first | done | rfl) ?_
      refine v_al_n 44 zC dX5_kin_43 0 rfl ?_
      refine v_gf 47 0 zC dX5_kin_44 gf_X5_7 rfl rfl ?_
      refine v_il_n 48 zC dX5_kin_47 1 rfl ?_
      refine v_ialn (v := (nI ((un ki jp ((ki jp) ^^^ (2 ^ jh))) jp))) 49 1 zC dX5_kin_48 rfl (by omega) rfl ?_
      refine v_il_n 50 zC dX5_kin_49 2 rfl ?_
      refine v_ishr (v := ((nI ((un ki jp ((ki jp) ^^^ (2 ^ jh))) jp)) >>> (nI jh))) 51 zC dX5_kin_50 (sr_of (by omega)) ?_
      refine v_ic (v := (nI 1)) 52 zC dX5_kin_51 (by decide +kernel) ?_
      refine v_iand (v := (bz (Nat.testBit ((un ki jp ((ki jp) ^^^ (2 ^ jh))) jp) jh))) 53 zC dX5_kin_52 (tb_of _ (by omega)) ?_
      refine v_iret zC zT dX5_kin_53  ?_
      first | (have g9 := hn_p; exact Or.inl ⟨Or.inl hn_p, rfl, rfl⟩) | (have g9 := hn_h; exact Or.inl ⟨Or.inr hn_h, rfl, rfl⟩) | exact Or.inr ⟨_, _, _, _, _, hi_p, hi_h, hK9, hT9, rfl, rfl⟩
set_option maxRecDepth 100000 in
set_option maxHeartbeats 4000000 in
theorem c_X5_shut (l : Launch) (D : va_G) (cI : ClassId) (r0 k1 k2 k3 k4 k6 k7 k8 k10 k12 k13 k14 k15 k16 k21 k22 k23 k24 k25 k30 k31 k33 : Nat) (n m ls ap sq pl tz rs : Nat) (bd pd tk : Bool) (kv : Value) (sd : Int32) (ki op fa K G T : Nat → Nat) (sh : Nat) (tu to R : Nat → Nat) (p : Int32) (hw : FW n m sh ki op fa K G T) (ht : tz ≤ 8) : CT l yX5_shut cX5_shut 2 (some .int) { frames := 3, cells := 0, slots := 0, locals := 65 } D cI [.ref r0, .int p] [(r0, .inr (5, [.int (nI n), .ref k1, .ref k2, .ref k3, .ref k4, .int (nI m), .ref k6, .ref k7, .ref k8, .int (nI 0), .ref k10, .int (nI 0), .ref k12, .ref k13, .ref k14, .ref k15, .ref k16, .int (nI ls), .int (nI ap), .int (bz bd), .int (nI sq), .ref k21, .ref k22, .ref k23, .ref k24, .ref k25, .int (bz pd), .int (nI pl), .int (bz tk), kv, .ref k30, .ref k31, .int (nI tz), .ref k33, .int (nI rs), .int sd])), (k1, .inl (cI, 7, .inl (nIf ki))), (k2, .inl (cI, 7, .inl (nIf op))), (k3, .inl (cI, 7, .inl (nIf (shF sh)))), (k4, .inl (cI, 7, .inl (nIf fa))), (k6, .inl (cI, 6, .inl (nIf K))), (k7, .inl (cI, 6, .inl (nIf G))), (k8, .inl (cI, 6, .inl (nIf T))), (k30, .inl (cI, 384, .inl (nIf tu))), (k31, .inl (cI, 48, .inl (nIf to))), (k10, .inl (cI, 7, .inl (nIf R)))] (fun zr zw => ((IX n p = none) ∧ zr = some (.int (-1)) ∧ zw = [(r0, .inr (5, [.int (nI n), .ref k1, .ref k2, .ref k3, .ref k4, .int (nI m), .ref k6, .ref k7, .ref k8, .int (nI 0), .ref k10, .int (nI 0), .ref k12, .ref k13, .ref k14, .ref k15, .ref k16, .int (nI ls), .int (nI ap), .int (bz bd), .int (nI sq), .ref k21, .ref k22, .ref k23, .ref k24, .ref k25, .int (bz pd), .int (nI pl), .int (bz tk), kv, .ref k30, .ref k31, .int (nI tz), .ref k33, .int (nI rs), .int sd])), (k1, .inl (cI, 7, .inl (nIf ki))), (k2, .inl (cI, 7, .inl (nIf op))), (k3, .inl (cI, 7, .inl (nIf (shF sh)))), (k4, .inl (cI, 7, .inl (nIf fa))), (k6, .inl (cI, 6, .inl (nIf K))), (k7, .inl (cI, 6, .inl (nIf G))), (k8, .inl (cI, 6, .inl (nIf T))), (k30, .inl (cI, 384, .inl (nIf tu))), (k31, .inl (cI, 48, .inl (nIf to))), (k10, .inl (cI, 7, .inl (nIf (un R 1 (R 1 + 1)))))]) ∨ (∃ j : Nat, ∃ t1 : Nat, ∃ u1 : Nat → Nat, ∃ o1 : Nat → Nat, (IX n p = some j) ∧ (KT (n, m, sh, 0, ki, op, fa, K, G, T) tz tu t1 u1) ∧ (t1 ≤ 8) ∧ zr = some (.int (bz (Nat.testBit (sh ^^^ 2 ^ j) j))) ∧ zw = [(r0, .inr (5, [.int (nI n), .ref k1, .ref k2, .ref k3, .ref k4, .int (nI m), .ref k6, .ref k7, .ref k8, .int (nI 0), .ref k10, .int (nI 0), .ref k12, .ref k13, .ref k14, .ref k15, .ref k16, .int (nI ls), .int (nI ap), .int (bz bd), .int (nI sq), .ref k21, .ref k22, .ref k23, .ref k24, .ref k25, .int (bz pd), .int (nI 48), .int (bz true), .ref k31, .ref k30, .ref k31, .int (nI t1), .ref k33, .int (nI rs), .int sd])), (k1, .inl (cI, 7, .inl (nIf ki))), (k2, .inl (cI, 7, .inl (nIf op))), (k3, .inl (cI, 7, .inl (nIf (shF (sh ^^^ 2 ^ j))))), (k4, .inl (cI, 7, .inl (nIf fa))), (k6, .inl (cI, 6, .inl (nIf K))), (k7, .inl (cI, 6, .inl (nIf G))), (k8, .inl (cI, 6, .inl (nIf T))), (k30, .inl (cI, 384, .inl (nIf u1))), (k31, .inl (cI, 48, .inl (nIf o1))), (k10, .inl (cI, 7, .inl (nIf R)))])) := by
  refine CT_of RX5 rfl (by decide +kernel) (Nat.le_of_ble_eq_true rfl) (fun E hnE zC zT => ?_)
  have hA : ∀ q, (ev_s E).heap.size ≤ q → ev_A E q := fun q h => by rw [zT.2]; exact Or.inr h
  obtain ⟨hn, hm, hsh, hki, hop, hfa, hK, hG, hT, vki, vop, vfa, vK, vG, vT⟩ := id hw
  show VV E 0 0 0 [(0, .ref r0), (1, .int p)] [] [(r0, .inr (5, [.int (nI n), .ref k1, .ref k2, .ref k3, .ref k4, .int (nI m), .ref k6, .ref k7, .ref k8, .int (nI 0), .ref k10, .int (nI 0), .ref k12, .ref k13, .ref k14, .ref k15, .ref k16, .int (nI ls), .int (nI ap), .int (bz bd), .int (nI sq), .ref k21, .ref k22, .ref k23, .ref k24, .ref k25, .int (bz pd), .int (nI pl), .int (bz tk), kv, .ref k30, .ref k31, .int (nI tz), .ref k33, .int (nI rs), .int sd])), (k1, .inl (cI, 7, .inl (nIf ki))), (k2, .inl (cI, 7, .inl (nIf op))), (k3, .inl (cI, 7, .inl (nIf (shF sh)))), (k4, .inl (cI, 7, .inl (nIf fa))), (k6, .inl (cI, 6, .inl (nIf K))), (k7, .inl (cI, 6, .inl (nIf G))), (k8, .inl (cI, 6, .inl (nIf T))), (k30, .inl (cI, 384, .inl (nIf tu))), (k31, .inl (cI, 48, .inl (nIf to))), (k10, .inl (cI, 7, .inl (nIf R)))]
  refine v_al_n 1 zC dX5_shut_0 0 rfl ?_
  refine v_ic (v := (nI 0)) 2 zC dX5_shut_1 (by decide +kernel) ?_
  refine v_pf (ws2 := [(r0, .inr (5, [.int (nI n), .ref k1, .ref k2, .ref k3, .ref k4, .int (nI m), .ref k6, .ref k7, .ref k8, .int (nI 0), .ref k10, .int (nI 0), .ref k12, .ref k13, .ref k14, .ref k15, .ref k16, .int (nI ls), .int (nI ap), .int (bz bd), .int (nI sq), .ref k21, .ref k22, .ref k23, .ref k24, .ref k25, .int (bz pd), .int (nI pl), .int (bz tk), kv, .ref k30, .ref k31, .int (nI tz), .ref k33, .int (nI rs), .int sd])), (k1, .inl (cI, 7, .inl (nIf ki))), (k2, .inl (cI, 7, .inl (nIf op))), (k3, .inl (cI, 7, .inl (nIf (shF sh)))), (k4, .inl (cI, 7, .inl (nIf fa))), (k6, .inl (cI, 6, .inl (nIf K))), (k7, .inl (cI, 6, .inl (nIf G))), (k8, .inl (cI, 6, .inl (nIf T))), (k30, .inl (cI, 384, .inl (nIf tu))), (k31, .inl (cI, 48, .inl (nIf to))), (k10, .inl (cI, 7, .inl (nIf R)))]) 5 0 zC dX5_shut_2 pf_X5_73 rfl (Nat.le_of_ble_eq_true rfl) rfl rfl rfl ?_
  refine v_al_n 6 zC dX5_shut_5 0 rfl ?_
  refine v_il_n 7 zC dX5_shut_6 1 rfl ?_
  refine v_cV (As := [.int p]) (st := []) 10 0 [0] zC dX5_shut_7 hA (c_X5_isOne (ev_l E) (ev_D E) cI (r0 := r0) (k1 := k1) (k2 := k2) (k3 := k3) (k4 := k4) (k6 := k6) (k7 := k7) (k8 := k8) (k10 := k10) (k12 := k12) (k13 := k13) (k14 := k14) (k15 := k15) (k16 := k16) (k21 := k21) (k22 := k22) (k23 := k23) (k24 := k24) (k25 := k25) (k30 := k30) (k31 := k31) (k33 := k33) (n := n) (m := m) (aw := 0) (ls := ls) (ap := ap) (sq := sq) (pl := pl) (tz := tz) (rs := rs) (bd := bd) (pd := pd) (tk := tk) (kv := kv) (sd := sd) (p := p) (hn := (by first | omega | assumption | rfl | (simp only []; omega) | decide))) cf_X5_isOne lk_X5_164 rfl rfl rfl rfl rfl (by decide +kernel) (Nat.le_of_ble_eq_true rfl) (fun rv_1 wv_2 hp_3 hm_4 => ?_)
  clear hm_4
  rcases hp_3 with ⟨hi_5, rfl, rfl⟩ | ⟨j_6, he_7, hi_8, hj_9, rfl, rfl⟩
  ·
    show VV E 0 0 10 [(0, .ref r0), (1, .int p)] [.int (nI 0)] [(r0, .inr (5, [.int (nI n), .ref k1, .ref k2, .ref k3, .ref k4, .int (nI m), .ref k6, .ref k7, .ref k8, .int (nI 0), .ref k10, .int (nI 0), .ref k12, .ref k13, .ref k14, .ref k15, .ref k16, .int (nI ls), .int (nI ap), .int (bz bd), .int (nI sq), .ref k21, .ref k22, .ref k23, .ref k24, .ref k25, .int (bz pd), .int (nI pl), .int (bz tk), kv, .ref k30, .ref k31, .int (nI tz), .ref k33, .int (nI rs), .int sd])), (k1, .inl (cI, 7, .inl (nIf ki))), (k2, .inl (cI, 7, .inl (nIf op))), (k3, .inl (cI, 7, .inl (nIf (shF sh)))), (k4, .inl (cI, 7, .inl (nIf fa))), (k6, .inl (cI, 6, .inl (nIf K))), (k7, .inl (cI, 6, .inl (nIf G))), (k8, .inl (cI, 6, .inl (nIf T))), (k30, .inl (cI, 384, .inl (nIf tu))), (k31, .inl (cI, 48, .inl (nIf to))), (k10, .inl (cI, 7, .inl (nIf R)))]
    have hn_p := hi_5
    refine v_if_ne 19 13 zC dX5_shut_10 (fun z => absurd (by decide +kernel) z) (fun _ => ?_)
    refine v_al_n 14 zC dX5_shut_13 0 rfl ?_
    refine v_ic (v := (-1)) 15 zC dX5_shut_14 (by decide +kernel) ?_
    refine v_cV (As := [.int (-1)]) (st := []) 18 0 [0, 10] zC dX5_shut_15 hA (c_X5_refuse (ev_l E) (ev_D E) cI (r0 := r0) (k1 := k1) (k2 := k2) (k3 := k3) (k4 := k4) (k6 := k6) (k7 := k7) (k8 := k8) (k10 := k10) (k12 := k12) (k13 := k13) (k14 := k14) (k15 := k15) (k16 := k16) (k21 := k21) (k22 := k22) (k23 := k23) (k24 := k24) (k25 := k25) (k30 := k30) (k31 := k31) (k33 := k33) (n := n) (m := m) (aw := 0) (ls := ls) (ap := ap) (sq := sq) (pl := pl) (tz := tz) (rs := rs) (bd := bd) (pd := pd) (tk := tk) (kv := kv) (sd := sd) (R := R) (v := (-1)) (j := 1) (hv := (by first | omega | assumption | rfl | (simp only []; omega) | decide)) (h1 := (by first | omega | assumption | rfl | (simp only []; omega) | decide)) (h6 := (by first | omega | assumption | rfl | (simp only []; omega) | decide))) cf_X5_refuse lk_X5_129 rfl rfl rfl rfl rfl (by decide +kernel) (Nat.le_of_ble_eq_true rfl) (fun rv_11 wv_12 hp_13 hm_14 => ?_)
    clear hm_14
    obtain ⟨rfl, rfl⟩ := hp_13
    show VV E 0 0 18 [(0, .ref r0), (1, .int p)] [.int (-1)] [(r0, .inr (5, [.int (nI n), .ref k1, .ref k2, .ref k3, .ref k4, .int (nI m), .ref k6, .ref k7, .ref k8, .int (nI 0), .ref k10, .int (nI 0), .ref k12, .ref k13, .ref k14, .ref k15, .ref k16, .int (nI ls), .int (nI ap), .int (bz bd), .int (nI sq), .ref k21, .ref k22, .ref k23, .ref k24, .ref k25, .int (bz pd), .int (nI pl), .int (bz tk), kv, .ref k30, .ref k31, .int (nI tz), .ref k33, .int (nI rs), .int sd])), (k1, .inl (cI, 7, .inl (nIf ki))), (k2, .inl (cI, 7, .inl (nIf op))), (k3, .inl (cI, 7, .inl (nIf (shF sh)))), (k4, .inl (cI, 7, .inl (nIf fa))), (k6, .inl (cI, 6, .inl (nIf K))), (k7, .inl (cI, 6, .inl (nIf G))), (k8, .inl (cI, 6, .inl (nIf T))), (k30, .inl (cI, 384, .inl (nIf tu))), (k31, .inl (cI, 48, .inl (nIf to))), (k10, .inl (cI, 7, .inl (nIf (un R 1 (R 1 + 1)))))]
    refine v_iret zC zT dX5_shut_18  ?_
    first | (have g9 := hn_p; exact Or.inl ⟨hn_p, rfl, rfl⟩) | exact Or.inr ⟨_, _, _, _, hi_p, hK9, hT9, by rw [shf_x, shf_b], by rw [shf_x]⟩
  ·
    show VV E 0 0 10 [(0, .ref r0), (1, .int p)] [.int (nI 1)] [(r0, .inr (5, [.int (nI n), .ref k1, .ref k2, .ref k3, .ref k4, .int (nI m), .ref k6, .ref k7, .ref k8, .int (nI 0), .ref k10, .int (nI 0), .ref k12, .ref k13, .ref k14, .ref k15, .ref k16, .int (nI ls), .int (nI ap), .int (bz bd), .int (nI sq), .ref k21, .ref k22, .ref k23, .ref k24, .ref k25, .int (bz pd), .int (nI pl), .int (bz tk), kv, .ref k30, .ref k31, .int (nI tz), .ref k33, .int (nI rs), .int sd])), (k1, .inl (cI, 7, .inl (nIf ki))), (k2, .inl (cI, 7, .inl (nIf op))), (k3, .inl (cI, 7, .inl (nIf (shF sh)))), (k4, .inl (cI, 7, .inl (nIf fa))), (k6, .inl (cI, 6, .inl (nIf K))), (k7, .inl (cI, 6, .inl (nIf G))), (k8, .inl (cI, 6, .inl (nIf T))), (k30, .inl (cI, 384, .inl (nIf tu))), (k31, .inl (cI, 48, .inl (nIf to))), (k10, .inl (cI, 7, .inl (nIf R)))]
    subst he_7
    have hi_p := hi_8
    obtain ⟨jp, hx_jp⟩ : ∃ z, z = j_6 := ⟨_, rfl⟩
    subst hx_jp
    refine v_if_ne 19 13 zC dX5_shut_10 (fun _ => ?_) (fun z => absurd z (by decide +kernel))
    refine v_al_n 20 zC dX5_shut_19 0 rfl ?_
    refine v_cV (As := []) (st := []) 23 0 [0, 1, 2, 3, 4, 5, 6, 7, 8, 9] zC dX5_shut_20 hA (c_X5_keepTurn (ev_l E) (ev_D E) cI (r0 := r0) (k1 := k1) (k2 := k2) (k3 := k3) (k4 := k4) (k6 := k6) (k7 := k7) (k8 := k8) (k10 := k10) (k12 := k12) (k13 := k13) (k14 := k14) (k15 := k15) (k16 := k16) (k21 := k21) (k22 := k22) (k23 := k23) (k24 := k24) (k25 := k25) (k30 := k30) (k31 := k31) (k33 := k33) (n := n) (m := m) (aw := 0) (ls := ls) (ap := ap) (sq := sq) (pl := pl) (tz := tz) (rs := rs) (bd := bd) (pd := pd) (tk := tk) (kv := kv) (sd := sd) (ki := ki) (op := op) (fa := fa) (K := K) (G := G) (T := T) (sh := sh) (tu := tu) (to := to) (ht := (by first | omega | assumption | rfl | (simp only []; omega) | decide))) cf_X5_keepTurn lk_X5_222 rfl rfl rfl rfl rfl (by decide +kernel) (Nat.le_of_ble_eq_true rfl) (fun rv_16 wv_17 hp_18 hm_19 => ?_)
    clear hm_19
    obtain ⟨t1_20, u1_21, o1_22, hK_23, ht1_24, rfl, rfl⟩ := hp_18
    show VV E 0 0 23 [(0, .ref r0), (1, .int (nI jp))] [] [(r0, .inr (5, [.int (nI n), .ref k1, .ref k2, .ref k3, .ref k4, .int (nI m), .ref k6, .ref k7, .ref k8, .int (nI 0), .ref k10, .int (nI 0), .ref k12, .ref k13, .ref k14, .ref k15, .ref k16, .int (nI ls), .int (nI ap), .int (bz bd), .int (nI sq), .ref k21, .ref k22, .ref k23, .ref k24, .ref k25, .int (bz pd), .int (nI 48), .int (bz true), .ref k31, .ref k30, .ref k31, .int (nI t1_20), .ref k33, .int (nI rs), .int sd])), (k1, .inl (cI, 7, .inl (nIf ki))), (k2, .inl (cI, 7, .inl (nIf op))), (k3, .inl (cI, 7, .inl (nIf (shF sh)))), (k4, .inl (cI, 7, .inl (nIf fa))), (k6, .inl (cI, 6, .inl (nIf K))), (k7, .inl (cI, 6, .inl (nIf G))), (k8, .inl (cI, 6, .inl (nIf T))), (k30, .inl (cI, 384, .inl (nIf u1_21))), (k31, .inl (cI, 48, .inl (nIf o1_22))), (k10, .inl (cI, 7, .inl (nIf R)))]
    have hK9 := hK_23
    have hT9 := ht1_24
    refine v_al_n 24 zC dX5_shut_23 0 rfl ?_
    refine v_gf 27 0 zC dX5_shut_24 gf_X5_16 rfl rfl ?_
    refine v_il_n 28 zC dX5_shut_27 1 rfl ?_
    refine v_ic (v := (nI 1)) 29 zC dX5_shut_28 (by decide +kernel) ?_
    refine v_al_n 30 zC dX5_shut_29 0 rfl ?_
    refine v_gf 33 0 zC dX5_shut_30 gf_X5_16 rfl rfl ?_
    refine v_il_n 34 zC dX5_shut_33 1 rfl ?_
    refine v_ialn (v := (nI ((shF sh) jp))) 35 3 zC dX5_shut_34 rfl (by omega) rfl ?_
    have hs1 := shf_l sh jp
    refine v_isub (v := (nI (1 - ((shF sh) jp)))) 36 zC dX5_shut_35 (pk_sub (by first | omega | exact Nat.one_le_two_pow)) ?_
    refine v_iasn (ws2 := [(r0, .inr (5, [.int (nI n), .ref k1, .ref k2, .ref k3, .ref k4, .int (nI m), .ref k6, .ref k7, .ref k8, .int (nI 0), .ref k10, .int (nI 0), .ref k12, .ref k13, .ref k14, .ref k15, .ref k16, .int (nI ls), .int (nI ap), .int (bz bd), .int (nI sq), .ref k21, .ref k22, .ref k23, .ref k24, .ref k25, .int (bz pd), .int (nI 48), .int (bz true), .ref k31, .ref k30, .ref k31, .int (nI t1_20), .ref k33, .int (nI rs), .int sd])), (k1, .inl (cI, 7, .inl (nIf ki))), (k2, .inl (cI, 7, .inl (nIf op))), (k3, .inl (cI, 7, .inl (nIf (un (shF sh) jp (1 - ((shF sh) jp)))))), (k4, .inl (cI, 7, .inl (nIf fa))), (k6, .inl (cI, 6, .inl (nIf K))), (k7, .inl (cI, 6, .inl (nIf G))), (k8, .inl (cI, 6, .inl (nIf T))), (k30, .inl (cI, 384, .inl (nIf u1_21))), (k31, .inl (cI, 48, .inl (nIf o1_22))), (k10, .inl (cI, 7, .inl (nIf R)))]) 37 3 zC dX5_shut_36 rfl (by omega) (by rw [upd_nIf]; first | done | rfl) ?_
    refine v_al_n 38 zC dX5_shut_37 0 rfl ?_
    refine v_gf 41 0 zC dX5_shut_38 gf_X5_16 rfl rfl ?_
    refine v_il_n 42 zC dX5_shut_41 1 rfl ?_
    refine v_ialn (v := (nI ((un (shF sh) jp (1 - ((shF sh) jp))) jp))) 43 3 zC dX5_shut_42 rfl (by omega) rfl ?_
    refine v_iret zC zT dX5_shut_43  ?_
    first | (have g9 := hn_p; exact Or.inl ⟨hn_p, rfl, rfl⟩) | exact Or.inr ⟨_, _, _, _, hi_p, hK9, hT9, by rw [shf_x, shf_b], by rw [shf_x]⟩
set_option maxRecDepth 100000 in
set_option maxHeartbeats 4000000 in
theorem c_X5_leans (l : Launch) (D : va_G) (cI : ClassId) (r0 k1 k2 k3 k4 k6 k7 k8 k10 k12 k13 k14 k15 k16 k21 k22 k23 k24 k25 k30 k31 k33 : Nat) (n m ls ap sq pl tz rs : Nat) (bd pd tk : Bool) (kv : Value) (sd : Int32) (ki op fa K G T : Nat → Nat) (sh : Nat) (tu to R : Nat → Nat) (d v : Int32) (hw : FW n m sh ki op fa K G T) (ht : tz ≤ 8) : CT l yX5_leans cX5_leans 5 (some .int) { frames := 3, cells := 0, slots := 0, locals := 65 } D cI [.ref r0, .int d, .int v] [(r0, .inr (5, [.int (nI n), .ref k1, .ref k2, .ref k3, .ref k4, .int (nI m), .ref k6, .ref k7, .ref k8, .int (nI 0), .ref k10, .int (nI 0), .ref k12, .ref k13, .ref k14, .ref k15, .ref k16, .int (nI ls), .int (nI ap), .int (bz bd), .int (nI sq), .ref k21, .ref k22, .ref k23, .ref k24, .ref k25, .int (bz pd), .int (nI pl), .int (bz tk), kv, .ref k30, .ref k31, .int (nI tz), .ref k33, .int (nI rs), .int sd])), (k1, .inl (cI, 7, .inl (nIf ki))), (k2, .inl (cI, 7, .inl (nIf op))), (k3, .inl (cI, 7, .inl (nIf (shF sh)))), (k4, .inl (cI, 7, .inl (nIf fa))), (k6, .inl (cI, 6, .inl (nIf K))), (k7, .inl (cI, 6, .inl (nIf G))), (k8, .inl (cI, 6, .inl (nIf T))), (k30, .inl (cI, 384, .inl (nIf tu))), (k31, .inl (cI, 48, .inl (nIf to))), (k10, .inl (cI, 7, .inl (nIf R)))] (fun zr zw => ((IX m d = none) ∧ zr = some (.int (-1)) ∧ zw = [(r0, .inr (5, [.int (nI n), .ref k1, .ref k2, .ref k3, .ref k4, .int (nI m), .ref k6, .ref k7, .ref k8, .int (nI 0), .ref k10, .int (nI 0), .ref k12, .ref k13, .ref k14, .ref k15, .ref k16, .int (nI ls), .int (nI ap), .int (bz bd), .int (nI sq), .ref k21, .ref k22, .ref k23, .ref k24, .ref k25, .int (bz pd), .int (nI pl), .int (bz tk), kv, .ref k30, .ref k31, .int (nI tz), .ref k33, .int (nI rs), .int sd])), (k1, .inl (cI, 7, .inl (nIf ki))), (k2, .inl (cI, 7, .inl (nIf op))), (k3, .inl (cI, 7, .inl (nIf (shF sh)))), (k4, .inl (cI, 7, .inl (nIf fa))), (k6, .inl (cI, 6, .inl (nIf K))), (k7, .inl (cI, 6, .inl (nIf G))), (k8, .inl (cI, 6, .inl (nIf T))), (k30, .inl (cI, 384, .inl (nIf tu))), (k31, .inl (cI, 48, .inl (nIf to))), (k10, .inl (cI, 7, .inl (nIf (un R 1 (R 1 + 1)))))]) ∨ ((¬ IX m d = none) ∧ (v < 0) ∧ zr = some (.int (-4)) ∧ zw = [(r0, .inr (5, [.int (nI n), .ref k1, .ref k2, .ref k3, .ref k4, .int (nI m), .ref k6, .ref k7, .ref k8, .int (nI 0), .ref k10, .int (nI 0), .ref k12, .ref k13, .ref k14, .ref k15, .ref k16, .int (nI ls), .int (nI ap), .int (bz bd), .int (nI sq), .ref k21, .ref k22, .ref k23, .ref k24, .ref k25, .int (bz pd), .int (nI pl), .int (bz tk), kv, .ref k30, .ref k31, .int (nI tz), .ref k33, .int (nI rs), .int sd])), (k1, .inl (cI, 7, .inl (nIf ki))), (k2, .inl (cI, 7, .inl (nIf op))), (k3, .inl (cI, 7, .inl (nIf (shF sh)))), (k4, .inl (cI, 7, .inl (nIf fa))), (k6, .inl (cI, 6, .inl (nIf K))), (k7, .inl (cI, 6, .inl (nIf G))), (k8, .inl (cI, 6, .inl (nIf T))), (k30, .inl (cI, 384, .inl (nIf tu))), (k31, .inl (cI, 48, .inl (nIf to))), (k10, .inl (cI, 7, .inl (nIf (un R 4 (R 4 + 1)))))]) ∨ ((¬ IX m d = none) ∧ (¬ v < 0) ∧ (IX 10 v = none) ∧ zr = some (.int (-6)) ∧ zw = [(r0, .inr (5, [.int (nI n), .ref k1, .ref k2, .ref k3, .ref k4, .int (nI m), .ref k6, .ref k7, .ref k8, .int (nI 0), .ref k10, .int (nI 0), .ref k12, .ref k13, .ref k14, .ref k15, .ref k16, .int (nI ls), .int (nI ap), .int (bz bd), .int (nI sq), .ref k21, .ref k22, .ref k23, .ref k24, .ref k25, .int (bz pd), .int (nI pl), .int (bz tk), kv, .ref k30, .ref k31, .int (nI tz), .ref k33, .int (nI rs), .int sd])), (k1, .inl (cI, 7, .inl (nIf ki))), (k2, .inl (cI, 7, .inl (nIf op))), (k3, .inl (cI, 7, .inl (nIf (shF sh)))), (k4, .inl (cI, 7, .inl (nIf fa))), (k6, .inl (cI, 6, .inl (nIf K))), (k7, .inl (cI, 6, .inl (nIf G))), (k8, .inl (cI, 6, .inl (nIf T))), (k30, .inl (cI, 384, .inl (nIf tu))), (k31, .inl (cI, 48, .inl (nIf to))), (k10, .inl (cI, 7, .inl (nIf (un R 6 (R 6 + 1)))))]) ∨ (∃ j : Nat, ∃ k : Nat, ∃ t1 : Nat, ∃ u1 : Nat → Nat, ∃ o1 : Nat → Nat, (IX m d = some j) ∧ (IX 10 v = some k) ∧ (KT (n, m, sh, 0, ki, op, fa, K, G, T) tz tu t1 u1) ∧ (t1 ≤ 8) ∧ zr = some (.int (nI (G j))) ∧ zw = [(r0, .inr (5, [.int (nI n), .ref k1, .ref k2, .ref k3, .ref k4, .int (nI m), .ref k6, .ref k7, .ref k8, .int (nI 0), .ref k10, .int (nI 0), .ref k12, .ref k13, .ref k14, .ref k15, .ref k16, .int (nI ls), .int (nI ap), .int (bz bd), .int (nI sq), .ref k21, .ref k22, .ref k23, .ref k24, .ref k25, .int (bz pd), .int (nI 48), .int (bz true), .ref k31, .ref k30, .ref k31, .int (nI t1), .ref k33, .int (nI rs), .int sd])), (k1, .inl (cI, 7, .inl (nIf ki))), (k2, .inl (cI, 7, .inl (nIf op))), (k3, .inl (cI, 7, .inl (nIf (shF sh)))), (k4, .inl (cI, 7, .inl (nIf fa))), (k6, .inl (cI, 6, .inl (nIf K))), (k7, .inl (cI, 6, .inl (nIf (un G j k)))), (k8, .inl (cI, 6, .inl (nIf T))), (k30, .inl (cI, 384, .inl (nIf u1))), (k31, .inl (cI, 48, .inl (nIf o1))), (k10, .inl (cI, 7, .inl (nIf R)))])) := by
  refine CT_of RX5 rfl (by decide +kernel) (Nat.le_of_ble_eq_true rfl) (fun E hnE zC zT => ?_)
  have hA : ∀ q, (ev_s E).heap.size ≤ q → ev_A E q := fun q h => by rw [zT.2]; exact Or.inr h
  obtain ⟨hn, hm, hsh, hki, hop, hfa, hK, hG, hT, vki, vop, vfa, vK, vG, vT⟩ := id hw
  show VV E 0 0 0 [(0, .ref r0), (1, .int d), (2, .int v)] [] [(r0, .inr (5, [.int (nI n), .ref k1, .ref k2, .ref k3, .ref k4, .int (nI m), .ref k6, .ref k7, .ref k8, .int (nI 0), .ref k10, .int (nI 0), .ref k12, .ref k13, .ref k14, .ref k15, .ref k16, .int (nI ls), .int (nI ap), .int (bz bd), .int (nI sq), .ref k21, .ref k22, .ref k23, .ref k24, .ref k25, .int (bz pd), .int (nI pl), .int (bz tk), kv, .ref k30, .ref k31, .int (nI tz), .ref k33, .int (nI rs), .int sd])), (k1, .inl (cI, 7, .inl (nIf ki))), (k2, .inl (cI, 7, .inl (nIf op))), (k3, .inl (cI, 7, .inl (nIf (shF sh)))), (k4, .inl (cI, 7, .inl (nIf fa))), (k6, .inl (cI, 6, .inl (nIf K))), (k7, .inl (cI, 6, .inl (nIf G))), (k8, .inl (cI, 6, .inl (nIf T))), (k30, .inl (cI, 384, .inl (nIf tu))), (k31, .inl (cI, 48, .inl (nIf to))), (k10, .inl (cI, 7, .inl (nIf R)))]
  refine v_al_n 1 zC dX5_leans_0 0 rfl ?_
  refine v_ic (v := (nI 0)) 2 zC dX5_leans_1 (by decide +kernel) ?_
  refine v_pf (ws2 := [(r0, .inr (5, [.int (nI n), .ref k1, .ref k2, .ref k3, .ref k4, .int (nI m), .ref k6, .ref k7, .ref k8, .int (nI 0), .ref k10, .int (nI 0), .ref k12, .ref k13, .ref k14, .ref k15, .ref k16, .int (nI ls), .int (nI ap), .int (bz bd), .int (nI sq), .ref k21, .ref k22, .ref k23, .ref k24, .ref k25, .int (bz pd), .int (nI pl), .int (bz tk), kv, .ref k30, .ref k31, .int (nI tz), .ref k33, .int (nI rs), .int sd])), (k1, .inl (cI, 7, .inl (nIf ki))), (k2, .inl (cI, 7, .inl (nIf op))), (k3, .inl (cI, 7, .inl (nIf (shF sh)))), (k4, .inl (cI, 7, .inl (nIf fa))), (k6, .inl (cI, 6, .inl (nIf K))), (k7, .inl (cI, 6, .inl (nIf G))), (k8, .inl (cI, 6, .inl (nIf T))), (k30, .inl (cI, 384, .inl (nIf tu))), (k31, .inl (cI, 48, .inl (nIf to))), (k10, .inl (cI, 7, .inl (nIf R)))]) 5 0 zC dX5_leans_2 pf_X5_73 rfl (Nat.le_of_ble_eq_true rfl) rfl rfl rfl ?_
  refine v_al_n 6 zC dX5_leans_5 0 rfl ?_
  refine v_il_n 7 zC dX5_leans_6 1 rfl ?_
  refine v_cV (As := [.int d]) (st := []) 10 0 [0] zC dX5_leans_7 hA (c_X5_isDead (ev_l E) (ev_D E) cI (r0 := r0) (k1 := k1) (k2 := k2) (k3 := k3) (k4 := k4) (k6 := k6) (k7 := k7) (k8 := k8) (k10 := k10) (k12 := k12) (k13 := k13) (k14 := k14) (k15 := k15) (k16 := k16) (k21 := k21) (k22 := k22) (k23 := k23) (k24 := k24) (k25 := k25) (k30 := k30) (k31 := k31) (k33 := k33) (n := n) (m := m) (aw := 0) (ls := ls) (ap := ap) (sq := sq) (pl := pl) (tz := tz) (rs := rs) (bd := bd) (pd := pd) (tk := tk) (kv := kv) (sd := sd) (p := d) (hn := (by first | omega | assumption | rfl | (simp only []; omega) | decide))) cf_X5_isDead lk_X5_208 rfl rfl rfl rfl rfl (by decide +kernel) (Nat.le_of_ble_eq_true rfl) (fun rv_1 wv_2 hp_3 hm_4 => ?_)
  clear hm_4
  rcases hp_3 with ⟨hi_5, rfl, rfl⟩ | ⟨j_6, he_7, hi_8, hj_9, rfl, rfl⟩
  ·
    show VV E 0 0 10 [(0, .ref r0), (1, .int d), (2, .int v)] [.int (nI 0)] [(r0, .inr (5, [.int (nI n), .ref k1, .ref k2, .ref k3, .ref k4, .int (nI m), .ref k6, .ref k7, .ref k8, .int (nI 0), .ref k10, .int (nI 0), .ref k12, .ref k13, .ref k14, .ref k15, .ref k16, .int (nI ls), .int (nI ap), .int (bz bd), .int (nI sq), .ref k21, .ref k22, .ref k23, .ref k24, .ref k25, .int (bz pd), .int (nI pl), .int (bz tk), kv, .ref k30, .ref k31, .int (nI tz), .ref k33, .int (nI rs), .int sd])), (k1, .inl (cI, 7, .inl (nIf ki))), (k2, .inl (cI, 7, .inl (nIf op))), (k3, .inl (cI, 7, .inl (nIf (shF sh)))), (k4, .inl (cI, 7, .inl (nIf fa))), (k6, .inl (cI, 6, .inl (nIf K))), (k7, .inl (cI, 6, .inl (nIf G))), (k8, .inl (cI, 6, .inl (nIf T))), (k30, .inl (cI, 384, .inl (nIf tu))), (k31, .inl (cI, 48, .inl (nIf to))), (k10, .inl (cI, 7, .inl (nIf R)))]
    have hn_d := hi_5
    refine v_if_eq 23 13 zC dX5_leans_10 (fun _ => ?_) (fun z => absurd (by decide +kernel) z)
    refine v_ic (v := (-1)) 24 zC dX5_leans_23 (by decide +kernel) ?_
    refine v_is_n (lv2 := [(3, .int (-1)), (0, .ref r0), (1, .int d), (2, .int v)]) 25 zC dX5_leans_24 (by rw [hnE]; decide) rfl ?_
    refine v_il_n 26 zC dX5_leans_25 0 rfl ?_
    refine v_if_ge 35 29 zC dX5_leans_26 (fun z => absurd z (by decide +kernel)) (fun _ => ?_)
    refine v_al_n 30 zC dX5_leans_29 1 rfl ?_
    refine v_il_n 31 zC dX5_leans_30 0 rfl ?_
    refine v_cV (As := [.int (-1)]) (st := []) 34 0 [0, 10] zC dX5_leans_31 hA (c_X5_refuse (ev_l E) (ev_D E) cI (r0 := r0) (k1 := k1) (k2 := k2) (k3 := k3) (k4 := k4) (k6 := k6) (k7 := k7) (k8 := k8) (k10 := k10) (k12 := k12) (k13 := k13) (k14 := k14) (k15 := k15) (k16 := k16) (k21 := k21) (k22 := k22) (k23 := k23) (k24 := k24) (k25 := k25) (k30 := k30) (k31 := k31) (k33 := k33) (n := n) (m := m) (aw := 0) (ls := ls) (ap := ap) (sq := sq) (pl := pl) (tz := tz) (rs := rs) (bd := bd) (pd := pd) (tk := tk) (kv := kv) (sd := sd) (R := R) (v := (-1)) (j := 1) (hv := (by first | omega | assumption | rfl | (simp only []; omega) | decide)) (h1 := (by first | omega | assumption | rfl | (simp only []; omega) | decide)) (h6 := (by first | omega | assumption | rfl | (simp only []; omega) | decide))) cf_X5_refuse lk_X5_129 rfl rfl rfl rfl rfl (by decide +kernel) (Nat.le_of_ble_eq_true rfl) (fun rv_12 wv_13 hp_14 hm_15 => ?_)
    clear hm_15
    obtain ⟨rfl, rfl⟩ := hp_14
    show VV E 0 0 34 [(3, .int (-1)), (0, .ref r0), (1, .int d), (2, .int v)] [.int (-1)] [(r0, .inr (5, [.int (nI n), .ref k1, .ref k2, .ref k3, .ref k4, .int (nI m), .ref k6, .ref k7, .ref k8, .int (nI 0), .ref k10, .int (nI 0), .ref k12, .ref k13, .ref k14, .ref k15, .ref k16, .int (nI ls), .int (nI ap), .int (bz bd), .int (nI sq), .ref k21, .ref k22, .ref k23, .ref k24, .ref k25, .int (bz pd), .int (nI pl), .int (bz tk), kv, .ref k30, .ref k31, .int (nI tz), .ref k33, .int (nI rs), .int sd])), (k1, .inl (cI, 7, .inl (nIf ki))), (k2, .inl (cI, 7, .inl (nIf op))), (k3, .inl (cI, 7, .inl (nIf (shF sh)))), (k4, .inl (cI, 7, .inl (nIf fa))), (k6, .inl (cI, 6, .inl (nIf K))), (k7, .inl (cI, 6, .inl (nIf G))), (k8, .inl (cI, 6, .inl (nIf T))), (k30, .inl (cI, 384, .inl (nIf tu))), (k31, .inl (cI, 48, .inl (nIf to))), (k10, .inl (cI, 7, .inl (nIf (un R 1 (R 1 + 1)))))]
    refine v_iret zC zT dX5_leans_34  ?_
    first | (have g9 := hn_d; exact Or.inl ⟨hn_d, rfl, rfl⟩) | (have g9 := hlt_v; exact Or.inr (Or.inl ⟨hnn9, hlt_v, rfl, rfl⟩)) | (have g9 := hgt_v; exact Or.inr (Or.inr (Or.inl ⟨hnn9, hge_v, IX_hi hgt_v (by decide), rfl, rfl⟩))) | exact Or.inr (Or.inr (Or.inr ⟨_, _, _, _, _, hi_d, IX_nI (N := 10) (by decide) (show jv < 10 by omega), hK9, hT9, rfl, rfl⟩))
  ·
    show VV E 0 0 10 [(0, .ref r0), (1, .int d), (2, .int v)] [.int (nI 1)] [(r0, .inr (5, [.int (nI n), .ref k1, .ref k2, .ref k3, .ref k4, .int (nI m), .ref k6, .ref k7, .ref k8, .int (nI 0), .ref k10, .int (nI 0), .ref k12, .ref k13, .ref k14, .ref k15, .ref k16, .int (nI ls), .int (nI ap), .int (bz bd), .int (nI sq), .ref k21, .ref k22, .ref k23, .ref k24, .ref k25, .int (bz pd), .int (nI pl), .int (bz tk), kv, .ref k30, .ref k31, .int (nI tz), .ref k33, .int (nI rs), .int sd])), (k1, .inl (cI, 7, .inl (nIf ki))), (k2, .inl (cI, 7, .inl (nIf op))), (k3, .inl (cI, 7, .inl (nIf (shF sh)))), (k4, .inl (cI, 7, .inl (nIf fa))), (k6, .inl (cI, 6, .inl (nIf K))), (k7, .inl (cI, 6, .inl (nIf G))), (k8, .inl (cI, 6, .inl (nIf T))), (k30, .inl (cI, 384, .inl (nIf tu))), (k31, .inl (cI, 48, .inl (nIf to))), (k10, .inl (cI, 7, .inl (nIf R)))]
    subst he_7
    have hi_d := hi_8
    obtain ⟨jd, hx_jd⟩ : ∃ z, z = j_6 := ⟨_, rfl⟩
    subst hx_jd
    have hnn9 : ¬ IX m (nI jd) = none := by rw [hi_d]; exact Option.some_ne_none _
    refine v_if_eq 23 13 zC dX5_leans_10 (fun z => absurd z (by decide +kernel)) (fun _ => ?_)
    refine v_il_n 14 zC dX5_leans_13 2 rfl ?_
    refine v_ic (v := (nI 0)) 15 zC dX5_leans_14 (by decide +kernel) ?_
    refine v_bp (v := (nI 9)) 17 zC dX5_leans_15 (by decide +kernel) ?_
    refine v_cS (As := [.int v, .int (nI 0), .int (nI 9)]) (st := []) 20 [] zC dX5_leans_17 hA (c_X5_wrongNumber (ev_l E) (ev_D E) cI (v := v) (a := 0) (b := 9) (ha := (by first | omega | assumption | rfl | (simp only []; omega) | decide)) (hb := (by first | omega | assumption | rfl | (simp only []; omega) | decide))) cf_X5_wrongNumber lk_X5_213 rfl rfl rfl (by decide +kernel) (Nat.le_of_ble_eq_true rfl) (fun rv_17 wv_18 hp_19 hm_20 => ?_)
    clear hm_20
    rcases hp_19 with ⟨hq_21, rfl, rfl⟩ | ⟨hq_22, hq2_23, rfl, rfl⟩ | ⟨j_24, he_25, h1_26, h2_27, rfl, rfl⟩
    ·
      show VV E 0 0 20 [(0, .ref r0), (1, .int (nI jd)), (2, .int v)] [.int (-4)] [(r0, .inr (5, [.int (nI n), .ref k1, .ref k2, .ref k3, .ref k4, .int (nI m), .ref k6, .ref k7, .ref k8, .int (nI 0), .ref k10, .int (nI 0), .ref k12, .ref k13, .ref k14, .ref k15, .ref k16, .int (nI ls), .int (nI ap), .int (bz bd), .int (nI sq), .ref k21, .ref k22, .ref k23, .ref k24, .ref k25, .int (bz pd), .int (nI pl), .int (bz tk), kv, .ref k30, .ref k31, .int (nI tz), .ref k33, .int (nI rs), .int sd])), (k1, .inl (cI, 7, .inl (nIf ki))), (k2, .inl (cI, 7, .inl (nIf op))), (k3, .inl (cI, 7, .inl (nIf (shF sh)))), (k4, .inl (cI, 7, .inl (nIf fa))), (k6, .inl (cI, 6, .inl (nIf K))), (k7, .inl (cI, 6, .inl (nIf G))), (k8, .inl (cI, 6, .inl (nIf T))), (k30, .inl (cI, 384, .inl (nIf tu))), (k31, .inl (cI, 48, .inl (nIf to))), (k10, .inl (cI, 7, .inl (nIf R)))]
      have hlt_v := hq_21
      refine v_goto 24 zC dX5_leans_20 ?_
      refine v_is_n (lv2 := [(3, .int (-4)), (0, .ref r0), (1, .int (nI jd)), (2, .int v)]) 25 zC dX5_leans_24 (by rw [hnE]; decide) rfl ?_
      refine v_il_n 26 zC dX5_leans_25 0 rfl ?_
      refine v_if_ge 35 29 zC dX5_leans_26 (fun z => absurd z (by decide +kernel)) (fun _ => ?_)
      refine v_al_n 30 zC dX5_leans_29 1 rfl ?_
      refine v_il_n 31 zC dX5_leans_30 0 rfl ?_
      refine v_cV (As := [.int (-4)]) (st := []) 34 0 [0, 10] zC dX5_leans_31 hA (c_X5_refuse (ev_l E) (ev_D E) cI (r0 := r0) (k1 := k1) (k2 := k2) (k3 := k3) (k4 := k4) (k6 := k6) (k7 := k7) (k8 := k8) (k10 := k10) (k12 := k12) (k13 := k13) (k14 := k14) (k15 := k15) (k16 := k16) (k21 := k21) (k22 := k22) (k23 := k23) (k24 := k24) (k25 := k25) (k30 := k30) (k31 := k31) (k33 := k33) (n := n) (m := m) (aw := 0) (ls := ls) (ap := ap) (sq := sq) (pl := pl) (tz := tz) (rs := rs) (bd := bd) (pd := pd) (tk := tk) (kv := kv) (sd := sd) (R := R) (v := (-4)) (j := 4) (hv := (by first | omega | assumption | rfl | (simp only []; omega) | decide)) (h1 := (by first | omega | assumption | rfl | (simp only []; omega) | decide)) (h6 := (by first | omega | assumption | rfl | (simp only []; omega) | decide))) cf_X5_refuse lk_X5_129 rfl rfl rfl rfl rfl (by decide +kernel) (Nat.le_of_ble_eq_true rfl) (fun rv_29 wv_30 hp_31 hm_32 => ?_)
      clear hm_32
      obtain ⟨rfl, rfl⟩ := hp_31
      show VV E 0 0 34 [(3, .int (-4)), (0, .ref r0), (1, .int (nI jd)), (2, .int v)] [.int (-4)] [(r0, .inr (5, [.int (nI n), .ref k1, .ref k2, .ref k3, .ref k4, .int (nI m), .ref k6, .ref k7, .ref k8, .int (nI 0), .ref k10, .int (nI 0), .ref k12, .ref k13, .ref k14, .ref k15, .ref k16, .int (nI ls), .int (nI ap), .int (bz bd), .int (nI sq), .ref k21, .ref k22, .ref k23, .ref k24, .ref k25, .int (bz pd), .int (nI pl), .int (bz tk), kv, .ref k30, .ref k31, .int (nI tz), .ref k33, .int (nI rs), .int sd])), (k1, .inl (cI, 7, .inl (nIf ki))), (k2, .inl (cI, 7, .inl (nIf op))), (k3, .inl (cI, 7, .inl (nIf (shF sh)))), (k4, .inl (cI, 7, .inl (nIf fa))), (k6, .inl (cI, 6, .inl (nIf K))), (k7, .inl (cI, 6, .inl (nIf G))), (k8, .inl (cI, 6, .inl (nIf T))), (k30, .inl (cI, 384, .inl (nIf tu))), (k31, .inl (cI, 48, .inl (nIf to))), (k10, .inl (cI, 7, .inl (nIf (un R 4 (R 4 + 1)))))]
      refine v_iret zC zT dX5_leans_34  ?_
      first | (have g9 := hn_d; exact Or.inl ⟨hn_d, rfl, rfl⟩) | (have g9 := hlt_v; exact Or.inr (Or.inl ⟨hnn9, hlt_v, rfl, rfl⟩)) | (have g9 := hgt_v; exact Or.inr (Or.inr (Or.inl ⟨hnn9, hge_v, IX_hi hgt_v (by decide), rfl, rfl⟩))) | exact Or.inr (Or.inr (Or.inr ⟨_, _, _, _, _, hi_d, IX_nI (N := 10) (by decide) (show jv < 10 by omega), hK9, hT9, rfl, rfl⟩))
    ·
      show VV E 0 0 20 [(0, .ref r0), (1, .int (nI jd)), (2, .int v)] [.int (-6)] [(r0, .inr (5, [.int (nI n), .ref k1, .ref k2, .ref k3, .ref k4, .int (nI m), .ref k6, .ref k7, .ref k8, .int (nI 0), .ref k10, .int (nI 0), .ref k12, .ref k13, .ref k14, .ref k15, .ref k16, .int (nI ls), .int (nI ap), .int (bz bd), .int (nI sq), .ref k21, .ref k22, .ref k23, .ref k24, .ref k25, .int (bz pd), .int (nI pl), .int (bz tk), kv, .ref k30, .ref k31, .int (nI tz), .ref k33, .int (nI rs), .int sd])), (k1, .inl (cI, 7, .inl (nIf ki))), (k2, .inl (cI, 7, .inl (nIf op))), (k3, .inl (cI, 7, .inl (nIf (shF sh)))), (k4, .inl (cI, 7, .inl (nIf fa))), (k6, .inl (cI, 6, .inl (nIf K))), (k7, .inl (cI, 6, .inl (nIf G))), (k8, .inl (cI, 6, .inl (nIf T))), (k30, .inl (cI, 384, .inl (nIf tu))), (k31, .inl (cI, 48, .inl (nIf to))), (k10, .inl (cI, 7, .inl (nIf R)))]
      have hge_v := hq_22
      have hgt_v := hq2_23
      refine v_goto 24 zC dX5_leans_20 ?_
      refine v_is_n (lv2 := [(3, .int (-6)), (0, .ref r0), (1, .int (nI jd)), (2, .int v)]) 25 zC dX5_leans_24 (by rw [hnE]; decide) rfl ?_
      refine v_il_n 26 zC dX5_leans_25 0 rfl ?_
      refine v_if_ge 35 29 zC dX5_leans_26 (fun z => absurd z (by decide +kernel)) (fun _ => ?_)
      refine v_al_n 30 zC dX5_leans_29 1 rfl ?_
      refine v_il_n 31 zC dX5_leans_30 0 rfl ?_
      refine v_cV (As := [.int (-6)]) (st := []) 34 0 [0, 10] zC dX5_leans_31 hA (c_X5_refuse (ev_l E) (ev_D E) cI (r0 := r0) (k1 := k1) (k2 := k2) (k3 := k3) (k4 := k4) (k6 := k6) (k7 := k7) (k8 := k8) (k10 := k10) (k12 := k12) (k13 := k13) (k14 := k14) (k15 := k15) (k16 := k16) (k21 := k21) (k22 := k22) (k23 := k23) (k24 := k24) (k25 := k25) (k30 := k30) (k31 := k31) (k33 := k33) (n := n) (m := m) (aw := 0) (ls := ls) (ap := ap) (sq := sq) (pl := pl) (tz := tz) (rs := rs) (bd := bd) (pd := pd) (tk := tk) (kv := kv) (sd := sd) (R := R) (v := (-6)) (j := 6) (hv := (by first | omega | assumption | rfl | (simp only []; omega) | decide)) (h1 := (by first | omega | assumption | rfl | (simp only []; omega) | decide)) (h6 := (by first | omega | assumption | rfl | (simp only []; omega) | decide))) cf_X5_refuse lk_X5_129 rfl rfl rfl rfl rfl (by decide +kernel) (Nat.le_of_ble_eq_true rfl) (fun rv_34 wv_35 hp_36 hm_37 => ?_)
      clear hm_37
      obtain ⟨rfl, rfl⟩ := hp_36
      show VV E 0 0 34 [(3, .int (-6)), (0, .ref r0), (1, .int (nI jd)), (2, .int v)] [.int (-6)] [(r0, .inr (5, [.int (nI n), .ref k1, .ref k2, .ref k3, .ref k4, .int (nI m), .ref k6, .ref k7, .ref k8, .int (nI 0), .ref k10, .int (nI 0), .ref k12, .ref k13, .ref k14, .ref k15, .ref k16, .int (nI ls), .int (nI ap), .int (bz bd), .int (nI sq), .ref k21, .ref k22, .ref k23, .ref k24, .ref k25, .int (bz pd), .int (nI pl), .int (bz tk), kv, .ref k30, .ref k31, .int (nI tz), .ref k33, .int (nI rs), .int sd])), (k1, .inl (cI, 7, .inl (nIf ki))), (k2, .inl (cI, 7, .inl (nIf op))), (k3, .inl (cI, 7, .inl (nIf (shF sh)))), (k4, .inl (cI, 7, .inl (nIf fa))), (k6, .inl (cI, 6, .inl (nIf K))), (k7, .inl (cI, 6, .inl (nIf G))), (k8, .inl (cI, 6, .inl (nIf T))), (k30, .inl (cI, 384, .inl (nIf tu))), (k31, .inl (cI, 48, .inl (nIf to))), (k10, .inl (cI, 7, .inl (nIf (un R 6 (R 6 + 1)))))]
      refine v_iret zC zT dX5_leans_34  ?_
      first | (have g9 := hn_d; exact Or.inl ⟨hn_d, rfl, rfl⟩) | (have g9 := hlt_v; exact Or.inr (Or.inl ⟨hnn9, hlt_v, rfl, rfl⟩)) | (have g9 := hgt_v; exact Or.inr (Or.inr (Or.inl ⟨hnn9, hge_v, IX_hi hgt_v (by decide), rfl, rfl⟩))) | exact Or.inr (Or.inr (Or.inr ⟨_, _, _, _, _, hi_d, IX_nI (N := 10) (by decide) (show jv < 10 by omega), hK9, hT9, rfl, rfl⟩))
    ·
      show VV E 0 0 20 [(0, .ref r0), (1, .int (nI jd)), (2, .int v)] [.int (nI 0)] [(r0, .inr (5, [.int (nI n), .ref k1, .ref k2, .ref k3, .ref k4, .int (nI m), .ref k6, .ref k7, .ref k8, .int (nI 0), .ref k10, .int (nI 0), .ref k12, .ref k13, .ref k14, .ref k15, .ref k16, .int (nI ls), .int (nI ap), .int (bz bd), .int (nI sq), .ref k21, .ref k22, .ref k23, .ref k24, .ref k25, .int (bz pd), .int (nI pl), .int (bz tk), kv, .ref k30, .ref k31, .int (nI tz), .ref k33, .int (nI rs), .int sd])), (k1, .inl (cI, 7, .inl (nIf ki))), (k2, .inl (cI, 7, .inl (nIf op))), (k3, .inl (cI, 7, .inl (nIf (shF sh)))), (k4, .inl (cI, 7, .inl (nIf fa))), (k6, .inl (cI, 6, .inl (nIf K))), (k7, .inl (cI, 6, .inl (nIf G))), (k8, .inl (cI, 6, .inl (nIf T))), (k30, .inl (cI, 384, .inl (nIf tu))), (k31, .inl (cI, 48, .inl (nIf to))), (k10, .inl (cI, 7, .inl (nIf R)))]
      subst he_25
      obtain ⟨jv, he_jv⟩ : ∃ z, z = j_24 := ⟨_, rfl⟩
      subst he_jv
      have h1_jv := h1_26
      have h2_jv := h2_27
      refine v_goto 24 zC dX5_leans_20 ?_
      refine v_is_n (lv2 := [(3, .int (nI 0)), (0, .ref r0), (1, .int (nI jd)), (2, .int (nI jv))]) 25 zC dX5_leans_24 (by rw [hnE]; decide) rfl ?_
      refine v_il_n 26 zC dX5_leans_25 0 rfl ?_
      refine v_if_ge 35 29 zC dX5_leans_26 (fun _ => ?_) (fun z => absurd (by decide +kernel) z)
      refine v_al_n 36 zC dX5_leans_35 1 rfl ?_
      refine v_cV (As := []) (st := []) 39 0 [0, 1, 2, 3, 4, 5, 6, 7, 8, 9] zC dX5_leans_36 hA (c_X5_keepTurn (ev_l E) (ev_D E) cI (r0 := r0) (k1 := k1) (k2 := k2) (k3 := k3) (k4 := k4) (k6 := k6) (k7 := k7) (k8 := k8) (k10 := k10) (k12 := k12) (k13 := k13) (k14 := k14) (k15 := k15) (k16 := k16) (k21 := k21) (k22 := k22) (k23 := k23) (k24 := k24) (k25 := k25) (k30 := k30) (k31 := k31) (k33 := k33) (n := n) (m := m) (aw := 0) (ls := ls) (ap := ap) (sq := sq) (pl := pl) (tz := tz) (rs := rs) (bd := bd) (pd := pd) (tk := tk) (kv := kv) (sd := sd) (ki := ki) (op := op) (fa := fa) (K := K) (G := G) (T := T) (sh := sh) (tu := tu) (to := to) (ht := (by first | omega | assumption | rfl | (simp only []; omega) | decide))) cf_X5_keepTurn lk_X5_222 rfl rfl rfl rfl rfl (by decide +kernel) (Nat.le_of_ble_eq_true rfl) (fun rv_39 wv_40 hp_41 hm_42 => ?_)
      clear hm_42
      obtain ⟨t1_43, u1_44, o1_45, hK_46, ht1_47, rfl, rfl⟩ := hp_41
      show VV E 0 0 39 [(3, .int (nI 0)), (0, .ref r0), (1, .int (nI jd)), (2, .int (nI jv))] [] [(r0, .inr (5, [.int (nI n), .ref k1, .ref k2, .ref k3, .ref k4, .int (nI m), .ref k6, .ref k7, .ref k8, .int (nI 0), .ref k10, .int (nI 0), .ref k12, .ref k13, .ref k14, .ref k15, .ref k16, .int (nI ls), .int (nI ap), .int (bz bd), .int (nI sq), .ref k21, .ref k22, .ref k23, .ref k24, .ref k25, .int (bz pd), .int (nI 48), .int (bz true), .ref k31, .ref k30, .ref k31, .int (nI t1_43), .ref k33, .int (nI rs), .int sd])), (k1, .inl (cI, 7, .inl (nIf ki))), (k2, .inl (cI, 7, .inl (nIf op))), (k3, .inl (cI, 7, .inl (nIf (shF sh)))), (k4, .inl (cI, 7, .inl (nIf fa))), (k6, .inl (cI, 6, .inl (nIf K))), (k7, .inl (cI, 6, .inl (nIf G))), (k8, .inl (cI, 6, .inl (nIf T))), (k30, .inl (cI, 384, .inl (nIf u1_44))), (k31, .inl (cI, 48, .inl (nIf o1_45))), (k10, .inl (cI, 7, .inl (nIf R)))]
      have hK9 := hK_46
      have hT9 := ht1_47
      refine v_al_n 40 zC dX5_leans_39 1 rfl ?_
      refine v_gf 43 0 zC dX5_leans_40 gf_X5_25 rfl rfl ?_
      refine v_il_n 44 zC dX5_leans_43 2 rfl ?_
      refine v_ialn (v := (nI (G jd))) 45 6 zC dX5_leans_44 rfl (by omega) rfl ?_
      refine v_is (lv2 := [(4, .int (nI (G jd))), (3, .int (nI 0)), (0, .ref r0), (1, .int (nI jd)), (2, .int (nI jv))]) 47 zC dX5_leans_45 (by rw [hnE]; decide) rfl ?_
      refine v_al_n 48 zC dX5_leans_47 2 rfl ?_
      refine v_gf 51 0 zC dX5_leans_48 gf_X5_25 rfl rfl ?_
      refine v_il_n 52 zC dX5_leans_51 3 rfl ?_
      refine v_il_n 53 zC dX5_leans_52 4 rfl ?_
      refine v_iasn (ws2 := [(r0, .inr (5, [.int (nI n), .ref k1, .ref k2, .ref k3, .ref k4, .int (nI m), .ref k6, .ref k7, .ref k8, .int (nI 0), .ref k10, .int (nI 0), .ref k12, .ref k13, .ref k14, .ref k15, .ref k16, .int (nI ls), .int (nI ap), .int (bz bd), .int (nI sq), .ref k21, .ref k22, .ref k23, .ref k24, .ref k25, .int (bz pd), .int (nI 48), .int (bz true), .ref k31, .ref k30, .ref k31, .int (nI t1_43), .ref k33, .int (nI rs), .int sd])), (k1, .inl (cI, 7, .inl (nIf ki))), (k2, .inl (cI, 7, .inl (nIf op))), (k3, .inl (cI, 7, .inl (nIf (shF sh)))), (k4, .inl (cI, 7, .inl (nIf fa))), (k6, .inl (cI, 6, .inl (nIf K))), (k7, .inl (cI, 6, .inl (nIf (un G jd jv)))), (k8, .inl (cI, 6, .inl (nIf T))), (k30, .inl (cI, 384, .inl (nIf u1_44))), (k31, .inl (cI, 48, .inl (nIf o1_45))), (k10, .inl (cI, 7, .inl (nIf R)))]) 54 6 zC dX5_leans_53 rfl (by omega) (by rw [upd_nIf]; first | done | rfl) ?_
      refine v_il 56 zC dX5_leans_54 0 rfl ?_
      refine v_iret zC zT dX5_leans_56  ?_
      first | (have g9 := hn_d; exact Or.inl ⟨hn_d, rfl, rfl⟩) | (have g9 := hlt_v; exact Or.inr (Or.inl ⟨hnn9, hlt_v, rfl, rfl⟩)) | (have g9 := hgt_v; exact Or.inr (Or.inr (Or.inl ⟨hnn9, hge_v, IX_hi hgt_v (by decide), rfl, rfl⟩))) | exact Or.inr (Or.inr (Or.inr ⟨_, _, _, _, _, hi_d, IX_nI (N := 10) (by decide) (show jv < 10 by omega), hK9, hT9, rfl, rfl⟩))
set_option maxRecDepth 100000 in
set_option maxHeartbeats 4000000 in
theorem c_X5_learns (l : Launch) (D : va_G) (cI : ClassId) (r0 k1 k2 k3 k4 k6 k7 k8 k10 k12 k13 k14 k15 k16 k21 k22 k23 k24 k25 k30 k31 k33 : Nat) (n m ls ap sq pl tz rs : Nat) (bd pd tk : Bool) (kv : Value) (sd : Int32) (fa : Nat → Nat) (R : Nat → Nat) (p h : Int32) (hn : n ≤ 7) : CT l yX5_learns cX5_learns 4 (some .int) { frames := 2, cells := 0, slots := 0, locals := 46 } D cI [.ref r0, .int p, .int h] [(r0, .inr (5, [.int (nI n), .ref k1, .ref k2, .ref k3, .ref k4, .int (nI m), .ref k6, .ref k7, .ref k8, .int (nI 0), .ref k10, .int (nI 0), .ref k12, .ref k13, .ref k14, .ref k15, .ref k16, .int (nI ls), .int (nI ap), .int (bz bd), .int (nI sq), .ref k21, .ref k22, .ref k23, .ref k24, .ref k25, .int (bz pd), .int (nI pl), .int (bz tk), kv, .ref k30, .ref k31, .int (nI tz), .ref k33, .int (nI rs), .int sd])), (k4, .inl (cI, 7, .inl (nIf fa))), (k10, .inl (cI, 7, .inl (nIf R)))] (fun zr zw => ((IX n p = none ∨ IX 10 h = none) ∧ zr = some (.int (-1)) ∧ zw = [(r0, .inr (5, [.int (nI n), .ref k1, .ref k2, .ref k3, .ref k4, .int (nI m), .ref k6, .ref k7, .ref k8, .int (nI 0), .ref k10, .int (nI 0), .ref k12, .ref k13, .ref k14, .ref k15, .ref k16, .int (nI ls), .int (nI ap), .int (bz bd), .int (nI sq), .ref k21, .ref k22, .ref k23, .ref k24, .ref k25, .int (bz pd), .int (nI pl), .int (bz tk), kv, .ref k30, .ref k31, .int (nI tz), .ref k33, .int (nI rs), .int sd])), (k4, .inl (cI, 7, .inl (nIf fa))), (k10, .inl (cI, 7, .inl (nIf (un R 1 (R 1 + 1)))))]) ∨ (∃ j : Nat, ∃ k : Nat, (IX n p = some j) ∧ (IX 10 h = some k) ∧ zr = some (.int (bz (!Nat.testBit (fa j) k))) ∧ zw = [(r0, .inr (5, [.int (nI n), .ref k1, .ref k2, .ref k3, .ref k4, .int (nI m), .ref k6, .ref k7, .ref k8, .int (nI 0), .ref k10, .int (nI 0), .ref k12, .ref k13, .ref k14, .ref k15, .ref k16, .int (nI ls), .int (nI ap), .int (bz bd), .int (nI sq), .ref k21, .ref k22, .ref k23, .ref k24, .ref k25, .int (bz pd), .int (nI pl), .int (bz tk), kv, .ref k30, .ref k31, .int (nI 0), .ref k33, .int (nI rs), .int sd])), (k4, .inl (cI, 7, .inl (nIf (un fa j (fa j ||| 2 ^ k))))), (k10, .inl (cI, 7, .inl (nIf R)))])) := by
  refine CT_of RX5 rfl (by decide +kernel) (Nat.le_of_ble_eq_true rfl) (fun E hnE zC zT => ?_)
  have hA : ∀ q, (ev_s E).heap.size ≤ q → ev_A E q := fun q h => by rw [zT.2]; exact Or.inr h
  show VV E 0 0 0 [(0, .ref r0), (1, .int p), (2, .int h)] [] [(r0, .inr (5, [.int (nI n), .ref k1, .ref k2, .ref k3, .ref k4, .int (nI m), .ref k6, .ref k7, .ref k8, .int (nI 0), .ref k10, .int (nI 0), .ref k12, .ref k13, .ref k14, .ref k15, .ref k16, .int (nI ls), .int (nI ap), .int (bz bd), .int (nI sq), .ref k21, .ref k22, .ref k23, .ref k24, .ref k25, .int (bz pd), .int (nI pl), .int (bz tk), kv, .ref k30, .ref k31, .int (nI tz), .ref k33, .int (nI rs), .int sd])), (k4, .inl (cI, 7, .inl (nIf fa))), (k10, .inl (cI, 7, .inl (nIf R)))]
  refine v_al_n 1 zC dX5_learns_0 0 rfl ?_
  refine v_ic (v := (nI 0)) 2 zC dX5_learns_1 (by decide +kernel) ?_
  refine v_pf (ws2 := [(r0, .inr (5, [.int (nI n), .ref k1, .ref k2, .ref k3, .ref k4, .int (nI m), .ref k6, .ref k7, .ref k8, .int (nI 0), .ref k10, .int (nI 0), .ref k12, .ref k13, .ref k14, .ref k15, .ref k16, .int (nI ls), .int (nI ap), .int (bz bd), .int (nI sq), .ref k21, .ref k22, .ref k23, .ref k24, .ref k25, .int (bz pd), .int (nI pl), .int (bz tk), kv, .ref k30, .ref k31, .int (nI tz), .ref k33, .int (nI rs), .int sd])), (k4, .inl (cI, 7, .inl (nIf fa))), (k10, .inl (cI, 7, .inl (nIf R)))]) 5 0 zC dX5_learns_2 pf_X5_73 rfl (Nat.le_of_ble_eq_true rfl) rfl rfl rfl ?_
  refine v_al_n 6 zC dX5_learns_5 0 rfl ?_
  refine v_il_n 7 zC dX5_learns_6 1 rfl ?_
  refine v_cV (As := [.int p]) (st := []) 10 0 [0] zC dX5_learns_7 hA (c_X5_isOne (ev_l E) (ev_D E) cI (r0 := r0) (k1 := k1) (k2 := k2) (k3 := k3) (k4 := k4) (k6 := k6) (k7 := k7) (k8 := k8) (k10 := k10) (k12 := k12) (k13 := k13) (k14 := k14) (k15 := k15) (k16 := k16) (k21 := k21) (k22 := k22) (k23 := k23) (k24 := k24) (k25 := k25) (k30 := k30) (k31 := k31) (k33 := k33) (n := n) (m := m) (aw := 0) (ls := ls) (ap := ap) (sq := sq) (pl := pl) (tz := tz) (rs := rs) (bd := bd) (pd := pd) (tk := tk) (kv := kv) (sd := sd) (p := p) (hn := (by first | omega | assumption | rfl | (simp only []; omega) | decide))) cf_X5_isOne lk_X5_164 rfl rfl rfl rfl rfl (by decide +kernel) (Nat.le_of_ble_eq_true rfl) (fun rv_1 wv_2 hp_3 hm_4 => ?_)
  clear hm_4
  rcases hp_3 with ⟨hi_5, rfl, rfl⟩ | ⟨j_6, he_7, hi_8, hj_9, rfl, rfl⟩
  ·
    show VV E 0 0 10 [(0, .ref r0), (1, .int p), (2, .int h)] [.int (nI 0)] [(r0, .inr (5, [.int (nI n), .ref k1, .ref k2, .ref k3, .ref k4, .int (nI m), .ref k6, .ref k7, .ref k8, .int (nI 0), .ref k10, .int (nI 0), .ref k12, .ref k13, .ref k14, .ref k15, .ref k16, .int (nI ls), .int (nI ap), .int (bz bd), .int (nI sq), .ref k21, .ref k22, .ref k23, .ref k24, .ref k25, .int (bz pd), .int (nI pl), .int (bz tk), kv, .ref k30, .ref k31, .int (nI tz), .ref k33, .int (nI rs), .int sd])), (k4, .inl (cI, 7, .inl (nIf fa))), (k10, .inl (cI, 7, .inl (nIf R)))]
    have hn_p := hi_5
    refine v_if_eq 20 13 zC dX5_learns_10 (fun _ => ?_) (fun z => absurd (by decide +kernel) z)
    refine v_al_n 21 zC dX5_learns_20 0 rfl ?_
    refine v_ic (v := (-1)) 22 zC dX5_learns_21 (by decide +kernel) ?_
    refine v_cV (As := [.int (-1)]) (st := []) 25 0 [0, 2] zC dX5_learns_22 hA (c_X5_refuse (ev_l E) (ev_D E) cI (r0 := r0) (k1 := k1) (k2 := k2) (k3 := k3) (k4 := k4) (k6 := k6) (k7 := k7) (k8 := k8) (k10 := k10) (k12 := k12) (k13 := k13) (k14 := k14) (k15 := k15) (k16 := k16) (k21 := k21) (k22 := k22) (k23 := k23) (k24 := k24) (k25 := k25) (k30 := k30) (k31 := k31) (k33 := k33) (n := n) (m := m) (aw := 0) (ls := ls) (ap := ap) (sq := sq) (pl := pl) (tz := tz) (rs := rs) (bd := bd) (pd := pd) (tk := tk) (kv := kv) (sd := sd) (R := R) (v := (-1)) (j := 1) (hv := (by first | omega | assumption | rfl | (simp only []; omega) | decide)) (h1 := (by first | omega | assumption | rfl | (simp only []; omega) | decide)) (h6 := (by first | omega | assumption | rfl | (simp only []; omega) | decide))) cf_X5_refuse lk_X5_129 rfl rfl rfl rfl rfl (by decide +kernel) (Nat.le_of_ble_eq_true rfl) (fun rv_11 wv_12 hp_13 hm_14 => ?_)
    clear hm_14
    obtain ⟨rfl, rfl⟩ := hp_13
    show VV E 0 0 25 [(0, .ref r0), (1, .int p), (2, .int h)] [.int (-1)] [(r0, .inr (5, [.int (nI n), .ref k1, .ref k2, .ref k3, .ref k4, .int (nI m), .ref k6, .ref k7, .ref k8, .int (nI 0), .ref k10, .int (nI 0), .ref k12, .ref k13, .ref k14, .ref k15, .ref k16, .int (nI ls), .int (nI ap), .int (bz bd), .int (nI sq), .ref k21, .ref k22, .ref k23, .ref k24, .ref k25, .int (bz pd), .int (nI pl), .int (bz tk), kv, .ref k30, .ref k31, .int (nI tz), .ref k33, .int (nI rs), .int sd])), (k4, .inl (cI, 7, .inl (nIf fa))), (k10, .inl (cI, 7, .inl (nIf (un R 1 (R 1 + 1)))))]
    refine v_iret zC zT dX5_learns_25  ?_
    first | (have g9 := hn_p; exact Or.inl ⟨Or.inl hn_p, rfl, rfl⟩) | (have g9 := hn_h; exact Or.inl ⟨Or.inr hn_h, rfl, rfl⟩) | exact Or.inr ⟨_, _, hi_p, hi_h, rfl, rfl⟩
  ·
    show VV E 0 0 10 [(0, .ref r0), (1, .int p), (2, .int h)] [.int (nI 1)] [(r0, .inr (5, [.int (nI n), .ref k1, .ref k2, .ref k3, .ref k4, .int (nI m), .ref k6, .ref k7, .ref k8, .int (nI 0), .ref k10, .int (nI 0), .ref k12, .ref k13, .ref k14, .ref k15, .ref k16, .int (nI ls), .int (nI ap), .int (bz bd), .int (nI sq), .ref k21, .ref k22, .ref k23, .ref k24, .ref k25, .int (bz pd), .int (nI pl), .int (bz tk), kv, .ref k30, .ref k31, .int (nI tz), .ref k33, .int (nI rs), .int sd])), (k4, .inl (cI, 7, .inl (nIf fa))), (k10, .inl (cI, 7, .inl (nIf R)))]
    subst he_7
    have hi_p := hi_8
    obtain ⟨jp, hx_jp⟩ : ∃ z, z = j_6 := ⟨_, rfl⟩
    subst hx_jp
    refine v_if_eq 20 13 zC dX5_learns_10 (fun z => absurd z (by decide +kernel)) (fun _ => ?_)
    refine v_il_n 14 zC dX5_learns_13 2 rfl ?_
    refine v_cS (As := [.int h]) (st := []) 17 [] zC dX5_learns_14 hA (c_X5_isFact (ev_l E) (ev_D E) cI (p := h) ) cf_X5_isFact lk_X5_225 rfl rfl rfl (by decide +kernel) (Nat.le_of_ble_eq_true rfl) (fun rv_16 wv_17 hp_18 hm_19 => ?_)
    clear hm_19
    rcases hp_18 with ⟨hi_20, rfl, rfl⟩ | ⟨j_21, he_22, hi_23, hj_24, rfl, rfl⟩
    ·
      show VV E 0 0 17 [(0, .ref r0), (1, .int (nI jp)), (2, .int h)] [.int (nI 0)] [(r0, .inr (5, [.int (nI n), .ref k1, .ref k2, .ref k3, .ref k4, .int (nI m), .ref k6, .ref k7, .ref k8, .int (nI 0), .ref k10, .int (nI 0), .ref k12, .ref k13, .ref k14, .ref k15, .ref k16, .int (nI ls), .int (nI ap), .int (bz bd), .int (nI sq), .ref k21, .ref k22, .ref k23, .ref k24, .ref k25, .int (bz pd), .int (nI pl), .int (bz tk), kv, .ref k30, .ref k31, .int (nI tz), .ref k33, .int (nI rs), .int sd])), (k4, .inl (cI, 7, .inl (nIf fa))), (k10, .inl (cI, 7, .inl (nIf R)))]
      have hn_h := hi_20
      refine v_if_ne 26 20 zC dX5_learns_17 (fun z => absurd (by decide +kernel) z) (fun _ => ?_)
      refine v_al_n 21 zC dX5_learns_20 0 rfl ?_
      refine v_ic (v := (-1)) 22 zC dX5_learns_21 (by decide +kernel) ?_
      refine v_cV (As := [.int (-1)]) (st := []) 25 0 [0, 2] zC dX5_learns_22 hA (c_X5_refuse (ev_l E) (ev_D E) cI (r0 := r0) (k1 := k1) (k2 := k2) (k3 := k3) (k4 := k4) (k6 := k6) (k7 := k7) (k8 := k8) (k10 := k10) (k12 := k12) (k13 := k13) (k14 := k14) (k15 := k15) (k16 := k16) (k21 := k21) (k22 := k22) (k23 := k23) (k24 := k24) (k25 := k25) (k30 := k30) (k31 := k31) (k33 := k33) (n := n) (m := m) (aw := 0) (ls := ls) (ap := ap) (sq := sq) (pl := pl) (tz := tz) (rs := rs) (bd := bd) (pd := pd) (tk := tk) (kv := kv) (sd := sd) (R := R) (v := (-1)) (j := 1) (hv := (by first | omega | assumption | rfl | (simp only []; omega) | decide)) (h1 := (by first | omega | assumption | rfl | (simp only []; omega) | decide)) (h6 := (by first | omega | assumption | rfl | (simp only []; omega) | decide))) cf_X5_refuse lk_X5_129 rfl rfl rfl rfl rfl (by decide +kernel) (Nat.le_of_ble_eq_true rfl) (fun rv_26 wv_27 hp_28 hm_29 => ?_)
      clear hm_29
      obtain ⟨rfl, rfl⟩ := hp_28
      show VV E 0 0 25 [(0, .ref r0), (1, .int (nI jp)), (2, .int h)] [.int (-1)] [(r0, .inr (5, [.int (nI n), .ref k1, .ref k2, .ref k3, .ref k4, .int (nI m), .ref k6, .ref k7, .ref k8, .int (nI 0), .ref k10, .int (nI 0), .ref k12, .ref k13, .ref k14, .ref k15, .ref k16, .int (nI ls), .int (nI ap), .int (bz bd), .int (nI sq), .ref k21, .ref k22, .ref k23, .ref k24, .ref k25, .int (bz pd), .int (nI pl), .int (bz tk), kv, .ref k30, .ref k31, .int (nI tz), .ref k33, .int (nI rs), .int sd])), (k4, .inl (cI, 7, .inl (nIf fa))), (k10, .inl (cI, 7, .inl (nIf (un R 1 (R 1 + 1)))))]
      refine v_iret zC zT dX5_learns_25  ?_
      first | (have g9 := hn_p; exact Or.inl ⟨Or.inl hn_p, rfl, rfl⟩) | (have g9 := hn_h; exact Or.inl ⟨Or.inr hn_h, rfl, rfl⟩) | exact Or.inr ⟨_, _, hi_p, hi_h, rfl, rfl⟩
    ·
      show VV E 0 0 17 [(0, .ref r0), (1, .int (nI jp)), (2, .int h)] [.int (nI 1)] [(r0, .inr (5, [.int (nI n), .ref k1, .ref k2, .ref k3, .ref k4, .int (nI m), .ref k6, .ref k7, .ref k8, .int (nI 0), .ref k10, .int (nI 0), .ref k12, .ref k13, .ref k14, .ref k15, .ref k16, .int (nI ls), .int (nI ap), .int (bz bd), .int (nI sq), .ref k21, .ref k22, .ref k23, .ref k24, .ref k25, .int (bz pd), .int (nI pl), .int (bz tk), kv, .ref k30, .ref k31, .int (nI tz), .ref k33, .int (nI rs), .int sd])), (k4, .inl (cI, 7, .inl (nIf fa))), (k10, .inl (cI, 7, .inl (nIf R)))]
      subst he_22
      have hi_h := hi_23
      obtain ⟨jh, hx_jh⟩ : ∃ z, z = j_21 := ⟨_, rfl⟩
      subst hx_jh
      refine v_if_ne 26 20 zC dX5_learns_17 (fun _ => ?_) (fun z => absurd z (by decide +kernel))
      refine v_al_n 27 zC dX5_learns_26 0 rfl ?_
      refine v_gf 30 0 zC dX5_learns_27 gf_X5_19 rfl rfl ?_
      refine v_il_n 31 zC dX5_learns_30 1 rfl ?_
      refine v_ialn (v := (nI (fa jp))) 32 1 zC dX5_learns_31 rfl (by omega) rfl ?_
      refine v_il_n 33 zC dX5_learns_32 2 rfl ?_
      refine v_ishr (v := ((nI (fa jp)) >>> (nI jh))) 34 zC dX5_learns_33 (sr_of (by omega)) ?_
      refine v_ic (v := (nI 1)) 35 zC dX5_learns_34 (by decide +kernel) ?_
      refine v_iand (v := (bz (Nat.testBit (fa jp) jh))) 36 zC dX5_learns_35 (tb_of _ (by omega)) ?_
      refine v_is_n (lv2 := [(3, .int (bz (Nat.testBit (fa jp) jh))), (0, .ref r0), (1, .int (nI jp)), (2, .int (nI jh))]) 37 zC dX5_learns_36 (by rw [hnE]; decide) rfl ?_
      refine v_al_n 38 zC dX5_learns_37 1 rfl ?_
      refine v_gf 41 0 zC dX5_learns_38 gf_X5_19 rfl rfl ?_
      refine v_il_n 42 zC dX5_learns_41 2 rfl ?_
      refine v_dup2 43 zC dX5_learns_42 rfl rfl ?_
      refine v_ialn (v := (nI (fa jp))) 44 1 zC dX5_learns_43 rfl (by omega) rfl ?_
      refine v_ic (v := (nI 1)) 45 zC dX5_learns_44 (by decide +kernel) ?_
      refine v_il_n 46 zC dX5_learns_45 3 rfl ?_
      refine v_ishl (v := (nI (2 ^ jh))) 47 zC dX5_learns_46 (b1n (by omega)) ?_
      refine v_ior (v := (nI ((fa jp) ||| (2 ^ jh)))) 48 zC dX5_learns_47 (fa_or _ _) ?_
      refine v_iasn (ws2 := [(r0, .inr (5, [.int (nI n), .ref k1, .ref k2, .ref k3, .ref k4, .int (nI m), .ref k6, .ref k7, .ref k8, .int (nI 0), .ref k10, .int (nI 0), .ref k12, .ref k13, .ref k14, .ref k15, .ref k16, .int (nI ls), .int (nI ap), .int (bz bd), .int (nI sq), .ref k21, .ref k22, .ref k23, .ref k24, .ref k25, .int (bz pd), .int (nI pl), .int (bz tk), kv, .ref k30, .ref k31, .int (nI tz), .ref k33, .int (nI rs), .int sd])), (k4, .inl (cI, 7, .inl (nIf (un fa jp ((fa jp) ||| (2 ^ jh)))))), (k10, .inl (cI, 7, .inl (nIf R)))]) 49 1 zC dX5_learns_48 rfl (by omega) (by rw [upd_nIf]; first | done | rfl) ?_
      refine v_al_n 50 zC dX5_learns_49 1 rfl ?_
      refine v_ic (v := (nI 0)) 51 zC dX5_learns_50 (by decide +kernel) ?_
      refine v_pf (ws2 := [(r0, .inr (5, [.int (nI n), .ref k1, .ref k2, .ref k3, .ref k4, .int (nI m), .ref k6, .ref k7, .ref k8, .int (nI 0), .ref k10, .int (nI 0), .ref k12, .ref k13, .ref k14, .ref k15, .ref k16, .int (nI ls), .int (nI ap), .int (bz bd), .int (nI sq), .ref k21, .ref k22, .ref k23, .ref k24, .ref k25, .int (bz pd), .int (nI pl), .int (bz tk), kv, .ref k30, .ref k31, .int (nI 0), .ref k33, .int (nI rs), .int sd])), (k4, .inl (cI, 7, .inl (nIf (un fa jp ((fa jp) ||| (2 ^ jh)))))), (k10, .inl (cI, 7, .inl (nIf R)))]) 54 0 zC dX5_learns_51 pf_X5_188 rfl (Nat.le_of_ble_eq_true rfl) rfl rfl rfl ?_
      refine v_ic (v := (nI 1)) 55 zC dX5_learns_54 (by decide +kernel) ?_
      refine v_il_n 56 zC dX5_learns_55 0 rfl ?_
      refine v_isub (v := (bz (!Nat.testBit (fa jp) jh))) 57 zC dX5_learns_56 (b_not _) ?_
      refine v_iret zC zT dX5_learns_57  ?_
      first | (have g9 := hn_p; exact Or.inl ⟨Or.inl hn_p, rfl, rfl⟩) | (have g9 := hn_h; exact Or.inl ⟨Or.inr hn_h, rfl, rfl⟩) | exact Or.inr ⟨_, _, hi_p, hi_h, rfl, rfl⟩
set_option maxRecDepth 100000 in
set_option maxHeartbeats 4000000 in
theorem c_X5_passes (l : Launch) (D : va_G) (cI : ClassId) (r0 k1 k2 k3 k4 k6 k7 k8 k10 k12 k13 k14 k15 k16 k21 k22 k23 k24 k25 k30 k31 k33 : Nat) (n m ls ap sq pl tz rs : Nat) (bd pd tk : Bool) (kv : Value) (sd : Int32) (ki op fa K G T : Nat → Nat) (sh : Nat) (kw kn : Nat → Nat) (M : Nat → Option Nat) (mw : Nat → Nat) (hw : FW n m sh ki op fa K G T) (hkw : ∀ z, kw z < 1024) (hkn : ∀ z, kn z < 1024) (hM : ∀ z v, M z = some v → v < 7) : CT l yX5_passes cX5_passes 1 (some .int) { frames := 7, cells := 0, slots := 0, locals := 160 } D cI [.ref r0] [(r0, .inr (5, [.int (nI n), .ref k1, .ref k2, .ref k3, .ref k4, .int (nI m), .ref k6, .ref k7, .ref k8, .int (nI 0), .ref k10, .int (nI 0), .ref k12, .ref k13, .ref k14, .ref k15, .ref k16, .int (nI ls), .int (nI ap), .int (bz bd), .int (nI sq), .ref k21, .ref k22, .ref k23, .ref k24, .ref k25, .int (bz pd), .int (nI pl), .int (bz tk), kv, .ref k30, .ref k31, .int (nI tz), .ref k33, .int (nI rs), .int sd])), (k1, .inl (cI, 7, .inl (nIf ki))), (k2, .inl (cI, 7, .inl (nIf op))), (k3, .inl (cI, 7, .inl (nIf (shF sh)))), (k4, .inl (cI, 7, .inl (nIf fa))), (k6, .inl (cI, 6, .inl (nIf K))), (k7, .inl (cI, 6, .inl (nIf G))), (k8, .inl (cI, 6, .inl (nIf T))), (k12, .inl (cI, 7, .inl (nIf kw))), (k13, .inl (cI, 175, .inl (nIf kn))), (k14, .inl (cI, 144, .inl (mIf M))), (k15, .inl (cI, 7, .inl (nIf mw)))] (fun zr zw => (∃ kw1 : Nat → Nat, ∃ kn1 : Nat → Nat, ∃ M1 : Nat → Option Nat, ∃ mw1 : Nat → Nat, (∀ z, PASF (n, m, sh, 0, ki, op, fa, K, G, T) z < 1024) ∧ (∀ z, kw1 z < 1024) ∧ (∀ z, kn1 z < 1024) ∧ (∀ z v, M1 z = some v → v < 7) ∧ zr = some (.int (nI (ALL (n, m, sh, 0, ki, op, fa, K, G, T)) - nI (sm (fun p => pcn (fa p)) n))) ∧ zw = [(r0, .inr (5, [.int (nI n), .ref k1, .ref k2, .ref k3, .ref k4, .int (nI m), .ref k6, .ref k7, .ref k8, .int (nI 0), .ref k10, .int (nI 0), .ref k12, .ref k13, .ref k14, .ref k15, .ref k16, .int (nI ls), .int (nI ap), .int (bz bd), .int (nI sq), .ref k21, .ref k22, .ref k23, .ref k24, .ref k25, .int (bz pd), .int (nI pl), .int (bz tk), kv, .ref k30, .ref k31, .int (nI 0), .ref k33, .int (nI rs), .int sd])), (k1, .inl (cI, 7, .inl (nIf ki))), (k2, .inl (cI, 7, .inl (nIf op))), (k3, .inl (cI, 7, .inl (nIf (shF sh)))), (k4, .inl (cI, 7, .inl (nIf (PASF (n, m, sh, 0, ki, op, fa, K, G, T))))), (k6, .inl (cI, 6, .inl (nIf K))), (k7, .inl (cI, 6, .inl (nIf G))), (k8, .inl (cI, 6, .inl (nIf T))), (k12, .inl (cI, 7, .inl (nIf kw1))), (k13, .inl (cI, 175, .inl (nIf kn1))), (k14, .inl (cI, 144, .inl (mIf M1))), (k15, .inl (cI, 7, .inl (nIf mw1)))])) := by
  refine CT_of RX5 rfl (by decide +kernel) (Nat.le_of_ble_eq_true rfl) (fun E hnE zC zT => ?_)
  have hA : ∀ q, (ev_s E).heap.size ≤ q → ev_A E q := fun q h => by rw [zT.2]; exact Or.inr h
  obtain ⟨hn, hm, hsh, hki, hop, hfa, hK, hG, hT, vki, vop, vfa, vK, vG, vT⟩ := id hw
  show VV E 0 0 0 [(0, .ref r0)] [] [(r0, .inr (5, [.int (nI n), .ref k1, .ref k2, .ref k3, .ref k4, .int (nI m), .ref k6, .ref k7, .ref k8, .int (nI 0), .ref k10, .int (nI 0), .ref k12, .ref k13, .ref k14, .ref k15, .ref k16, .int (nI ls), .int (nI ap), .int (bz bd), .int (nI sq), .ref k21, .ref k22, .ref k23, .ref k24, .ref k25, .int (bz pd), .int (nI pl), .int (bz tk), kv, .ref k30, .ref k31, .int (nI tz), .ref k33, .int (nI rs), .int sd])), (k1, .inl (cI, 7, .inl (nIf ki))), (k2, .inl (cI, 7, .inl (nIf op))), (k3, .inl (cI, 7, .inl (nIf (shF sh)))), (k4, .inl (cI, 7, .inl (nIf fa))), (k6, .inl (cI, 6, .inl (nIf K))), (k7, .inl (cI, 6, .inl (nIf G))), (k8, .inl (cI, 6, .inl (nIf T))), (k12, .inl (cI, 7, .inl (nIf kw))), (k13, .inl (cI, 175, .inl (nIf kn))), (k14, .inl (cI, 144, .inl (mIf M))), (k15, .inl (cI, 7, .inl (nIf mw)))]
  refine v_al_n 1 zC dX5_passes_0 0 rfl ?_
  refine v_ic (v := (nI 0)) 2 zC dX5_passes_1 (by decide +kernel) ?_
  refine v_pf (ws2 := [(r0, .inr (5, [.int (nI n), .ref k1, .ref k2, .ref k3, .ref k4, .int (nI m), .ref k6, .ref k7, .ref k8, .int (nI 0), .ref k10, .int (nI 0), .ref k12, .ref k13, .ref k14, .ref k15, .ref k16, .int (nI ls), .int (nI ap), .int (bz bd), .int (nI sq), .ref k21, .ref k22, .ref k23, .ref k24, .ref k25, .int (bz pd), .int (nI pl), .int (bz tk), kv, .ref k30, .ref k31, .int (nI tz), .ref k33, .int (nI rs), .int sd])), (k1, .inl (cI, 7, .inl (nIf ki))), (k2, .inl (cI, 7, .inl (nIf op))), (k3, .inl (cI, 7, .inl (nIf (shF sh)))), (k4, .inl (cI, 7, .inl (nIf fa))), (k6, .inl (cI, 6, .inl (nIf K))), (k7, .inl (cI, 6, .inl (nIf G))), (k8, .inl (cI, 6, .inl (nIf T))), (k12, .inl (cI, 7, .inl (nIf kw))), (k13, .inl (cI, 175, .inl (nIf kn))), (k14, .inl (cI, 144, .inl (mIf M))), (k15, .inl (cI, 7, .inl (nIf mw)))]) 5 0 zC dX5_passes_2 pf_X5_73 rfl (Nat.le_of_ble_eq_true rfl) rfl rfl rfl ?_
  refine v_al_n 6 zC dX5_passes_5 0 rfl ?_
  refine v_ic (v := (nI 0)) 7 zC dX5_passes_6 (by decide +kernel) ?_
  refine v_pf (ws2 := [(r0, .inr (5, [.int (nI n), .ref k1, .ref k2, .ref k3, .ref k4, .int (nI m), .ref k6, .ref k7, .ref k8, .int (nI 0), .ref k10, .int (nI 0), .ref k12, .ref k13, .ref k14, .ref k15, .ref k16, .int (nI ls), .int (nI ap), .int (bz bd), .int (nI sq), .ref k21, .ref k22, .ref k23, .ref k24, .ref k25, .int (bz pd), .int (nI pl), .int (bz tk), kv, .ref k30, .ref k31, .int (nI 0), .ref k33, .int (nI rs), .int sd])), (k1, .inl (cI, 7, .inl (nIf ki))), (k2, .inl (cI, 7, .inl (nIf op))), (k3, .inl (cI, 7, .inl (nIf (shF sh)))), (k4, .inl (cI, 7, .inl (nIf fa))), (k6, .inl (cI, 6, .inl (nIf K))), (k7, .inl (cI, 6, .inl (nIf G))), (k8, .inl (cI, 6, .inl (nIf T))), (k12, .inl (cI, 7, .inl (nIf kw))), (k13, .inl (cI, 175, .inl (nIf kn))), (k14, .inl (cI, 144, .inl (mIf M))), (k15, .inl (cI, 7, .inl (nIf mw)))]) 10 0 zC dX5_passes_7 pf_X5_188 rfl (Nat.le_of_ble_eq_true rfl) rfl rfl rfl ?_
  refine v_al_n 11 zC dX5_passes_10 0 rfl ?_
  refine v_cV (As := []) (st := []) 14 0 [0, 1, 2, 3, 4, 5, 6, 7, 8, 9, 10, 11] zC dX5_passes_11 hA (c_X5_dayPasses (ev_l E) (ev_D E) cI (r0 := r0) (k1 := k1) (k2 := k2) (k3 := k3) (k4 := k4) (k6 := k6) (k7 := k7) (k8 := k8) (k10 := k10) (k12 := k12) (k13 := k13) (k14 := k14) (k15 := k15) (k16 := k16) (k21 := k21) (k22 := k22) (k23 := k23) (k24 := k24) (k25 := k25) (k30 := k30) (k31 := k31) (k33 := k33) (n := n) (m := m) (aw := 0) (ls := ls) (ap := ap) (sq := sq) (pl := pl) (tz := 0) (rs := rs) (bd := bd) (pd := pd) (tk := tk) (kv := kv) (sd := sd) (ki := ki) (op := op) (fa := fa) (K := K) (G := G) (T := T) (sh := sh) (kw := kw) (kn := kn) (M := M) (mw := mw) (hw := (by first | omega | assumption | rfl | (simp only []; omega) | decide)) (hkw := (by first | omega | assumption | rfl | (simp only []; omega) | decide)) (hkn := (by first | omega | assumption | rfl | (simp only []; omega) | decide)) (hM := (by first | omega | assumption | rfl | (simp only []; omega) | decide))) cf_X5_dayPasses lk_X5_228 rfl rfl rfl rfl rfl (by decide +kernel) (Nat.le_of_ble_eq_true rfl) (fun rv_1 wv_2 hp_3 hm_4 => ?_)
  clear hm_4
  obtain ⟨kw1_5, kn1_6, M1_7, mw1_8, hkw1_9, hkn1_10, hM1_11, hP_12, hl_13, hl0_14, rfl, rfl⟩ := hp_3
  show VV E 0 0 14 [(0, .ref r0)] [.int (nI (ALL (n, m, sh, 0, ki, op, fa, K, G, T)) - nI (KBH (n, m, sh, 0, ki, op, fa, K, G, T) 0))] [(r0, .inr (5, [.int (nI n), .ref k1, .ref k2, .ref k3, .ref k4, .int (nI m), .ref k6, .ref k7, .ref k8, .int (nI 0), .ref k10, .int (nI 0), .ref k12, .ref k13, .ref k14, .ref k15, .ref k16, .int (nI ls), .int (nI ap), .int (bz bd), .int (nI sq), .ref k21, .ref k22, .ref k23, .ref k24, .ref k25, .int (bz pd), .int (nI pl), .int (bz tk), kv, .ref k30, .ref k31, .int (nI 0), .ref k33, .int (nI rs), .int sd])), (k1, .inl (cI, 7, .inl (nIf ki))), (k2, .inl (cI, 7, .inl (nIf op))), (k3, .inl (cI, 7, .inl (nIf (shF sh)))), (k4, .inl (cI, 7, .inl (nIf (PASF (n, m, sh, 0, ki, op, fa, K, G, T))))), (k6, .inl (cI, 6, .inl (nIf K))), (k7, .inl (cI, 6, .inl (nIf G))), (k8, .inl (cI, 6, .inl (nIf T))), (k12, .inl (cI, 7, .inl (nIf kw1_5))), (k13, .inl (cI, 175, .inl (nIf kn1_6))), (k14, .inl (cI, 144, .inl (mIf M1_7))), (k15, .inl (cI, 7, .inl (nIf mw1_8)))]
  have h09 := hkw1_9
  have h19 := hkn1_10
  have h29 := hM1_11
  have h39 := hP_12
  refine v_iret zC zT dX5_passes_14  ?_
  exact ⟨_, _, _, _, h39, h09, h19, h29, rfl, rfl⟩
set_option maxRecDepth 100000 in
set_option maxHeartbeats 4000000 in
theorem c_X5_back (l : Launch) (D : va_G) (cI : ClassId) (r0 k1 k2 k3 k4 k6 k7 k8 k10 k12 k13 k14 k15 k16 k21 k22 k23 k24 k25 k30 k31 k33 : Nat) (n m ls ap sq pl tz rs : Nat) (bd pd tk : Bool) (kv : Value) (sd : Int32) (ki op fa K G T : Nat → Nat) (sh : Nat) (tu to R : Nat → Nat) (n1 m1 sh1 aw1 : Nat) (ki1 op1 fa1 K1 G1 T1 : Nat → Nat) (hw : FW n m sh ki op fa K G T) (hw1 : FW n1 m1 sh1 ki1 op1 fa1 K1 G1 T1) (ht : tz ≤ 8) (hE : 0 < tz → ∀ z, z < 48 → tu (48 * (tz - 1) + z) = ENC (n1, m1, sh1, aw1, ki1, op1, fa1, K1, G1, T1) z) : CT l yX5_back cX5_back 2 (some .int) { frames := 2, cells := 0, slots := 0, locals := 44 } D cI [.ref r0] [(r0, .inr (5, [.int (nI n), .ref k1, .ref k2, .ref k3, .ref k4, .int (nI m), .ref k6, .ref k7, .ref k8, .int (nI 0), .ref k10, .int (nI 0), .ref k12, .ref k13, .ref k14, .ref k15, .ref k16, .int (nI ls), .int (nI ap), .int (bz bd), .int (nI sq), .ref k21, .ref k22, .ref k23, .ref k24, .ref k25, .int (bz pd), .int (nI pl), .int (bz tk), kv, .ref k30, .ref k31, .int (nI tz), .ref k33, .int (nI rs), .int sd])), (k1, .inl (cI, 7, .inl (nIf ki))), (k2, .inl (cI, 7, .inl (nIf op))), (k3, .inl (cI, 7, .inl (nIf (shF sh)))), (k4, .inl (cI, 7, .inl (nIf fa))), (k6, .inl (cI, 6, .inl (nIf K))), (k7, .inl (cI, 6, .inl (nIf G))), (k8, .inl (cI, 6, .inl (nIf T))), (k30, .inl (cI, 384, .inl (nIf tu))), (k31, .inl (cI, 48, .inl (nIf to))), (k10, .inl (cI, 7, .inl (nIf R)))] (fun zr zw => ((tz = 0) ∧ zr = some (.int (-3)) ∧ zw = [(r0, .inr (5, [.int (nI n), .ref k1, .ref k2, .ref k3, .ref k4, .int (nI m), .ref k6, .ref k7, .ref k8, .int (nI 0), .ref k10, .int (nI 0), .ref k12, .ref k13, .ref k14, .ref k15, .ref k16, .int (nI ls), .int (nI ap), .int (bz bd), .int (nI sq), .ref k21, .ref k22, .ref k23, .ref k24, .ref k25, .int (bz pd), .int (nI pl), .int (bz tk), kv, .ref k30, .ref k31, .int (nI tz), .ref k33, .int (nI rs), .int sd])), (k1, .inl (cI, 7, .inl (nIf ki))), (k2, .inl (cI, 7, .inl (nIf op))), (k3, .inl (cI, 7, .inl (nIf (shF sh)))), (k4, .inl (cI, 7, .inl (nIf fa))), (k6, .inl (cI, 6, .inl (nIf K))), (k7, .inl (cI, 6, .inl (nIf G))), (k8, .inl (cI, 6, .inl (nIf T))), (k30, .inl (cI, 384, .inl (nIf tu))), (k31, .inl (cI, 48, .inl (nIf to))), (k10, .inl (cI, 7, .inl (nIf (un R 3 (R 3 + 1)))))]) ∨ (∃ o1 : Nat → Nat, (0 < tz) ∧ zr = some (.int (nI (tz - 1))) ∧ zw = [(r0, .inr (5, [.int (nI n1), .ref k1, .ref k2, .ref k3, .ref k4, .int (nI m1), .ref k6, .ref k7, .ref k8, .int (nI 0), .ref k10, .int (nI 0), .ref k12, .ref k13, .ref k14, .ref k15, .ref k16, .int (nI ls), .int (nI ap), .int (bz bd), .int (nI sq), .ref k21, .ref k22, .ref k23, .ref k24, .ref k25, .int (bz pd), .int (nI 48), .int (bz false), .ref k31, .ref k30, .ref k31, .int (nI (tz - 1)), .ref k33, .int (nI rs), .int sd])), (k1, .inl (cI, 7, .inl (nIf ki1))), (k2, .inl (cI, 7, .inl (nIf op1))), (k3, .inl (cI, 7, .inl (nIf (shF sh1)))), (k4, .inl (cI, 7, .inl (nIf fa1))), (k6, .inl (cI, 6, .inl (nIf K1))), (k7, .inl (cI, 6, .inl (nIf G1))), (k8, .inl (cI, 6, .inl (nIf T1))), (k30, .inl (cI, 384, .inl (nIf tu))), (k31, .inl (cI, 48, .inl (nIf o1))), (k10, .inl (cI, 7, .inl (nIf R)))])) := by
  refine CT_of RX5 rfl (by decide +kernel) (Nat.le_of_ble_eq_true rfl) (fun E hnE zC zT => ?_)
  have hA : ∀ q, (ev_s E).heap.size ≤ q → ev_A E q := fun q h => by rw [zT.2]; exact Or.inr h
  show VV E 0 0 0 [(0, .ref r0)] [] [(r0, .inr (5, [.int (nI n), .ref k1, .ref k2, .ref k3, .ref k4, .int (nI m), .ref k6, .ref k7, .ref k8, .int (nI 0), .ref k10, .int (nI 0), .ref k12, .ref k13, .ref k14, .ref k15, .ref k16, .int (nI ls), .int (nI ap), .int (bz bd), .int (nI sq), .ref k21, .ref k22, .ref k23, .ref k24, .ref k25, .int (bz pd), .int (nI pl), .int (bz tk), kv, .ref k30, .ref k31, .int (nI tz), .ref k33, .int (nI rs), .int sd])), (k1, .inl (cI, 7, .inl (nIf ki))), (k2, .inl (cI, 7, .inl (nIf op))), (k3, .inl (cI, 7, .inl (nIf (shF sh)))), (k4, .inl (cI, 7, .inl (nIf fa))), (k6, .inl (cI, 6, .inl (nIf K))), (k7, .inl (cI, 6, .inl (nIf G))), (k8, .inl (cI, 6, .inl (nIf T))), (k30, .inl (cI, 384, .inl (nIf tu))), (k31, .inl (cI, 48, .inl (nIf to))), (k10, .inl (cI, 7, .inl (nIf R)))]
  refine v_al_n 1 zC dX5_back_0 0 rfl ?_
  refine v_ic (v := (nI 0)) 2 zC dX5_back_1 (by decide +kernel) ?_
  refine v_pf (ws2 := [(r0, .inr (5, [.int (nI n), .ref k1, .ref k2, .ref k3, .ref k4, .int (nI m), .ref k6, .ref k7, .ref k8, .int (nI 0), .ref k10, .int (nI 0), .ref k12, .ref k13, .ref k14, .ref k15, .ref k16, .int (nI ls), .int (nI ap), .int (bz bd), .int (nI sq), .ref k21, .ref k22, .ref k23, .ref k24, .ref k25, .int (bz pd), .int (nI pl), .int (bz tk), kv, .ref k30, .ref k31, .int (nI tz), .ref k33, .int (nI rs), .int sd])), (k1, .inl (cI, 7, .inl (nIf ki))), (k2, .inl (cI, 7, .inl (nIf op))), (k3, .inl (cI, 7, .inl (nIf (shF sh)))), (k4, .inl (cI, 7, .inl (nIf fa))), (k6, .inl (cI, 6, .inl (nIf K))), (k7, .inl (cI, 6, .inl (nIf G))), (k8, .inl (cI, 6, .inl (nIf T))), (k30, .inl (cI, 384, .inl (nIf tu))), (k31, .inl (cI, 48, .inl (nIf to))), (k10, .inl (cI, 7, .inl (nIf R)))]) 5 0 zC dX5_back_2 pf_X5_73 rfl (Nat.le_of_ble_eq_true rfl) rfl rfl rfl ?_
  refine v_al_n 6 zC dX5_back_5 0 rfl ?_
  refine v_gf 9 0 zC dX5_back_6 gf_X5_188 rfl rfl ?_
  refine v_ifn_ne 19 12 zC dX5_back_9 (fun h_1 => ?_) (fun h_1 => ?_)
  ·
    have hp9 : tz ≠ 0 := h_1
    refine v_al_n 20 zC dX5_back_19 0 rfl ?_
    refine v_dup 21 zC dX5_back_20 rfl ?_
    refine v_gf 24 0 zC dX5_back_21 gf_X5_188 rfl rfl ?_
    refine v_ic (v := (nI 1)) 25 zC dX5_back_24 (by decide +kernel) ?_
    refine v_isub (v := (nI (tz - 1))) 26 zC dX5_back_25 (pk_sub (by first | omega | exact Nat.one_le_two_pow)) ?_
    refine v_pf (ws2 := [(r0, .inr (5, [.int (nI n), .ref k1, .ref k2, .ref k3, .ref k4, .int (nI m), .ref k6, .ref k7, .ref k8, .int (nI 0), .ref k10, .int (nI 0), .ref k12, .ref k13, .ref k14, .ref k15, .ref k16, .int (nI ls), .int (nI ap), .int (bz bd), .int (nI sq), .ref k21, .ref k22, .ref k23, .ref k24, .ref k25, .int (bz pd), .int (nI pl), .int (bz tk), kv, .ref k30, .ref k31, .int (nI (tz - 1)), .ref k33, .int (nI rs), .int sd])), (k1, .inl (cI, 7, .inl (nIf ki))), (k2, .inl (cI, 7, .inl (nIf op))), (k3, .inl (cI, 7, .inl (nIf (shF sh)))), (k4, .inl (cI, 7, .inl (nIf fa))), (k6, .inl (cI, 6, .inl (nIf K))), (k7, .inl (cI, 6, .inl (nIf G))), (k8, .inl (cI, 6, .inl (nIf T))), (k30, .inl (cI, 384, .inl (nIf tu))), (k31, .inl (cI, 48, .inl (nIf to))), (k10, .inl (cI, 7, .inl (nIf R)))]) 29 0 zC dX5_back_26 pf_X5_188 rfl (Nat.le_of_ble_eq_true rfl) rfl rfl rfl ?_
    refine v_ic (v := (nI 0)) 30 zC dX5_back_29 (by decide +kernel) ?_
    refine v_is_n (lv2 := [(1, .int (nI 0)), (0, .ref r0)]) 31 zC dX5_back_30 (by rw [hnE]; decide) rfl ?_
    have lp31 : ∀ (mz : Nat) (o2 : Nat → Nat) (i : Nat), (∀ z, z < i → o2 z = tu (48 * (tz - 1) + z)) → (i ≤ 48) → 48 - i = mz → VV E 0 0 31 [(1, .int (nI i)), (0, .ref r0)] [] [(r0, .inr (5, [.int (nI n), .ref k1, .ref k2, .ref k3, .ref k4, .int (nI m), .ref k6, .ref k7, .ref k8, .int (nI 0), .ref k10, .int (nI 0), .ref k12, .ref k13, .ref k14, .ref k15, .ref k16, .int (nI ls), .int (nI ap), .int (bz bd), .int (nI sq), .ref k21, .ref k22, .ref k23, .ref k24, .ref k25, .int (bz pd), .int (nI pl), .int (bz tk), kv, .ref k30, .ref k31, .int (nI (tz - 1)), .ref k33, .int (nI rs), .int sd])), (k1, .inl (cI, 7, .inl (nIf ki))), (k2, .inl (cI, 7, .inl (nIf op))), (k3, .inl (cI, 7, .inl (nIf (shF sh)))), (k4, .inl (cI, 7, .inl (nIf fa))), (k6, .inl (cI, 6, .inl (nIf K))), (k7, .inl (cI, 6, .inl (nIf G))), (k8, .inl (cI, 6, .inl (nIf T))), (k30, .inl (cI, 384, .inl (nIf tu))), (k31, .inl (cI, 48, .inl (nIf o2))), (k10, .inl (cI, 7, .inl (nIf R)))] := by
      intro mz
      induction mz using Nat.strongRecOn with
      | _ mz ih31 =>
      intro o2 i hN hi hm31
      refine v_il_n 32 zC dX5_back_31 0 rfl ?_
      refine v_bp (v := (nI 48)) 34 zC dX5_back_32 (by decide +kernel) ?_
      refine v_icmpn_ge 63 37 zC dX5_back_34 (fun h_2 => ?_) (fun h_2 => ?_)
      ·
        refine v_al_n 64 zC dX5_back_63 1 rfl ?_
        refine v_al_n 65 zC dX5_back_64 1 rfl ?_
        refine v_gf 68 0 zC dX5_back_65 gf_X5_67 rfl rfl ?_
        refine v_ic (v := (nI 0)) 69 zC dX5_back_68 (by decide +kernel) ?_
        refine v_cV (As := [.ref k31, .int (nI 0)]) (st := []) 72 0 [0, 1, 2, 3, 4, 5, 6, 7, 9] zC dX5_back_69 hA (c_X5_carryAll__F (ev_l E) (ev_D E) cI (r0 := r0) (k1 := k1) (k2 := k2) (k3 := k3) (k4 := k4) (k6 := k6) (k7 := k7) (k8 := k8) (k10 := k10) (k12 := k12) (k13 := k13) (k14 := k14) (k15 := k15) (k16 := k16) (k21 := k21) (k22 := k22) (k23 := k23) (k24 := k24) (k25 := k25) (k30 := k30) (k31 := k31) (k33 := k33) (n := n) (m := m) (aw := 0) (ls := ls) (ap := ap) (sq := sq) (pl := pl) (tz := (tz - 1)) (rs := rs) (bd := bd) (pd := pd) (tk := tk) (kv := kv) (sd := sd) (ki := ki) (op := op) (fa := fa) (K := K) (G := G) (T := T) (sh := sh) (q := k31) (En := o2) (n1 := n1) (m1 := m1) (sh1 := sh1) (aw1 := aw1) (ki1 := ki1) (op1 := op1) (fa1 := fa1) (K1 := K1) (G1 := G1) (T1 := T1) (hw := hw) (hw1 := hw1) (hE := (fun z hz => (hN z (by omega)).trans (hE (by omega) z hz)))) cf_X5_carryAll lk_X5_181 rfl rfl rfl rfl rfl (by decide +kernel) (Nat.le_of_ble_eq_true rfl) (fun rv_3 wv_4 hp_5 hm_6 => ?_)
        clear hm_6
        obtain ⟨rfl, rfl⟩ := hp_5
        show VV E 0 0 72 [(1, .int (nI i)), (0, .ref r0)] [] [(r0, .inr (5, [.int (nI n1), .ref k1, .ref k2, .ref k3, .ref k4, .int (nI m1), .ref k6, .ref k7, .ref k8, .int (nI 0), .ref k10, .int (nI 0), .ref k12, .ref k13, .ref k14, .ref k15, .ref k16, .int (nI ls), .int (nI ap), .int (bz bd), .int (nI sq), .ref k21, .ref k22, .ref k23, .ref k24, .ref k25, .int (bz pd), .int (nI 48), .int (nI 0), .ref k31, .ref k30, .ref k31, .int (nI (tz - 1)), .ref k33, .int (nI rs), .int sd])), (k1, .inl (cI, 7, .inl (nIf ki1))), (k2, .inl (cI, 7, .inl (nIf op1))), (k3, .inl (cI, 7, .inl (nIf (shF sh1)))), (k4, .inl (cI, 7, .inl (nIf fa1))), (k6, .inl (cI, 6, .inl (nIf K1))), (k7, .inl (cI, 6, .inl (nIf G1))), (k8, .inl (cI, 6, .inl (nIf T1))), (k30, .inl (cI, 384, .inl (nIf tu))), (k31, .inl (cI, 48, .inl (nIf o2))), (k10, .inl (cI, 7, .inl (nIf R)))]
        refine v_al_n 73 zC dX5_back_72 1 rfl ?_
        refine v_gf 76 0 zC dX5_back_73 gf_X5_188 rfl rfl ?_
        refine v_iret zC zT dX5_back_76  ?_
        first | (have g9 := hz9; exact Or.inl ⟨hz9, rfl, rfl⟩) | exact Or.inr ⟨_, by omega, rfl, rfl⟩
      ·
        refine v_al_n 38 zC dX5_back_37 1 rfl ?_
        refine v_gf 41 0 zC dX5_back_38 gf_X5_67 rfl rfl ?_
        refine v_il_n 42 zC dX5_back_41 0 rfl ?_
        refine v_al_n 43 zC dX5_back_42 1 rfl ?_
        refine v_gf 46 0 zC dX5_back_43 gf_X5_64 rfl rfl ?_
        refine v_bp (v := (nI 48)) 48 zC dX5_back_46 (by decide +kernel) ?_
        refine v_al_n 49 zC dX5_back_48 1 rfl ?_
        refine v_gf 52 0 zC dX5_back_49 gf_X5_188 rfl rfl ?_
        refine v_imul (v := (nI (48 * (tz - 1)))) 53 zC dX5_back_52 (pk_mul _ _) ?_
        refine v_il_n 54 zC dX5_back_53 0 rfl ?_
        refine v_iadd (v := (nI ((48 * (tz - 1)) + i))) 55 zC dX5_back_54 (nI_add _ _) ?_
        refine v_ialn (v := (nI (tu ((48 * (tz - 1)) + i)))) 56 8 zC dX5_back_55 rfl (by omega) rfl ?_
        refine v_iasn (ws2 := [(r0, .inr (5, [.int (nI n), .ref k1, .ref k2, .ref k3, .ref k4, .int (nI m), .ref k6, .ref k7, .ref k8, .int (nI 0), .ref k10, .int (nI 0), .ref k12, .ref k13, .ref k14, .ref k15, .ref k16, .int (nI ls), .int (nI ap), .int (bz bd), .int (nI sq), .ref k21, .ref k22, .ref k23, .ref k24, .ref k25, .int (bz pd), .int (nI pl), .int (bz tk), kv, .ref k30, .ref k31, .int (nI (tz - 1)), .ref k33, .int (nI rs), .int sd])), (k1, .inl (cI, 7, .inl (nIf ki))), (k2, .inl (cI, 7, .inl (nIf op))), (k3, .inl (cI, 7, .inl (nIf (shF sh)))), (k4, .inl (cI, 7, .inl (nIf fa))), (k6, .inl (cI, 6, .inl (nIf K))), (k7, .inl (cI, 6, .inl (nIf G))), (k8, .inl (cI, 6, .inl (nIf T))), (k30, .inl (cI, 384, .inl (nIf tu))), (k31, .inl (cI, 48, .inl (nIf (un o2 i (tu ((48 * (tz - 1)) + i)))))), (k10, .inl (cI, 7, .inl (nIf R)))]) 57 9 zC dX5_back_56 rfl (by omega) (by rw [upd_nIf]; first | done | rfl) ?_
        refine v_inc (v := (nI (i + 1))) (lv2 := [(1, .int (nI (i + 1))), (0, .ref r0)]) 60 zC dX5_back_57 (j := 0) rfl (nI_add _ 1) (by rw [hnE]; decide) rfl ?_
        refine v_goto 31 zC dX5_back_60 ?_
        refine v_lvs (lv2 := [(1, .int (nI (i + 1))), (0, .ref r0)]) [0, 1] rfl ?_
        exact ih31 _ (by omega) (un o2 i (tu ((48 * (tz - 1)) + i))) (i + 1) (fun z hz => by by_cases q9 : z = i; (· subst q9; exact un_s); (· rw [un_n (by omega)]; exact hN z (by omega))) (by first | omega | assumption | rfl | (simp only []; omega) | decide) rfl
    refine v_lvs (lv2 := [(1, .int (nI 0)), (0, .ref r0)]) [0, 1] rfl ?_
    exact lp31 _ to 0 (fun z hz => absurd hz (Nat.not_lt_zero z)) (by first | omega | assumption | rfl | (simp only []; omega) | decide) rfl
  ·
    have hz9 : tz = 0 := h_1
    refine v_al_n 13 zC dX5_back_12 0 rfl ?_
    refine v_bp (v := (-3)) 15 zC dX5_back_13 (by decide +kernel) ?_
    refine v_cV (As := [.int (-3)]) (st := []) 18 0 [0, 10] zC dX5_back_15 hA (c_X5_refuse (ev_l E) (ev_D E) cI (r0 := r0) (k1 := k1) (k2 := k2) (k3 := k3) (k4 := k4) (k6 := k6) (k7 := k7) (k8 := k8) (k10 := k10) (k12 := k12) (k13 := k13) (k14 := k14) (k15 := k15) (k16 := k16) (k21 := k21) (k22 := k22) (k23 := k23) (k24 := k24) (k25 := k25) (k30 := k30) (k31 := k31) (k33 := k33) (n := n) (m := m) (aw := 0) (ls := ls) (ap := ap) (sq := sq) (pl := pl) (tz := tz) (rs := rs) (bd := bd) (pd := pd) (tk := tk) (kv := kv) (sd := sd) (R := R) (v := (-3)) (j := 3) (hv := (by first | omega | assumption | rfl | (simp only []; omega) | decide)) (h1 := (by first | omega | assumption | rfl | (simp only []; omega) | decide)) (h6 := (by first | omega | assumption | rfl | (simp only []; omega) | decide))) cf_X5_refuse lk_X5_129 rfl rfl rfl rfl rfl (by decide +kernel) (Nat.le_of_ble_eq_true rfl) (fun rv_7 wv_8 hp_9 hm_10 => ?_)
    clear hm_10
    obtain ⟨rfl, rfl⟩ := hp_9
    show VV E 0 0 18 [(0, .ref r0)] [.int (-3)] [(r0, .inr (5, [.int (nI n), .ref k1, .ref k2, .ref k3, .ref k4, .int (nI m), .ref k6, .ref k7, .ref k8, .int (nI 0), .ref k10, .int (nI 0), .ref k12, .ref k13, .ref k14, .ref k15, .ref k16, .int (nI ls), .int (nI ap), .int (bz bd), .int (nI sq), .ref k21, .ref k22, .ref k23, .ref k24, .ref k25, .int (bz pd), .int (nI pl), .int (bz tk), kv, .ref k30, .ref k31, .int (nI tz), .ref k33, .int (nI rs), .int sd])), (k1, .inl (cI, 7, .inl (nIf ki))), (k2, .inl (cI, 7, .inl (nIf op))), (k3, .inl (cI, 7, .inl (nIf (shF sh)))), (k4, .inl (cI, 7, .inl (nIf fa))), (k6, .inl (cI, 6, .inl (nIf K))), (k7, .inl (cI, 6, .inl (nIf G))), (k8, .inl (cI, 6, .inl (nIf T))), (k30, .inl (cI, 384, .inl (nIf tu))), (k31, .inl (cI, 48, .inl (nIf to))), (k10, .inl (cI, 7, .inl (nIf (un R 3 (R 3 + 1)))))]
    refine v_iret zC zT dX5_back_18  ?_
    first | (have g9 := hz9; exact Or.inl ⟨hz9, rfl, rfl⟩) | exact Or.inr ⟨_, by omega, rfl, rfl⟩
set_option maxRecDepth 100000 in
set_option maxHeartbeats 4000000 in
theorem c_X5_image (l : Launch) (D : va_G) (cI : ClassId) (r0 k1 k2 k3 k4 k6 k7 k8 k10 k12 k13 k14 k15 k16 k21 k22 k23 k24 k25 k30 k31 k33 : Nat) (n m ls ap sq pl tz rs : Nat) (bd pd tk : Bool) (kv : Value) (sd : Int32) (ki op fa K G T : Nat → Nat) (sh : Nat) (im : Nat → Nat)  : CT l yX5_image cX5_image 1 (some .int) { frames := 2, cells := 0, slots := 0, locals := 44 } D cI [.ref r0] [(r0, .inr (5, [.int (nI n), .ref k1, .ref k2, .ref k3, .ref k4, .int (nI m), .ref k6, .ref k7, .ref k8, .int (nI 0), .ref k10, .int (nI 0), .ref k12, .ref k13, .ref k14, .ref k15, .ref k16, .int (nI ls), .int (nI ap), .int (bz bd), .int (nI sq), .ref k21, .ref k22, .ref k23, .ref k24, .ref k25, .int (bz pd), .int (nI pl), .int (bz tk), kv, .ref k30, .ref k31, .int (nI tz), .ref k33, .int (nI rs), .int sd])), (k1, .inl (cI, 7, .inl (nIf ki))), (k2, .inl (cI, 7, .inl (nIf op))), (k3, .inl (cI, 7, .inl (nIf (shF sh)))), (k4, .inl (cI, 7, .inl (nIf fa))), (k6, .inl (cI, 6, .inl (nIf K))), (k7, .inl (cI, 6, .inl (nIf G))), (k8, .inl (cI, 6, .inl (nIf T))), (k25, .inl (cI, 48, .inl (nIf im)))] (fun zr zw => (∃ im1 : Nat → Nat, (∀ z, z < 48 → im1 z = ENC (n, m, sh, 0, ki, op, fa, K, G, T) z) ∧ zr = some (.int (nI n)) ∧ zw = [(r0, .inr (5, [.int (nI n), .ref k1, .ref k2, .ref k3, .ref k4, .int (nI m), .ref k6, .ref k7, .ref k8, .int (nI 0), .ref k10, .int (nI 0), .ref k12, .ref k13, .ref k14, .ref k15, .ref k16, .int (nI ls), .int (nI ap), .int (bz bd), .int (nI sq), .ref k21, .ref k22, .ref k23, .ref k24, .ref k25, .int (bz true), .int (nI 48), .int (bz true), .ref k25, .ref k30, .ref k31, .int (nI tz), .ref k33, .int (nI rs), .int sd])), (k1, .inl (cI, 7, .inl (nIf ki))), (k2, .inl (cI, 7, .inl (nIf op))), (k3, .inl (cI, 7, .inl (nIf (shF sh)))), (k4, .inl (cI, 7, .inl (nIf fa))), (k6, .inl (cI, 6, .inl (nIf K))), (k7, .inl (cI, 6, .inl (nIf G))), (k8, .inl (cI, 6, .inl (nIf T))), (k25, .inl (cI, 48, .inl (nIf im1)))])) := by
  refine CT_of RX5 rfl (by decide +kernel) (Nat.le_of_ble_eq_true rfl) (fun E hnE zC zT => ?_)
  have hA : ∀ q, (ev_s E).heap.size ≤ q → ev_A E q := fun q h => by rw [zT.2]; exact Or.inr h
  show VV E 0 0 0 [(0, .ref r0)] [] [(r0, .inr (5, [.int (nI n), .ref k1, .ref k2, .ref k3, .ref k4, .int (nI m), .ref k6, .ref k7, .ref k8, .int (nI 0), .ref k10, .int (nI 0), .ref k12, .ref k13, .ref k14, .ref k15, .ref k16, .int (nI ls), .int (nI ap), .int (bz bd), .int (nI sq), .ref k21, .ref k22, .ref k23, .ref k24, .ref k25, .int (bz pd), .int (nI pl), .int (bz tk), kv, .ref k30, .ref k31, .int (nI tz), .ref k33, .int (nI rs), .int sd])), (k1, .inl (cI, 7, .inl (nIf ki))), (k2, .inl (cI, 7, .inl (nIf op))), (k3, .inl (cI, 7, .inl (nIf (shF sh)))), (k4, .inl (cI, 7, .inl (nIf fa))), (k6, .inl (cI, 6, .inl (nIf K))), (k7, .inl (cI, 6, .inl (nIf G))), (k8, .inl (cI, 6, .inl (nIf T))), (k25, .inl (cI, 48, .inl (nIf im)))]
  refine v_al_n 1 zC dX5_image_0 0 rfl ?_
  refine v_ic (v := (nI 0)) 2 zC dX5_image_1 (by decide +kernel) ?_
  refine v_pf (ws2 := [(r0, .inr (5, [.int (nI n), .ref k1, .ref k2, .ref k3, .ref k4, .int (nI m), .ref k6, .ref k7, .ref k8, .int (nI 0), .ref k10, .int (nI 0), .ref k12, .ref k13, .ref k14, .ref k15, .ref k16, .int (nI ls), .int (nI ap), .int (bz bd), .int (nI sq), .ref k21, .ref k22, .ref k23, .ref k24, .ref k25, .int (bz pd), .int (nI pl), .int (bz tk), kv, .ref k30, .ref k31, .int (nI tz), .ref k33, .int (nI rs), .int sd])), (k1, .inl (cI, 7, .inl (nIf ki))), (k2, .inl (cI, 7, .inl (nIf op))), (k3, .inl (cI, 7, .inl (nIf (shF sh)))), (k4, .inl (cI, 7, .inl (nIf fa))), (k6, .inl (cI, 6, .inl (nIf K))), (k7, .inl (cI, 6, .inl (nIf G))), (k8, .inl (cI, 6, .inl (nIf T))), (k25, .inl (cI, 48, .inl (nIf im)))]) 5 0 zC dX5_image_2 pf_X5_73 rfl (Nat.le_of_ble_eq_true rfl) rfl rfl rfl ?_
  refine v_al_n 6 zC dX5_image_5 0 rfl ?_
  refine v_ic (v := (nI 1)) 7 zC dX5_image_6 (by decide +kernel) ?_
  refine v_pf (ws2 := [(r0, .inr (5, [.int (nI n), .ref k1, .ref k2, .ref k3, .ref k4, .int (nI m), .ref k6, .ref k7, .ref k8, .int (nI 0), .ref k10, .int (nI 0), .ref k12, .ref k13, .ref k14, .ref k15, .ref k16, .int (nI ls), .int (nI ap), .int (bz bd), .int (nI sq), .ref k21, .ref k22, .ref k23, .ref k24, .ref k25, .int (nI 1), .int (nI pl), .int (bz tk), kv, .ref k30, .ref k31, .int (nI tz), .ref k33, .int (nI rs), .int sd])), (k1, .inl (cI, 7, .inl (nIf ki))), (k2, .inl (cI, 7, .inl (nIf op))), (k3, .inl (cI, 7, .inl (nIf (shF sh)))), (k4, .inl (cI, 7, .inl (nIf fa))), (k6, .inl (cI, 6, .inl (nIf K))), (k7, .inl (cI, 6, .inl (nIf G))), (k8, .inl (cI, 6, .inl (nIf T))), (k25, .inl (cI, 48, .inl (nIf im)))]) 10 0 zC dX5_image_7 pf_X5_203 rfl (Nat.le_of_ble_eq_true rfl) (by decide +kernel) (by decide +kernel) rfl ?_
  refine v_al_n 11 zC dX5_image_10 0 rfl ?_
  refine v_al_n 12 zC dX5_image_11 0 rfl ?_
  refine v_gf 15 0 zC dX5_image_12 gf_X5_61 rfl rfl ?_
  refine v_ic (v := (nI 1)) 16 zC dX5_image_15 (by decide +kernel) ?_
  refine v_cV (As := [.ref k25, .int (nI 1)]) (st := []) 19 0 [0, 1, 2, 3, 4, 5, 6, 7, 8] zC dX5_image_16 hA (c_X5_carryAll__T (ev_l E) (ev_D E) cI (r0 := r0) (k1 := k1) (k2 := k2) (k3 := k3) (k4 := k4) (k6 := k6) (k7 := k7) (k8 := k8) (k10 := k10) (k12 := k12) (k13 := k13) (k14 := k14) (k15 := k15) (k16 := k16) (k21 := k21) (k22 := k22) (k23 := k23) (k24 := k24) (k25 := k25) (k30 := k30) (k31 := k31) (k33 := k33) (n := n) (m := m) (aw := 0) (ls := ls) (ap := ap) (sq := sq) (pl := pl) (tz := tz) (rs := rs) (bd := bd) (pd := true) (tk := tk) (kv := kv) (sd := sd) (ki := ki) (op := op) (fa := fa) (K := K) (G := G) (T := T) (sh := sh) (q := k25) (En := im) ) cf_X5_carryAll lk_X5_181 rfl rfl rfl rfl rfl (by decide +kernel) (Nat.le_of_ble_eq_true rfl) (fun rv_1 wv_2 hp_3 hm_4 => ?_)
  clear hm_4
  obtain ⟨E1_5, hE_6, rfl, rfl⟩ := hp_3
  show VV E 0 0 19 [(0, .ref r0)] [] [(r0, .inr (5, [.int (nI n), .ref k1, .ref k2, .ref k3, .ref k4, .int (nI m), .ref k6, .ref k7, .ref k8, .int (nI 0), .ref k10, .int (nI 0), .ref k12, .ref k13, .ref k14, .ref k15, .ref k16, .int (nI ls), .int (nI ap), .int (bz bd), .int (nI sq), .ref k21, .ref k22, .ref k23, .ref k24, .ref k25, .int (bz true), .int (nI 48), .int (nI 1), .ref k25, .ref k30, .ref k31, .int (nI tz), .ref k33, .int (nI rs), .int sd])), (k1, .inl (cI, 7, .inl (nIf ki))), (k2, .inl (cI, 7, .inl (nIf op))), (k3, .inl (cI, 7, .inl (nIf (shF sh)))), (k4, .inl (cI, 7, .inl (nIf fa))), (k6, .inl (cI, 6, .inl (nIf K))), (k7, .inl (cI, 6, .inl (nIf G))), (k8, .inl (cI, 6, .inl (nIf T))), (k25, .inl (cI, 48, .inl (nIf E1_5)))]
  have hE9 := hE_6
  refine v_al_n 20 zC dX5_image_19 0 rfl ?_
  refine v_gf 23 0 zC dX5_image_20 gf_X5_77 rfl rfl ?_
  refine v_iret zC zT dX5_image_23  ?_
  exact ⟨_, hE9, rfl, rfl⟩
set_option maxRecDepth 100000 in
set_option maxHeartbeats 4000000 in
theorem c_X5_restore (l : Launch) (D : va_G) (cI : ClassId) (r0 k1 k2 k3 k4 k6 k7 k8 k10 k12 k13 k14 k15 k16 k21 k22 k23 k24 k25 k30 k31 k33 : Nat) (n m ls ap sq pl tz rs : Nat) (bd pd tk : Bool) (kv : Value) (sd : Int32) (ki op fa K G T : Nat → Nat) (sh : Nat) (im R : Nat → Nat) (n1 m1 sh1 aw1 : Nat) (ki1 op1 fa1 K1 G1 T1 : Nat → Nat) (hw : FW n m sh ki op fa K G T) (hw1 : FW n1 m1 sh1 ki1 op1 fa1 K1 G1 T1) (hE : pd = true → ∀ z, z < 48 → im z = ENC (n1, m1, sh1, aw1, ki1, op1, fa1, K1, G1, T1) z) : CT l yX5_restore cX5_restore 1 (some .int) { frames := 2, cells := 0, slots := 0, locals := 44 } D cI [.ref r0] [(r0, .inr (5, [.int (nI n), .ref k1, .ref k2, .ref k3, .ref k4, .int (nI m), .ref k6, .ref k7, .ref k8, .int (nI 0), .ref k10, .int (nI 0), .ref k12, .ref k13, .ref k14, .ref k15, .ref k16, .int (nI ls), .int (nI ap), .int (bz bd), .int (nI sq), .ref k21, .ref k22, .ref k23, .ref k24, .ref k25, .int (bz pd), .int (nI pl), .int (bz tk), kv, .ref k30, .ref k31, .int (nI tz), .ref k33, .int (nI rs), .int sd])), (k1, .inl (cI, 7, .inl (nIf ki))), (k2, .inl (cI, 7, .inl (nIf op))), (k3, .inl (cI, 7, .inl (nIf (shF sh)))), (k4, .inl (cI, 7, .inl (nIf fa))), (k6, .inl (cI, 6, .inl (nIf K))), (k7, .inl (cI, 6, .inl (nIf G))), (k8, .inl (cI, 6, .inl (nIf T))), (k25, .inl (cI, 48, .inl (nIf im))), (k10, .inl (cI, 7, .inl (nIf R)))] (fun zr zw => ((pd = false) ∧ zr = some (.int (-3)) ∧ zw = [(r0, .inr (5, [.int (nI n), .ref k1, .ref k2, .ref k3, .ref k4, .int (nI m), .ref k6, .ref k7, .ref k8, .int (nI 0), .ref k10, .int (nI 0), .ref k12, .ref k13, .ref k14, .ref k15, .ref k16, .int (nI ls), .int (nI ap), .int (bz bd), .int (nI sq), .ref k21, .ref k22, .ref k23, .ref k24, .ref k25, .int (bz pd), .int (nI pl), .int (bz tk), kv, .ref k30, .ref k31, .int (nI tz), .ref k33, .int (nI rs), .int sd])), (k1, .inl (cI, 7, .inl (nIf ki))), (k2, .inl (cI, 7, .inl (nIf op))), (k3, .inl (cI, 7, .inl (nIf (shF sh)))), (k4, .inl (cI, 7, .inl (nIf fa))), (k6, .inl (cI, 6, .inl (nIf K))), (k7, .inl (cI, 6, .inl (nIf G))), (k8, .inl (cI, 6, .inl (nIf T))), (k25, .inl (cI, 48, .inl (nIf im))), (k10, .inl (cI, 7, .inl (nIf (un R 3 (R 3 + 1)))))]) ∨ ((pd = true) ∧ zr = some (.int (nI n1)) ∧ zw = [(r0, .inr (5, [.int (nI n1), .ref k1, .ref k2, .ref k3, .ref k4, .int (nI m1), .ref k6, .ref k7, .ref k8, .int (nI 0), .ref k10, .int (nI 0), .ref k12, .ref k13, .ref k14, .ref k15, .ref k16, .int (nI ls), .int (nI ap), .int (bz bd), .int (nI sq), .ref k21, .ref k22, .ref k23, .ref k24, .ref k25, .int (bz pd), .int (nI 48), .int (bz false), .ref k25, .ref k30, .ref k31, .int (nI 0), .ref k33, .int (nI rs), .int sd])), (k1, .inl (cI, 7, .inl (nIf ki1))), (k2, .inl (cI, 7, .inl (nIf op1))), (k3, .inl (cI, 7, .inl (nIf (shF sh1)))), (k4, .inl (cI, 7, .inl (nIf fa1))), (k6, .inl (cI, 6, .inl (nIf K1))), (k7, .inl (cI, 6, .inl (nIf G1))), (k8, .inl (cI, 6, .inl (nIf T1))), (k25, .inl (cI, 48, .inl (nIf im))), (k10, .inl (cI, 7, .inl (nIf R)))])) := by
  refine CT_of RX5 rfl (by decide +kernel) (Nat.le_of_ble_eq_true rfl) (fun E hnE zC zT => ?_)
  have hA : ∀ q, (ev_s E).heap.size ≤ q → ev_A E q := fun q h => by rw [zT.2]; exact Or.inr h
  show VV E 0 0 0 [(0, .ref r0)] [] [(r0, .inr (5, [.int (nI n), .ref k1, .ref k2, .ref k3, .ref k4, .int (nI m), .ref k6, .ref k7, .ref k8, .int (nI 0), .ref k10, .int (nI 0), .ref k12, .ref k13, .ref k14, .ref k15, .ref k16, .int (nI ls), .int (nI ap), .int (bz bd), .int (nI sq), .ref k21, .ref k22, .ref k23, .ref k24, .ref k25, .int (bz pd), .int (nI pl), .int (bz tk), kv, .ref k30, .ref k31, .int (nI tz), .ref k33, .int (nI rs), .int sd])), (k1, .inl (cI, 7, .inl (nIf ki))), (k2, .inl (cI, 7, .inl (nIf op))), (k3, .inl (cI, 7, .inl (nIf (shF sh)))), (k4, .inl (cI, 7, .inl (nIf fa))), (k6, .inl (cI, 6, .inl (nIf K))), (k7, .inl (cI, 6, .inl (nIf G))), (k8, .inl (cI, 6, .inl (nIf T))), (k25, .inl (cI, 48, .inl (nIf im))), (k10, .inl (cI, 7, .inl (nIf R)))]
  refine v_al_n 1 zC dX5_restore_0 0 rfl ?_
  refine v_ic (v := (nI 0)) 2 zC dX5_restore_1 (by decide +kernel) ?_
  refine v_pf (ws2 := [(r0, .inr (5, [.int (nI n), .ref k1, .ref k2, .ref k3, .ref k4, .int (nI m), .ref k6, .ref k7, .ref k8, .int (nI 0), .ref k10, .int (nI 0), .ref k12, .ref k13, .ref k14, .ref k15, .ref k16, .int (nI ls), .int (nI ap), .int (bz bd), .int (nI sq), .ref k21, .ref k22, .ref k23, .ref k24, .ref k25, .int (bz pd), .int (nI pl), .int (bz tk), kv, .ref k30, .ref k31, .int (nI tz), .ref k33, .int (nI rs), .int sd])), (k1, .inl (cI, 7, .inl (nIf ki))), (k2, .inl (cI, 7, .inl (nIf op))), (k3, .inl (cI, 7, .inl (nIf (shF sh)))), (k4, .inl (cI, 7, .inl (nIf fa))), (k6, .inl (cI, 6, .inl (nIf K))), (k7, .inl (cI, 6, .inl (nIf G))), (k8, .inl (cI, 6, .inl (nIf T))), (k25, .inl (cI, 48, .inl (nIf im))), (k10, .inl (cI, 7, .inl (nIf R)))]) 5 0 zC dX5_restore_2 pf_X5_73 rfl (Nat.le_of_ble_eq_true rfl) rfl rfl rfl ?_
  refine v_al_n 6 zC dX5_restore_5 0 rfl ?_
  refine v_gf 9 0 zC dX5_restore_6 gf_X5_203 rfl rfl ?_
  refine v_ifb_ne 19 12 zC dX5_restore_9 (fun h_1 => ?_) (fun h_1 => ?_)
  ·
    have hp9 := h_1
    refine v_al_n 20 zC dX5_restore_19 0 rfl ?_
    refine v_al_n 21 zC dX5_restore_20 0 rfl ?_
    refine v_gf 24 0 zC dX5_restore_21 gf_X5_61 rfl rfl ?_
    refine v_ic (v := (nI 0)) 25 zC dX5_restore_24 (by decide +kernel) ?_
    refine v_cV (As := [.ref k25, .int (nI 0)]) (st := []) 28 0 [0, 1, 2, 3, 4, 5, 6, 7, 8] zC dX5_restore_25 hA (c_X5_carryAll__F (ev_l E) (ev_D E) cI (r0 := r0) (k1 := k1) (k2 := k2) (k3 := k3) (k4 := k4) (k6 := k6) (k7 := k7) (k8 := k8) (k10 := k10) (k12 := k12) (k13 := k13) (k14 := k14) (k15 := k15) (k16 := k16) (k21 := k21) (k22 := k22) (k23 := k23) (k24 := k24) (k25 := k25) (k30 := k30) (k31 := k31) (k33 := k33) (n := n) (m := m) (aw := 0) (ls := ls) (ap := ap) (sq := sq) (pl := pl) (tz := tz) (rs := rs) (bd := bd) (pd := pd) (tk := tk) (kv := kv) (sd := sd) (ki := ki) (op := op) (fa := fa) (K := K) (G := G) (T := T) (sh := sh) (q := k25) (En := im) (n1 := n1) (m1 := m1) (sh1 := sh1) (aw1 := aw1) (ki1 := ki1) (op1 := op1) (fa1 := fa1) (K1 := K1) (G1 := G1) (T1 := T1) (hw := hw) (hw1 := hw1) (hE := (hE hp9))) cf_X5_carryAll lk_X5_181 rfl rfl rfl rfl rfl (by decide +kernel) (Nat.le_of_ble_eq_true rfl) (fun rv_2 wv_3 hp_4 hm_5 => ?_)
    clear hm_5
    obtain ⟨rfl, rfl⟩ := hp_4
    show VV E 0 0 28 [(0, .ref r0)] [] [(r0, .inr (5, [.int (nI n1), .ref k1, .ref k2, .ref k3, .ref k4, .int (nI m1), .ref k6, .ref k7, .ref k8, .int (nI 0), .ref k10, .int (nI 0), .ref k12, .ref k13, .ref k14, .ref k15, .ref k16, .int (nI ls), .int (nI ap), .int (bz bd), .int (nI sq), .ref k21, .ref k22, .ref k23, .ref k24, .ref k25, .int (bz pd), .int (nI 48), .int (nI 0), .ref k25, .ref k30, .ref k31, .int (nI tz), .ref k33, .int (nI rs), .int sd])), (k1, .inl (cI, 7, .inl (nIf ki1))), (k2, .inl (cI, 7, .inl (nIf op1))), (k3, .inl (cI, 7, .inl (nIf (shF sh1)))), (k4, .inl (cI, 7, .inl (nIf fa1))), (k6, .inl (cI, 6, .inl (nIf K1))), (k7, .inl (cI, 6, .inl (nIf G1))), (k8, .inl (cI, 6, .inl (nIf T1))), (k25, .inl (cI, 48, .inl (nIf im))), (k10, .inl (cI, 7, .inl (nIf R)))]
    refine v_al_n 29 zC dX5_restore_28 0 rfl ?_
    refine v_ic (v := (nI 0)) 30 zC dX5_restore_29 (by decide +kernel) ?_
    refine v_pf (ws2 := [(r0, .inr (5, [.int (nI n1), .ref k1, .ref k2, .ref k3, .ref k4, .int (nI m1), .ref k6, .ref k7, .ref k8, .int (nI 0), .ref k10, .int (nI 0), .ref k12, .ref k13, .ref k14, .ref k15, .ref k16, .int (nI ls), .int (nI ap), .int (bz bd), .int (nI sq), .ref k21, .ref k22, .ref k23, .ref k24, .ref k25, .int (bz pd), .int (nI 48), .int (nI 0), .ref k25, .ref k30, .ref k31, .int (nI 0), .ref k33, .int (nI rs), .int sd])), (k1, .inl (cI, 7, .inl (nIf ki1))), (k2, .inl (cI, 7, .inl (nIf op1))), (k3, .inl (cI, 7, .inl (nIf (shF sh1)))), (k4, .inl (cI, 7, .inl (nIf fa1))), (k6, .inl (cI, 6, .inl (nIf K1))), (k7, .inl (cI, 6, .inl (nIf G1))), (k8, .inl (cI, 6, .inl (nIf T1))), (k25, .inl (cI, 48, .inl (nIf im))), (k10, .inl (cI, 7, .inl (nIf R)))]) 33 0 zC dX5_restore_30 pf_X5_188 rfl (Nat.le_of_ble_eq_true rfl) rfl rfl rfl ?_
    refine v_al_n 34 zC dX5_restore_33 0 rfl ?_
    refine v_gf 37 0 zC dX5_restore_34 gf_X5_77 rfl rfl ?_
    refine v_iret zC zT dX5_restore_37  ?_
    first | (have g9 := hz9; exact Or.inl ⟨hz9, rfl, rfl⟩) | exact Or.inr ⟨hp9, rfl, rfl⟩
  ·
    have hz9 := h_1
    refine v_al_n 13 zC dX5_restore_12 0 rfl ?_
    refine v_bp (v := (-3)) 15 zC dX5_restore_13 (by decide +kernel) ?_
    refine v_cV (As := [.int (-3)]) (st := []) 18 0 [0, 9] zC dX5_restore_15 hA (c_X5_refuse (ev_l E) (ev_D E) cI (r0 := r0) (k1 := k1) (k2 := k2) (k3 := k3) (k4 := k4) (k6 := k6) (k7 := k7) (k8 := k8) (k10 := k10) (k12 := k12) (k13 := k13) (k14 := k14) (k15 := k15) (k16 := k16) (k21 := k21) (k22 := k22) (k23 := k23) (k24 := k24) (k25 := k25) (k30 := k30) (k31 := k31) (k33 := k33) (n := n) (m := m) (aw := 0) (ls := ls) (ap := ap) (sq := sq) (pl := pl) (tz := tz) (rs := rs) (bd := bd) (pd := pd) (tk := tk) (kv := kv) (sd := sd) (R := R) (v := (-3)) (j := 3) (hv := (by first | omega | assumption | rfl | (simp only []; omega) | decide)) (h1 := (by first | omega | assumption | rfl | (simp only []; omega) | decide)) (h6 := (by first | omega | assumption | rfl | (simp only []; omega) | decide))) cf_X5_refuse lk_X5_129 rfl rfl rfl rfl rfl (by decide +kernel) (Nat.le_of_ble_eq_true rfl) (fun rv_6 wv_7 hp_8 hm_9 => ?_)
    clear hm_9
    obtain ⟨rfl, rfl⟩ := hp_8
    show VV E 0 0 18 [(0, .ref r0)] [.int (-3)] [(r0, .inr (5, [.int (nI n), .ref k1, .ref k2, .ref k3, .ref k4, .int (nI m), .ref k6, .ref k7, .ref k8, .int (nI 0), .ref k10, .int (nI 0), .ref k12, .ref k13, .ref k14, .ref k15, .ref k16, .int (nI ls), .int (nI ap), .int (bz bd), .int (nI sq), .ref k21, .ref k22, .ref k23, .ref k24, .ref k25, .int (bz pd), .int (nI pl), .int (bz tk), kv, .ref k30, .ref k31, .int (nI tz), .ref k33, .int (nI rs), .int sd])), (k1, .inl (cI, 7, .inl (nIf ki))), (k2, .inl (cI, 7, .inl (nIf op))), (k3, .inl (cI, 7, .inl (nIf (shF sh)))), (k4, .inl (cI, 7, .inl (nIf fa))), (k6, .inl (cI, 6, .inl (nIf K))), (k7, .inl (cI, 6, .inl (nIf G))), (k8, .inl (cI, 6, .inl (nIf T))), (k25, .inl (cI, 48, .inl (nIf im))), (k10, .inl (cI, 7, .inl (nIf (un R 3 (R 3 + 1)))))]
    refine v_iret zC zT dX5_restore_18  ?_
    first | (have g9 := hz9; exact Or.inl ⟨hz9, rfl, rfl⟩) | exact Or.inr ⟨hp9, rfl, rfl⟩
set_option maxRecDepth 100000 in
set_option maxHeartbeats 4000000 in
theorem c_X5_count (l : Launch) (D : va_G) (cI : ClassId) (r0 k1 k2 k3 k4 k6 k7 k8 k10 k12 k13 k14 k15 k16 k21 k22 k23 k24 k25 k30 k31 k33 : Nat) (n m ls ap sq pl tz rs : Nat) (bd pd tk : Bool) (kv : Value) (sd : Int32) (op fa : Nat → Nat) (sh : Nat) (R : Nat → Nat) (w : Int32) (hn : n ≤ 7) (hsh : sh < 2 ^ n) (hop : ∀ z, op z < 2 ^ 24) (hfa : ∀ z, fa z < 1024) : CT l yX5_count cX5_count 4 (some .int) { frames := 1, cells := 0, slots := 0, locals := 25 } D cI [.ref r0, .int w] [(r0, .inr (5, [.int (nI n), .ref k1, .ref k2, .ref k3, .ref k4, .int (nI m), .ref k6, .ref k7, .ref k8, .int (nI 0), .ref k10, .int (nI 0), .ref k12, .ref k13, .ref k14, .ref k15, .ref k16, .int (nI ls), .int (nI ap), .int (bz bd), .int (nI sq), .ref k21, .ref k22, .ref k23, .ref k24, .ref k25, .int (bz pd), .int (nI pl), .int (bz tk), kv, .ref k30, .ref k31, .int (nI tz), .ref k33, .int (nI rs), .int sd])), (k2, .inl (cI, 7, .inl (nIf op))), (k3, .inl (cI, 7, .inl (nIf (shF sh)))), (k4, .inl (cI, 7, .inl (nIf fa))), (k10, .inl (cI, 7, .inl (nIf R)))] (fun zr zw => (zr = some (.int (q_count n m sh ls rs tz op fa R w)) ∧ zw = [(r0, .inr (5, [.int (nI n), .ref k1, .ref k2, .ref k3, .ref k4, .int (nI m), .ref k6, .ref k7, .ref k8, .int (nI 0), .ref k10, .int (nI 0), .ref k12, .ref k13, .ref k14, .ref k15, .ref k16, .int (nI ls), .int (nI ap), .int (bz bd), .int (nI sq), .ref k21, .ref k22, .ref k23, .ref k24, .ref k25, .int (bz pd), .int (nI pl), .int (bz tk), kv, .ref k30, .ref k31, .int (nI tz), .ref k33, .int (nI rs), .int sd])), (k2, .inl (cI, 7, .inl (nIf op))), (k3, .inl (cI, 7, .inl (nIf (shF sh)))), (k4, .inl (cI, 7, .inl (nIf fa))), (k10, .inl (cI, 7, .inl (nIf R)))])) := by
  refine CT_of RX5 rfl (by decide +kernel) (Nat.le_of_ble_eq_true rfl) (fun E hnE zC zT => ?_)
  have hA : ∀ q, (ev_s E).heap.size ≤ q → ev_A E q := fun q h => by rw [zT.2]; exact Or.inr h
  show VV E 0 0 0 [(0, .ref r0), (1, .int w)] [] [(r0, .inr (5, [.int (nI n), .ref k1, .ref k2, .ref k3, .ref k4, .int (nI m), .ref k6, .ref k7, .ref k8, .int (nI 0), .ref k10, .int (nI 0), .ref k12, .ref k13, .ref k14, .ref k15, .ref k16, .int (nI ls), .int (nI ap), .int (bz bd), .int (nI sq), .ref k21, .ref k22, .ref k23, .ref k24, .ref k25, .int (bz pd), .int (nI pl), .int (bz tk), kv, .ref k30, .ref k31, .int (nI tz), .ref k33, .int (nI rs), .int sd])), (k2, .inl (cI, 7, .inl (nIf op))), (k3, .inl (cI, 7, .inl (nIf (shF sh)))), (k4, .inl (cI, 7, .inl (nIf fa))), (k10, .inl (cI, 7, .inl (nIf R)))]
  refine v_al_n 1 zC dX5_count_0 0 rfl ?_
  refine v_ic (v := (nI 0)) 2 zC dX5_count_1 (by decide +kernel) ?_
  refine v_pf (ws2 := [(r0, .inr (5, [.int (nI n), .ref k1, .ref k2, .ref k3, .ref k4, .int (nI m), .ref k6, .ref k7, .ref k8, .int (nI 0), .ref k10, .int (nI 0), .ref k12, .ref k13, .ref k14, .ref k15, .ref k16, .int (nI ls), .int (nI ap), .int (bz bd), .int (nI sq), .ref k21, .ref k22, .ref k23, .ref k24, .ref k25, .int (bz pd), .int (nI pl), .int (bz tk), kv, .ref k30, .ref k31, .int (nI tz), .ref k33, .int (nI rs), .int sd])), (k2, .inl (cI, 7, .inl (nIf op))), (k3, .inl (cI, 7, .inl (nIf (shF sh)))), (k4, .inl (cI, 7, .inl (nIf fa))), (k10, .inl (cI, 7, .inl (nIf R)))]) 5 0 zC dX5_count_2 pf_X5_73 rfl (Nat.le_of_ble_eq_true rfl) rfl rfl rfl ?_
  refine v_ic (v := (nI 0)) 6 zC dX5_count_5 (by decide +kernel) ?_
  refine v_is_n (lv2 := [(2, .int (nI 0)), (0, .ref r0), (1, .int w)]) 7 zC dX5_count_6 (by rw [hnE]; decide) rfl ?_
  refine v_il_n 8 zC dX5_count_7 2 rfl ?_
  by_cases hc9 : w < 0 ∨ nI (7 + 1) ≤ w
  ·
    have h8 : IX 8 w = none := IX_n hc9
    refine v_tsw (off := 141) 149 zC dX5_count_8 (Or.inr ⟨sw_out (N := 7) (by decide) hc9, rfl⟩) ?_
    refine v_il_n 150 zC dX5_count_149 2 rfl ?_
    refine v_i2l (v := (Int32.toInt64 w)) 151 zC dX5_count_150 rfl ?_
    refine v_ldc2 (v := (lN 11)) 154 zC dX5_count_151 kc_X5_291 ?_
    refine v_ldc2 (v := (lN 16)) 157 zC dX5_count_154 kc_X5_293 ?_
    refine v_cS (As := [.long (Int32.toInt64 w), .long (lN 11), .long (lN 16)]) (st := []) 160 [] zC dX5_count_157 hA (c_X5_in (ev_l E) (ev_D E) cI (x := (Int32.toInt64 w)) (y := (lN 11)) (z := (lN 16)) ) cf_X5_in lk_X5_80 rfl rfl rfl (by decide +kernel) (Nat.le_of_ble_eq_true rfl) (fun rv_1 wv_2 hp_3 hm_4 => ?_)
    clear hm_4
    obtain ⟨rfl, rfl⟩ := hp_3
    show VV E 0 0 160 [(2, .int (nI 0)), (0, .ref r0), (1, .int w)] [.int (bz (inB (Int32.toInt64 w) (lN 11) (lN 16)))] [(r0, .inr (5, [.int (nI n), .ref k1, .ref k2, .ref k3, .ref k4, .int (nI m), .ref k6, .ref k7, .ref k8, .int (nI 0), .ref k10, .int (nI 0), .ref k12, .ref k13, .ref k14, .ref k15, .ref k16, .int (nI ls), .int (nI ap), .int (bz bd), .int (nI sq), .ref k21, .ref k22, .ref k23, .ref k24, .ref k25, .int (bz pd), .int (nI pl), .int (bz tk), kv, .ref k30, .ref k31, .int (nI tz), .ref k33, .int (nI rs), .int sd])), (k2, .inl (cI, 7, .inl (nIf op))), (k3, .inl (cI, 7, .inl (nIf (shF sh)))), (k4, .inl (cI, 7, .inl (nIf fa))), (k10, .inl (cI, 7, .inl (nIf R)))]
    rcases in_11 w with ⟨hlo9, b9⟩ | ⟨hhi9, b9⟩ | ⟨jw, e9, hk1, hk2, b9⟩
    ·
      rw [b9]
      refine v_ifb_eq 175 163 zC dX5_count_160 (fun _ => ?_) (fun z => absurd z (by decide))
      refine v_bp (v := (-9)) 177 zC dX5_count_175 (by decide +kernel) ?_
      refine v_iret zC zT dX5_count_177  ?_
      first | (have g9 := hlo9; exact ⟨si (cnt_lo h8 hlo9).symm, rfl⟩) | (have g9 := hhi9; exact ⟨si (cnt_hi h8 hhi9).symm, rfl⟩) | (have g9 := hk1; exact ⟨si (cnt_md h8 hk1 hk2).symm, rfl⟩) | (have g9 := hx; exact ⟨si (hq9.trans (by rw [hx, show n = p by omega]; rfl)).symm, rfl⟩) | exact ⟨si hq9.symm, rfl⟩
    ·
      rw [b9]
      refine v_ifb_eq 175 163 zC dX5_count_160 (fun _ => ?_) (fun z => absurd z (by decide))
      refine v_bp (v := (-9)) 177 zC dX5_count_175 (by decide +kernel) ?_
      refine v_iret zC zT dX5_count_177  ?_
      first | (have g9 := hlo9; exact ⟨si (cnt_lo h8 hlo9).symm, rfl⟩) | (have g9 := hhi9; exact ⟨si (cnt_hi h8 hhi9).symm, rfl⟩) | (have g9 := hk1; exact ⟨si (cnt_md h8 hk1 hk2).symm, rfl⟩) | (have g9 := hx; exact ⟨si (hq9.trans (by rw [hx, show n = p by omega]; rfl)).symm, rfl⟩) | exact ⟨si hq9.symm, rfl⟩
    ·
      rw [b9]
      subst e9
      refine v_ifb_eq 175 163 zC dX5_count_160 (fun z => absurd z (by decide)) (fun _ => ?_)
      refine v_al_n 164 zC dX5_count_163 1 rfl ?_
      refine v_gf 167 0 zC dX5_count_164 gf_X5_31 rfl rfl ?_
      refine v_il_n 168 zC dX5_count_167 2 rfl ?_
      refine v_bp (v := (nI 10)) 170 zC dX5_count_168 (by decide +kernel) ?_
      refine v_isub (v := (nI (jw - 10))) 171 zC dX5_count_170 (pk_sub (by first | omega | exact Nat.one_le_two_pow)) ?_
      refine v_ialn (v := (nI (R (jw - 10)))) 172 4 zC dX5_count_171 rfl (by omega) rfl ?_
      refine v_goto 177 zC dX5_count_172 ?_
      refine v_iret zC zT dX5_count_177  ?_
      first | (have g9 := hlo9; exact ⟨si (cnt_lo h8 hlo9).symm, rfl⟩) | (have g9 := hhi9; exact ⟨si (cnt_hi h8 hhi9).symm, rfl⟩) | (have g9 := hk1; exact ⟨si (cnt_md h8 hk1 hk2).symm, rfl⟩) | (have g9 := hx; exact ⟨si (hq9.trans (by rw [hx, show n = p by omega]; rfl)).symm, rfl⟩) | exact ⟨si hq9.symm, rfl⟩
  ·
    obtain ⟨jw, hi_w, he_w, hl_w⟩ := IX_s (N := 8) (by decide) (fun z => hc9 (Or.inl z)) (fun z => hc9 (Or.inr z))
    subst he_w
    have hs9 : jw = 0 ∨ jw = 1 ∨ jw = 2 ∨ jw = 3 ∨ jw = 4 ∨ jw = 5 ∨ jw = 6 ∨ jw = 7 := by omega
    rcases hs9 with hs9 | hs9 | hs9 | hs9 | hs9 | hs9 | hs9 | hs9
    ·
      subst hs9
      have hq9 := cnt_in (n := n) (m := m) (sh := sh) (ls := ls) (rs := rs) (cs := tz) (op := op) (fa := fa) (R := R) hi_w
      refine v_tsw (off := 48) 56 zC dX5_count_8 (Or.inl (by decide +kernel)) ?_
      refine v_al_n 57 zC dX5_count_56 1 rfl ?_
      refine v_gf 60 0 zC dX5_count_57 gf_X5_77 rfl rfl ?_
      refine v_iret zC zT dX5_count_60  ?_
      first | (have g9 := hlo9; exact ⟨si (cnt_lo h8 hlo9).symm, rfl⟩) | (have g9 := hhi9; exact ⟨si (cnt_hi h8 hhi9).symm, rfl⟩) | (have g9 := hk1; exact ⟨si (cnt_md h8 hk1 hk2).symm, rfl⟩) | (have g9 := hx; exact ⟨si (hq9.trans (by rw [hx, show n = p by omega]; rfl)).symm, rfl⟩) | exact ⟨si hq9.symm, rfl⟩
    ·
      subst hs9
      have hq9 := cnt_in (n := n) (m := m) (sh := sh) (ls := ls) (rs := rs) (cs := tz) (op := op) (fa := fa) (R := R) hi_w
      refine v_tsw (off := 53) 61 zC dX5_count_8 (Or.inl (by decide +kernel)) ?_
      refine v_al_n 62 zC dX5_count_61 1 rfl ?_
      refine v_gf 65 0 zC dX5_count_62 gf_X5_84 rfl rfl ?_
      refine v_iret zC zT dX5_count_65  ?_
      first | (have g9 := hlo9; exact ⟨si (cnt_lo h8 hlo9).symm, rfl⟩) | (have g9 := hhi9; exact ⟨si (cnt_hi h8 hhi9).symm, rfl⟩) | (have g9 := hk1; exact ⟨si (cnt_md h8 hk1 hk2).symm, rfl⟩) | (have g9 := hx; exact ⟨si (hq9.trans (by rw [hx, show n = p by omega]; rfl)).symm, rfl⟩) | exact ⟨si hq9.symm, rfl⟩
    ·
      subst hs9
      have hq9 := cnt_in (n := n) (m := m) (sh := sh) (ls := ls) (rs := rs) (cs := tz) (op := op) (fa := fa) (R := R) hi_w
      refine v_tsw (off := 58) 66 zC dX5_count_8 (Or.inl (by decide +kernel)) ?_
      refine v_al_n 67 zC dX5_count_66 1 rfl ?_
      refine v_cV (As := []) (st := []) 70 0 [0, 2] zC dX5_count_67 hA (c_X5_shutBits (ev_l E) (ev_D E) cI (r0 := r0) (k1 := k1) (k2 := k2) (k3 := k3) (k4 := k4) (k6 := k6) (k7 := k7) (k8 := k8) (k10 := k10) (k12 := k12) (k13 := k13) (k14 := k14) (k15 := k15) (k16 := k16) (k21 := k21) (k22 := k22) (k23 := k23) (k24 := k24) (k25 := k25) (k30 := k30) (k31 := k31) (k33 := k33) (n := n) (m := m) (aw := 0) (ls := ls) (ap := ap) (sq := sq) (pl := pl) (tz := tz) (rs := rs) (bd := bd) (pd := pd) (tk := tk) (kv := kv) (sd := sd) (sh := sh) (hn := (by first | omega | assumption | rfl | (simp only []; omega) | decide)) (hsh := (by first | omega | assumption | rfl | (simp only []; omega) | decide))) cf_X5_shutBits lk_X5_251 rfl rfl rfl rfl rfl (by decide +kernel) (Nat.le_of_ble_eq_true rfl) (fun rv_8 wv_9 hp_10 hm_11 => ?_)
      clear hm_11
      obtain ⟨rfl, rfl⟩ := hp_10
      show VV E 0 0 70 [(2, .int (nI 0)), (0, .ref r0), (1, .int (nI 2))] [.int (nI sh)] [(r0, .inr (5, [.int (nI n), .ref k1, .ref k2, .ref k3, .ref k4, .int (nI m), .ref k6, .ref k7, .ref k8, .int (nI 0), .ref k10, .int (nI 0), .ref k12, .ref k13, .ref k14, .ref k15, .ref k16, .int (nI ls), .int (nI ap), .int (bz bd), .int (nI sq), .ref k21, .ref k22, .ref k23, .ref k24, .ref k25, .int (bz pd), .int (nI pl), .int (bz tk), kv, .ref k30, .ref k31, .int (nI tz), .ref k33, .int (nI rs), .int sd])), (k2, .inl (cI, 7, .inl (nIf op))), (k3, .inl (cI, 7, .inl (nIf (shF sh)))), (k4, .inl (cI, 7, .inl (nIf fa))), (k10, .inl (cI, 7, .inl (nIf R)))]
      refine v_cS (As := [.int (nI sh)]) (st := []) 73 [] zC dX5_count_70 hA (c_X5_onesOf (ev_l E) (ev_D E) cI (x := sh) (hx := (Nat.lt_of_lt_of_le hsh (Nat.le_trans (Nat.pow_le_pow_right (by decide) hn) (by decide))))) cf_X5_onesOf lk_X5_120 rfl rfl rfl (by decide +kernel) (Nat.le_of_ble_eq_true rfl) (fun rv_12 wv_13 hp_14 hm_15 => ?_)
      clear hm_15
      obtain ⟨rfl, rfl⟩ := hp_14
      show VV E 0 0 73 [(2, .int (nI 0)), (0, .ref r0), (1, .int (nI 2))] [.int (nI (pcn sh))] [(r0, .inr (5, [.int (nI n), .ref k1, .ref k2, .ref k3, .ref k4, .int (nI m), .ref k6, .ref k7, .ref k8, .int (nI 0), .ref k10, .int (nI 0), .ref k12, .ref k13, .ref k14, .ref k15, .ref k16, .int (nI ls), .int (nI ap), .int (bz bd), .int (nI sq), .ref k21, .ref k22, .ref k23, .ref k24, .ref k25, .int (bz pd), .int (nI pl), .int (bz tk), kv, .ref k30, .ref k31, .int (nI tz), .ref k33, .int (nI rs), .int sd])), (k2, .inl (cI, 7, .inl (nIf op))), (k3, .inl (cI, 7, .inl (nIf (shF sh)))), (k4, .inl (cI, 7, .inl (nIf fa))), (k10, .inl (cI, 7, .inl (nIf R)))]
      refine v_iret zC zT dX5_count_73  ?_
      first | (have g9 := hlo9; exact ⟨si (cnt_lo h8 hlo9).symm, rfl⟩) | (have g9 := hhi9; exact ⟨si (cnt_hi h8 hhi9).symm, rfl⟩) | (have g9 := hk1; exact ⟨si (cnt_md h8 hk1 hk2).symm, rfl⟩) | (have g9 := hx; exact ⟨si (hq9.trans (by rw [hx, show n = p by omega]; rfl)).symm, rfl⟩) | exact ⟨si hq9.symm, rfl⟩
    ·
      subst hs9
      have hq9 := cnt_in (n := n) (m := m) (sh := sh) (ls := ls) (rs := rs) (cs := tz) (op := op) (fa := fa) (R := R) hi_w
      refine v_tsw (off := 66) 74 zC dX5_count_8 (Or.inl (by decide +kernel)) ?_
      refine v_ic (v := (nI 0)) 75 zC dX5_count_74 (by decide +kernel) ?_
      refine v_is_n (lv2 := [(3, .int (nI 0)), (2, .int (nI 0)), (0, .ref r0), (1, .int (nI 3))]) 76 zC dX5_count_75 (by rw [hnE]; decide) rfl ?_
      have lp76 : ∀ (mz : Nat) (x : Nat) (p : Nat), (x = sm (fun p => pcn (op p)) p) → (p ≤ n) → (x ≤ p * 24) → n - p = mz → VV E 0 0 76 [(3, .int (nI p)), (2, .int (nI x)), (0, .ref r0), (1, .int (nI 3))] [] [(r0, .inr (5, [.int (nI n), .ref k1, .ref k2, .ref k3, .ref k4, .int (nI m), .ref k6, .ref k7, .ref k8, .int (nI 0), .ref k10, .int (nI 0), .ref k12, .ref k13, .ref k14, .ref k15, .ref k16, .int (nI ls), .int (nI ap), .int (bz bd), .int (nI sq), .ref k21, .ref k22, .ref k23, .ref k24, .ref k25, .int (bz pd), .int (nI pl), .int (bz tk), kv, .ref k30, .ref k31, .int (nI tz), .ref k33, .int (nI rs), .int sd])), (k2, .inl (cI, 7, .inl (nIf op))), (k3, .inl (cI, 7, .inl (nIf (shF sh)))), (k4, .inl (cI, 7, .inl (nIf fa))), (k10, .inl (cI, 7, .inl (nIf R)))] := by
        intro mz
        induction mz using Nat.strongRecOn with
        | _ mz ih76 =>
        intro x p hx hp hxl hm76
        refine v_il_n 77 zC dX5_count_76 0 rfl ?_
        refine v_al_n 78 zC dX5_count_77 2 rfl ?_
        refine v_gf 81 0 zC dX5_count_78 gf_X5_77 rfl rfl ?_
        refine v_icmpn_ge 102 84 zC dX5_count_81 (fun h_16 => ?_) (fun h_16 => ?_)
        ·
          refine v_il_n 103 zC dX5_count_102 1 rfl ?_
          refine v_iret zC zT dX5_count_103  ?_
          first | (have g9 := hlo9; exact ⟨si (cnt_lo h8 hlo9).symm, rfl⟩) | (have g9 := hhi9; exact ⟨si (cnt_hi h8 hhi9).symm, rfl⟩) | (have g9 := hk1; exact ⟨si (cnt_md h8 hk1 hk2).symm, rfl⟩) | (have g9 := hx; exact ⟨si (hq9.trans (by rw [hx, show n = p by omega]; rfl)).symm, rfl⟩) | exact ⟨si hq9.symm, rfl⟩
        ·
          refine v_il_n 85 zC dX5_count_84 1 rfl ?_
          refine v_al_n 86 zC dX5_count_85 2 rfl ?_
          refine v_gf 89 0 zC dX5_count_86 gf_X5_13 rfl rfl ?_
          refine v_il_n 90 zC dX5_count_89 0 rfl ?_
          refine v_ialn (v := (nI (op p))) 91 1 zC dX5_count_90 rfl (by omega) rfl ?_
          refine v_cS (As := [.int (nI (op p))]) (st := [.int (nI x)]) 94 [] zC dX5_count_91 hA (c_X5_onesOf (ev_l E) (ev_D E) cI (x := (op p)) (hx := (Nat.lt_trans (hop _) (by decide)))) cf_X5_onesOf lk_X5_120 rfl rfl rfl (by decide +kernel) (Nat.le_of_ble_eq_true rfl) (fun rv_17 wv_18 hp_19 hm_20 => ?_)
          clear hm_20
          obtain ⟨rfl, rfl⟩ := hp_19
          show VV E 0 0 94 [(3, .int (nI p)), (2, .int (nI x)), (0, .ref r0), (1, .int (nI 3))] [.int (nI (pcn (op p))), .int (nI x)] [(r0, .inr (5, [.int (nI n), .ref k1, .ref k2, .ref k3, .ref k4, .int (nI m), .ref k6, .ref k7, .ref k8, .int (nI 0), .ref k10, .int (nI 0), .ref k12, .ref k13, .ref k14, .ref k15, .ref k16, .int (nI ls), .int (nI ap), .int (bz bd), .int (nI sq), .ref k21, .ref k22, .ref k23, .ref k24, .ref k25, .int (bz pd), .int (nI pl), .int (bz tk), kv, .ref k30, .ref k31, .int (nI tz), .ref k33, .int (nI rs), .int sd])), (k2, .inl (cI, 7, .inl (nIf op))), (k3, .inl (cI, 7, .inl (nIf (shF sh)))), (k4, .inl (cI, 7, .inl (nIf fa))), (k10, .inl (cI, 7, .inl (nIf R)))]
          have hc9 : pcn (op p) ≤ 24 := pcn_k 24 _ (hop p)
          refine v_iadd (v := (nI (x + (pcn (op p))))) 95 zC dX5_count_94 (nI_add _ _) ?_
          refine v_is_n (lv2 := [(2, .int (nI (x + (pcn (op p))))), (3, .int (nI p)), (0, .ref r0), (1, .int (nI 3))]) 96 zC dX5_count_95 (by rw [hnE]; decide) rfl ?_
          refine v_inc (v := (nI (p + 1))) (lv2 := [(3, .int (nI (p + 1))), (2, .int (nI (x + (pcn (op p))))), (0, .ref r0), (1, .int (nI 3))]) 99 zC dX5_count_96 (j := 1) rfl (nI_add _ 1) (by rw [hnE]; decide) rfl ?_
          refine v_goto 76 zC dX5_count_99 ?_
          refine v_lvs (lv2 := [(3, .int (nI (p + 1))), (2, .int (nI (x + (pcn (op p))))), (0, .ref r0), (1, .int (nI 3))]) [0, 1, 2, 3] rfl ?_
          exact ih76 _ (by omega) (x + (pcn (op p))) (p + 1) (by rw [hx]; rfl) (by first | omega | assumption | rfl | (simp only []; omega) | decide) (by first | omega | assumption | rfl | (simp only []; omega) | decide) rfl
      refine v_lvs (lv2 := [(3, .int (nI 0)), (2, .int (nI 0)), (0, .ref r0), (1, .int (nI 3))]) [0, 1, 2, 3] rfl ?_
      exact lp76 _ 0 0 rfl (by first | omega | assumption | rfl | (simp only []; omega) | decide) (by first | omega | assumption | rfl | (simp only []; omega) | decide) rfl
    ·
      subst hs9
      have hq9 := cnt_in (n := n) (m := m) (sh := sh) (ls := ls) (rs := rs) (cs := tz) (op := op) (fa := fa) (R := R) hi_w
      refine v_tsw (off := 96) 104 zC dX5_count_8 (Or.inl (by decide +kernel)) ?_
      refine v_ic (v := (nI 0)) 105 zC dX5_count_104 (by decide +kernel) ?_
      refine v_is_n (lv2 := [(3, .int (nI 0)), (2, .int (nI 0)), (0, .ref r0), (1, .int (nI 4))]) 106 zC dX5_count_105 (by rw [hnE]; decide) rfl ?_
      have lp106 : ∀ (mz : Nat) (x : Nat) (p : Nat), (x = sm (fun p => pcn (fa p)) p) → (p ≤ n) → (x ≤ p * 24) → n - p = mz → VV E 0 0 106 [(3, .int (nI p)), (2, .int (nI x)), (0, .ref r0), (1, .int (nI 4))] [] [(r0, .inr (5, [.int (nI n), .ref k1, .ref k2, .ref k3, .ref k4, .int (nI m), .ref k6, .ref k7, .ref k8, .int (nI 0), .ref k10, .int (nI 0), .ref k12, .ref k13, .ref k14, .ref k15, .ref k16, .int (nI ls), .int (nI ap), .int (bz bd), .int (nI sq), .ref k21, .ref k22, .ref k23, .ref k24, .ref k25, .int (bz pd), .int (nI pl), .int (bz tk), kv, .ref k30, .ref k31, .int (nI tz), .ref k33, .int (nI rs), .int sd])), (k2, .inl (cI, 7, .inl (nIf op))), (k3, .inl (cI, 7, .inl (nIf (shF sh)))), (k4, .inl (cI, 7, .inl (nIf fa))), (k10, .inl (cI, 7, .inl (nIf R)))] := by
        intro mz
        induction mz using Nat.strongRecOn with
        | _ mz ih106 =>
        intro x p hx hp hxl hm106
        refine v_il_n 107 zC dX5_count_106 0 rfl ?_
        refine v_al_n 108 zC dX5_count_107 2 rfl ?_
        refine v_gf 111 0 zC dX5_count_108 gf_X5_77 rfl rfl ?_
        refine v_icmpn_ge 132 114 zC dX5_count_111 (fun h_21 => ?_) (fun h_21 => ?_)
        ·
          refine v_il_n 133 zC dX5_count_132 1 rfl ?_
          refine v_iret zC zT dX5_count_133  ?_
          first | (have g9 := hlo9; exact ⟨si (cnt_lo h8 hlo9).symm, rfl⟩) | (have g9 := hhi9; exact ⟨si (cnt_hi h8 hhi9).symm, rfl⟩) | (have g9 := hk1; exact ⟨si (cnt_md h8 hk1 hk2).symm, rfl⟩) | (have g9 := hx; exact ⟨si (hq9.trans (by rw [hx, show n = p by omega]; rfl)).symm, rfl⟩) | exact ⟨si hq9.symm, rfl⟩
        ·
          refine v_il_n 115 zC dX5_count_114 1 rfl ?_
          refine v_al_n 116 zC dX5_count_115 2 rfl ?_
          refine v_gf 119 0 zC dX5_count_116 gf_X5_19 rfl rfl ?_
          refine v_il_n 120 zC dX5_count_119 0 rfl ?_
          refine v_ialn (v := (nI (fa p))) 121 3 zC dX5_count_120 rfl (by omega) rfl ?_
          refine v_cS (As := [.int (nI (fa p))]) (st := [.int (nI x)]) 124 [] zC dX5_count_121 hA (c_X5_onesOf (ev_l E) (ev_D E) cI (x := (fa p)) (hx := (Nat.lt_trans (hfa _) (by decide)))) cf_X5_onesOf lk_X5_120 rfl rfl rfl (by decide +kernel) (Nat.le_of_ble_eq_true rfl) (fun rv_22 wv_23 hp_24 hm_25 => ?_)
          clear hm_25
          obtain ⟨rfl, rfl⟩ := hp_24
          show VV E 0 0 124 [(3, .int (nI p)), (2, .int (nI x)), (0, .ref r0), (1, .int (nI 4))] [.int (nI (pcn (fa p))), .int (nI x)] [(r0, .inr (5, [.int (nI n), .ref k1, .ref k2, .ref k3, .ref k4, .int (nI m), .ref k6, .ref k7, .ref k8, .int (nI 0), .ref k10, .int (nI 0), .ref k12, .ref k13, .ref k14, .ref k15, .ref k16, .int (nI ls), .int (nI ap), .int (bz bd), .int (nI sq), .ref k21, .ref k22, .ref k23, .ref k24, .ref k25, .int (bz pd), .int (nI pl), .int (bz tk), kv, .ref k30, .ref k31, .int (nI tz), .ref k33, .int (nI rs), .int sd])), (k2, .inl (cI, 7, .inl (nIf op))), (k3, .inl (cI, 7, .inl (nIf (shF sh)))), (k4, .inl (cI, 7, .inl (nIf fa))), (k10, .inl (cI, 7, .inl (nIf R)))]
          have hc9 : pcn (fa p) ≤ 10 := pcn_k 10 _ (hfa p)
          refine v_iadd (v := (nI (x + (pcn (fa p))))) 125 zC dX5_count_124 (nI_add _ _) ?_
          refine v_is_n (lv2 := [(2, .int (nI (x + (pcn (fa p))))), (3, .int (nI p)), (0, .ref r0), (1, .int (nI 4))]) 126 zC dX5_count_125 (by rw [hnE]; decide) rfl ?_
          refine v_inc (v := (nI (p + 1))) (lv2 := [(3, .int (nI (p + 1))), (2, .int (nI (x + (pcn (fa p))))), (0, .ref r0), (1, .int (nI 4))]) 129 zC dX5_count_126 (j := 1) rfl (nI_add _ 1) (by rw [hnE]; decide) rfl ?_
          refine v_goto 106 zC dX5_count_129 ?_
          refine v_lvs (lv2 := [(3, .int (nI (p + 1))), (2, .int (nI (x + (pcn (fa p))))), (0, .ref r0), (1, .int (nI 4))]) [0, 1, 2, 3] rfl ?_
          exact ih106 _ (by omega) (x + (pcn (fa p))) (p + 1) (by rw [hx]; rfl) (by first | omega | assumption | rfl | (simp only []; omega) | decide) (by first | omega | assumption | rfl | (simp only []; omega) | decide) rfl
      refine v_lvs (lv2 := [(3, .int (nI 0)), (2, .int (nI 0)), (0, .ref r0), (1, .int (nI 4))]) [0, 1, 2, 3] rfl ?_
      exact lp106 _ 0 0 rfl (by first | omega | assumption | rfl | (simp only []; omega) | decide) (by first | omega | assumption | rfl | (simp only []; omega) | decide) rfl
    ·
      subst hs9
      have hq9 := cnt_in (n := n) (m := m) (sh := sh) (ls := ls) (rs := rs) (cs := tz) (op := op) (fa := fa) (R := R) hi_w
      refine v_tsw (off := 126) 134 zC dX5_count_8 (Or.inl (by decide +kernel)) ?_
      refine v_al_n 135 zC dX5_count_134 1 rfl ?_
      refine v_gf 138 0 zC dX5_count_135 gf_X5_132 rfl rfl ?_
      refine v_iret zC zT dX5_count_138  ?_
      first | (have g9 := hlo9; exact ⟨si (cnt_lo h8 hlo9).symm, rfl⟩) | (have g9 := hhi9; exact ⟨si (cnt_hi h8 hhi9).symm, rfl⟩) | (have g9 := hk1; exact ⟨si (cnt_md h8 hk1 hk2).symm, rfl⟩) | (have g9 := hx; exact ⟨si (hq9.trans (by rw [hx, show n = p by omega]; rfl)).symm, rfl⟩) | exact ⟨si hq9.symm, rfl⟩
    ·
      subst hs9
      have hq9 := cnt_in (n := n) (m := m) (sh := sh) (ls := ls) (rs := rs) (cs := tz) (op := op) (fa := fa) (R := R) hi_w
      refine v_tsw (off := 131) 139 zC dX5_count_8 (Or.inl (by decide +kernel)) ?_
      refine v_al_n 140 zC dX5_count_139 1 rfl ?_
      refine v_gf 143 0 zC dX5_count_140 gf_X5_270 rfl rfl ?_
      refine v_iret zC zT dX5_count_143  ?_
      first | (have g9 := hlo9; exact ⟨si (cnt_lo h8 hlo9).symm, rfl⟩) | (have g9 := hhi9; exact ⟨si (cnt_hi h8 hhi9).symm, rfl⟩) | (have g9 := hk1; exact ⟨si (cnt_md h8 hk1 hk2).symm, rfl⟩) | (have g9 := hx; exact ⟨si (hq9.trans (by rw [hx, show n = p by omega]; rfl)).symm, rfl⟩) | exact ⟨si hq9.symm, rfl⟩
    ·
      subst hs9
      have hq9 := cnt_in (n := n) (m := m) (sh := sh) (ls := ls) (rs := rs) (cs := tz) (op := op) (fa := fa) (R := R) hi_w
      refine v_tsw (off := 136) 144 zC dX5_count_8 (Or.inl (by decide +kernel)) ?_
      refine v_al_n 145 zC dX5_count_144 1 rfl ?_
      refine v_gf 148 0 zC dX5_count_145 gf_X5_188 rfl rfl ?_
      refine v_iret zC zT dX5_count_148  ?_
      first | (have g9 := hlo9; exact ⟨si (cnt_lo h8 hlo9).symm, rfl⟩) | (have g9 := hhi9; exact ⟨si (cnt_hi h8 hhi9).symm, rfl⟩) | (have g9 := hk1; exact ⟨si (cnt_md h8 hk1 hk2).symm, rfl⟩) | (have g9 := hx; exact ⟨si (hq9.trans (by rw [hx, show n = p by omega]; rfl)).symm, rfl⟩) | exact ⟨si hq9.symm, rfl⟩
