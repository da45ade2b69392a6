/-! more of the reference's answers -/
theorem dinr_s {s : SG} {y h f : Nat} (hy : y = sm (fun i => pcn (SPK s (f + i))) (h - f)) (hb : f ≤ h) : y + pcn (SPK s h) = sm (fun i => pcn (SPK s (f + i))) (h + 1 - f) := din_s hy hb
theorem pto_s {a b k g : Nat} (h : a ≠ 0) (hk : k = 0) (hg : g = Nat.gcd a b) : PTO a b k = a / g := pto_1 h hk (by rw [hg, Nat.gcd_comm])
theorem pto_t {a b k g : Nat} (h : a ≠ 0) (hk : k ≠ 0) (hg : g = Nat.gcd a b) : PTO a b k = b / g := pto_2 h hk (by rw [hg, Nat.gcd_comm])
theorem gcd_0 {a b : Nat} (h : a ≠ 0) : 0 < Nat.gcd a b := Nat.gcd_pos_of_pos_left _ (Nat.pos_of_ne_zero h)
theorem gcd_le {a b : Nat} (h : a ≠ 0) : Nat.gcd a b ≤ a := Nat.le_of_dvd (Nat.pos_of_ne_zero h) (Nat.gcd_dvd_left a b)
section RK2
variable {n m sh aw : Nat} {ki op fa K G T kw kn : Nat → Nat} {M : Nat → Option Nat}
theorem ktor_lt (h : ROK (n, m, sh, aw, ki, op, fa, K, G, T) kw kn M) {t : Nat} : KTO (n, m, sh, aw, ki, op, fa, K, G, T) t < 1024 := by
  refine orn_lt (e := 10) (fun k hk => ?_)
  split
  · exact rk_b h (Nat.le_refl _) hk
  · decide
end RK2
theorem kto_s {s : SG} {t p x : Nat} (hx : x = orn (fun p => if Nat.testBit t p = true then DR s 24 p else 0) p) (c : Nat.testBit t p = true) : x ||| DR s 24 p = orn (fun p => if Nat.testBit t p = true then DR s 24 p else 0) (p + 1) := by
  rw [hx]
  simp [orn, c]
theorem kto_n {s : SG} {t p x : Nat} (hx : x = orn (fun p => if Nat.testBit t p = true then DR s 24 p else 0) p) (c : Nat.testBit t p = false) : x = orn (fun p => if Nat.testBit t p = true then DR s 24 p else 0) (p + 1) := by
  rw [hx]
  simp [orn, c]
section SHM
variable {rw : Nat → Nat} {k : Nat} {wr : Int32}
theorem shm_a (h : (wr = nI 0 ∧ fs (fun i => decide (10 < rw i)) k = none) ∨ (wr = -3 ∧ (fs (fun i => decide (10 < rw i)) k).isSome = true)) (hz : wr = 0) (hu : 10 < rw k) : ((-3 : Int32) = nI 0 ∧ fs (fun i => decide (10 < rw i)) (k + 1) = none) ∨ ((-3 : Int32) = -3 ∧ (fs (fun i => decide (10 < rw i)) (k + 1)).isSome = true) := by
  rcases h with h | h
  · exact Or.inr ⟨rfl, by rw [fs_1 h.2 (decide_eq_true hu)]; rfl⟩
  · rw [hz] at h
    exact absurd h.1 (by decide +kernel)
theorem shm_b (h : (wr = nI 0 ∧ fs (fun i => decide (10 < rw i)) k = none) ∨ (wr = -3 ∧ (fs (fun i => decide (10 < rw i)) k).isSome = true)) (hz : wr = 0) (hu : ¬ 10 < rw k) : (wr = nI 0 ∧ fs (fun i => decide (10 < rw i)) (k + 1) = none) ∨ (wr = -3 ∧ (fs (fun i => decide (10 < rw i)) (k + 1)).isSome = true) := by
  rcases h with h | h
  · exact Or.inl ⟨h.1, fs_0 h.2 (decide_eq_false hu)⟩
  · rw [hz] at h
    exact absurd h.1 (by decide +kernel)
theorem shm_c (h : (wr = nI 0 ∧ fs (fun i => decide (10 < rw i)) k = none) ∨ (wr = -3 ∧ (fs (fun i => decide (10 < rw i)) k).isSome = true)) (hz : ¬ wr = 0) : (wr = nI 0 ∧ fs (fun i => decide (10 < rw i)) (k + 1) = none) ∨ (wr = -3 ∧ (fs (fun i => decide (10 < rw i)) (k + 1)).isSome = true) := by
  rcases h with h | h
  · exact absurd h.1 hz
  · refine Or.inr ⟨h.1, ?_⟩
    obtain ⟨v, hv⟩ := Option.isSome_iff_exists.mp h.2
    rw [fs_m (Nat.le_succ k) hv]
    rfl
end SHM
theorem say_lt {n m sh aw : Nat} {ki op fa K G T : Nat → Nat} {p h : Nat} (hT : ∀ z, T z < 10) : SAY (n, m, sh, aw, ki, op, fa, K, G, T) p h < 1024 := by
  refine orn_lt (e := 10) (fun k _ => ?_)
  split
  · exact Nat.pow_lt_pow_right (by decide) (hT k)
  · decide

set_option maxRecDepth 100000 in
set_option maxHeartbeats 4000000 in
theorem c_X5_dinner (l : Launch) (D : va_G) (cI : ClassId) (r0 k1 k2 k3 k4 k6 k7 k8 k10 k12 k13 k14 k15 k16 k21 k22 k23 k24 k25 k30 k31 k33 : Nat) (n m ls ap sq pl tz rs : Nat) (bd pd tk : Bool) (kv : Value) (sd : Int32) (ki op fa K G T : Nat → Nat) (sh : Nat) (kw kn : Nat → Nat) (M : Nat → Option Nat) (mw : Nat → Nat) (R : Nat → Nat) (k w : Int32) (hw : FW n m sh ki op fa K G T) (hkw : ∀ z, kw z < 1024) (hkn : ∀ z, kn z < 1024) (hM : ∀ z v, M z = some v → v < 7) : CT l yX5_dinner cX5_dinner 9 (some .int) { frames := 6, cells := 0, slots := 0, locals := 138 } D cI [.ref r0, .int k, .int w] [(r0, .inr (5, [.int (nI n), .ref k1, .ref k2, .ref k3, .ref k4, .int (nI m), .ref k6, .ref k7, .ref k8, .int (nI 0), .ref k10, .int (nI 0), .ref k12, .ref k13, .ref k14, .ref k15, .ref k16, .int (nI ls), .int (nI ap), .int (bz bd), .int (nI sq), .ref k21, .ref k22, .ref k23, .ref k24, .ref k25, .int (bz pd), .int (nI pl), .int (bz tk), kv, .ref k30, .ref k31, .int (nI tz), .ref k33, .int (nI rs), .int sd])), (k1, .inl (cI, 7, .inl (nIf ki))), (k2, .inl (cI, 7, .inl (nIf op))), (k3, .inl (cI, 7, .inl (nIf (shF sh)))), (k4, .inl (cI, 7, .inl (nIf fa))), (k6, .inl (cI, 6, .inl (nIf K))), (k7, .inl (cI, 6, .inl (nIf G))), (k8, .inl (cI, 6, .inl (nIf T))), (k12, .inl (cI, 7, .inl (nIf kw))), (k13, .inl (cI, 175, .inl (nIf kn))), (k14, .inl (cI, 144, .inl (mIf M))), (k15, .inl (cI, 7, .inl (nIf mw))), (k10, .inl (cI, 7, .inl (nIf R)))] (fun zr zw => (∃ kw1 : Nat → Nat, ∃ kn1 : Nat → Nat, ∃ M1 : Nat → Option Nat, ∃ mw1 : Nat → Nat, ∃ rc : Nat, ∃ rv : Int32, (q_dinner (n, m, sh, 0, ki, op, fa, K, G, T) k w = (rc, rv)) ∧ (∀ z, kw1 z < 1024) ∧ (∀ z, kn1 z < 1024) ∧ (∀ z v, M1 z = some v → v < 7) ∧ zr = some (.int rv) ∧ zw = [(r0, .inr (5, [.int (nI n), .ref k1, .ref k2, .ref k3, .ref k4, .int (nI m), .ref k6, .ref k7, .ref k8, .int (nI 0), .ref k10, .int (nI 0), .ref k12, .ref k13, .ref k14, .ref k15, .ref k16, .int (nI ls), .int (nI ap), .int (bz bd), .int (nI sq), .ref k21, .ref k22, .ref k23, .ref k24, .ref k25, .int (bz pd), .int (nI pl), .int (bz tk), kv, .ref k30, .ref k31, .int (nI tz), .ref k33, .int (nI rs), .int sd])), (k1, .inl (cI, 7, .inl (nIf ki))), (k2, .inl (cI, 7, .inl (nIf op))), (k3, .inl (cI, 7, .inl (nIf (shF sh)))), (k4, .inl (cI, 7, .inl (nIf fa))), (k6, .inl (cI, 6, .inl (nIf K))), (k7, .inl (cI, 6, .inl (nIf G))), (k8, .inl (cI, 6, .inl (nIf T))), (k12, .inl (cI, 7, .inl (nIf kw1))), (k13, .inl (cI, 175, .inl (nIf kn1))), (k14, .inl (cI, 144, .inl (mIf M1))), (k15, .inl (cI, 7, .inl (nIf mw1))), (k10, .inl (cI, 7, .inl (nIf (rf R rc))))])) := by
  refine CT_of RX5 rfl (by decide +kernel) (Nat.le_of_ble_eq_true rfl) (fun E hnE zC zT => ?_)
  have hA : ∀ q, (ev_s E).heap.size ≤ q → ev_A E q := fun q h => by rw [zT.2]; exact Or.inr h
  obtain ⟨hn, hm, hsh, hki, hop, hfa, hK, hG, hT, vki, vop, vfa, vK, vG, vT⟩ := id hw
  show VV E 0 0 0 [(0, .ref r0), (1, .int k), (2, .int w)] [] [(r0, .inr (5, [.int (nI n), .ref k1, .ref k2, .ref k3, .ref k4, .int (nI m), .ref k6, .ref k7, .ref k8, .int (nI 0), .ref k10, .int (nI 0), .ref k12, .ref k13, .ref k14, .ref k15, .ref k16, .int (nI ls), .int (nI ap), .int (bz bd), .int (nI sq), .ref k21, .ref k22, .ref k23, .ref k24, .ref k25, .int (bz pd), .int (nI pl), .int (bz tk), kv, .ref k30, .ref k31, .int (nI tz), .ref k33, .int (nI rs), .int sd])), (k1, .inl (cI, 7, .inl (nIf ki))), (k2, .inl (cI, 7, .inl (nIf op))), (k3, .inl (cI, 7, .inl (nIf (shF sh)))), (k4, .inl (cI, 7, .inl (nIf fa))), (k6, .inl (cI, 6, .inl (nIf K))), (k7, .inl (cI, 6, .inl (nIf G))), (k8, .inl (cI, 6, .inl (nIf T))), (k12, .inl (cI, 7, .inl (nIf kw))), (k13, .inl (cI, 175, .inl (nIf kn))), (k14, .inl (cI, 144, .inl (mIf M))), (k15, .inl (cI, 7, .inl (nIf mw))), (k10, .inl (cI, 7, .inl (nIf R)))]
  refine v_al_n 1 zC dX5_dinner_0 0 rfl ?_
  refine v_ic (v := (nI 0)) 2 zC dX5_dinner_1 (by decide +kernel) ?_
  refine v_pf (ws2 := [(r0, .inr (5, [.int (nI n), .ref k1, .ref k2, .ref k3, .ref k4, .int (nI m), .ref k6, .ref k7, .ref k8, .int (nI 0), .ref k10, .int (nI 0), .ref k12, .ref k13, .ref k14, .ref k15, .ref k16, .int (nI ls), .int (nI ap), .int (bz bd), .int (nI sq), .ref k21, .ref k22, .ref k23, .ref k24, .ref k25, .int (bz pd), .int (nI pl), .int (bz tk), kv, .ref k30, .ref k31, .int (nI tz), .ref k33, .int (nI rs), .int sd])), (k1, .inl (cI, 7, .inl (nIf ki))), (k2, .inl (cI, 7, .inl (nIf op))), (k3, .inl (cI, 7, .inl (nIf (shF sh)))), (k4, .inl (cI, 7, .inl (nIf fa))), (k6, .inl (cI, 6, .inl (nIf K))), (k7, .inl (cI, 6, .inl (nIf G))), (k8, .inl (cI, 6, .inl (nIf T))), (k12, .inl (cI, 7, .inl (nIf kw))), (k13, .inl (cI, 175, .inl (nIf kn))), (k14, .inl (cI, 144, .inl (mIf M))), (k15, .inl (cI, 7, .inl (nIf mw))), (k10, .inl (cI, 7, .inl (nIf R)))]) 5 0 zC dX5_dinner_2 pf_X5_73 rfl (Nat.le_of_ble_eq_true rfl) rfl rfl rfl ?_
  refine v_il_n 6 zC dX5_dinner_5 1 rfl ?_
  refine v_ic (v := (nI 1)) 7 zC dX5_dinner_6 (by decide +kernel) ?_
  refine v_bp (v := (nI 12)) 9 zC dX5_dinner_7 (by decide +kernel) ?_
  refine v_cS (As := [.int k, .int (nI 1), .int (nI 12)]) (st := []) 12 [] zC dX5_dinner_9 hA (c_X5_wrongNumber (ev_l E) (ev_D E) cI (v := k) (a := 1) (b := 12) (ha := (by first | omega | assumption | rfl | (simp only []; omega) | decide)) (hb := (by first | omega | assumption | rfl | (simp only []; omega) | decide))) cf_X5_wrongNumber lk_X5_213 rfl rfl rfl (by decide +kernel) (Nat.le_of_ble_eq_true rfl) (fun rv_1 wv_2 hp_3 hm_4 => ?_)
  clear hm_4
  rcases hp_3 with ⟨hq_5, rfl, rfl⟩ | ⟨hq_6, hq2_7, rfl, rfl⟩ | ⟨j_8, he_9, h1_10, h2_11, rfl, rfl⟩
  ·
    show VV E 0 0 12 [(0, .ref r0), (1, .int k), (2, .int w)] [.int (-4)] [(r0, .inr (5, [.int (nI n), .ref k1, .ref k2, .ref k3, .ref k4, .int (nI m), .ref k6, .ref k7, .ref k8, .int (nI 0), .ref k10, .int (nI 0), .ref k12, .ref k13, .ref k14, .ref k15, .ref k16, .int (nI ls), .int (nI ap), .int (bz bd), .int (nI sq), .ref k21, .ref k22, .ref k23, .ref k24, .ref k25, .int (bz pd), .int (nI pl), .int (bz tk), kv, .ref k30, .ref k31, .int (nI tz), .ref k33, .int (nI rs), .int sd])), (k1, .inl (cI, 7, .inl (nIf ki))), (k2, .inl (cI, 7, .inl (nIf op))), (k3, .inl (cI, 7, .inl (nIf (shF sh)))), (k4, .inl (cI, 7, .inl (nIf fa))), (k6, .inl (cI, 6, .inl (nIf K))), (k7, .inl (cI, 6, .inl (nIf G))), (k8, .inl (cI, 6, .inl (nIf T))), (k12, .inl (cI, 7, .inl (nIf kw))), (k13, .inl (cI, 175, .inl (nIf kn))), (k14, .inl (cI, 144, .inl (mIf M))), (k15, .inl (cI, 7, .inl (nIf mw))), (k10, .inl (cI, 7, .inl (nIf R)))]
    have hlt_k : k < nI 1 := hq_5
    refine v_il_n 13 zC dX5_dinner_12 2 rfl ?_
    refine v_ic (v := (nI 1)) 14 zC dX5_dinner_13 (by decide +kernel) ?_
    refine v_cS (As := [.int (-4), .int w, .int (nI 1)]) (st := []) 17 [] zC dX5_dinner_14 hA (c_X5_wrongBit__N (ev_l E) (ev_D E) cI (w := (-4)) (v := w) (k := 1) (hw0 := (by decide))) cf_X5_wrongBit lk_X5_248 rfl rfl rfl (by decide +kernel) (Nat.le_of_ble_eq_true rfl) (fun rv_12 wv_13 hp_14 hm_15 => ?_)
    clear hm_15
    obtain ⟨rfl, rfl⟩ := hp_14
    show VV E 0 0 17 [(0, .ref r0), (1, .int k), (2, .int w)] [.int (-4)] [(r0, .inr (5, [.int (nI n), .ref k1, .ref k2, .ref k3, .ref k4, .int (nI m), .ref k6, .ref k7, .ref k8, .int (nI 0), .ref k10, .int (nI 0), .ref k12, .ref k13, .ref k14, .ref k15, .ref k16, .int (nI ls), .int (nI ap), .int (bz bd), .int (nI sq), .ref k21, .ref k22, .ref k23, .ref k24, .ref k25, .int (bz pd), .int (nI pl), .int (bz tk), kv, .ref k30, .ref k31, .int (nI tz), .ref k33, .int (nI rs), .int sd])), (k1, .inl (cI, 7, .inl (nIf ki))), (k2, .inl (cI, 7, .inl (nIf op))), (k3, .inl (cI, 7, .inl (nIf (shF sh)))), (k4, .inl (cI, 7, .inl (nIf fa))), (k6, .inl (cI, 6, .inl (nIf K))), (k7, .inl (cI, 6, .inl (nIf G))), (k8, .inl (cI, 6, .inl (nIf T))), (k12, .inl (cI, 7, .inl (nIf kw))), (k13, .inl (cI, 175, .inl (nIf kn))), (k14, .inl (cI, 144, .inl (mIf M))), (k15, .inl (cI, 7, .inl (nIf mw))), (k10, .inl (cI, 7, .inl (nIf R)))]
    refine v_is_n (lv2 := [(3, .int (-4)), (0, .ref r0), (1, .int k), (2, .int w)]) 18 zC dX5_dinner_17 (by rw [hnE]; decide) rfl ?_
    refine v_il_n 19 zC dX5_dinner_18 0 rfl ?_
    refine v_if_ge 28 22 zC dX5_dinner_19 (fun z => absurd z (by decide +kernel)) (fun _ => ?_)
    refine v_al_n 23 zC dX5_dinner_22 1 rfl ?_
    refine v_il_n 24 zC dX5_dinner_23 0 rfl ?_
    refine v_cV (As := [.int (-4)]) (st := []) 27 0 [0, 12] zC dX5_dinner_24 hA (c_X5_refuse (ev_l E) (ev_D E) cI (r0 := r0) (k1 := k1) (k2 := k2) (k3 := k3) (k4 := k4) (k6 := k6) (k7 := k7) (k8 := k8) (k10 := k10) (k12 := k12) (k13 := k13) (k14 := k14) (k15 := k15) (k16 := k16) (k21 := k21) (k22 := k22) (k23 := k23) (k24 := k24) (k25 := k25) (k30 := k30) (k31 := k31) (k33 := k33) (n := n) (m := m) (aw := 0) (ls := ls) (ap := ap) (sq := sq) (pl := pl) (tz := tz) (rs := rs) (bd := bd) (pd := pd) (tk := tk) (kv := kv) (sd := sd) (R := R) (v := (-4)) (j := 4) (hv := (by first | omega | assumption | rfl | (simp only []; omega) | decide)) (h1 := (by first | omega | assumption | rfl | (simp only []; omega) | decide)) (h6 := (by first | omega | assumption | rfl | (simp only []; omega) | decide))) cf_X5_refuse lk_X5_129 rfl rfl rfl rfl rfl (by decide +kernel) (Nat.le_of_ble_eq_true rfl) (fun rv_17 wv_18 hp_19 hm_20 => ?_)
    clear hm_20
    obtain ⟨rfl, rfl⟩ := hp_19
    show VV E 0 0 27 [(3, .int (-4)), (0, .ref r0), (1, .int k), (2, .int w)] [.int (-4)] [(r0, .inr (5, [.int (nI n), .ref k1, .ref k2, .ref k3, .ref k4, .int (nI m), .ref k6, .ref k7, .ref k8, .int (nI 0), .ref k10, .int (nI 0), .ref k12, .ref k13, .ref k14, .ref k15, .ref k16, .int (nI ls), .int (nI ap), .int (bz bd), .int (nI sq), .ref k21, .ref k22, .ref k23, .ref k24, .ref k25, .int (bz pd), .int (nI pl), .int (bz tk), kv, .ref k30, .ref k31, .int (nI tz), .ref k33, .int (nI rs), .int sd])), (k1, .inl (cI, 7, .inl (nIf ki))), (k2, .inl (cI, 7, .inl (nIf op))), (k3, .inl (cI, 7, .inl (nIf (shF sh)))), (k4, .inl (cI, 7, .inl (nIf fa))), (k6, .inl (cI, 6, .inl (nIf K))), (k7, .inl (cI, 6, .inl (nIf G))), (k8, .inl (cI, 6, .inl (nIf T))), (k12, .inl (cI, 7, .inl (nIf kw))), (k13, .inl (cI, 175, .inl (nIf kn))), (k14, .inl (cI, 144, .inl (mIf M))), (k15, .inl (cI, 7, .inl (nIf mw))), (k10, .inl (cI, 7, .inl (nIf (un R 4 (R 4 + 1)))))]
    refine v_iret zC zT dX5_dinner_27  ?_
    first | (have g9 := hlt_k; exact ⟨kw, kn, M, mw, 4, _, by unfold q_dinner; rw [if_pos hlt_k], hkw, hkn, hM, rfl, rfl⟩) | (have g9 := hgt_k; exact ⟨kw, kn, M, mw, 6, _, by unfold q_dinner; rw [if_neg hge_k, if_pos hgt_k], hkw, hkn, hM, rfl, rfl⟩) | (have g9 := hn_w; exact ⟨kw, kn, M, mw, 2, _, by unfold q_dinner; rw [if_neg hge_k, if_neg hle_k, hn_w], hkw, hkn, hM, rfl, rfl⟩) | exact ⟨_, _, _, _, 0, _, by unfold q_dinner; rw [if_neg hge_k, if_neg hle_k, hi_w]; dsimp only; rw [nI_clamp (show jk < 2 ^ 31 by omega), show 25 - jk = f by omega, dn_e hs (by omega)]; first | (rw [if_pos (by assumption)]; rfl) | (rw [if_neg (by assumption)]; done), hR9.2.2.2.1, hR9.2.2.2.2.1, hR9.2.2.2.2.2, rfl, rfl⟩
  ·
    show VV E 0 0 12 [(0, .ref r0), (1, .int k), (2, .int w)] [.int (-6)] [(r0, .inr (5, [.int (nI n), .ref k1, .ref k2, .ref k3, .ref k4, .int (nI m), .ref k6, .ref k7, .ref k8, .int (nI 0), .ref k10, .int (nI 0), .ref k12, .ref k13, .ref k14, .ref k15, .ref k16, .int (nI ls), .int (nI ap), .int (bz bd), .int (nI sq), .ref k21, .ref k22, .ref k23, .ref k24, .ref k25, .int (bz pd), .int (nI pl), .int (bz tk), kv, .ref k30, .ref k31, .int (nI tz), .ref k33, .int (nI rs), .int sd])), (k1, .inl (cI, 7, .inl (nIf ki))), (k2, .inl (cI, 7, .inl (nIf op))), (k3, .inl (cI, 7, .inl (nIf (shF sh)))), (k4, .inl (cI, 7, .inl (nIf fa))), (k6, .inl (cI, 6, .inl (nIf K))), (k7, .inl (cI, 6, .inl (nIf G))), (k8, .inl (cI, 6, .inl (nIf T))), (k12, .inl (cI, 7, .inl (nIf kw))), (k13, .inl (cI, 175, .inl (nIf kn))), (k14, .inl (cI, 144, .inl (mIf M))), (k15, .inl (cI, 7, .inl (nIf mw))), (k10, .inl (cI, 7, .inl (nIf R)))]
    have hge_k := hq_6
    have hgt_k := hq2_7
    refine v_il_n 13 zC dX5_dinner_12 2 rfl ?_
    refine v_ic (v := (nI 1)) 14 zC dX5_dinner_13 (by decide +kernel) ?_
    refine v_cS (As := [.int (-6), .int w, .int (nI 1)]) (st := []) 17 [] zC dX5_dinner_14 hA (c_X5_wrongBit__N (ev_l E) (ev_D E) cI (w := (-6)) (v := w) (k := 1) (hw0 := (by decide))) cf_X5_wrongBit lk_X5_248 rfl rfl rfl (by decide +kernel) (Nat.le_of_ble_eq_true rfl) (fun rv_21 wv_22 hp_23 hm_24 => ?_)
    clear hm_24
    obtain ⟨rfl, rfl⟩ := hp_23
    show VV E 0 0 17 [(0, .ref r0), (1, .int k), (2, .int w)] [.int (-6)] [(r0, .inr (5, [.int (nI n), .ref k1, .ref k2, .ref k3, .ref k4, .int (nI m), .ref k6, .ref k7, .ref k8, .int (nI 0), .ref k10, .int (nI 0), .ref k12, .ref k13, .ref k14, .ref k15, .ref k16, .int (nI ls), .int (nI ap), .int (bz bd), .int (nI sq), .ref k21, .ref k22, .ref k23, .ref k24, .ref k25, .int (bz pd), .int (nI pl), .int (bz tk), kv, .ref k30, .ref k31, .int (nI tz), .ref k33, .int (nI rs), .int sd])), (k1, .inl (cI, 7, .inl (nIf ki))), (k2, .inl (cI, 7, .inl (nIf op))), (k3, .inl (cI, 7, .inl (nIf (shF sh)))), (k4, .inl (cI, 7, .inl (nIf fa))), (k6, .inl (cI, 6, .inl (nIf K))), (k7, .inl (cI, 6, .inl (nIf G))), (k8, .inl (cI, 6, .inl (nIf T))), (k12, .inl (cI, 7, .inl (nIf kw))), (k13, .inl (cI, 175, .inl (nIf kn))), (k14, .inl (cI, 144, .inl (mIf M))), (k15, .inl (cI, 7, .inl (nIf mw))), (k10, .inl (cI, 7, .inl (nIf R)))]
    refine v_is_n (lv2 := [(3, .int (-6)), (0, .ref r0), (1, .int k), (2, .int w)]) 18 zC dX5_dinner_17 (by rw [hnE]; decide) rfl ?_
    refine v_il_n 19 zC dX5_dinner_18 0 rfl ?_
    refine v_if_ge 28 22 zC dX5_dinner_19 (fun z => absurd z (by decide +kernel)) (fun _ => ?_)
    refine v_al_n 23 zC dX5_dinner_22 1 rfl ?_
    refine v_il_n 24 zC dX5_dinner_23 0 rfl ?_
    refine v_cV (As := [.int (-6)]) (st := []) 27 0 [0, 12] zC dX5_dinner_24 hA (c_X5_refuse (ev_l E) (ev_D E) cI (r0 := r0) (k1 := k1) (k2 := k2) (k3 := k3) (k4 := k4) (k6 := k6) (k7 := k7) (k8 := k8) (k10 := k10) (k12 := k12) (k13 := k13) (k14 := k14) (k15 := k15) (k16 := k16) (k21 := k21) (k22 := k22) (k23 := k23) (k24 := k24) (k25 := k25) (k30 := k30) (k31 := k31) (k33 := k33) (n := n) (m := m) (aw := 0) (ls := ls) (ap := ap) (sq := sq) (pl := pl) (tz := tz) (rs := rs) (bd := bd) (pd := pd) (tk := tk) (kv := kv) (sd := sd) (R := R) (v := (-6)) (j := 6) (hv := (by first | omega | assumption | rfl | (simp only []; omega) | decide)) (h1 := (by first | omega | assumption | rfl | (simp only []; omega) | decide)) (h6 := (by first | omega | assumption | rfl | (simp only []; omega) | decide))) cf_X5_refuse lk_X5_129 rfl rfl rfl rfl rfl (by decide +kernel) (Nat.le_of_ble_eq_true rfl) (fun rv_26 wv_27 hp_28 hm_29 => ?_)
    clear hm_29
    obtain ⟨rfl, rfl⟩ := hp_28
    show VV E 0 0 27 [(3, .int (-6)), (0, .ref r0), (1, .int k), (2, .int w)] [.int (-6)] [(r0, .inr (5, [.int (nI n), .ref k1, .ref k2, .ref k3, .ref k4, .int (nI m), .ref k6, .ref k7, .ref k8, .int (nI 0), .ref k10, .int (nI 0), .ref k12, .ref k13, .ref k14, .ref k15, .ref k16, .int (nI ls), .int (nI ap), .int (bz bd), .int (nI sq), .ref k21, .ref k22, .ref k23, .ref k24, .ref k25, .int (bz pd), .int (nI pl), .int (bz tk), kv, .ref k30, .ref k31, .int (nI tz), .ref k33, .int (nI rs), .int sd])), (k1, .inl (cI, 7, .inl (nIf ki))), (k2, .inl (cI, 7, .inl (nIf op))), (k3, .inl (cI, 7, .inl (nIf (shF sh)))), (k4, .inl (cI, 7, .inl (nIf fa))), (k6, .inl (cI, 6, .inl (nIf K))), (k7, .inl (cI, 6, .inl (nIf G))), (k8, .inl (cI, 6, .inl (nIf T))), (k12, .inl (cI, 7, .inl (nIf kw))), (k13, .inl (cI, 175, .inl (nIf kn))), (k14, .inl (cI, 144, .inl (mIf M))), (k15, .inl (cI, 7, .inl (nIf mw))), (k10, .inl (cI, 7, .inl (nIf (un R 6 (R 6 + 1)))))]
    refine v_iret zC zT dX5_dinner_27  ?_
    first | (have g9 := hlt_k; exact ⟨kw, kn, M, mw, 4, _, by unfold q_dinner; rw [if_pos hlt_k], hkw, hkn, hM, rfl, rfl⟩) | (have g9 := hgt_k; exact ⟨kw, kn, M, mw, 6, _, by unfold q_dinner; rw [if_neg hge_k, if_pos hgt_k], hkw, hkn, hM, rfl, rfl⟩) | (have g9 := hn_w; exact ⟨kw, kn, M, mw, 2, _, by unfold q_dinner; rw [if_neg hge_k, if_neg hle_k, hn_w], hkw, hkn, hM, rfl, rfl⟩) | exact ⟨_, _, _, _, 0, _, by unfold q_dinner; rw [if_neg hge_k, if_neg hle_k, hi_w]; dsimp only; rw [nI_clamp (show jk < 2 ^ 31 by omega), show 25 - jk = f by omega, dn_e hs (by omega)]; first | (rw [if_pos (by assumption)]; rfl) | (rw [if_neg (by assumption)]; done), hR9.2.2.2.1, hR9.2.2.2.2.1, hR9.2.2.2.2.2, rfl, rfl⟩
  ·
    show VV E 0 0 12 [(0, .ref r0), (1, .int k), (2, .int w)] [.int (nI 0)] [(r0, .inr (5, [.int (nI n), .ref k1, .ref k2, .ref k3, .ref k4, .int (nI m), .ref k6, .ref k7, .ref k8, .int (nI 0), .ref k10, .int (nI 0), .ref k12, .ref k13, .ref k14, .ref k15, .ref k16, .int (nI ls), .int (nI ap), .int (bz bd), .int (nI sq), .ref k21, .ref k22, .ref k23, .ref k24, .ref k25, .int (bz pd), .int (nI pl), .int (bz tk), kv, .ref k30, .ref k31, .int (nI tz), .ref k33, .int (nI rs), .int sd])), (k1, .inl (cI, 7, .inl (nIf ki))), (k2, .inl (cI, 7, .inl (nIf op))), (k3, .inl (cI, 7, .inl (nIf (shF sh)))), (k4, .inl (cI, 7, .inl (nIf fa))), (k6, .inl (cI, 6, .inl (nIf K))), (k7, .inl (cI, 6, .inl (nIf G))), (k8, .inl (cI, 6, .inl (nIf T))), (k12, .inl (cI, 7, .inl (nIf kw))), (k13, .inl (cI, 175, .inl (nIf kn))), (k14, .inl (cI, 144, .inl (mIf M))), (k15, .inl (cI, 7, .inl (nIf mw))), (k10, .inl (cI, 7, .inl (nIf R)))]
    have hge_k : ¬ k < nI 1 := by rw [he_9]; exact nI_nlt h1_10 (by omega)
    have hle_k : ¬ nI 12 < k := by rw [he_9]; exact nI_nlt h2_11 (by omega)
    subst he_9
    obtain ⟨jk, he_jk⟩ : ∃ z, z = j_8 := ⟨_, rfl⟩
    subst he_jk
    have h1_k := h1_10
    have h2_k := h2_11
    refine v_il_n 13 zC dX5_dinner_12 2 rfl ?_
    refine v_ic (v := (nI 1)) 14 zC dX5_dinner_13 (by decide +kernel) ?_
    refine v_cS (As := [.int (nI 0), .int w, .int (nI 1)]) (st := []) 17 [] zC dX5_dinner_14 hA (c_X5_wrongBit__Z (ev_l E) (ev_D E) cI (v := w) (k := 1) (hk := (by first | omega | assumption | rfl | (simp only []; omega) | decide))) cf_X5_wrongBit lk_X5_248 rfl rfl rfl (by decide +kernel) (Nat.le_of_ble_eq_true rfl) (fun rv_30 wv_31 hp_32 hm_33 => ?_)
    clear hm_33
    rcases hp_32 with ⟨hi_34, rfl, rfl⟩ | ⟨j_35, he_36, hi_37, hj_38, rfl, rfl⟩
    ·
      show VV E 0 0 17 [(0, .ref r0), (1, .int (nI jk)), (2, .int w)] [.int (-2)] [(r0, .inr (5, [.int (nI n), .ref k1, .ref k2, .ref k3, .ref k4, .int (nI m), .ref k6, .ref k7, .ref k8, .int (nI 0), .ref k10, .int (nI 0), .ref k12, .ref k13, .ref k14, .ref k15, .ref k16, .int (nI ls), .int (nI ap), .int (bz bd), .int (nI sq), .ref k21, .ref k22, .ref k23, .ref k24, .ref k25, .int (bz pd), .int (nI pl), .int (bz tk), kv, .ref k30, .ref k31, .int (nI tz), .ref k33, .int (nI rs), .int sd])), (k1, .inl (cI, 7, .inl (nIf ki))), (k2, .inl (cI, 7, .inl (nIf op))), (k3, .inl (cI, 7, .inl (nIf (shF sh)))), (k4, .inl (cI, 7, .inl (nIf fa))), (k6, .inl (cI, 6, .inl (nIf K))), (k7, .inl (cI, 6, .inl (nIf G))), (k8, .inl (cI, 6, .inl (nIf T))), (k12, .inl (cI, 7, .inl (nIf kw))), (k13, .inl (cI, 175, .inl (nIf kn))), (k14, .inl (cI, 144, .inl (mIf M))), (k15, .inl (cI, 7, .inl (nIf mw))), (k10, .inl (cI, 7, .inl (nIf R)))]
      have hn_w := hi_34
      refine v_is_n (lv2 := [(3, .int (-2)), (0, .ref r0), (1, .int (nI jk)), (2, .int w)]) 18 zC dX5_dinner_17 (by rw [hnE]; decide) rfl ?_
      refine v_il_n 19 zC dX5_dinner_18 0 rfl ?_
      refine v_if_ge 28 22 zC dX5_dinner_19 (fun z => absurd z (by decide +kernel)) (fun _ => ?_)
      refine v_al_n 23 zC dX5_dinner_22 1 rfl ?_
      refine v_il_n 24 zC dX5_dinner_23 0 rfl ?_
      refine v_cV (As := [.int (-2)]) (st := []) 27 0 [0, 12] zC dX5_dinner_24 hA (c_X5_refuse (ev_l E) (ev_D E) cI (r0 := r0) (k1 := k1) (k2 := k2) (k3 := k3) (k4 := k4) (k6 := k6) (k7 := k7) (k8 := k8) (k10 := k10) (k12 := k12) (k13 := k13) (k14 := k14) (k15 := k15) (k16 := k16) (k21 := k21) (k22 := k22) (k23 := k23) (k24 := k24) (k25 := k25) (k30 := k30) (k31 := k31) (k33 := k33) (n := n) (m := m) (aw := 0) (ls := ls) (ap := ap) (sq := sq) (pl := pl) (tz := tz) (rs := rs) (bd := bd) (pd := pd) (tk := tk) (kv := kv) (sd := sd) (R := R) (v := (-2)) (j := 2) (hv := (by first | omega | assumption | rfl | (simp only []; omega) | decide)) (h1 := (by first | omega | assumption | rfl | (simp only []; omega) | decide)) (h6 := (by first | omega | assumption | rfl | (simp only []; omega) | decide))) cf_X5_refuse lk_X5_129 rfl rfl rfl rfl rfl (by decide +kernel) (Nat.le_of_ble_eq_true rfl) (fun rv_40 wv_41 hp_42 hm_43 => ?_)
      clear hm_43
      obtain ⟨rfl, rfl⟩ := hp_42
      show VV E 0 0 27 [(3, .int (-2)), (0, .ref r0), (1, .int (nI jk)), (2, .int w)] [.int (-2)] [(r0, .inr (5, [.int (nI n), .ref k1, .ref k2, .ref k3, .ref k4, .int (nI m), .ref k6, .ref k7, .ref k8, .int (nI 0), .ref k10, .int (nI 0), .ref k12, .ref k13, .ref k14, .ref k15, .ref k16, .int (nI ls), .int (nI ap), .int (bz bd), .int (nI sq), .ref k21, .ref k22, .ref k23, .ref k24, .ref k25, .int (bz pd), .int (nI pl), .int (bz tk), kv, .ref k30, .ref k31, .int (nI tz), .ref k33, .int (nI rs), .int sd])), (k1, .inl (cI, 7, .inl (nIf ki))), (k2, .inl (cI, 7, .inl (nIf op))), (k3, .inl (cI, 7, .inl (nIf (shF sh)))), (k4, .inl (cI, 7, .inl (nIf fa))), (k6, .inl (cI, 6, .inl (nIf K))), (k7, .inl (cI, 6, .inl (nIf G))), (k8, .inl (cI, 6, .inl (nIf T))), (k12, .inl (cI, 7, .inl (nIf kw))), (k13, .inl (cI, 175, .inl (nIf kn))), (k14, .inl (cI, 144, .inl (mIf M))), (k15, .inl (cI, 7, .inl (nIf mw))), (k10, .inl (cI, 7, .inl (nIf (un R 2 (R 2 + 1)))))]
      refine v_iret zC zT dX5_dinner_27  ?_
      first | (have g9 := hlt_k; exact ⟨kw, kn, M, mw, 4, _, by unfold q_dinner; rw [if_pos hlt_k], hkw, hkn, hM, rfl, rfl⟩) | (have g9 := hgt_k; exact ⟨kw, kn, M, mw, 6, _, by unfold q_dinner; rw [if_neg hge_k, if_pos hgt_k], hkw, hkn, hM, rfl, rfl⟩) | (have g9 := hn_w; exact ⟨kw, kn, M, mw, 2, _, by unfold q_dinner; rw [if_neg hge_k, if_neg hle_k, hn_w], hkw, hkn, hM, rfl, rfl⟩) | exact ⟨_, _, _, _, 0, _, by unfold q_dinner; rw [if_neg hge_k, if_neg hle_k, hi_w]; dsimp only; rw [nI_clamp (show jk < 2 ^ 31 by omega), show 25 - jk = f by omega, dn_e hs (by omega)]; first | (rw [if_pos (by assumption)]; rfl) | (rw [if_neg (by assumption)]; done), hR9.2.2.2.1, hR9.2.2.2.2.1, hR9.2.2.2.2.2, rfl, rfl⟩
    ·
      show VV E 0 0 17 [(0, .ref r0), (1, .int (nI jk)), (2, .int w)] [.int (nI 0)] [(r0, .inr (5, [.int (nI n), .ref k1, .ref k2, .ref k3, .ref k4, .int (nI m), .ref k6, .ref k7, .ref k8, .int (nI 0), .ref k10, .int (nI 0), .ref k12, .ref k13, .ref k14, .ref k15, .ref k16, .int (nI ls), .int (nI ap), .int (bz bd), .int (nI sq), .ref k21, .ref k22, .ref k23, .ref k24, .ref k25, .int (bz pd), .int (nI pl), .int (bz tk), kv, .ref k30, .ref k31, .int (nI tz), .ref k33, .int (nI rs), .int sd])), (k1, .inl (cI, 7, .inl (nIf ki))), (k2, .inl (cI, 7, .inl (nIf op))), (k3, .inl (cI, 7, .inl (nIf (shF sh)))), (k4, .inl (cI, 7, .inl (nIf fa))), (k6, .inl (cI, 6, .inl (nIf K))), (k7, .inl (cI, 6, .inl (nIf G))), (k8, .inl (cI, 6, .inl (nIf T))), (k12, .inl (cI, 7, .inl (nIf kw))), (k13, .inl (cI, 175, .inl (nIf kn))), (k14, .inl (cI, 144, .inl (mIf M))), (k15, .inl (cI, 7, .inl (nIf mw))), (k10, .inl (cI, 7, .inl (nIf R)))]
      subst he_36
      have hi_w := hi_37
      obtain ⟨jw, hx_jw⟩ : ∃ z, z = j_35 := ⟨_, rfl⟩
      subst hx_jw
      refine v_is_n (lv2 := [(3, .int (nI 0)), (0, .ref r0), (1, .int (nI jk)), (2, .int (nI jw))]) 18 zC dX5_dinner_17 (by rw [hnE]; decide) rfl ?_
      refine v_il_n 19 zC dX5_dinner_18 0 rfl ?_
      refine v_if_ge 28 22 zC dX5_dinner_19 (fun _ => ?_) (fun z => absurd (by decide +kernel) z)
      refine v_al_n 29 zC dX5_dinner_28 1 rfl ?_
      refine v_cV (As := []) (st := []) 32 0 [0, 1, 2, 3, 4, 5, 6, 7, 8, 9, 10, 11] zC dX5_dinner_29 hA (c_X5_day (ev_l E) (ev_D E) cI (r0 := r0) (k1 := k1) (k2 := k2) (k3 := k3) (k4 := k4) (k6 := k6) (k7 := k7) (k8 := k8) (k10 := k10) (k12 := k12) (k13 := k13) (k14 := k14) (k15 := k15) (k16 := k16) (k21 := k21) (k22 := k22) (k23 := k23) (k24 := k24) (k25 := k25) (k30 := k30) (k31 := k31) (k33 := k33) (n := n) (m := m) (aw := 0) (ls := ls) (ap := ap) (sq := sq) (pl := pl) (tz := tz) (rs := rs) (bd := bd) (pd := pd) (tk := tk) (kv := kv) (sd := sd) (ki := ki) (op := op) (fa := fa) (K := K) (G := G) (T := T) (sh := sh) (kw := kw) (kn := kn) (M := M) (mw := mw) (hw := (by first | omega | assumption | rfl | (simp only []; omega) | decide)) (hkw := (by first | omega | assumption | rfl | (simp only []; omega) | decide)) (hkn := (by first | omega | assumption | rfl | (simp only []; omega) | decide)) (hM := (by first | omega | assumption | rfl | (simp only []; omega) | decide))) cf_X5_day lk_X5_123 rfl rfl rfl rfl rfl (by decide +kernel) (Nat.le_of_ble_eq_true rfl) (fun rv_45 wv_46 hp_47 hm_48 => ?_)
      clear hm_48
      obtain ⟨kw1_49, kn1_50, M1_51, mw1_52, hR_53, rfl, rfl⟩ := hp_47
      show VV E 0 0 32 [(3, .int (nI 0)), (0, .ref r0), (1, .int (nI jk)), (2, .int (nI jw))] [] [(r0, .inr (5, [.int (nI n), .ref k1, .ref k2, .ref k3, .ref k4, .int (nI m), .ref k6, .ref k7, .ref k8, .int (nI 0), .ref k10, .int (nI 0), .ref k12, .ref k13, .ref k14, .ref k15, .ref k16, .int (nI ls), .int (nI ap), .int (bz bd), .int (nI sq), .ref k21, .ref k22, .ref k23, .ref k24, .ref k25, .int (bz pd), .int (nI pl), .int (bz tk), kv, .ref k30, .ref k31, .int (nI tz), .ref k33, .int (nI rs), .int sd])), (k1, .inl (cI, 7, .inl (nIf ki))), (k2, .inl (cI, 7, .inl (nIf op))), (k3, .inl (cI, 7, .inl (nIf (shF sh)))), (k4, .inl (cI, 7, .inl (nIf fa))), (k6, .inl (cI, 6, .inl (nIf K))), (k7, .inl (cI, 6, .inl (nIf G))), (k8, .inl (cI, 6, .inl (nIf T))), (k12, .inl (cI, 7, .inl (nIf kw1_49))), (k13, .inl (cI, 175, .inl (nIf kn1_50))), (k14, .inl (cI, 144, .inl (mIf M1_51))), (k15, .inl (cI, 7, .inl (nIf mw1_52))), (k10, .inl (cI, 7, .inl (nIf R)))]
      have hR9 := hR_53
      refine v_ic (v := (nI 0)) 33 zC dX5_dinner_32 (by decide +kernel) ?_
      refine v_is (lv2 := [(4, .int (nI 0)), (3, .int (nI 0)), (0, .ref r0), (1, .int (nI jk)), (2, .int (nI jw))]) 35 zC dX5_dinner_33 (by rw [hnE]; decide) rfl ?_
      refine v_sp (v := (nI 999)) 38 zC dX5_dinner_35 (by decide +kernel) ?_
      refine v_is (lv2 := [(5, .int (nI 999)), (4, .int (nI 0)), (3, .int (nI 0)), (0, .ref r0), (1, .int (nI jk)), (2, .int (nI jw))]) 40 zC dX5_dinner_38 (by rw [hnE]; decide) rfl ?_
      refine v_ic (v := (nI 0)) 41 zC dX5_dinner_40 (by decide +kernel) ?_
      refine v_is (lv2 := [(6, .int (nI 0)), (5, .int (nI 999)), (4, .int (nI 0)), (3, .int (nI 0)), (0, .ref r0), (1, .int (nI jk)), (2, .int (nI jw))]) 43 zC dX5_dinner_41 (by rw [hnE]; decide) rfl ?_
      have lp43 : ∀ (mz : Nat) (b : Nat) (l : Nat) (f : Nat), (DN (n, m, sh, 0, ki, op, fa, K, G, T) jk f b l) → (f ≤ 25 - jk) → (l ≤ 999) → (b ≤ 24) → 25 - jk - f = mz → VV E 0 0 43 [(6, .int (nI f)), (5, .int (nI l)), (4, .int (nI b)), (3, .int (nI 0)), (0, .ref r0), (1, .int (nI jk)), (2, .int (nI jw))] [] [(r0, .inr (5, [.int (nI n), .ref k1, .ref k2, .ref k3, .ref k4, .int (nI m), .ref k6, .ref k7, .ref k8, .int (nI 0), .ref k10, .int (nI 0), .ref k12, .ref k13, .ref k14, .ref k15, .ref k16, .int (nI ls), .int (nI ap), .int (bz bd), .int (nI sq), .ref k21, .ref k22, .ref k23, .ref k24, .ref k25, .int (bz pd), .int (nI pl), .int (bz tk), kv, .ref k30, .ref k31, .int (nI tz), .ref k33, .int (nI rs), .int sd])), (k1, .inl (cI, 7, .inl (nIf ki))), (k2, .inl (cI, 7, .inl (nIf op))), (k3, .inl (cI, 7, .inl (nIf (shF sh)))), (k4, .inl (cI, 7, .inl (nIf fa))), (k6, .inl (cI, 6, .inl (nIf K))), (k7, .inl (cI, 6, .inl (nIf G))), (k8, .inl (cI, 6, .inl (nIf T))), (k12, .inl (cI, 7, .inl (nIf kw1_49))), (k13, .inl (cI, 175, .inl (nIf kn1_50))), (k14, .inl (cI, 144, .inl (mIf M1_51))), (k15, .inl (cI, 7, .inl (nIf mw1_52))), (k10, .inl (cI, 7, .inl (nIf R)))] := by
        intro mz
        induction mz using Nat.strongRecOn with
        | _ mz ih43 =>
        intro b l f hs hf hl hb hm43
        refine v_il 45 zC dX5_dinner_43 0 rfl ?_
        refine v_il_n 46 zC dX5_dinner_45 5 rfl ?_
        refine v_iadd (v := (nI (f + jk))) 47 zC dX5_dinner_46 (nI_add _ _) ?_
        refine v_bp (v := (nI 24)) 49 zC dX5_dinner_47 (by decide +kernel) ?_
        refine v_icmpn_gt 127 52 zC dX5_dinner_49 (fun h_54 => ?_) (fun h_54 => ?_)
        ·
          refine v_il_n 128 zC dX5_dinner_127 6 rfl ?_
          refine v_ifn_ne 136 131 zC dX5_dinner_128 (fun h_55 => ?_) (fun h_55 => ?_)
          ·
            refine v_il 138 zC dX5_dinner_136 1 rfl ?_
            refine v_iret zC zT dX5_dinner_138  ?_
            first | (have g9 := hlt_k; exact ⟨kw, kn, M, mw, 4, _, by unfold q_dinner; rw [if_pos hlt_k], hkw, hkn, hM, rfl, rfl⟩) | (have g9 := hgt_k; exact ⟨kw, kn, M, mw, 6, _, by unfold q_dinner; rw [if_neg hge_k, if_pos hgt_k], hkw, hkn, hM, rfl, rfl⟩) | (have g9 := hn_w; exact ⟨kw, kn, M, mw, 2, _, by unfold q_dinner; rw [if_neg hge_k, if_neg hle_k, hn_w], hkw, hkn, hM, rfl, rfl⟩) | exact ⟨_, _, _, _, 0, _, by unfold q_dinner; rw [if_neg hge_k, if_neg hle_k, hi_w]; dsimp only; rw [nI_clamp (show jk < 2 ^ 31 by omega), show 25 - jk = f by omega, dn_e hs (by omega)]; first | (rw [if_pos (by assumption)]; rfl) | (rw [if_neg (by assumption)]; done), hR9.2.2.2.1, hR9.2.2.2.2.1, hR9.2.2.2.2.2, rfl, rfl⟩
          ·
            refine v_il 133 zC dX5_dinner_131 2 rfl ?_
            refine v_goto 138 zC dX5_dinner_133 ?_
            refine v_iret zC zT dX5_dinner_138  ?_
            first | (have g9 := hlt_k; exact ⟨kw, kn, M, mw, 4, _, by unfold q_dinner; rw [if_pos hlt_k], hkw, hkn, hM, rfl, rfl⟩) | (have g9 := hgt_k; exact ⟨kw, kn, M, mw, 6, _, by unfold q_dinner; rw [if_neg hge_k, if_pos hgt_k], hkw, hkn, hM, rfl, rfl⟩) | (have g9 := hn_w; exact ⟨kw, kn, M, mw, 2, _, by unfold q_dinner; rw [if_neg hge_k, if_neg hle_k, hn_w], hkw, hkn, hM, rfl, rfl⟩) | exact ⟨_, _, _, _, 0, _, by unfold q_dinner; rw [if_neg hge_k, if_neg hle_k, hi_w]; dsimp only; rw [nI_clamp (show jk < 2 ^ 31 by omega), show 25 - jk = f by omega, dn_e hs (by omega)]; first | (rw [if_pos (by assumption)]; rfl) | (rw [if_neg (by assumption)]; done), hR9.2.2.2.1, hR9.2.2.2.2.1, hR9.2.2.2.2.2, rfl, rfl⟩
        ·
          refine v_ic (v := (nI 0)) 53 zC dX5_dinner_52 (by decide +kernel) ?_
          refine v_is (lv2 := [(7, .int (nI 0)), (6, .int (nI f)), (5, .int (nI l)), (4, .int (nI b)), (3, .int (nI 0)), (0, .ref r0), (1, .int (nI jk)), (2, .int (nI jw))]) 55 zC dX5_dinner_53 (by rw [hnE]; decide) rfl ?_
          refine v_il 57 zC dX5_dinner_55 1 rfl ?_
          refine v_is (lv2 := [(8, .int (nI f)), (7, .int (nI 0)), (6, .int (nI f)), (5, .int (nI l)), (4, .int (nI b)), (3, .int (nI 0)), (0, .ref r0), (1, .int (nI jk)), (2, .int (nI jw))]) 59 zC dX5_dinner_57 (by rw [hnE]; decide) rfl ?_
          have lp59 : ∀ (mz : Nat) (y : Nat) (h : Nat), (y = sm (fun i => pcn (SPK (n, m, sh, 0, ki, op, fa, K, G, T) (f + i))) (h - f)) → (f ≤ h) → (h ≤ f + jk) → (y ≤ 6 * (h - f)) → f + jk - h = mz → VV E 0 0 59 [(8, .int (nI h)), (7, .int (nI y)), (6, .int (nI f)), (5, .int (nI l)), (4, .int (nI b)), (3, .int (nI 0)), (0, .ref r0), (1, .int (nI jk)), (2, .int (nI jw))] [] [(r0, .inr (5, [.int (nI n), .ref k1, .ref k2, .ref k3, .ref k4, .int (nI m), .ref k6, .ref k7, .ref k8, .int (nI 0), .ref k10, .int (nI 0), .ref k12, .ref k13, .ref k14, .ref k15, .ref k16, .int (nI ls), .int (nI ap), .int (bz bd), .int (nI sq), .ref k21, .ref k22, .ref k23, .ref k24, .ref k25, .int (bz pd), .int (nI pl), .int (bz tk), kv, .ref k30, .ref k31, .int (nI tz), .ref k33, .int (nI rs), .int sd])), (k1, .inl (cI, 7, .inl (nIf ki))), (k2, .inl (cI, 7, .inl (nIf op))), (k3, .inl (cI, 7, .inl (nIf (shF sh)))), (k4, .inl (cI, 7, .inl (nIf fa))), (k6, .inl (cI, 6, .inl (nIf K))), (k7, .inl (cI, 6, .inl (nIf G))), (k8, .inl (cI, 6, .inl (nIf T))), (k12, .inl (cI, 7, .inl (nIf kw1_49))), (k13, .inl (cI, 175, .inl (nIf kn1_50))), (k14, .inl (cI, 144, .inl (mIf M1_51))), (k15, .inl (cI, 7, .inl (nIf mw1_52))), (k10, .inl (cI, 7, .inl (nIf R)))] := by
            intro mz
            induction mz using Nat.strongRecOn with
            | _ mz ih59 =>
            intro y h hy hb1 hh hyl hm59
            refine v_il 61 zC dX5_dinner_59 0 rfl ?_
            refine v_il 63 zC dX5_dinner_61 2 rfl ?_
            refine v_il_n 64 zC dX5_dinner_63 7 rfl ?_
            refine v_iadd (v := (nI (f + jk))) 65 zC dX5_dinner_64 (nI_add _ _) ?_
            refine v_icmpn_ge 89 68 zC dX5_dinner_65 (fun h_56 => ?_) (fun h_56 => ?_)
            ·
              refine v_il 91 zC dX5_dinner_89 1 rfl ?_
              refine v_il 93 zC dX5_dinner_91 3 rfl ?_
              have hy8 : DINS (n, m, sh, 0, ki, op, fa, K, G, T) jk f = y := by rw [hy, show h - f = jk by omega]; rfl
              refine v_icmpn_ge 101 96 zC dX5_dinner_93 (fun h_57 => ?_) (fun h_57 => ?_)
              ·
                have hv9 := h_57
                refine v_il 103 zC dX5_dinner_101 4 rfl ?_
                refine v_is (lv2 := [(4, .int (nI b)), (8, .int (nI h)), (7, .int (nI y)), (6, .int (nI f)), (5, .int (nI l)), (3, .int (nI 0)), (0, .ref r0), (1, .int (nI jk)), (2, .int (nI jw))]) 105 zC dX5_dinner_103 (by rw [hnE]; decide) rfl ?_
                refine v_il 107 zC dX5_dinner_105 2 rfl ?_
                refine v_il 109 zC dX5_dinner_107 4 rfl ?_
                refine v_icmpn_ge 117 112 zC dX5_dinner_109 (fun h_58 => ?_) (fun h_58 => False.elim (by first | omega | exact bcon h_58 (by assumption) | exact bcon (by assumption) h_58))
                refine v_il 119 zC dX5_dinner_117 4 rfl ?_
                refine v_is (lv2 := [(5, .int (nI l)), (4, .int (nI b)), (8, .int (nI h)), (7, .int (nI y)), (6, .int (nI f)), (3, .int (nI 0)), (0, .ref r0), (1, .int (nI jk)), (2, .int (nI jw))]) 121 zC dX5_dinner_119 (by rw [hnE]; decide) rfl ?_
                refine v_inc (v := (nI (f + 1))) (lv2 := [(6, .int (nI (f + 1))), (5, .int (nI l)), (4, .int (nI b)), (8, .int (nI h)), (7, .int (nI y)), (3, .int (nI 0)), (0, .ref r0), (1, .int (nI jk)), (2, .int (nI jw))]) 124 zC dX5_dinner_121 (j := 4) rfl (nI_add _ 1) (by rw [hnE]; decide) rfl ?_
                refine v_goto 43 zC dX5_dinner_124 ?_
                refine v_lvs (lv2 := [(6, .int (nI (f + 1))), (5, .int (nI l)), (4, .int (nI b)), (3, .int (nI 0)), (0, .ref r0), (1, .int (nI jk)), (2, .int (nI jw))]) [0, 1, 2, 5, 6, 7, 8] rfl ?_
                exact ih43 _ (by omega) b l (f + 1) (by first | exact dn_1 hs hy8 hu9 | exact dn_0 hs hy8 (by omega) hv9) (by first | omega | assumption | rfl | (simp only []; omega) | decide) (by first | omega | assumption | rfl | (simp only []; omega) | decide) (by first | omega | assumption | rfl | (simp only []; omega) | decide) rfl
              ·
                have hu9 := h_57
                refine v_il 98 zC dX5_dinner_96 2 rfl ?_
                refine v_goto 103 zC dX5_dinner_98 ?_
                refine v_is (lv2 := [(4, .int (nI f)), (8, .int (nI h)), (7, .int (nI y)), (6, .int (nI f)), (5, .int (nI l)), (3, .int (nI 0)), (0, .ref r0), (1, .int (nI jk)), (2, .int (nI jw))]) 105 zC dX5_dinner_103 (by rw [hnE]; decide) rfl ?_
                refine v_il 107 zC dX5_dinner_105 2 rfl ?_
                refine v_il 109 zC dX5_dinner_107 4 rfl ?_
                refine v_icmpn_ge 117 112 zC dX5_dinner_109 (fun h_59 => False.elim (by first | omega | exact bcon h_59 (by assumption) | exact bcon (by assumption) h_59)) (fun h_59 => ?_)
                refine v_il 114 zC dX5_dinner_112 2 rfl ?_
                refine v_goto 119 zC dX5_dinner_114 ?_
                refine v_is (lv2 := [(5, .int (nI y)), (4, .int (nI f)), (8, .int (nI h)), (7, .int (nI y)), (6, .int (nI f)), (3, .int (nI 0)), (0, .ref r0), (1, .int (nI jk)), (2, .int (nI jw))]) 121 zC dX5_dinner_119 (by rw [hnE]; decide) rfl ?_
                refine v_inc (v := (nI (f + 1))) (lv2 := [(6, .int (nI (f + 1))), (5, .int (nI y)), (4, .int (nI f)), (8, .int (nI h)), (7, .int (nI y)), (3, .int (nI 0)), (0, .ref r0), (1, .int (nI jk)), (2, .int (nI jw))]) 124 zC dX5_dinner_121 (j := 4) rfl (nI_add _ 1) (by rw [hnE]; decide) rfl ?_
                refine v_goto 43 zC dX5_dinner_124 ?_
                refine v_lvs (lv2 := [(6, .int (nI (f + 1))), (5, .int (nI y)), (4, .int (nI f)), (3, .int (nI 0)), (0, .ref r0), (1, .int (nI jk)), (2, .int (nI jw))]) [0, 1, 2, 5, 6, 7, 8] rfl ?_
                exact ih43 _ (by omega) f y (f + 1) (by first | exact dn_1 hs hy8 hu9 | exact dn_0 hs hy8 (by omega) hv9) (by first | omega | assumption | rfl | (simp only []; omega) | decide) (by first | omega | assumption | rfl | (simp only []; omega) | decide) (by first | omega | assumption | rfl | (simp only []; omega) | decide) rfl
            ·
              refine v_il 70 zC dX5_dinner_68 1 rfl ?_
              refine v_al_n 71 zC dX5_dinner_70 6 rfl ?_
              refine v_ic (v := (-1)) 72 zC dX5_dinner_71 (by decide +kernel) ?_
              refine v_il 74 zC dX5_dinner_72 0 rfl ?_
              refine v_cV (As := [.int (-1), .int (nI h)]) (st := [.int (nI y)]) 77 0 [0, 10] zC dX5_dinner_74 hA (c_X5_speakers__A (ev_l E) (ev_D E) cI (r0 := r0) (k1 := k1) (k2 := k2) (k3 := k3) (k4 := k4) (k6 := k6) (k7 := k7) (k8 := k8) (k10 := k10) (k12 := k12) (k13 := k13) (k14 := k14) (k15 := k15) (k16 := k16) (k21 := k21) (k22 := k22) (k23 := k23) (k24 := k24) (k25 := k25) (k30 := k30) (k31 := k31) (k33 := k33) (n := n) (m := m) (aw := 0) (ls := ls) (ap := ap) (sq := sq) (pl := pl) (tz := tz) (rs := rs) (bd := bd) (pd := pd) (tk := tk) (kv := kv) (sd := sd) (ki := ki) (op := op) (fa := fa) (K := K) (G := G) (T := T) (sh := sh) (kw := kw1_49) (kn := kn1_50) (M := M1_51) (h := h) (hn := (by first | omega | assumption | rfl | (simp only []; omega) | decide)) (hm := (by first | omega | assumption | rfl | (simp only []; omega) | decide)) (hR := hR9) (hh := (by first | omega | assumption | rfl | (simp only []; omega) | decide))) cf_X5_speakers lk_X5_233 rfl rfl rfl rfl rfl (by decide +kernel) (Nat.le_of_ble_eq_true rfl) (fun rv_60 wv_61 hp_62 hm_63 => ?_)
              clear hm_63
              obtain ⟨rfl, rfl⟩ := hp_62
              show VV E 0 0 77 [(8, .int (nI h)), (7, .int (nI y)), (6, .int (nI f)), (5, .int (nI l)), (4, .int (nI b)), (3, .int (nI 0)), (0, .ref r0), (1, .int (nI jk)), (2, .int (nI jw))] [.int (nI (SPK (n, m, sh, 0, ki, op, fa, K, G, T) h)), .int (nI y)] [(r0, .inr (5, [.int (nI n), .ref k1, .ref k2, .ref k3, .ref k4, .int (nI m), .ref k6, .ref k7, .ref k8, .int (nI 0), .ref k10, .int (nI 0), .ref k12, .ref k13, .ref k14, .ref k15, .ref k16, .int (nI ls), .int (nI ap), .int (bz bd), .int (nI sq), .ref k21, .ref k22, .ref k23, .ref k24, .ref k25, .int (bz pd), .int (nI pl), .int (bz tk), kv, .ref k30, .ref k31, .int (nI tz), .ref k33, .int (nI rs), .int sd])), (k1, .inl (cI, 7, .inl (nIf ki))), (k2, .inl (cI, 7, .inl (nIf op))), (k3, .inl (cI, 7, .inl (nIf (shF sh)))), (k4, .inl (cI, 7, .inl (nIf fa))), (k6, .inl (cI, 6, .inl (nIf K))), (k7, .inl (cI, 6, .inl (nIf G))), (k8, .inl (cI, 6, .inl (nIf T))), (k12, .inl (cI, 7, .inl (nIf kw1_49))), (k13, .inl (cI, 175, .inl (nIf kn1_50))), (k14, .inl (cI, 144, .inl (mIf M1_51))), (k15, .inl (cI, 7, .inl (nIf mw1_52))), (k10, .inl (cI, 7, .inl (nIf R)))]
              refine v_cS (As := [.int (nI (SPK (n, m, sh, 0, ki, op, fa, K, G, T) h))]) (st := [.int (nI y)]) 80 [] zC dX5_dinner_77 hA (c_X5_onesOf (ev_l E) (ev_D E) cI (x := (SPK (n, m, sh, 0, ki, op, fa, K, G, T) h)) (hx := (Nat.lt_of_lt_of_le (m := 2 ^ m) (mkn_lt _ _) (Nat.pow_le_pow_right (by decide) (Nat.le_trans hm (by decide)))))) cf_X5_onesOf lk_X5_120 rfl rfl rfl (by decide +kernel) (Nat.le_of_ble_eq_true rfl) (fun rv_64 wv_65 hp_66 hm_67 => ?_)
              clear hm_67
              obtain ⟨rfl, rfl⟩ := hp_66
              show VV E 0 0 80 [(8, .int (nI h)), (7, .int (nI y)), (6, .int (nI f)), (5, .int (nI l)), (4, .int (nI b)), (3, .int (nI 0)), (0, .ref r0), (1, .int (nI jk)), (2, .int (nI jw))] [.int (nI (pcn (SPK (n, m, sh, 0, ki, op, fa, K, G, T) h))), .int (nI y)] [(r0, .inr (5, [.int (nI n), .ref k1, .ref k2, .ref k3, .ref k4, .int (nI m), .ref k6, .ref k7, .ref k8, .int (nI 0), .ref k10, .int (nI 0), .ref k12, .ref k13, .ref k14, .ref k15, .ref k16, .int (nI ls), .int (nI ap), .int (bz bd), .int (nI sq), .ref k21, .ref k22, .ref k23, .ref k24, .ref k25, .int (bz pd), .int (nI pl), .int (bz tk), kv, .ref k30, .ref k31, .int (nI tz), .ref k33, .int (nI rs), .int sd])), (k1, .inl (cI, 7, .inl (nIf ki))), (k2, .inl (cI, 7, .inl (nIf op))), (k3, .inl (cI, 7, .inl (nIf (shF sh)))), (k4, .inl (cI, 7, .inl (nIf fa))), (k6, .inl (cI, 6, .inl (nIf K))), (k7, .inl (cI, 6, .inl (nIf G))), (k8, .inl (cI, 6, .inl (nIf T))), (k12, .inl (cI, 7, .inl (nIf kw1_49))), (k13, .inl (cI, 175, .inl (nIf kn1_50))), (k14, .inl (cI, 144, .inl (mIf M1_51))), (k15, .inl (cI, 7, .inl (nIf mw1_52))), (k10, .inl (cI, 7, .inl (nIf R)))]
              have hc9 : pcn (SPK (n, m, sh, 0, ki, op, fa, K, G, T) h) ≤ m := pcn_k m _ (mkn_lt _ _)
              refine v_iadd (v := (nI (y + (pcn (SPK (n, m, sh, 0, ki, op, fa, K, G, T) h))))) 81 zC dX5_dinner_80 (nI_add _ _) ?_
              refine v_is (lv2 := [(7, .int (nI (y + (pcn (SPK (n, m, sh, 0, ki, op, fa, K, G, T) h))))), (8, .int (nI h)), (6, .int (nI f)), (5, .int (nI l)), (4, .int (nI b)), (3, .int (nI 0)), (0, .ref r0), (1, .int (nI jk)), (2, .int (nI jw))]) 83 zC dX5_dinner_81 (by rw [hnE]; decide) rfl ?_
              refine v_inc (v := (nI (h + 1))) (lv2 := [(8, .int (nI (h + 1))), (7, .int (nI (y + (pcn (SPK (n, m, sh, 0, ki, op, fa, K, G, T) h))))), (6, .int (nI f)), (5, .int (nI l)), (4, .int (nI b)), (3, .int (nI 0)), (0, .ref r0), (1, .int (nI jk)), (2, .int (nI jw))]) 86 zC dX5_dinner_83 (j := 1) rfl (nI_add _ 1) (by rw [hnE]; decide) rfl ?_
              refine v_goto 59 zC dX5_dinner_86 ?_
              refine v_lvs (lv2 := [(8, .int (nI (h + 1))), (7, .int (nI (y + (pcn (SPK (n, m, sh, 0, ki, op, fa, K, G, T) h))))), (6, .int (nI f)), (5, .int (nI l)), (4, .int (nI b)), (3, .int (nI 0)), (0, .ref r0), (1, .int (nI jk)), (2, .int (nI jw))]) [0, 1, 2, 3, 4, 5, 6, 7, 8] rfl ?_
              exact ih59 _ (by omega) (y + (pcn (SPK (n, m, sh, 0, ki, op, fa, K, G, T) h))) (h + 1) (dinr_s hy hb1) (by first | omega | assumption | rfl | (simp only []; omega) | decide) (by first | omega | assumption | rfl | (simp only []; omega) | decide) (by first | omega | assumption | rfl | (simp only []; omega) | decide) rfl
          refine v_lvs (lv2 := [(8, .int (nI f)), (7, .int (nI 0)), (6, .int (nI f)), (5, .int (nI l)), (4, .int (nI b)), (3, .int (nI 0)), (0, .ref r0), (1, .int (nI jk)), (2, .int (nI jw))]) [0, 1, 2, 3, 4, 5, 6, 7, 8] rfl ?_
          exact lp59 _ 0 f din_z (by first | omega | assumption | rfl | (simp only []; omega) | decide) (by first | omega | assumption | rfl | (simp only []; omega) | decide) (by first | omega | assumption | rfl | (simp only []; omega) | decide) rfl
      refine v_lvs (lv2 := [(6, .int (nI 0)), (5, .int (nI 999)), (4, .int (nI 0)), (3, .int (nI 0)), (0, .ref r0), (1, .int (nI jk)), (2, .int (nI jw))]) [0, 1, 2, 3, 4, 5, 6] rfl ?_
      exact lp43 _ 0 999 0 (Or.inl ⟨rfl, rfl, rfl⟩) (by first | omega | assumption | rfl | (simp only []; omega) | decide) (by first | omega | assumption | rfl | (simp only []; omega) | decide) (by first | omega | assumption | rfl | (simp only []; omega) | decide) rfl
set_option maxRecDepth 100000 in
set_option maxHeartbeats 4000000 in
theorem c_X5_share (l : Launch) (D : va_G) (cI : ClassId) (r0 k1 k2 k3 k4 k6 k7 k8 k10 k12 k13 k14 k15 k16 k21 k22 k23 k24 k25 k30 k31 k33 : Nat) (n m ls ap sq pl tz rs : Nat) (bd pd tk : Bool) (kv : Value) (sd : Int32) (ki op fa K G T : Nat → Nat) (sh : Nat) (kw kn : Nat → Nat) (M : Nat → Option Nat) (mw : Nat → Nat) (R : Nat → Nat) (d w : Int32) (hw : FW n m sh ki op fa K G T) (hkw : ∀ z, kw z < 1024) (hkn : ∀ z, kn z < 1024) (hM : ∀ z v, M z = some v → v < 7) : CT l yX5_share cX5_share 7 (some .long) { frames := 6, cells := 0, slots := 0, locals := 138 } D cI [.ref r0, .int d, .int w] [(r0, .inr (5, [.int (nI n), .ref k1, .ref k2, .ref k3, .ref k4, .int (nI m), .ref k6, .ref k7, .ref k8, .int (nI 0), .ref k10, .int (nI 0), .ref k12, .ref k13, .ref k14, .ref k15, .ref k16, .int (nI ls), .int (nI ap), .int (bz bd), .int (nI sq), .ref k21, .ref k22, .ref k23, .ref k24, .ref k25, .int (bz pd), .int (nI pl), .int (bz tk), kv, .ref k30, .ref k31, .int (nI tz), .ref k33, .int (nI rs), .int sd])), (k1, .inl (cI, 7, .inl (nIf ki))), (k2, .inl (cI, 7, .inl (nIf op))), (k3, .inl (cI, 7, .inl (nIf (shF sh)))), (k4, .inl (cI, 7, .inl (nIf fa))), (k6, .inl (cI, 6, .inl (nIf K))), (k7, .inl (cI, 6, .inl (nIf G))), (k8, .inl (cI, 6, .inl (nIf T))), (k12, .inl (cI, 7, .inl (nIf kw))), (k13, .inl (cI, 175, .inl (nIf kn))), (k14, .inl (cI, 144, .inl (mIf M))), (k15, .inl (cI, 7, .inl (nIf mw))), (k10, .inl (cI, 7, .inl (nIf R)))] (fun zr zw => (∃ kw1 : Nat → Nat, ∃ kn1 : Nat → Nat, ∃ M1 : Nat → Option Nat, ∃ mw1 : Nat → Nat, ∃ rc : Nat, ∃ rv : Int64, (q_share (n, m, sh, 0, ki, op, fa, K, G, T) d w = (rc, rv)) ∧ (∀ z, kw1 z < 1024) ∧ (∀ z, kn1 z < 1024) ∧ (∀ z v, M1 z = some v → v < 7) ∧ zr = some (.long rv) ∧ zw = [(r0, .inr (5, [.int (nI n), .ref k1, .ref k2, .ref k3, .ref k4, .int (nI m), .ref k6, .ref k7, .ref k8, .int (nI 0), .ref k10, .int (nI 0), .ref k12, .ref k13, .ref k14, .ref k15, .ref k16, .int (nI ls), .int (nI ap), .int (bz bd), .int (nI sq), .ref k21, .ref k22, .ref k23, .ref k24, .ref k25, .int (bz pd), .int (nI pl), .int (bz tk), kv, .ref k30, .ref k31, .int (nI tz), .ref k33, .int (nI rs), .int sd])), (k1, .inl (cI, 7, .inl (nIf ki))), (k2, .inl (cI, 7, .inl (nIf op))), (k3, .inl (cI, 7, .inl (nIf (shF sh)))), (k4, .inl (cI, 7, .inl (nIf fa))), (k6, .inl (cI, 6, .inl (nIf K))), (k7, .inl (cI, 6, .inl (nIf G))), (k8, .inl (cI, 6, .inl (nIf T))), (k12, .inl (cI, 7, .inl (nIf kw1))), (k13, .inl (cI, 175, .inl (nIf kn1))), (k14, .inl (cI, 144, .inl (mIf M1))), (k15, .inl (cI, 7, .inl (nIf mw1))), (k10, .inl (cI, 7, .inl (nIf (rf R rc))))])) := by
  refine CT_of RX5 rfl (by decide +kernel) (Nat.le_of_ble_eq_true rfl) (fun E hnE zC zT => ?_)
  have hA : ∀ q, (ev_s E).heap.size ≤ q → ev_A E q := fun q h => by rw [zT.2]; exact Or.inr h
  obtain ⟨hn, hm, hsh, hki, hop, hfa, hK, hG, hT, vki, vop, vfa, vK, vG, vT⟩ := id hw
  show VV E 0 0 0 [(0, .ref r0), (1, .int d), (2, .int w)] [] [(r0, .inr (5, [.int (nI n), .ref k1, .ref k2, .ref k3, .ref k4, .int (nI m), .ref k6, .ref k7, .ref k8, .int (nI 0), .ref k10, .int (nI 0), .ref k12, .ref k13, .ref k14, .ref k15, .ref k16, .int (nI ls), .int (nI ap), .int (bz bd), .int (nI sq), .ref k21, .ref k22, .ref k23, .ref k24, .ref k25, .int (bz pd), .int (nI pl), .int (bz tk), kv, .ref k30, .ref k31, .int (nI tz), .ref k33, .int (nI rs), .int sd])), (k1, .inl (cI, 7, .inl (nIf ki))), (k2, .inl (cI, 7, .inl (nIf op))), (k3, .inl (cI, 7, .inl (nIf (shF sh)))), (k4, .inl (cI, 7, .inl (nIf fa))), (k6, .inl (cI, 6, .inl (nIf K))), (k7, .inl (cI, 6, .inl (nIf G))), (k8, .inl (cI, 6, .inl (nIf T))), (k12, .inl (cI, 7, .inl (nIf kw))), (k13, .inl (cI, 175, .inl (nIf kn))), (k14, .inl (cI, 144, .inl (mIf M))), (k15, .inl (cI, 7, .inl (nIf mw))), (k10, .inl (cI, 7, .inl (nIf R)))]
  refine v_al_n 1 zC dX5_share_0 0 rfl ?_
  refine v_ic (v := (nI 0)) 2 zC dX5_share_1 (by decide +kernel) ?_
  refine v_pf (ws2 := [(r0, .inr (5, [.int (nI n), .ref k1, .ref k2, .ref k3, .ref k4, .int (nI m), .ref k6, .ref k7, .ref k8, .int (nI 0), .ref k10, .int (nI 0), .ref k12, .ref k13, .ref k14, .ref k15, .ref k16, .int (nI ls), .int (nI ap), .int (bz bd), .int (nI sq), .ref k21, .ref k22, .ref k23, .ref k24, .ref k25, .int (bz pd), .int (nI pl), .int (bz tk), kv, .ref k30, .ref k31, .int (nI tz), .ref k33, .int (nI rs), .int sd])), (k1, .inl (cI, 7, .inl (nIf ki))), (k2, .inl (cI, 7, .inl (nIf op))), (k3, .inl (cI, 7, .inl (nIf (shF sh)))), (k4, .inl (cI, 7, .inl (nIf fa))), (k6, .inl (cI, 6, .inl (nIf K))), (k7, .inl (cI, 6, .inl (nIf G))), (k8, .inl (cI, 6, .inl (nIf T))), (k12, .inl (cI, 7, .inl (nIf kw))), (k13, .inl (cI, 175, .inl (nIf kn))), (k14, .inl (cI, 144, .inl (mIf M))), (k15, .inl (cI, 7, .inl (nIf mw))), (k10, .inl (cI, 7, .inl (nIf R)))]) 5 0 zC dX5_share_2 pf_X5_73 rfl (Nat.le_of_ble_eq_true rfl) rfl rfl rfl ?_
  refine v_al_n 6 zC dX5_share_5 0 rfl ?_
  refine v_il_n 7 zC dX5_share_6 1 rfl ?_
  refine v_cV (As := [.int d]) (st := []) 10 0 [0] zC dX5_share_7 hA (c_X5_isDead (ev_l E) (ev_D E) cI (r0 := r0) (k1 := k1) (k2 := k2) (k3 := k3) (k4 := k4) (k6 := k6) (k7 := k7) (k8 := k8) (k10 := k10) (k12 := k12) (k13 := k13) (k14 := k14) (k15 := k15) (k16 := k16) (k21 := k21) (k22 := k22) (k23 := k23) (k24 := k24) (k25 := k25) (k30 := k30) (k31 := k31) (k33 := k33) (n := n) (m := m) (aw := 0) (ls := ls) (ap := ap) (sq := sq) (pl := pl) (tz := tz) (rs := rs) (bd := bd) (pd := pd) (tk := tk) (kv := kv) (sd := sd) (p := d) (hn := (by first | omega | assumption | rfl | (simp only []; omega) | decide))) cf_X5_isDead lk_X5_208 rfl rfl rfl rfl rfl (by decide +kernel) (Nat.le_of_ble_eq_true rfl) (fun rv_1 wv_2 hp_3 hm_4 => ?_)
  clear hm_4
  rcases hp_3 with ⟨hi_5, rfl, rfl⟩ | ⟨j_6, he_7, hi_8, hj_9, rfl, rfl⟩
  ·
    show VV E 0 0 10 [(0, .ref r0), (1, .int d), (2, .int w)] [.int (nI 0)] [(r0, .inr (5, [.int (nI n), .ref k1, .ref k2, .ref k3, .ref k4, .int (nI m), .ref k6, .ref k7, .ref k8, .int (nI 0), .ref k10, .int (nI 0), .ref k12, .ref k13, .ref k14, .ref k15, .ref k16, .int (nI ls), .int (nI ap), .int (bz bd), .int (nI sq), .ref k21, .ref k22, .ref k23, .ref k24, .ref k25, .int (bz pd), .int (nI pl), .int (bz tk), kv, .ref k30, .ref k31, .int (nI tz), .ref k33, .int (nI rs), .int sd])), (k1, .inl (cI, 7, .inl (nIf ki))), (k2, .inl (cI, 7, .inl (nIf op))), (k3, .inl (cI, 7, .inl (nIf (shF sh)))), (k4, .inl (cI, 7, .inl (nIf fa))), (k6, .inl (cI, 6, .inl (nIf K))), (k7, .inl (cI, 6, .inl (nIf G))), (k8, .inl (cI, 6, .inl (nIf T))), (k12, .inl (cI, 7, .inl (nIf kw))), (k13, .inl (cI, 175, .inl (nIf kn))), (k14, .inl (cI, 144, .inl (mIf M))), (k15, .inl (cI, 7, .inl (nIf mw))), (k10, .inl (cI, 7, .inl (nIf R)))]
    have hn_d := hi_5
    refine v_if_eq 22 13 zC dX5_share_10 (fun _ => ?_) (fun z => absurd (by decide +kernel) z)
    refine v_ic (v := (-1)) 23 zC dX5_share_22 (by decide +kernel) ?_
    refine v_is_n (lv2 := [(3, .int (-1)), (0, .ref r0), (1, .int d), (2, .int w)]) 24 zC dX5_share_23 (by rw [hnE]; decide) rfl ?_
    refine v_il_n 25 zC dX5_share_24 0 rfl ?_
    refine v_if_ge 39 28 zC dX5_share_25 (fun z => absurd z (by decide +kernel)) (fun _ => ?_)
    refine v_ldc2 (v := (lN 4000000000000000000)) 31 zC dX5_share_28 kc_X5_276 ?_
    refine v_al_n 32 zC dX5_share_31 1 rfl ?_
    refine v_il_n 33 zC dX5_share_32 0 rfl ?_
    refine v_cV (As := [.int (-1)]) (st := [.long (lN 4000000000000000000)]) 36 0 [0, 12] zC dX5_share_33 hA (c_X5_refuse (ev_l E) (ev_D E) cI (r0 := r0) (k1 := k1) (k2 := k2) (k3 := k3) (k4 := k4) (k6 := k6) (k7 := k7) (k8 := k8) (k10 := k10) (k12 := k12) (k13 := k13) (k14 := k14) (k15 := k15) (k16 := k16) (k21 := k21) (k22 := k22) (k23 := k23) (k24 := k24) (k25 := k25) (k30 := k30) (k31 := k31) (k33 := k33) (n := n) (m := m) (aw := 0) (ls := ls) (ap := ap) (sq := sq) (pl := pl) (tz := tz) (rs := rs) (bd := bd) (pd := pd) (tk := tk) (kv := kv) (sd := sd) (R := R) (v := (-1)) (j := 1) (hv := (by first | omega | assumption | rfl | (simp only []; omega) | decide)) (h1 := (by first | omega | assumption | rfl | (simp only []; omega) | decide)) (h6 := (by first | omega | assumption | rfl | (simp only []; omega) | decide))) cf_X5_refuse lk_X5_129 rfl rfl rfl rfl rfl (by decide +kernel) (Nat.le_of_ble_eq_true rfl) (fun rv_12 wv_13 hp_14 hm_15 => ?_)
    clear hm_15
    obtain ⟨rfl, rfl⟩ := hp_14
    show VV E 0 0 36 [(3, .int (-1)), (0, .ref r0), (1, .int d), (2, .int w)] [.int (-1), .long (lN 4000000000000000000)] [(r0, .inr (5, [.int (nI n), .ref k1, .ref k2, .ref k3, .ref k4, .int (nI m), .ref k6, .ref k7, .ref k8, .int (nI 0), .ref k10, .int (nI 0), .ref k12, .ref k13, .ref k14, .ref k15, .ref k16, .int (nI ls), .int (nI ap), .int (bz bd), .int (nI sq), .ref k21, .ref k22, .ref k23, .ref k24, .ref k25, .int (bz pd), .int (nI pl), .int (bz tk), kv, .ref k30, .ref k31, .int (nI tz), .ref k33, .int (nI rs), .int sd])), (k1, .inl (cI, 7, .inl (nIf ki))), (k2, .inl (cI, 7, .inl (nIf op))), (k3, .inl (cI, 7, .inl (nIf (shF sh)))), (k4, .inl (cI, 7, .inl (nIf fa))), (k6, .inl (cI, 6, .inl (nIf K))), (k7, .inl (cI, 6, .inl (nIf G))), (k8, .inl (cI, 6, .inl (nIf T))), (k12, .inl (cI, 7, .inl (nIf kw))), (k13, .inl (cI, 175, .inl (nIf kn))), (k14, .inl (cI, 144, .inl (mIf M))), (k15, .inl (cI, 7, .inl (nIf mw))), (k10, .inl (cI, 7, .inl (nIf (un R 1 (R 1 + 1)))))]
    refine v_i2l (v := (Int32.toInt64 (-1))) 37 zC dX5_share_36 rfl ?_
    refine v_lsub (v := ((lN 4000000000000000000) - (Int32.toInt64 (-1)))) 38 zC dX5_share_37  rfl ?_
    refine v_lret zC zT dX5_share_38  ?_
    first | (have g9 := hn_d; exact ⟨kw, kn, M, mw, 1, RLF (-1), by unfold q_share; rw [hn_d], hkw, hkn, hM, rfl, rfl⟩) | (have g9 := hn_w; exact ⟨kw, kn, M, mw, 2, RLF (-2), by unfold q_share; rw [hi_d]; dsimp only; rw [hn_w], hkw, hkn, hM, rfl, rfl⟩) | exact ⟨_, _, _, _, 0, _, by unfold q_share; rw [hi_d]; dsimp only; rw [hi_w]; dsimp only; rw [← hxe]; first | (rw [pto_0 hz9]; done) | (rw [pto_s hz9 (by assumption) rfl]; done) | (rw [pto_t hz9 (by assumption) rfl]; done), hR9.2.2.2.1, hR9.2.2.2.2.1, hR9.2.2.2.2.2, rfl, rfl⟩
  ·
    show VV E 0 0 10 [(0, .ref r0), (1, .int d), (2, .int w)] [.int (nI 1)] [(r0, .inr (5, [.int (nI n), .ref k1, .ref k2, .ref k3, .ref k4, .int (nI m), .ref k6, .ref k7, .ref k8, .int (nI 0), .ref k10, .int (nI 0), .ref k12, .ref k13, .ref k14, .ref k15, .ref k16, .int (nI ls), .int (nI ap), .int (bz bd), .int (nI sq), .ref k21, .ref k22, .ref k23, .ref k24, .ref k25, .int (bz pd), .int (nI pl), .int (bz tk), kv, .ref k30, .ref k31, .int (nI tz), .ref k33, .int (nI rs), .int sd])), (k1, .inl (cI, 7, .inl (nIf ki))), (k2, .inl (cI, 7, .inl (nIf op))), (k3, .inl (cI, 7, .inl (nIf (shF sh)))), (k4, .inl (cI, 7, .inl (nIf fa))), (k6, .inl (cI, 6, .inl (nIf K))), (k7, .inl (cI, 6, .inl (nIf G))), (k8, .inl (cI, 6, .inl (nIf T))), (k12, .inl (cI, 7, .inl (nIf kw))), (k13, .inl (cI, 175, .inl (nIf kn))), (k14, .inl (cI, 144, .inl (mIf M))), (k15, .inl (cI, 7, .inl (nIf mw))), (k10, .inl (cI, 7, .inl (nIf R)))]
    subst he_7
    have hi_d := hi_8
    obtain ⟨jd, hx_jd⟩ : ∃ z, z = j_6 := ⟨_, rfl⟩
    subst hx_jd
    refine v_if_eq 22 13 zC dX5_share_10 (fun z => absurd z (by decide +kernel)) (fun _ => ?_)
    refine v_ic (v := (nI 0)) 14 zC dX5_share_13 (by decide +kernel) ?_
    refine v_il_n 15 zC dX5_share_14 2 rfl ?_
    refine v_ic (v := (nI 1)) 16 zC dX5_share_15 (by decide +kernel) ?_
    refine v_cS (As := [.int (nI 0), .int w, .int (nI 1)]) (st := []) 19 [] zC dX5_share_16 hA (c_X5_wrongBit__Z (ev_l E) (ev_D E) cI (v := w) (k := 1) (hk := (by first | omega | assumption | rfl | (simp only []; omega) | decide))) cf_X5_wrongBit lk_X5_248 rfl rfl rfl (by decide +kernel) (Nat.le_of_ble_eq_true rfl) (fun rv_17 wv_18 hp_19 hm_20 => ?_)
    clear hm_20
    rcases hp_19 with ⟨hi_21, rfl, rfl⟩ | ⟨j_22, he_23, hi_24, hj_25, rfl, rfl⟩
    ·
      show VV E 0 0 19 [(0, .ref r0), (1, .int (nI jd)), (2, .int w)] [.int (-2)] [(r0, .inr (5, [.int (nI n), .ref k1, .ref k2, .ref k3, .ref k4, .int (nI m), .ref k6, .ref k7, .ref k8, .int (nI 0), .ref k10, .int (nI 0), .ref k12, .ref k13, .ref k14, .ref k15, .ref k16, .int (nI ls), .int (nI ap), .int (bz bd), .int (nI sq), .ref k21, .ref k22, .ref k23, .ref k24, .ref k25, .int (bz pd), .int (nI pl), .int (bz tk), kv, .ref k30, .ref k31, .int (nI tz), .ref k33, .int (nI rs), .int sd])), (k1, .inl (cI, 7, .inl (nIf ki))), (k2, .inl (cI, 7, .inl (nIf op))), (k3, .inl (cI, 7, .inl (nIf (shF sh)))), (k4, .inl (cI, 7, .inl (nIf fa))), (k6, .inl (cI, 6, .inl (nIf K))), (k7, .inl (cI, 6, .inl (nIf G))), (k8, .inl (cI, 6, .inl (nIf T))), (k12, .inl (cI, 7, .inl (nIf kw))), (k13, .inl (cI, 175, .inl (nIf kn))), (k14, .inl (cI, 144, .inl (mIf M))), (k15, .inl (cI, 7, .inl (nIf mw))), (k10, .inl (cI, 7, .inl (nIf R)))]
      have hn_w := hi_21
      refine v_goto 23 zC dX5_share_19 ?_
      refine v_is_n (lv2 := [(3, .int (-2)), (0, .ref r0), (1, .int (nI jd)), (2, .int w)]) 24 zC dX5_share_23 (by rw [hnE]; decide) rfl ?_
      refine v_il_n 25 zC dX5_share_24 0 rfl ?_
      refine v_if_ge 39 28 zC dX5_share_25 (fun z => absurd z (by decide +kernel)) (fun _ => ?_)
      refine v_ldc2 (v := (lN 4000000000000000000)) 31 zC dX5_share_28 kc_X5_276 ?_
      refine v_al_n 32 zC dX5_share_31 1 rfl ?_
      refine v_il_n 33 zC dX5_share_32 0 rfl ?_
      refine v_cV (As := [.int (-2)]) (st := [.long (lN 4000000000000000000)]) 36 0 [0, 12] zC dX5_share_33 hA (c_X5_refuse (ev_l E) (ev_D E) cI (r0 := r0) (k1 := k1) (k2 := k2) (k3 := k3) (k4 := k4) (k6 := k6) (k7 := k7) (k8 := k8) (k10 := k10) (k12 := k12) (k13 := k13) (k14 := k14) (k15 := k15) (k16 := k16) (k21 := k21) (k22 := k22) (k23 := k23) (k24 := k24) (k25 := k25) (k30 := k30) (k31 := k31) (k33 := k33) (n := n) (m := m) (aw := 0) (ls := ls) (ap := ap) (sq := sq) (pl := pl) (tz := tz) (rs := rs) (bd := bd) (pd := pd) (tk := tk) (kv := kv) (sd := sd) (R := R) (v := (-2)) (j := 2) (hv := (by first | omega | assumption | rfl | (simp only []; omega) | decide)) (h1 := (by first | omega | assumption | rfl | (simp only []; omega) | decide)) (h6 := (by first | omega | assumption | rfl | (simp only []; omega) | decide))) cf_X5_refuse lk_X5_129 rfl rfl rfl rfl rfl (by decide +kernel) (Nat.le_of_ble_eq_true rfl) (fun rv_27 wv_28 hp_29 hm_30 => ?_)
      clear hm_30
      obtain ⟨rfl, rfl⟩ := hp_29
      show VV E 0 0 36 [(3, .int (-2)), (0, .ref r0), (1, .int (nI jd)), (2, .int w)] [.int (-2), .long (lN 4000000000000000000)] [(r0, .inr (5, [.int (nI n), .ref k1, .ref k2, .ref k3, .ref k4, .int (nI m), .ref k6, .ref k7, .ref k8, .int (nI 0), .ref k10, .int (nI 0), .ref k12, .ref k13, .ref k14, .ref k15, .ref k16, .int (nI ls), .int (nI ap), .int (bz bd), .int (nI sq), .ref k21, .ref k22, .ref k23, .ref k24, .ref k25, .int (bz pd), .int (nI pl), .int (bz tk), kv, .ref k30, .ref k31, .int (nI tz), .ref k33, .int (nI rs), .int sd])), (k1, .inl (cI, 7, .inl (nIf ki))), (k2, .inl (cI, 7, .inl (nIf op))), (k3, .inl (cI, 7, .inl (nIf (shF sh)))), (k4, .inl (cI, 7, .inl (nIf fa))), (k6, .inl (cI, 6, .inl (nIf K))), (k7, .inl (cI, 6, .inl (nIf G))), (k8, .inl (cI, 6, .inl (nIf T))), (k12, .inl (cI, 7, .inl (nIf kw))), (k13, .inl (cI, 175, .inl (nIf kn))), (k14, .inl (cI, 144, .inl (mIf M))), (k15, .inl (cI, 7, .inl (nIf mw))), (k10, .inl (cI, 7, .inl (nIf (un R 2 (R 2 + 1)))))]
      refine v_i2l (v := (Int32.toInt64 (-2))) 37 zC dX5_share_36 rfl ?_
      refine v_lsub (v := ((lN 4000000000000000000) - (Int32.toInt64 (-2)))) 38 zC dX5_share_37  rfl ?_
      refine v_lret zC zT dX5_share_38  ?_
      first | (have g9 := hn_d; exact ⟨kw, kn, M, mw, 1, RLF (-1), by unfold q_share; rw [hn_d], hkw, hkn, hM, rfl, rfl⟩) | (have g9 := hn_w; exact ⟨kw, kn, M, mw, 2, RLF (-2), by unfold q_share; rw [hi_d]; dsimp only; rw [hn_w], hkw, hkn, hM, rfl, rfl⟩) | exact ⟨_, _, _, _, 0, _, by unfold q_share; rw [hi_d]; dsimp only; rw [hi_w]; dsimp only; rw [← hxe]; first | (rw [pto_0 hz9]; done) | (rw [pto_s hz9 (by assumption) rfl]; done) | (rw [pto_t hz9 (by assumption) rfl]; done), hR9.2.2.2.1, hR9.2.2.2.2.1, hR9.2.2.2.2.2, rfl, rfl⟩
    ·
      show VV E 0 0 19 [(0, .ref r0), (1, .int (nI jd)), (2, .int w)] [.int (nI 0)] [(r0, .inr (5, [.int (nI n), .ref k1, .ref k2, .ref k3, .ref k4, .int (nI m), .ref k6, .ref k7, .ref k8, .int (nI 0), .ref k10, .int (nI 0), .ref k12, .ref k13, .ref k14, .ref k15, .ref k16, .int (nI ls), .int (nI ap), .int (bz bd), .int (nI sq), .ref k21, .ref k22, .ref k23, .ref k24, .ref k25, .int (bz pd), .int (nI pl), .int (bz tk), kv, .ref k30, .ref k31, .int (nI tz), .ref k33, .int (nI rs), .int sd])), (k1, .inl (cI, 7, .inl (nIf ki))), (k2, .inl (cI, 7, .inl (nIf op))), (k3, .inl (cI, 7, .inl (nIf (shF sh)))), (k4, .inl (cI, 7, .inl (nIf fa))), (k6, .inl (cI, 6, .inl (nIf K))), (k7, .inl (cI, 6, .inl (nIf G))), (k8, .inl (cI, 6, .inl (nIf T))), (k12, .inl (cI, 7, .inl (nIf kw))), (k13, .inl (cI, 175, .inl (nIf kn))), (k14, .inl (cI, 144, .inl (mIf M))), (k15, .inl (cI, 7, .inl (nIf mw))), (k10, .inl (cI, 7, .inl (nIf R)))]
      subst he_23
      have hi_w := hi_24
      obtain ⟨jw, hx_jw⟩ : ∃ z, z = j_22 := ⟨_, rfl⟩
      subst hx_jw
      refine v_goto 23 zC dX5_share_19 ?_
      refine v_is_n (lv2 := [(3, .int (nI 0)), (0, .ref r0), (1, .int (nI jd)), (2, .int (nI jw))]) 24 zC dX5_share_23 (by rw [hnE]; decide) rfl ?_
      refine v_il_n 25 zC dX5_share_24 0 rfl ?_
      refine v_if_ge 39 28 zC dX5_share_25 (fun _ => ?_) (fun z => absurd (by decide +kernel) z)
      refine v_al_n 40 zC dX5_share_39 1 rfl ?_
      refine v_cV (As := []) (st := []) 43 0 [0, 1, 2, 3, 4, 5, 6, 7, 8, 9, 10, 11] zC dX5_share_40 hA (c_X5_day (ev_l E) (ev_D E) cI (r0 := r0) (k1 := k1) (k2 := k2) (k3 := k3) (k4 := k4) (k6 := k6) (k7 := k7) (k8 := k8) (k10 := k10) (k12 := k12) (k13 := k13) (k14 := k14) (k15 := k15) (k16 := k16) (k21 := k21) (k22 := k22) (k23 := k23) (k24 := k24) (k25 := k25) (k30 := k30) (k31 := k31) (k33 := k33) (n := n) (m := m) (aw := 0) (ls := ls) (ap := ap) (sq := sq) (pl := pl) (tz := tz) (rs := rs) (bd := bd) (pd := pd) (tk := tk) (kv := kv) (sd := sd) (ki := ki) (op := op) (fa := fa) (K := K) (G := G) (T := T) (sh := sh) (kw := kw) (kn := kn) (M := M) (mw := mw) (hw := (by first | omega | assumption | rfl | (simp only []; omega) | decide)) (hkw := (by first | omega | assumption | rfl | (simp only []; omega) | decide)) (hkn := (by first | omega | assumption | rfl | (simp only []; omega) | decide)) (hM := (by first | omega | assumption | rfl | (simp only []; omega) | decide))) cf_X5_day lk_X5_123 rfl rfl rfl rfl rfl (by decide +kernel) (Nat.le_of_ble_eq_true rfl) (fun rv_32 wv_33 hp_34 hm_35 => ?_)
      clear hm_35
      obtain ⟨kw1_36, kn1_37, M1_38, mw1_39, hR_40, rfl, rfl⟩ := hp_34
      show VV E 0 0 43 [(3, .int (nI 0)), (0, .ref r0), (1, .int (nI jd)), (2, .int (nI jw))] [] [(r0, .inr (5, [.int (nI n), .ref k1, .ref k2, .ref k3, .ref k4, .int (nI m), .ref k6, .ref k7, .ref k8, .int (nI 0), .ref k10, .int (nI 0), .ref k12, .ref k13, .ref k14, .ref k15, .ref k16, .int (nI ls), .int (nI ap), .int (bz bd), .int (nI sq), .ref k21, .ref k22, .ref k23, .ref k24, .ref k25, .int (bz pd), .int (nI pl), .int (bz tk), kv, .ref k30, .ref k31, .int (nI tz), .ref k33, .int (nI rs), .int sd])), (k1, .inl (cI, 7, .inl (nIf ki))), (k2, .inl (cI, 7, .inl (nIf op))), (k3, .inl (cI, 7, .inl (nIf (shF sh)))), (k4, .inl (cI, 7, .inl (nIf fa))), (k6, .inl (cI, 6, .inl (nIf K))), (k7, .inl (cI, 6, .inl (nIf G))), (k8, .inl (cI, 6, .inl (nIf T))), (k12, .inl (cI, 7, .inl (nIf kw1_36))), (k13, .inl (cI, 175, .inl (nIf kn1_37))), (k14, .inl (cI, 144, .inl (mIf M1_38))), (k15, .inl (cI, 7, .inl (nIf mw1_39))), (k10, .inl (cI, 7, .inl (nIf R)))]
      have hR9 := hR_40
      refine v_ic (v := (nI 0)) 44 zC dX5_share_43 (by decide +kernel) ?_
      refine v_is (lv2 := [(4, .int (nI 0)), (3, .int (nI 0)), (0, .ref r0), (1, .int (nI jd)), (2, .int (nI jw))]) 46 zC dX5_share_44 (by rw [hnE]; decide) rfl ?_
      refine v_ic (v := (nI 0)) 47 zC dX5_share_46 (by decide +kernel) ?_
      refine v_is (lv2 := [(5, .int (nI 0)), (4, .int (nI 0)), (3, .int (nI 0)), (0, .ref r0), (1, .int (nI jd)), (2, .int (nI jw))]) 49 zC dX5_share_47 (by rw [hnE]; decide) rfl ?_
      have lp49 : ∀ (mz : Nat) (x : Nat) (d : Nat), (x = sm (fun d => SPOKE (n, m, sh, 0, ki, op, fa, K, G, T) d) d) → (d ≤ m) → (x ≤ 24 * d) → m - d = mz → VV E 0 0 49 [(5, .int (nI d)), (4, .int (nI x)), (3, .int (nI 0)), (0, .ref r0), (1, .int (nI jd)), (2, .int (nI jw))] [] [(r0, .inr (5, [.int (nI n), .ref k1, .ref k2, .ref k3, .ref k4, .int (nI m), .ref k6, .ref k7, .ref k8, .int (nI 0), .ref k10, .int (nI 0), .ref k12, .ref k13, .ref k14, .ref k15, .ref k16, .int (nI ls), .int (nI ap), .int (bz bd), .int (nI sq), .ref k21, .ref k22, .ref k23, .ref k24, .ref k25, .int (bz pd), .int (nI pl), .int (bz tk), kv, .ref k30, .ref k31, .int (nI tz), .ref k33, .int (nI rs), .int sd])), (k1, .inl (cI, 7, .inl (nIf ki))), (k2, .inl (cI, 7, .inl (nIf op))), (k3, .inl (cI, 7, .inl (nIf (shF sh)))), (k4, .inl (cI, 7, .inl (nIf fa))), (k6, .inl (cI, 6, .inl (nIf K))), (k7, .inl (cI, 6, .inl (nIf G))), (k8, .inl (cI, 6, .inl (nIf T))), (k12, .inl (cI, 7, .inl (nIf kw1_36))), (k13, .inl (cI, 175, .inl (nIf kn1_37))), (k14, .inl (cI, 144, .inl (mIf M1_38))), (k15, .inl (cI, 7, .inl (nIf mw1_39))), (k10, .inl (cI, 7, .inl (nIf R)))] := by
        intro mz
        induction mz using Nat.strongRecOn with
        | _ mz ih49 =>
        intro x d hx hd hxl hm49
        refine v_il 51 zC dX5_share_49 0 rfl ?_
        refine v_al_n 52 zC dX5_share_51 3 rfl ?_
        refine v_gf 55 0 zC dX5_share_52 gf_X5_84 rfl rfl ?_
        refine v_icmpn_ge 75 58 zC dX5_share_55 (fun h_41 => ?_) (fun h_41 => ?_)
        ·
          refine v_al_n 76 zC dX5_share_75 3 rfl ?_
          refine v_il_n 77 zC dX5_share_76 4 rfl ?_
          refine v_cV (As := [.int (nI jd)]) (st := []) 80 0 [0, 10] zC dX5_share_77 hA (c_X5_spokeOf (ev_l E) (ev_D E) cI (r0 := r0) (k1 := k1) (k2 := k2) (k3 := k3) (k4 := k4) (k6 := k6) (k7 := k7) (k8 := k8) (k10 := k10) (k12 := k12) (k13 := k13) (k14 := k14) (k15 := k15) (k16 := k16) (k21 := k21) (k22 := k22) (k23 := k23) (k24 := k24) (k25 := k25) (k30 := k30) (k31 := k31) (k33 := k33) (n := n) (m := m) (aw := 0) (ls := ls) (ap := ap) (sq := sq) (pl := pl) (tz := tz) (rs := rs) (bd := bd) (pd := pd) (tk := tk) (kv := kv) (sd := sd) (ki := ki) (op := op) (fa := fa) (K := K) (G := G) (T := T) (sh := sh) (kw := kw1_36) (kn := kn1_37) (M := M1_38) (d := jd) (hn := (by first | omega | assumption | rfl | (simp only []; omega) | decide)) (hm := (by first | omega | assumption | rfl | (simp only []; omega) | decide)) (hR := hR9) (hd := (by first | omega | assumption | rfl | (simp only []; omega) | decide))) cf_X5_spokeOf lk_X5_239 rfl rfl rfl rfl rfl (by decide +kernel) (Nat.le_of_ble_eq_true rfl) (fun rv_42 wv_43 hp_44 hm_45 => ?_)
          clear hm_45
          obtain ⟨rfl, rfl⟩ := hp_44
          show VV E 0 0 80 [(5, .int (nI d)), (4, .int (nI x)), (3, .int (nI 0)), (0, .ref r0), (1, .int (nI jd)), (2, .int (nI jw))] [.int (nI (SPOKE (n, m, sh, 0, ki, op, fa, K, G, T) jd))] [(r0, .inr (5, [.int (nI n), .ref k1, .ref k2, .ref k3, .ref k4, .int (nI m), .ref k6, .ref k7, .ref k8, .int (nI 0), .ref k10, .int (nI 0), .ref k12, .ref k13, .ref k14, .ref k15, .ref k16, .int (nI ls), .int (nI ap), .int (bz bd), .int (nI sq), .ref k21, .ref k22, .ref k23, .ref k24, .ref k25, .int (bz pd), .int (nI pl), .int (bz tk), kv, .ref k30, .ref k31, .int (nI tz), .ref k33, .int (nI rs), .int sd])), (k1, .inl (cI, 7, .inl (nIf ki))), (k2, .inl (cI, 7, .inl (nIf op))), (k3, .inl (cI, 7, .inl (nIf (shF sh)))), (k4, .inl (cI, 7, .inl (nIf fa))), (k6, .inl (cI, 6, .inl (nIf K))), (k7, .inl (cI, 6, .inl (nIf G))), (k8, .inl (cI, 6, .inl (nIf T))), (k12, .inl (cI, 7, .inl (nIf kw1_36))), (k13, .inl (cI, 175, .inl (nIf kn1_37))), (k14, .inl (cI, 144, .inl (mIf M1_38))), (k15, .inl (cI, 7, .inl (nIf mw1_39))), (k10, .inl (cI, 7, .inl (nIf R)))]
          have hc8 : SPOKE (n, m, sh, 0, ki, op, fa, K, G, T) jd ≤ 24 := spo_le
          have hxe : x = SPKS (n, m, sh, 0, ki, op, fa, K, G, T) := by rw [hx, show d = m by omega]; rfl
          refine v_ifn_ne 86 83 zC dX5_share_80 (fun h_46 => ?_) (fun h_46 => ?_)
          ·
            have hz9 := h_46
            have hg1 := gcd_0 (b := x) hz9
            have hg2 := gcd_le (b := x) hz9
            refine v_al_n 87 zC dX5_share_86 3 rfl ?_
            refine v_il_n 88 zC dX5_share_87 4 rfl ?_
            refine v_cV (As := [.int (nI jd)]) (st := []) 91 0 [0, 10] zC dX5_share_88 hA (c_X5_spokeOf (ev_l E) (ev_D E) cI (r0 := r0) (k1 := k1) (k2 := k2) (k3 := k3) (k4 := k4) (k6 := k6) (k7 := k7) (k8 := k8) (k10 := k10) (k12 := k12) (k13 := k13) (k14 := k14) (k15 := k15) (k16 := k16) (k21 := k21) (k22 := k22) (k23 := k23) (k24 := k24) (k25 := k25) (k30 := k30) (k31 := k31) (k33 := k33) (n := n) (m := m) (aw := 0) (ls := ls) (ap := ap) (sq := sq) (pl := pl) (tz := tz) (rs := rs) (bd := bd) (pd := pd) (tk := tk) (kv := kv) (sd := sd) (ki := ki) (op := op) (fa := fa) (K := K) (G := G) (T := T) (sh := sh) (kw := kw1_36) (kn := kn1_37) (M := M1_38) (d := jd) (hn := (by first | omega | assumption | rfl | (simp only []; omega) | decide)) (hm := (by first | omega | assumption | rfl | (simp only []; omega) | decide)) (hR := hR9) (hd := (by first | omega | assumption | rfl | (simp only []; omega) | decide))) cf_X5_spokeOf lk_X5_239 rfl rfl rfl rfl rfl (by decide +kernel) (Nat.le_of_ble_eq_true rfl) (fun rv_47 wv_48 hp_49 hm_50 => ?_)
            clear hm_50
            obtain ⟨rfl, rfl⟩ := hp_49
            show VV E 0 0 91 [(5, .int (nI d)), (4, .int (nI x)), (3, .int (nI 0)), (0, .ref r0), (1, .int (nI jd)), (2, .int (nI jw))] [.int (nI (SPOKE (n, m, sh, 0, ki, op, fa, K, G, T) jd))] [(r0, .inr (5, [.int (nI n), .ref k1, .ref k2, .ref k3, .ref k4, .int (nI m), .ref k6, .ref k7, .ref k8, .int (nI 0), .ref k10, .int (nI 0), .ref k12, .ref k13, .ref k14, .ref k15, .ref k16, .int (nI ls), .int (nI ap), .int (bz bd), .int (nI sq), .ref k21, .ref k22, .ref k23, .ref k24, .ref k25, .int (bz pd), .int (nI pl), .int (bz tk), kv, .ref k30, .ref k31, .int (nI tz), .ref k33, .int (nI rs), .int sd])), (k1, .inl (cI, 7, .inl (nIf ki))), (k2, .inl (cI, 7, .inl (nIf op))), (k3, .inl (cI, 7, .inl (nIf (shF sh)))), (k4, .inl (cI, 7, .inl (nIf fa))), (k6, .inl (cI, 6, .inl (nIf K))), (k7, .inl (cI, 6, .inl (nIf G))), (k8, .inl (cI, 6, .inl (nIf T))), (k12, .inl (cI, 7, .inl (nIf kw1_36))), (k13, .inl (cI, 175, .inl (nIf kn1_37))), (k14, .inl (cI, 144, .inl (mIf M1_38))), (k15, .inl (cI, 7, .inl (nIf mw1_39))), (k10, .inl (cI, 7, .inl (nIf R)))]
            refine v_i2l (v := (lN (SPOKE (n, m, sh, 0, ki, op, fa, K, G, T) jd))) 92 zC dX5_share_91 (nI_l (by omega)) ?_
            refine v_il 94 zC dX5_share_92 1 rfl ?_
            refine v_i2l (v := (lN x)) 95 zC dX5_share_94 (nI_l (by omega)) ?_
            refine v_cS (As := [.long (lN (SPOKE (n, m, sh, 0, ki, op, fa, K, G, T) jd)), .long (lN x)]) (st := []) 98 [] zC dX5_share_95 hA (c_X5_divisor (ev_l E) (ev_D E) cI (a := (SPOKE (n, m, sh, 0, ki, op, fa, K, G, T) jd)) (b := x) (ha := (by first | omega | assumption | rfl | (simp only []; omega) | decide)) (hb := (by first | omega | assumption | rfl | (simp only []; omega) | decide))) cf_X5_divisor lk_X5_278 rfl rfl rfl (by decide +kernel) (Nat.le_of_ble_eq_true rfl) (fun rv_51 wv_52 hp_53 hm_54 => ?_)
            clear hm_54
            obtain ⟨rfl, rfl⟩ := hp_53
            show VV E 0 0 98 [(5, .int (nI d)), (4, .int (nI x)), (3, .int (nI 0)), (0, .ref r0), (1, .int (nI jd)), (2, .int (nI jw))] [.long (lN (Nat.gcd (SPOKE (n, m, sh, 0, ki, op, fa, K, G, T) jd) x))] [(r0, .inr (5, [.int (nI n), .ref k1, .ref k2, .ref k3, .ref k4, .int (nI m), .ref k6, .ref k7, .ref k8, .int (nI 0), .ref k10, .int (nI 0), .ref k12, .ref k13, .ref k14, .ref k15, .ref k16, .int (nI ls), .int (nI ap), .int (bz bd), .int (nI sq), .ref k21, .ref k22, .ref k23, .ref k24, .ref k25, .int (bz pd), .int (nI pl), .int (bz tk), kv, .ref k30, .ref k31, .int (nI tz), .ref k33, .int (nI rs), .int sd])), (k1, .inl (cI, 7, .inl (nIf ki))), (k2, .inl (cI, 7, .inl (nIf op))), (k3, .inl (cI, 7, .inl (nIf (shF sh)))), (k4, .inl (cI, 7, .inl (nIf fa))), (k6, .inl (cI, 6, .inl (nIf K))), (k7, .inl (cI, 6, .inl (nIf G))), (k8, .inl (cI, 6, .inl (nIf T))), (k12, .inl (cI, 7, .inl (nIf kw1_36))), (k13, .inl (cI, 175, .inl (nIf kn1_37))), (k14, .inl (cI, 144, .inl (mIf M1_38))), (k15, .inl (cI, 7, .inl (nIf mw1_39))), (k10, .inl (cI, 7, .inl (nIf R)))]
            refine v_ls (lv2 := [(5, .long (lN (Nat.gcd (SPOKE (n, m, sh, 0, ki, op, fa, K, G, T) jd) x))), (4, .int (nI x)), (3, .int (nI 0)), (0, .ref r0), (1, .int (nI jd)), (2, .int (nI jw))]) 100 zC dX5_share_98 (by rw [hnE]; decide) rfl ?_
            refine v_il_n 101 zC dX5_share_100 5 rfl ?_
            refine v_ifn_ne 116 104 zC dX5_share_101 (fun h_55 => ?_) (fun h_55 => ?_)
            ·
              refine v_il 118 zC dX5_share_116 1 rfl ?_
              refine v_i2l (v := (lN x)) 119 zC dX5_share_118 (nI_l (by omega)) ?_
              refine v_ll 121 zC dX5_share_119 0 rfl ?_
              refine v_ldiv (v := (lN (x / Nat.gcd (SPOKE (n, m, sh, 0, ki, op, fa, K, G, T) jd) x))) 122 zC dX5_share_121 (lN_ne0 hg1 (by omega)) (pk_lDiv (by omega) hg1 (by omega)) ?_
              refine v_lret zC zT dX5_share_122  ?_
              first | (have g9 := hn_d; exact ⟨kw, kn, M, mw, 1, RLF (-1), by unfold q_share; rw [hn_d], hkw, hkn, hM, rfl, rfl⟩) | (have g9 := hn_w; exact ⟨kw, kn, M, mw, 2, RLF (-2), by unfold q_share; rw [hi_d]; dsimp only; rw [hn_w], hkw, hkn, hM, rfl, rfl⟩) | exact ⟨_, _, _, _, 0, _, by unfold q_share; rw [hi_d]; dsimp only; rw [hi_w]; dsimp only; rw [← hxe]; first | (rw [pto_0 hz9]; done) | (rw [pto_s hz9 (by assumption) rfl]; done) | (rw [pto_t hz9 (by assumption) rfl]; done), hR9.2.2.2.1, hR9.2.2.2.2.1, hR9.2.2.2.2.2, rfl, rfl⟩
            ·
              refine v_al_n 105 zC dX5_share_104 3 rfl ?_
              refine v_il_n 106 zC dX5_share_105 4 rfl ?_
              refine v_cV (As := [.int (nI jd)]) (st := []) 109 0 [0, 10] zC dX5_share_106 hA (c_X5_spokeOf (ev_l E) (ev_D E) cI (r0 := r0) (k1 := k1) (k2 := k2) (k3 := k3) (k4 := k4) (k6 := k6) (k7 := k7) (k8 := k8) (k10 := k10) (k12 := k12) (k13 := k13) (k14 := k14) (k15 := k15) (k16 := k16) (k21 := k21) (k22 := k22) (k23 := k23) (k24 := k24) (k25 := k25) (k30 := k30) (k31 := k31) (k33 := k33) (n := n) (m := m) (aw := 0) (ls := ls) (ap := ap) (sq := sq) (pl := pl) (tz := tz) (rs := rs) (bd := bd) (pd := pd) (tk := tk) (kv := kv) (sd := sd) (ki := ki) (op := op) (fa := fa) (K := K) (G := G) (T := T) (sh := sh) (kw := kw1_36) (kn := kn1_37) (M := M1_38) (d := jd) (hn := (by first | omega | assumption | rfl | (simp only []; omega) | decide)) (hm := (by first | omega | assumption | rfl | (simp only []; omega) | decide)) (hR := hR9) (hd := (by first | omega | assumption | rfl | (simp only []; omega) | decide))) cf_X5_spokeOf lk_X5_239 rfl rfl rfl rfl rfl (by decide +kernel) (Nat.le_of_ble_eq_true rfl) (fun rv_56 wv_57 hp_58 hm_59 => ?_)
              clear hm_59
              obtain ⟨rfl, rfl⟩ := hp_58
              show VV E 0 0 109 [(5, .long (lN (Nat.gcd (SPOKE (n, m, sh, 0, ki, op, fa, K, G, T) jd) x))), (4, .int (nI x)), (3, .int (nI 0)), (0, .ref r0), (1, .int (nI jd)), (2, .int (nI jw))] [.int (nI (SPOKE (n, m, sh, 0, ki, op, fa, K, G, T) jd))] [(r0, .inr (5, [.int (nI n), .ref k1, .ref k2, .ref k3, .ref k4, .int (nI m), .ref k6, .ref k7, .ref k8, .int (nI 0), .ref k10, .int (nI 0), .ref k12, .ref k13, .ref k14, .ref k15, .ref k16, .int (nI ls), .int (nI ap), .int (bz bd), .int (nI sq), .ref k21, .ref k22, .ref k23, .ref k24, .ref k25, .int (bz pd), .int (nI pl), .int (bz tk), kv, .ref k30, .ref k31, .int (nI tz), .ref k33, .int (nI rs), .int sd])), (k1, .inl (cI, 7, .inl (nIf ki))), (k2, .inl (cI, 7, .inl (nIf op))), (k3, .inl (cI, 7, .inl (nIf (shF sh)))), (k4, .inl (cI, 7, .inl (nIf fa))), (k6, .inl (cI, 6, .inl (nIf K))), (k7, .inl (cI, 6, .inl (nIf G))), (k8, .inl (cI, 6, .inl (nIf T))), (k12, .inl (cI, 7, .inl (nIf kw1_36))), (k13, .inl (cI, 175, .inl (nIf kn1_37))), (k14, .inl (cI, 144, .inl (mIf M1_38))), (k15, .inl (cI, 7, .inl (nIf mw1_39))), (k10, .inl (cI, 7, .inl (nIf R)))]
              refine v_i2l (v := (lN (SPOKE (n, m, sh, 0, ki, op, fa, K, G, T) jd))) 110 zC dX5_share_109 (nI_l (by omega)) ?_
              refine v_ll 112 zC dX5_share_110 0 rfl ?_
              refine v_ldiv (v := (lN (SPOKE (n, m, sh, 0, ki, op, fa, K, G, T) jd / Nat.gcd (SPOKE (n, m, sh, 0, ki, op, fa, K, G, T) jd) x))) 113 zC dX5_share_112 (lN_ne0 hg1 (by omega)) (pk_lDiv (by omega) hg1 (by omega)) ?_
              refine v_goto 122 zC dX5_share_113 ?_
              refine v_lret zC zT dX5_share_122  ?_
              first | (have g9 := hn_d; exact ⟨kw, kn, M, mw, 1, RLF (-1), by unfold q_share; rw [hn_d], hkw, hkn, hM, rfl, rfl⟩) | (have g9 := hn_w; exact ⟨kw, kn, M, mw, 2, RLF (-2), by unfold q_share; rw [hi_d]; dsimp only; rw [hn_w], hkw, hkn, hM, rfl, rfl⟩) | exact ⟨_, _, _, _, 0, _, by unfold q_share; rw [hi_d]; dsimp only; rw [hi_w]; dsimp only; rw [← hxe]; first | (rw [pto_0 hz9]; done) | (rw [pto_s hz9 (by assumption) rfl]; done) | (rw [pto_t hz9 (by assumption) rfl]; done), hR9.2.2.2.1, hR9.2.2.2.2.1, hR9.2.2.2.2.2, rfl, rfl⟩
          ·
            have hz9 := h_46
            refine v_il_n 84 zC dX5_share_83 5 rfl ?_
            refine v_i2l (v := (lN jw)) 85 zC dX5_share_84 (nI_l (by omega)) ?_
            refine v_lret zC zT dX5_share_85  ?_
            first | (have g9 := hn_d; exact ⟨kw, kn, M, mw, 1, RLF (-1), by unfold q_share; rw [hn_d], hkw, hkn, hM, rfl, rfl⟩) | (have g9 := hn_w; exact ⟨kw, kn, M, mw, 2, RLF (-2), by unfold q_share; rw [hi_d]; dsimp only; rw [hn_w], hkw, hkn, hM, rfl, rfl⟩) | exact ⟨_, _, _, _, 0, _, by unfold q_share; rw [hi_d]; dsimp only; rw [hi_w]; dsimp only; rw [← hxe]; first | (rw [pto_0 hz9]; done) | (rw [pto_s hz9 (by assumption) rfl]; done) | (rw [pto_t hz9 (by assumption) rfl]; done), hR9.2.2.2.1, hR9.2.2.2.2.1, hR9.2.2.2.2.2, rfl, rfl⟩
        ·
          refine v_il 60 zC dX5_share_58 1 rfl ?_
          refine v_al_n 61 zC dX5_share_60 3 rfl ?_
          refine v_il 63 zC dX5_share_61 0 rfl ?_
          refine v_cV (As := [.int (nI d)]) (st := [.int (nI x)]) 66 0 [0, 10] zC dX5_share_63 hA (c_X5_spokeOf (ev_l E) (ev_D E) cI (r0 := r0) (k1 := k1) (k2 := k2) (k3 := k3) (k4 := k4) (k6 := k6) (k7 := k7) (k8 := k8) (k10 := k10) (k12 := k12) (k13 := k13) (k14 := k14) (k15 := k15) (k16 := k16) (k21 := k21) (k22 := k22) (k23 := k23) (k24 := k24) (k25 := k25) (k30 := k30) (k31 := k31) (k33 := k33) (n := n) (m := m) (aw := 0) (ls := ls) (ap := ap) (sq := sq) (pl := pl) (tz := tz) (rs := rs) (bd := bd) (pd := pd) (tk := tk) (kv := kv) (sd := sd) (ki := ki) (op := op) (fa := fa) (K := K) (G := G) (T := T) (sh := sh) (kw := kw1_36) (kn := kn1_37) (M := M1_38) (d := d) (hn := (by first | omega | assumption | rfl | (simp only []; omega) | decide)) (hm := (by first | omega | assumption | rfl | (simp only []; omega) | decide)) (hR := hR9) (hd := (by first | omega | assumption | rfl | (simp only []; omega) | decide))) cf_X5_spokeOf lk_X5_239 rfl rfl rfl rfl rfl (by decide +kernel) (Nat.le_of_ble_eq_true rfl) (fun rv_60 wv_61 hp_62 hm_63 => ?_)
          clear hm_63
          obtain ⟨rfl, rfl⟩ := hp_62
          show VV E 0 0 66 [(5, .int (nI d)), (4, .int (nI x)), (3, .int (nI 0)), (0, .ref r0), (1, .int (nI jd)), (2, .int (nI jw))] [.int (nI (SPOKE (n, m, sh, 0, ki, op, fa, K, G, T) d)), .int (nI x)] [(r0, .inr (5, [.int (nI n), .ref k1, .ref k2, .ref k3, .ref k4, .int (nI m), .ref k6, .ref k7, .ref k8, .int (nI 0), .ref k10, .int (nI 0), .ref k12, .ref k13, .ref k14, .ref k15, .ref k16, .int (nI ls), .int (nI ap), .int (bz bd), .int (nI sq), .ref k21, .ref k22, .ref k23, .ref k24, .ref k25, .int (bz pd), .int (nI pl), .int (bz tk), kv, .ref k30, .ref k31, .int (nI tz), .ref k33, .int (nI rs), .int sd])), (k1, .inl (cI, 7, .inl (nIf ki))), (k2, .inl (cI, 7, .inl (nIf op))), (k3, .inl (cI, 7, .inl (nIf (shF sh)))), (k4, .inl (cI, 7, .inl (nIf fa))), (k6, .inl (cI, 6, .inl (nIf K))), (k7, .inl (cI, 6, .inl (nIf G))), (k8, .inl (cI, 6, .inl (nIf T))), (k12, .inl (cI, 7, .inl (nIf kw1_36))), (k13, .inl (cI, 175, .inl (nIf kn1_37))), (k14, .inl (cI, 144, .inl (mIf M1_38))), (k15, .inl (cI, 7, .inl (nIf mw1_39))), (k10, .inl (cI, 7, .inl (nIf R)))]
          have hc9 : SPOKE (n, m, sh, 0, ki, op, fa, K, G, T) d ≤ 24 := spo_le
          refine v_iadd (v := (nI (x + (SPOKE (n, m, sh, 0, ki, op, fa, K, G, T) d)))) 67 zC dX5_share_66 (nI_add _ _) ?_
          refine v_is (lv2 := [(4, .int (nI (x + (SPOKE (n, m, sh, 0, ki, op, fa, K, G, T) d)))), (5, .int (nI d)), (3, .int (nI 0)), (0, .ref r0), (1, .int (nI jd)), (2, .int (nI jw))]) 69 zC dX5_share_67 (by rw [hnE]; decide) rfl ?_
          refine v_inc (v := (nI (d + 1))) (lv2 := [(5, .int (nI (d + 1))), (4, .int (nI (x + (SPOKE (n, m, sh, 0, ki, op, fa, K, G, T) d)))), (3, .int (nI 0)), (0, .ref r0), (1, .int (nI jd)), (2, .int (nI jw))]) 72 zC dX5_share_69 (j := 1) rfl (nI_add _ 1) (by rw [hnE]; decide) rfl ?_
          refine v_goto 49 zC dX5_share_72 ?_
          refine v_lvs (lv2 := [(5, .int (nI (d + 1))), (4, .int (nI (x + (SPOKE (n, m, sh, 0, ki, op, fa, K, G, T) d)))), (3, .int (nI 0)), (0, .ref r0), (1, .int (nI jd)), (2, .int (nI jw))]) [0, 1, 2, 3, 4, 5] rfl ?_
          exact ih49 _ (by omega) (x + (SPOKE (n, m, sh, 0, ki, op, fa, K, G, T) d)) (d + 1) (by rw [hx]; rfl) (by first | omega | assumption | rfl | (simp only []; omega) | decide) (by first | omega | assumption | rfl | (simp only []; omega) | decide) rfl
      refine v_lvs (lv2 := [(5, .int (nI 0)), (4, .int (nI 0)), (3, .int (nI 0)), (0, .ref r0), (1, .int (nI jd)), (2, .int (nI jw))]) [0, 1, 2, 3, 4, 5] rfl ?_
      exact lp49 _ 0 0 rfl (by first | omega | assumption | rfl | (simp only []; omega) | decide) (by first | omega | assumption | rfl | (simp only []; omega) | decide) rfl
set_option maxRecDepth 100000 in
set_option maxHeartbeats 4000000 in
theorem c_X5_secret (l : Launch) (D : va_G) (cI : ClassId) (r0 k1 k2 k3 k4 k6 k7 k8 k10 k12 k13 k14 k15 k16 k21 k22 k23 k24 k25 k30 k31 k33 : Nat) (n m ls ap sq pl tz rs : Nat) (bd pd tk : Bool) (kv : Value) (sd : Int32) (ki op fa K G T : Nat → Nat) (sh : Nat) (kw kn : Nat → Nat) (M : Nat → Option Nat) (mw : Nat → Nat) (hw : FW n m sh ki op fa K G T) (hkw : ∀ z, kw z < 1024) (hkn : ∀ z, kn z < 1024) (hM : ∀ z v, M z = some v → v < 7) : CT l yX5_secret cX5_secret 4 (some .int) { frames := 6, cells := 0, slots := 0, locals := 138 } D cI [.ref r0] [(r0, .inr (5, [.int (nI n), .ref k1, .ref k2, .ref k3, .ref k4, .int (nI m), .ref k6, .ref k7, .ref k8, .int (nI 0), .ref k10, .int (nI 0), .ref k12, .ref k13, .ref k14, .ref k15, .ref k16, .int (nI ls), .int (nI ap), .int (bz bd), .int (nI sq), .ref k21, .ref k22, .ref k23, .ref k24, .ref k25, .int (bz pd), .int (nI pl), .int (bz tk), kv, .ref k30, .ref k31, .int (nI tz), .ref k33, .int (nI rs), .int sd])), (k1, .inl (cI, 7, .inl (nIf ki))), (k2, .inl (cI, 7, .inl (nIf op))), (k3, .inl (cI, 7, .inl (nIf (shF sh)))), (k4, .inl (cI, 7, .inl (nIf fa))), (k6, .inl (cI, 6, .inl (nIf K))), (k7, .inl (cI, 6, .inl (nIf G))), (k8, .inl (cI, 6, .inl (nIf T))), (k12, .inl (cI, 7, .inl (nIf kw))), (k13, .inl (cI, 175, .inl (nIf kn))), (k14, .inl (cI, 144, .inl (mIf M))), (k15, .inl (cI, 7, .inl (nIf mw)))] (fun zr zw => (∃ kw1 : Nat → Nat, ∃ kn1 : Nat → Nat, ∃ M1 : Nat → Option Nat, ∃ mw1 : Nat → Nat, (∀ z, kw1 z < 1024) ∧ (∀ z, kn1 z < 1024) ∧ (∀ z v, M1 z = some v → v < 7) ∧ zr = some (.int (nI (SECR (n, m, sh, 0, ki, op, fa, K, G, T)))) ∧ zw = [(r0, .inr (5, [.int (nI n), .ref k1, .ref k2, .ref k3, .ref k4, .int (nI m), .ref k6, .ref k7, .ref k8, .int (nI 0), .ref k10, .int (nI 0), .ref k12, .ref k13, .ref k14, .ref k15, .ref k16, .int (nI ls), .int (nI ap), .int (bz bd), .int (nI sq), .ref k21, .ref k22, .ref k23, .ref k24, .ref k25, .int (bz pd), .int (nI pl), .int (bz tk), kv, .ref k30, .ref k31, .int (nI tz), .ref k33, .int (nI rs), .int sd])), (k1, .inl (cI, 7, .inl (nIf ki))), (k2, .inl (cI, 7, .inl (nIf op))), (k3, .inl (cI, 7, .inl (nIf (shF sh)))), (k4, .inl (cI, 7, .inl (nIf fa))), (k6, .inl (cI, 6, .inl (nIf K))), (k7, .inl (cI, 6, .inl (nIf G))), (k8, .inl (cI, 6, .inl (nIf T))), (k12, .inl (cI, 7, .inl (nIf kw1))), (k13, .inl (cI, 175, .inl (nIf kn1))), (k14, .inl (cI, 144, .inl (mIf M1))), (k15, .inl (cI, 7, .inl (nIf mw1)))])) := by
  refine CT_of RX5 rfl (by decide +kernel) (Nat.le_of_ble_eq_true rfl) (fun E hnE zC zT => ?_)
  have hA : ∀ q, (ev_s E).heap.size ≤ q → ev_A E q := fun q h => by rw [zT.2]; exact Or.inr h
  obtain ⟨hn, hm, hsh, hki, hop, hfa, hK, hG, hT, vki, vop, vfa, vK, vG, vT⟩ := id hw
  show VV E 0 0 0 [(0, .ref r0)] [] [(r0, .inr (5, [.int (nI n), .ref k1, .ref k2, .ref k3, .ref k4, .int (nI m), .ref k6, .ref k7, .ref k8, .int (nI 0), .ref k10, .int (nI 0), .ref k12, .ref k13, .ref k14, .ref k15, .ref k16, .int (nI ls), .int (nI ap), .int (bz bd), .int (nI sq), .ref k21, .ref k22, .ref k23, .ref k24, .ref k25, .int (bz pd), .int (nI pl), .int (bz tk), kv, .ref k30, .ref k31, .int (nI tz), .ref k33, .int (nI rs), .int sd])), (k1, .inl (cI, 7, .inl (nIf ki))), (k2, .inl (cI, 7, .inl (nIf op))), (k3, .inl (cI, 7, .inl (nIf (shF sh)))), (k4, .inl (cI, 7, .inl (nIf fa))), (k6, .inl (cI, 6, .inl (nIf K))), (k7, .inl (cI, 6, .inl (nIf G))), (k8, .inl (cI, 6, .inl (nIf T))), (k12, .inl (cI, 7, .inl (nIf kw))), (k13, .inl (cI, 175, .inl (nIf kn))), (k14, .inl (cI, 144, .inl (mIf M))), (k15, .inl (cI, 7, .inl (nIf mw)))]
  refine v_al_n 1 zC dX5_secret_0 0 rfl ?_
  refine v_ic (v := (nI 0)) 2 zC dX5_secret_1 (by decide +kernel) ?_
  refine v_pf (ws2 := [(r0, .inr (5, [.int (nI n), .ref k1, .ref k2, .ref k3, .ref k4, .int (nI m), .ref k6, .ref k7, .ref k8, .int (nI 0), .ref k10, .int (nI 0), .ref k12, .ref k13, .ref k14, .ref k15, .ref k16, .int (nI ls), .int (nI ap), .int (bz bd), .int (nI sq), .ref k21, .ref k22, .ref k23, .ref k24, .ref k25, .int (bz pd), .int (nI pl), .int (bz tk), kv, .ref k30, .ref k31, .int (nI tz), .ref k33, .int (nI rs), .int sd])), (k1, .inl (cI, 7, .inl (nIf ki))), (k2, .inl (cI, 7, .inl (nIf op))), (k3, .inl (cI, 7, .inl (nIf (shF sh)))), (k4, .inl (cI, 7, .inl (nIf fa))), (k6, .inl (cI, 6, .inl (nIf K))), (k7, .inl (cI, 6, .inl (nIf G))), (k8, .inl (cI, 6, .inl (nIf T))), (k12, .inl (cI, 7, .inl (nIf kw))), (k13, .inl (cI, 175, .inl (nIf kn))), (k14, .inl (cI, 144, .inl (mIf M))), (k15, .inl (cI, 7, .inl (nIf mw)))]) 5 0 zC dX5_secret_2 pf_X5_73 rfl (Nat.le_of_ble_eq_true rfl) rfl rfl rfl ?_
  refine v_al_n 6 zC dX5_secret_5 0 rfl ?_
  refine v_cV (As := []) (st := []) 9 0 [0, 1, 2, 3, 4, 5, 6, 7, 8, 9, 10, 11] zC dX5_secret_6 hA (c_X5_day (ev_l E) (ev_D E) cI (r0 := r0) (k1 := k1) (k2 := k2) (k3 := k3) (k4 := k4) (k6 := k6) (k7 := k7) (k8 := k8) (k10 := k10) (k12 := k12) (k13 := k13) (k14 := k14) (k15 := k15) (k16 := k16) (k21 := k21) (k22 := k22) (k23 := k23) (k24 := k24) (k25 := k25) (k30 := k30) (k31 := k31) (k33 := k33) (n := n) (m := m) (aw := 0) (ls := ls) (ap := ap) (sq := sq) (pl := pl) (tz := tz) (rs := rs) (bd := bd) (pd := pd) (tk := tk) (kv := kv) (sd := sd) (ki := ki) (op := op) (fa := fa) (K := K) (G := G) (T := T) (sh := sh) (kw := kw) (kn := kn) (M := M) (mw := mw) (hw := (by first | omega | assumption | rfl | (simp only []; omega) | decide)) (hkw := (by first | omega | assumption | rfl | (simp only []; omega) | decide)) (hkn := (by first | omega | assumption | rfl | (simp only []; omega) | decide)) (hM := (by first | omega | assumption | rfl | (simp only []; omega) | decide))) cf_X5_day lk_X5_123 rfl rfl rfl rfl rfl (by decide +kernel) (Nat.le_of_ble_eq_true rfl) (fun rv_1 wv_2 hp_3 hm_4 => ?_)
  clear hm_4
  obtain ⟨kw1_5, kn1_6, M1_7, mw1_8, hR_9, rfl, rfl⟩ := hp_3
  show VV E 0 0 9 [(0, .ref r0)] [] [(r0, .inr (5, [.int (nI n), .ref k1, .ref k2, .ref k3, .ref k4, .int (nI m), .ref k6, .ref k7, .ref k8, .int (nI 0), .ref k10, .int (nI 0), .ref k12, .ref k13, .ref k14, .ref k15, .ref k16, .int (nI ls), .int (nI ap), .int (bz bd), .int (nI sq), .ref k21, .ref k22, .ref k23, .ref k24, .ref k25, .int (bz pd), .int (nI pl), .int (bz tk), kv, .ref k30, .ref k31, .int (nI tz), .ref k33, .int (nI rs), .int sd])), (k1, .inl (cI, 7, .inl (nIf ki))), (k2, .inl (cI, 7, .inl (nIf op))), (k3, .inl (cI, 7, .inl (nIf (shF sh)))), (k4, .inl (cI, 7, .inl (nIf fa))), (k6, .inl (cI, 6, .inl (nIf K))), (k7, .inl (cI, 6, .inl (nIf G))), (k8, .inl (cI, 6, .inl (nIf T))), (k12, .inl (cI, 7, .inl (nIf kw1_5))), (k13, .inl (cI, 175, .inl (nIf kn1_6))), (k14, .inl (cI, 144, .inl (mIf M1_7))), (k15, .inl (cI, 7, .inl (nIf mw1_8)))]
  have hR9 := hR_9
  refine v_ic (v := (nI 0)) 10 zC dX5_secret_9 (by decide +kernel) ?_
  refine v_is_n (lv2 := [(1, .int (nI 0)), (0, .ref r0)]) 11 zC dX5_secret_10 (by rw [hnE]; decide) rfl ?_
  refine v_ic (v := (nI 0)) 12 zC dX5_secret_11 (by decide +kernel) ?_
  refine v_is_n (lv2 := [(2, .int (nI 0)), (1, .int (nI 0)), (0, .ref r0)]) 13 zC dX5_secret_12 (by rw [hnE]; decide) rfl ?_
  have lp13 : ∀ (mz : Nat) (x : Nat) (f : Nat), (x = mkn (SEB (n, m, sh, 0, ki, op, fa, K, G, T)) f) → (f ≤ 10) → 10 - f = mz → VV E 0 0 13 [(2, .int (nI f)), (1, .int (nI x)), (0, .ref r0)] [] [(r0, .inr (5, [.int (nI n), .ref k1, .ref k2, .ref k3, .ref k4, .int (nI m), .ref k6, .ref k7, .ref k8, .int (nI 0), .ref k10, .int (nI 0), .ref k12, .ref k13, .ref k14, .ref k15, .ref k16, .int (nI ls), .int (nI ap), .int (bz bd), .int (nI sq), .ref k21, .ref k22, .ref k23, .ref k24, .ref k25, .int (bz pd), .int (nI pl), .int (bz tk), kv, .ref k30, .ref k31, .int (nI tz), .ref k33, .int (nI rs), .int sd])), (k1, .inl (cI, 7, .inl (nIf ki))), (k2, .inl (cI, 7, .inl (nIf op))), (k3, .inl (cI, 7, .inl (nIf (shF sh)))), (k4, .inl (cI, 7, .inl (nIf fa))), (k6, .inl (cI, 6, .inl (nIf K))), (k7, .inl (cI, 6, .inl (nIf G))), (k8, .inl (cI, 6, .inl (nIf T))), (k12, .inl (cI, 7, .inl (nIf kw1_5))), (k13, .inl (cI, 175, .inl (nIf kn1_6))), (k14, .inl (cI, 144, .inl (mIf M1_7))), (k15, .inl (cI, 7, .inl (nIf mw1_8)))] := by
    intro mz
    induction mz using Nat.strongRecOn with
    | _ mz ih13 =>
    intro x f hx hf hm13
    refine v_il_n 14 zC dX5_secret_13 0 rfl ?_
    refine v_bp (v := (nI 10)) 16 zC dX5_secret_14 (by decide +kernel) ?_
    refine v_icmpn_ge 56 19 zC dX5_secret_16 (fun h_10 => ?_) (fun h_10 => ?_)
    ·
      refine v_il_n 57 zC dX5_secret_56 1 rfl ?_
      refine v_iret zC zT dX5_secret_57  ?_
      exact ⟨_, _, _, _, hR9.2.2.2.1, hR9.2.2.2.2.1, hR9.2.2.2.2.2, sn ((show x = mkn (SEB (n, m, sh, 0, ki, op, fa, K, G, T)) 10 by rw [hx, show (10 : Nat) = f by omega]).trans (secr_e (s := (n, m, sh, 0, ki, op, fa, K, G, T)) (ktor_lt hR9))), rfl⟩
    ·
      refine v_al_n 20 zC dX5_secret_19 2 rfl ?_
      refine v_il_n 21 zC dX5_secret_20 0 rfl ?_
      refine v_cV (As := [.int (nI f)]) (st := []) 24 0 [0, 8] zC dX5_secret_21 hA (c_X5_knowing (ev_l E) (ev_D E) cI (r0 := r0) (k1 := k1) (k2 := k2) (k3 := k3) (k4 := k4) (k6 := k6) (k7 := k7) (k8 := k8) (k10 := k10) (k12 := k12) (k13 := k13) (k14 := k14) (k15 := k15) (k16 := k16) (k21 := k21) (k22 := k22) (k23 := k23) (k24 := k24) (k25 := k25) (k30 := k30) (k31 := k31) (k33 := k33) (n := n) (m := m) (aw := 0) (ls := ls) (ap := ap) (sq := sq) (pl := pl) (tz := tz) (rs := rs) (bd := bd) (pd := pd) (tk := tk) (kv := kv) (sd := sd) (ki := ki) (op := op) (fa := fa) (K := K) (G := G) (T := T) (sh := sh) (kw := kw1_5) (kn := kn1_6) (M := M1_7) (f := f) (hn := (by first | omega | assumption | rfl | (simp only []; omega) | decide)) (hm := (by first | omega | assumption | rfl | (simp only []; omega) | decide)) (hR := hR9) (hf := (by first | omega | assumption | rfl | (simp only []; omega) | decide))) cf_X5_knowing lk_X5_242 rfl rfl rfl rfl rfl (by decide +kernel) (Nat.le_of_ble_eq_true rfl) (fun rv_11 wv_12 hp_13 hm_14 => ?_)
      clear hm_14
      obtain ⟨rfl, rfl⟩ := hp_13
      show VV E 0 0 24 [(2, .int (nI f)), (1, .int (nI x)), (0, .ref r0)] [.int (nI (KNW (n, m, sh, 0, ki, op, fa, K, G, T) f))] [(r0, .inr (5, [.int (nI n), .ref k1, .ref k2, .ref k3, .ref k4, .int (nI m), .ref k6, .ref k7, .ref k8, .int (nI 0), .ref k10, .int (nI 0), .ref k12, .ref k13, .ref k14, .ref k15, .ref k16, .int (nI ls), .int (nI ap), .int (bz bd), .int (nI sq), .ref k21, .ref k22, .ref k23, .ref k24, .ref k25, .int (bz pd), .int (nI pl), .int (bz tk), kv, .ref k30, .ref k31, .int (nI tz), .ref k33, .int (nI rs), .int sd])), (k1, .inl (cI, 7, .inl (nIf ki))), (k2, .inl (cI, 7, .inl (nIf op))), (k3, .inl (cI, 7, .inl (nIf (shF sh)))), (k4, .inl (cI, 7, .inl (nIf fa))), (k6, .inl (cI, 6, .inl (nIf K))), (k7, .inl (cI, 6, .inl (nIf G))), (k8, .inl (cI, 6, .inl (nIf T))), (k12, .inl (cI, 7, .inl (nIf kw1_5))), (k13, .inl (cI, 175, .inl (nIf kn1_6))), (k14, .inl (cI, 144, .inl (mIf M1_7))), (k15, .inl (cI, 7, .inl (nIf mw1_8)))]
      refine v_cS (As := [.int (nI (KNW (n, m, sh, 0, ki, op, fa, K, G, T) f))]) (st := []) 27 [] zC dX5_secret_24 hA (c_X5_onesOf (ev_l E) (ev_D E) cI (x := (KNW (n, m, sh, 0, ki, op, fa, K, G, T) f)) (hx := (Nat.lt_trans (mkn_7 _ hn) (by decide)))) cf_X5_onesOf lk_X5_120 rfl rfl rfl (by decide +kernel) (Nat.le_of_ble_eq_true rfl) (fun rv_15 wv_16 hp_17 hm_18 => ?_)
      clear hm_18
      obtain ⟨rfl, rfl⟩ := hp_17
      show VV E 0 0 27 [(2, .int (nI f)), (1, .int (nI x)), (0, .ref r0)] [.int (nI (pcn (KNW (n, m, sh, 0, ki, op, fa, K, G, T) f)))] [(r0, .inr (5, [.int (nI n), .ref k1, .ref k2, .ref k3, .ref k4, .int (nI m), .ref k6, .ref k7, .ref k8, .int (nI 0), .ref k10, .int (nI 0), .ref k12, .ref k13, .ref k14, .ref k15, .ref k16, .int (nI ls), .int (nI ap), .int (bz bd), .int (nI sq), .ref k21, .ref k22, .ref k23, .ref k24, .ref k25, .int (bz pd), .int (nI pl), .int (bz tk), kv, .ref k30, .ref k31, .int (nI tz), .ref k33, .int (nI rs), .int sd])), (k1, .inl (cI, 7, .inl (nIf ki))), (k2, .inl (cI, 7, .inl (nIf op))), (k3, .inl (cI, 7, .inl (nIf (shF sh)))), (k4, .inl (cI, 7, .inl (nIf fa))), (k6, .inl (cI, 6, .inl (nIf K))), (k7, .inl (cI, 6, .inl (nIf G))), (k8, .inl (cI, 6, .inl (nIf T))), (k12, .inl (cI, 7, .inl (nIf kw1_5))), (k13, .inl (cI, 175, .inl (nIf kn1_6))), (k14, .inl (cI, 144, .inl (mIf M1_7))), (k15, .inl (cI, 7, .inl (nIf mw1_8)))]
      have hc9 : pcn (KNW (n, m, sh, 0, ki, op, fa, K, G, T) f) ≤ n := pcn_k n _ (mkn_lt _ _)
      refine v_is_n (lv2 := [(3, .int (nI (pcn (KNW (n, m, sh, 0, ki, op, fa, K, G, T) f)))), (2, .int (nI f)), (1, .int (nI x)), (0, .ref r0)]) 28 zC dX5_secret_27 (by rw [hnE]; decide) rfl ?_
      refine v_il_n 29 zC dX5_secret_28 2 rfl ?_
      refine v_il_n 30 zC dX5_secret_29 0 rfl ?_
      refine v_ifn_le 47 33 zC dX5_secret_30 (fun h_19 => ?_) (fun h_19 => ?_)
      ·
        have hs9 : SEB (n, m, sh, 0, ki, op, fa, K, G, T) f = false := by unfold SEB; rw [decide_eq_false (show ¬ 0 < pcn (KNW (n, m, sh, 0, ki, op, fa, K, G, T) f) by omega)]; rfl
        refine v_ic (v := (nI 0)) 48 zC dX5_secret_47 (by decide +kernel) ?_
        refine v_ior (v := (nI x)) 49 zC dX5_secret_48 (by rw [fa_or, Nat.or_zero]) ?_
        refine v_is_n (lv2 := [(1, .int (nI x)), (3, .int (nI (pcn (KNW (n, m, sh, 0, ki, op, fa, K, G, T) f)))), (2, .int (nI f)), (0, .ref r0)]) 50 zC dX5_secret_49 (by rw [hnE]; decide) rfl ?_
        refine v_inc (v := (nI (f + 1))) (lv2 := [(2, .int (nI (f + 1))), (1, .int (nI x)), (3, .int (nI (pcn (KNW (n, m, sh, 0, ki, op, fa, K, G, T) f)))), (0, .ref r0)]) 53 zC dX5_secret_50 (j := 2) rfl (nI_add _ 1) (by rw [hnE]; decide) rfl ?_
        refine v_goto 13 zC dX5_secret_53 ?_
        refine v_lvs (lv2 := [(2, .int (nI (f + 1))), (1, .int (nI x)), (0, .ref r0)]) [0, 1, 3] rfl ?_
        exact ih13 _ (by omega) x (f + 1) (by first | (rw [hx]; exact (mkn_1 hs9).symm) | (rw [hx]; exact (mkn_0 hs9).symm)) (by first | omega | assumption | rfl | (simp only []; omega) | decide) rfl
      ·
        have hp9 := h_19
        refine v_il_n 34 zC dX5_secret_33 0 rfl ?_
        refine v_al_n 35 zC dX5_secret_34 3 rfl ?_
        refine v_gf 38 0 zC dX5_secret_35 gf_X5_77 rfl rfl ?_
        refine v_icmpn_ge 47 41 zC dX5_secret_38 (fun h_20 => ?_) (fun h_20 => ?_)
        ·
          have hs9 : SEB (n, m, sh, 0, ki, op, fa, K, G, T) f = false := by unfold SEB; rw [decide_eq_false (show ¬ pcn (KNW (n, m, sh, 0, ki, op, fa, K, G, T) f) < g_n (n, m, sh, 0, ki, op, fa, K, G, T) from Nat.not_lt.mpr h_20), Bool.and_false]
          refine v_ic (v := (nI 0)) 48 zC dX5_secret_47 (by decide +kernel) ?_
          refine v_ior (v := (nI x)) 49 zC dX5_secret_48 (by rw [fa_or, Nat.or_zero]) ?_
          refine v_is_n (lv2 := [(1, .int (nI x)), (3, .int (nI (pcn (KNW (n, m, sh, 0, ki, op, fa, K, G, T) f)))), (2, .int (nI f)), (0, .ref r0)]) 50 zC dX5_secret_49 (by rw [hnE]; decide) rfl ?_
          refine v_inc (v := (nI (f + 1))) (lv2 := [(2, .int (nI (f + 1))), (1, .int (nI x)), (3, .int (nI (pcn (KNW (n, m, sh, 0, ki, op, fa, K, G, T) f)))), (0, .ref r0)]) 53 zC dX5_secret_50 (j := 2) rfl (nI_add _ 1) (by rw [hnE]; decide) rfl ?_
          refine v_goto 13 zC dX5_secret_53 ?_
          refine v_lvs (lv2 := [(2, .int (nI (f + 1))), (1, .int (nI x)), (0, .ref r0)]) [0, 1, 3] rfl ?_
          exact ih13 _ (by omega) x (f + 1) (by first | (rw [hx]; exact (mkn_1 hs9).symm) | (rw [hx]; exact (mkn_0 hs9).symm)) (by first | omega | assumption | rfl | (simp only []; omega) | decide) rfl
        ·
          have hs9 : SEB (n, m, sh, 0, ki, op, fa, K, G, T) f = true := by unfold SEB; rw [decide_eq_true hp9, decide_eq_true (show pcn (KNW (n, m, sh, 0, ki, op, fa, K, G, T) f) < g_n (n, m, sh, 0, ki, op, fa, K, G, T) from h_20)]; rfl
          refine v_ic (v := (nI 1)) 42 zC dX5_secret_41 (by decide +kernel) ?_
          refine v_il_n 43 zC dX5_secret_42 1 rfl ?_
          refine v_ishl (v := (nI (2 ^ f))) 44 zC dX5_secret_43 (b1n (by omega)) ?_
          refine v_goto 48 zC dX5_secret_44 ?_
          refine v_ior (v := (nI (x ||| (2 ^ f)))) 49 zC dX5_secret_48 (fa_or _ _) ?_
          refine v_is_n (lv2 := [(1, .int (nI (x ||| (2 ^ f)))), (3, .int (nI (pcn (KNW (n, m, sh, 0, ki, op, fa, K, G, T) f)))), (2, .int (nI f)), (0, .ref r0)]) 50 zC dX5_secret_49 (by rw [hnE]; decide) rfl ?_
          refine v_inc (v := (nI (f + 1))) (lv2 := [(2, .int (nI (f + 1))), (1, .int (nI (x ||| (2 ^ f)))), (3, .int (nI (pcn (KNW (n, m, sh, 0, ki, op, fa, K, G, T) f)))), (0, .ref r0)]) 53 zC dX5_secret_50 (j := 2) rfl (nI_add _ 1) (by rw [hnE]; decide) rfl ?_
          refine v_goto 13 zC dX5_secret_53 ?_
          refine v_lvs (lv2 := [(2, .int (nI (f + 1))), (1, .int (nI (x ||| (2 ^ f)))), (0, .ref r0)]) [0, 1, 3] rfl ?_
          exact ih13 _ (by omega) (x ||| (2 ^ f)) (f + 1) (by first | (rw [hx]; exact (mkn_1 hs9).symm) | (rw [hx]; exact (mkn_0 hs9).symm)) (by first | omega | assumption | rfl | (simp only []; omega) | decide) rfl
  refine v_lvs (lv2 := [(2, .int (nI 0)), (1, .int (nI 0)), (0, .ref r0)]) [0, 1, 2] rfl ?_
  exact lp13 _ 0 0 rfl (by first | omega | assumption | rfl | (simp only []; omega) | decide) rfl
set_option maxRecDepth 100000 in
set_option maxHeartbeats 4000000 in
theorem c_X5_synod (l : Launch) (D : va_G) (cI : ClassId) (r0 k1 k2 k3 k4 k6 k7 k8 k10 k12 k13 k14 k15 k16 k21 k22 k23 k24 k25 k30 k31 k33 : Nat) (n m ls ap sq pl tz rs : Nat) (bd pd tk : Bool) (kv : Value) (sd : Int32) (ki op fa K G T : Nat → Nat) (sh : Nat) (kw kn : Nat → Nat) (M : Nat → Option Nat) (mw : Nat → Nat) (hw : FW n m sh ki op fa K G T) (hkw : ∀ z, kw z < 1024) (hkn : ∀ z, kn z < 1024) (hM : ∀ z v, M z = some v → v < 7) : CT l yX5_synod cX5_synod 6 (some .int) { frames := 6, cells := 0, slots := 0, locals := 138 } D cI [.ref r0] [(r0, .inr (5, [.int (nI n), .ref k1, .ref k2, .ref k3, .ref k4, .int (nI m), .ref k6, .ref k7, .ref k8, .int (nI 0), .ref k10, .int (nI 0), .ref k12, .ref k13, .ref k14, .ref k15, .ref k16, .int (nI ls), .int (nI ap), .int (bz bd), .int (nI sq), .ref k21, .ref k22, .ref k23, .ref k24, .ref k25, .int (bz pd), .int (nI pl), .int (bz tk), kv, .ref k30, .ref k31, .int (nI tz), .ref k33, .int (nI rs), .int sd])), (k1, .inl (cI, 7, .inl (nIf ki))), (k2, .inl (cI, 7, .inl (nIf op))), (k3, .inl (cI, 7, .inl (nIf (shF sh)))), (k4, .inl (cI, 7, .inl (nIf fa))), (k6, .inl (cI, 6, .inl (nIf K))), (k7, .inl (cI, 6, .inl (nIf G))), (k8, .inl (cI, 6, .inl (nIf T))), (k12, .inl (cI, 7, .inl (nIf kw))), (k13, .inl (cI, 175, .inl (nIf kn))), (k14, .inl (cI, 144, .inl (mIf M))), (k15, .inl (cI, 7, .inl (nIf mw)))] (fun zr zw => (∃ kw1 : Nat → Nat, ∃ kn1 : Nat → Nat, ∃ M1 : Nat → Option Nat, ∃ mw1 : Nat → Nat, (∀ z, kw1 z < 1024) ∧ (∀ z, kn1 z < 1024) ∧ (∀ z v, M1 z = some v → v < 7) ∧ zr = some (.int (nI (SYNO (n, m, sh, 0, ki, op, fa, K, G, T)))) ∧ zw = [(r0, .inr (5, [.int (nI n), .ref k1, .ref k2, .ref k3, .ref k4, .int (nI m), .ref k6, .ref k7, .ref k8, .int (nI 0), .ref k10, .int (nI 0), .ref k12, .ref k13, .ref k14, .ref k15, .ref k16, .int (nI ls), .int (nI ap), .int (bz bd), .int (nI sq), .ref k21, .ref k22, .ref k23, .ref k24, .ref k25, .int (bz pd), .int (nI pl), .int (bz tk), kv, .ref k30, .ref k31, .int (nI tz), .ref k33, .int (nI rs), .int sd])), (k1, .inl (cI, 7, .inl (nIf ki))), (k2, .inl (cI, 7, .inl (nIf op))), (k3, .inl (cI, 7, .inl (nIf (shF sh)))), (k4, .inl (cI, 7, .inl (nIf fa))), (k6, .inl (cI, 6, .inl (nIf K))), (k7, .inl (cI, 6, .inl (nIf G))), (k8, .inl (cI, 6, .inl (nIf T))), (k12, .inl (cI, 7, .inl (nIf kw1))), (k13, .inl (cI, 175, .inl (nIf kn1))), (k14, .inl (cI, 144, .inl (mIf M1))), (k15, .inl (cI, 7, .inl (nIf mw1)))])) := by
  refine CT_of RX5 rfl (by decide +kernel) (Nat.le_of_ble_eq_true rfl) (fun E hnE zC zT => ?_)
  have hA : ∀ q, (ev_s E).heap.size ≤ q → ev_A E q := fun q h => by rw [zT.2]; exact Or.inr h
  obtain ⟨hn, hm, hsh, hki, hop, hfa, hK, hG, hT, vki, vop, vfa, vK, vG, vT⟩ := id hw
  have h2n : 2 ^ n ≤ 2 ^ 7 := Nat.pow_le_pow_right (by decide) hn
  have h2p : 0 < 2 ^ n := Nat.pow_pos (by decide)
  show VV E 0 0 0 [(0, .ref r0)] [] [(r0, .inr (5, [.int (nI n), .ref k1, .ref k2, .ref k3, .ref k4, .int (nI m), .ref k6, .ref k7, .ref k8, .int (nI 0), .ref k10, .int (nI 0), .ref k12, .ref k13, .ref k14, .ref k15, .ref k16, .int (nI ls), .int (nI ap), .int (bz bd), .int (nI sq), .ref k21, .ref k22, .ref k23, .ref k24, .ref k25, .int (bz pd), .int (nI pl), .int (bz tk), kv, .ref k30, .ref k31, .int (nI tz), .ref k33, .int (nI rs), .int sd])), (k1, .inl (cI, 7, .inl (nIf ki))), (k2, .inl (cI, 7, .inl (nIf op))), (k3, .inl (cI, 7, .inl (nIf (shF sh)))), (k4, .inl (cI, 7, .inl (nIf fa))), (k6, .inl (cI, 6, .inl (nIf K))), (k7, .inl (cI, 6, .inl (nIf G))), (k8, .inl (cI, 6, .inl (nIf T))), (k12, .inl (cI, 7, .inl (nIf kw))), (k13, .inl (cI, 175, .inl (nIf kn))), (k14, .inl (cI, 144, .inl (mIf M))), (k15, .inl (cI, 7, .inl (nIf mw)))]
  refine v_al_n 1 zC dX5_synod_0 0 rfl ?_
  refine v_ic (v := (nI 0)) 2 zC dX5_synod_1 (by decide +kernel) ?_
  refine v_pf (ws2 := [(r0, .inr (5, [.int (nI n), .ref k1, .ref k2, .ref k3, .ref k4, .int (nI m), .ref k6, .ref k7, .ref k8, .int (nI 0), .ref k10, .int (nI 0), .ref k12, .ref k13, .ref k14, .ref k15, .ref k16, .int (nI ls), .int (nI ap), .int (bz bd), .int (nI sq), .ref k21, .ref k22, .ref k23, .ref k24, .ref k25, .int (bz pd), .int (nI pl), .int (bz tk), kv, .ref k30, .ref k31, .int (nI tz), .ref k33, .int (nI rs), .int sd])), (k1, .inl (cI, 7, .inl (nIf ki))), (k2, .inl (cI, 7, .inl (nIf op))), (k3, .inl (cI, 7, .inl (nIf (shF sh)))), (k4, .inl (cI, 7, .inl (nIf fa))), (k6, .inl (cI, 6, .inl (nIf K))), (k7, .inl (cI, 6, .inl (nIf G))), (k8, .inl (cI, 6, .inl (nIf T))), (k12, .inl (cI, 7, .inl (nIf kw))), (k13, .inl (cI, 175, .inl (nIf kn))), (k14, .inl (cI, 144, .inl (mIf M))), (k15, .inl (cI, 7, .inl (nIf mw)))]) 5 0 zC dX5_synod_2 pf_X5_73 rfl (Nat.le_of_ble_eq_true rfl) rfl rfl rfl ?_
  refine v_al_n 6 zC dX5_synod_5 0 rfl ?_
  refine v_cV (As := []) (st := []) 9 0 [0, 1, 2, 3, 4, 5, 6, 7, 8, 9, 10, 11] zC dX5_synod_6 hA (c_X5_day (ev_l E) (ev_D E) cI (r0 := r0) (k1 := k1) (k2 := k2) (k3 := k3) (k4 := k4) (k6 := k6) (k7 := k7) (k8 := k8) (k10 := k10) (k12 := k12) (k13 := k13) (k14 := k14) (k15 := k15) (k16 := k16) (k21 := k21) (k22 := k22) (k23 := k23) (k24 := k24) (k25 := k25) (k30 := k30) (k31 := k31) (k33 := k33) (n := n) (m := m) (aw := 0) (ls := ls) (ap := ap) (sq := sq) (pl := pl) (tz := tz) (rs := rs) (bd := bd) (pd := pd) (tk := tk) (kv := kv) (sd := sd) (ki := ki) (op := op) (fa := fa) (K := K) (G := G) (T := T) (sh := sh) (kw := kw) (kn := kn) (M := M) (mw := mw) (hw := (by first | omega | assumption | rfl | (simp only []; omega) | decide)) (hkw := (by first | omega | assumption | rfl | (simp only []; omega) | decide)) (hkn := (by first | omega | assumption | rfl | (simp only []; omega) | decide)) (hM := (by first | omega | assumption | rfl | (simp only []; omega) | decide))) cf_X5_day lk_X5_123 rfl rfl rfl rfl rfl (by decide +kernel) (Nat.le_of_ble_eq_true rfl) (fun rv_1 wv_2 hp_3 hm_4 => ?_)
  clear hm_4
  obtain ⟨kw1_5, kn1_6, M1_7, mw1_8, hR_9, rfl, rfl⟩ := hp_3
  show VV E 0 0 9 [(0, .ref r0)] [] [(r0, .inr (5, [.int (nI n), .ref k1, .ref k2, .ref k3, .ref k4, .int (nI m), .ref k6, .ref k7, .ref k8, .int (nI 0), .ref k10, .int (nI 0), .ref k12, .ref k13, .ref k14, .ref k15, .ref k16, .int (nI ls), .int (nI ap), .int (bz bd), .int (nI sq), .ref k21, .ref k22, .ref k23, .ref k24, .ref k25, .int (bz pd), .int (nI pl), .int (bz tk), kv, .ref k30, .ref k31, .int (nI tz), .ref k33, .int (nI rs), .int sd])), (k1, .inl (cI, 7, .inl (nIf ki))), (k2, .inl (cI, 7, .inl (nIf op))), (k3, .inl (cI, 7, .inl (nIf (shF sh)))), (k4, .inl (cI, 7, .inl (nIf fa))), (k6, .inl (cI, 6, .inl (nIf K))), (k7, .inl (cI, 6, .inl (nIf G))), (k8, .inl (cI, 6, .inl (nIf T))), (k12, .inl (cI, 7, .inl (nIf kw1_5))), (k13, .inl (cI, 175, .inl (nIf kn1_6))), (k14, .inl (cI, 144, .inl (mIf M1_7))), (k15, .inl (cI, 7, .inl (nIf mw1_8)))]
  have hR9 := hR_9
  refine v_ic (v := (nI 0)) 10 zC dX5_synod_9 (by decide +kernel) ?_
  refine v_is_n (lv2 := [(1, .int (nI 0)), (0, .ref r0)]) 11 zC dX5_synod_10 (by rw [hnE]; decide) rfl ?_
  refine v_ic (v := (nI 0)) 12 zC dX5_synod_11 (by decide +kernel) ?_
  refine v_is_n (lv2 := [(2, .int (nI 0)), (1, .int (nI 0)), (0, .ref r0)]) 13 zC dX5_synod_12 (by rw [hnE]; decide) rfl ?_
  have lp13 : ∀ (mz : Nat) (x : Nat) (p : Nat), (x = orn (fun p => DR (n, m, sh, 0, ki, op, fa, K, G, T) 24 p) p) → (p ≤ n) → n - p = mz → VV E 0 0 13 [(2, .int (nI p)), (1, .int (nI x)), (0, .ref r0)] [] [(r0, .inr (5, [.int (nI n), .ref k1, .ref k2, .ref k3, .ref k4, .int (nI m), .ref k6, .ref k7, .ref k8, .int (nI 0), .ref k10, .int (nI 0), .ref k12, .ref k13, .ref k14, .ref k15, .ref k16, .int (nI ls), .int (nI ap), .int (bz bd), .int (nI sq), .ref k21, .ref k22, .ref k23, .ref k24, .ref k25, .int (bz pd), .int (nI pl), .int (bz tk), kv, .ref k30, .ref k31, .int (nI tz), .ref k33, .int (nI rs), .int sd])), (k1, .inl (cI, 7, .inl (nIf ki))), (k2, .inl (cI, 7, .inl (nIf op))), (k3, .inl (cI, 7, .inl (nIf (shF sh)))), (k4, .inl (cI, 7, .inl (nIf fa))), (k6, .inl (cI, 6, .inl (nIf K))), (k7, .inl (cI, 6, .inl (nIf G))), (k8, .inl (cI, 6, .inl (nIf T))), (k12, .inl (cI, 7, .inl (nIf kw1_5))), (k13, .inl (cI, 175, .inl (nIf kn1_6))), (k14, .inl (cI, 144, .inl (mIf M1_7))), (k15, .inl (cI, 7, .inl (nIf mw1_8)))] := by
    intro mz
    induction mz using Nat.strongRecOn with
    | _ mz ih13 =>
    intro x p hx hp hm13
    refine v_il_n 14 zC dX5_synod_13 0 rfl ?_
    refine v_al_n 15 zC dX5_synod_14 2 rfl ?_
    refine v_gf 18 0 zC dX5_synod_15 gf_X5_77 rfl rfl ?_
    refine v_icmpn_ge 36 21 zC dX5_synod_18 (fun h_10 => ?_) (fun h_10 => ?_)
    ·
      have hx8 : x = KTO (n, m, sh, 0, ki, op, fa, K, G, T) (2 ^ g_n (n, m, sh, 0, ki, op, fa, K, G, T) - 1) := (show x = orn (fun p => DR (n, m, sh, 0, ki, op, fa, K, G, T) 24 p) n by rw [hx, show p = n by omega]).trans (kto_all (s := (n, m, sh, 0, ki, op, fa, K, G, T))).symm
      refine v_ic (v := (nI 1)) 37 zC dX5_synod_36 (by decide +kernel) ?_
      refine v_al_n 38 zC dX5_synod_37 2 rfl ?_
      refine v_gf 41 0 zC dX5_synod_38 gf_X5_77 rfl rfl ?_
      refine v_ishl (v := (nI (2 ^ n))) 42 zC dX5_synod_41 (b1n (by omega)) ?_
      refine v_ic (v := (nI 1)) 43 zC dX5_synod_42 (by decide +kernel) ?_
      refine v_isub (v := (nI ((2 ^ n) - 1))) 44 zC dX5_synod_43 (pk_sub (by first | omega | exact Nat.one_le_two_pow)) ?_
      refine v_is_n (lv2 := [(2, .int (nI ((2 ^ n) - 1))), (1, .int (nI x)), (0, .ref r0)]) 45 zC dX5_synod_44 (by rw [hnE]; decide) rfl ?_
      refine v_il_n 46 zC dX5_synod_45 0 rfl ?_
      refine v_is_n (lv2 := [(3, .int (nI ((2 ^ n) - 1))), (2, .int (nI ((2 ^ n) - 1))), (1, .int (nI x)), (0, .ref r0)]) 47 zC dX5_synod_46 (by rw [hnE]; decide) rfl ?_
      have lp47 : ∀ (mz : Nat) (b : Nat) (c : Nat) (tv : Int32), (LMN (fun u => (c ≤ u ∧ u ≤ 2 ^ g_n (n, m, sh, 0, ki, op, fa, K, G, T) - 1 ∧ SYP (n, m, sh, 0, ki, op, fa, K, G, T) u) ∨ u = 2 ^ g_n (n, m, sh, 0, ki, op, fa, K, G, T) - 1) b) → (tv = nI c - nI 1) → (c ≤ 2 ^ n) → (b ≤ 2 ^ n - 1) → c = mz → VV E 0 0 47 [(3, .int tv), (2, .int (nI b)), (1, .int (nI x)), (0, .ref r0)] [] [(r0, .inr (5, [.int (nI n), .ref k1, .ref k2, .ref k3, .ref k4, .int (nI m), .ref k6, .ref k7, .ref k8, .int (nI 0), .ref k10, .int (nI 0), .ref k12, .ref k13, .ref k14, .ref k15, .ref k16, .int (nI ls), .int (nI ap), .int (bz bd), .int (nI sq), .ref k21, .ref k22, .ref k23, .ref k24, .ref k25, .int (bz pd), .int (nI pl), .int (bz tk), kv, .ref k30, .ref k31, .int (nI tz), .ref k33, .int (nI rs), .int sd])), (k1, .inl (cI, 7, .inl (nIf ki))), (k2, .inl (cI, 7, .inl (nIf op))), (k3, .inl (cI, 7, .inl (nIf (shF sh)))), (k4, .inl (cI, 7, .inl (nIf fa))), (k6, .inl (cI, 6, .inl (nIf K))), (k7, .inl (cI, 6, .inl (nIf G))), (k8, .inl (cI, 6, .inl (nIf T))), (k12, .inl (cI, 7, .inl (nIf kw1_5))), (k13, .inl (cI, 175, .inl (nIf kn1_6))), (k14, .inl (cI, 144, .inl (mIf M1_7))), (k15, .inl (cI, 7, .inl (nIf mw1_8)))] := by
        intro mz
        induction mz using Nat.strongRecOn with
        | _ mz ih47 =>
        intro b c tv hL htv hc hb hm47
        refine v_il_n 48 zC dX5_synod_47 0 rfl ?_
        refine v_if_lt 126 51 zC dX5_synod_48 (fun h_11 => ?_) (fun h_11 => ?_)
        ·
          have hneg9 := h_11
          refine v_il_n 127 zC dX5_synod_126 1 rfl ?_
          refine v_iret zC zT dX5_synod_127  ?_
          have hc0 : c = 0 := by rcases Nat.eq_zero_or_pos c with z | z; (· exact z); (· exfalso; rw [htv, pk_sub z] at hneg9; exact nI_pos (show c - 1 < 2 ^ 31 by omega) hneg9)
          subst hc0
          exact ⟨_, _, _, _, hR9.2.2.2.1, hR9.2.2.2.2.1, hR9.2.2.2.2.2, sn (syd_e hL), rfl⟩
        ·
          have hc1 : 0 < c := Nat.pos_of_ne_zero (fun z => absurd (show tv < 0 from by rw [htv, z]; decide +kernel) (Int32.not_lt.mpr (Int32.not_lt.mp h_11)))
          obtain ⟨t, ht9⟩ : ∃ t, c = t + 1 := ⟨c - 1, by omega⟩
          subst ht9
          have htv2 : tv = nI t := by rw [htv]; exact (pk_sub (by omega)).trans (congrArg nI (by omega))
          subst htv2
          refine v_il_n 52 zC dX5_synod_51 0 rfl ?_
          refine v_cS (As := [.int (nI t)]) (st := []) 55 [] zC dX5_synod_52 hA (c_X5_onesOf (ev_l E) (ev_D E) cI (x := t) (hx := (by omega))) cf_X5_onesOf lk_X5_120 rfl rfl rfl (by decide +kernel) (Nat.le_of_ble_eq_true rfl) (fun rv_12 wv_13 hp_14 hm_15 => ?_)
          clear hm_15
          obtain ⟨rfl, rfl⟩ := hp_14
          show VV E 0 0 55 [(3, .int (nI t)), (2, .int (nI b)), (1, .int (nI x)), (0, .ref r0)] [.int (nI (pcn t))] [(r0, .inr (5, [.int (nI n), .ref k1, .ref k2, .ref k3, .ref k4, .int (nI m), .ref k6, .ref k7, .ref k8, .int (nI 0), .ref k10, .int (nI 0), .ref k12, .ref k13, .ref k14, .ref k15, .ref k16, .int (nI ls), .int (nI ap), .int (bz bd), .int (nI sq), .ref k21, .ref k22, .ref k23, .ref k24, .ref k25, .int (bz pd), .int (nI pl), .int (bz tk), kv, .ref k30, .ref k31, .int (nI tz), .ref k33, .int (nI rs), .int sd])), (k1, .inl (cI, 7, .inl (nIf ki))), (k2, .inl (cI, 7, .inl (nIf op))), (k3, .inl (cI, 7, .inl (nIf (shF sh)))), (k4, .inl (cI, 7, .inl (nIf fa))), (k6, .inl (cI, 6, .inl (nIf K))), (k7, .inl (cI, 6, .inl (nIf G))), (k8, .inl (cI, 6, .inl (nIf T))), (k12, .inl (cI, 7, .inl (nIf kw1_5))), (k13, .inl (cI, 175, .inl (nIf kn1_6))), (k14, .inl (cI, 144, .inl (mIf M1_7))), (k15, .inl (cI, 7, .inl (nIf mw1_8)))]
          refine v_il_n 56 zC dX5_synod_55 1 rfl ?_
          refine v_cS (As := [.int (nI b)]) (st := [.int (nI (pcn t))]) 59 [] zC dX5_synod_56 hA (c_X5_onesOf (ev_l E) (ev_D E) cI (x := b) (hx := (by omega))) cf_X5_onesOf lk_X5_120 rfl rfl rfl (by decide +kernel) (Nat.le_of_ble_eq_true rfl) (fun rv_16 wv_17 hp_18 hm_19 => ?_)
          clear hm_19
          obtain ⟨rfl, rfl⟩ := hp_18
          show VV E 0 0 59 [(3, .int (nI t)), (2, .int (nI b)), (1, .int (nI x)), (0, .ref r0)] [.int (nI (pcn b)), .int (nI (pcn t))] [(r0, .inr (5, [.int (nI n), .ref k1, .ref k2, .ref k3, .ref k4, .int (nI m), .ref k6, .ref k7, .ref k8, .int (nI 0), .ref k10, .int (nI 0), .ref k12, .ref k13, .ref k14, .ref k15, .ref k16, .int (nI ls), .int (nI ap), .int (bz bd), .int (nI sq), .ref k21, .ref k22, .ref k23, .ref k24, .ref k25, .int (bz pd), .int (nI pl), .int (bz tk), kv, .ref k30, .ref k31, .int (nI tz), .ref k33, .int (nI rs), .int sd])), (k1, .inl (cI, 7, .inl (nIf ki))), (k2, .inl (cI, 7, .inl (nIf op))), (k3, .inl (cI, 7, .inl (nIf (shF sh)))), (k4, .inl (cI, 7, .inl (nIf fa))), (k6, .inl (cI, 6, .inl (nIf K))), (k7, .inl (cI, 6, .inl (nIf G))), (k8, .inl (cI, 6, .inl (nIf T))), (k12, .inl (cI, 7, .inl (nIf kw1_5))), (k13, .inl (cI, 175, .inl (nIf kn1_6))), (k14, .inl (cI, 144, .inl (mIf M1_7))), (k15, .inl (cI, 7, .inl (nIf mw1_8)))]
          have hpt := pcn_k n t (by omega)
          have hpb := pcn_k n b (by omega)
          refine v_icmpn_gt 120 62 zC dX5_synod_59 (fun h_20 => ?_) (fun h_20 => ?_)
          ·
            have hgt9 := h_20
            refine v_inc (v := ((nI t) + Int32.ofInt (-1))) (lv2 := [(3, .int ((nI t) + Int32.ofInt (-1))), (2, .int (nI b)), (1, .int (nI x)), (0, .ref r0)]) 123 zC dX5_synod_120 (j := 0) rfl rfl (by rw [hnE]; decide) rfl ?_
            refine v_goto 47 zC dX5_synod_123 ?_
            refine v_lvs (lv2 := [(3, .int ((nI t) + Int32.ofInt (-1))), (2, .int (nI b)), (1, .int (nI x)), (0, .ref r0)]) [0, 1, 2, 3] rfl ?_
            exact ih47 _ (by omega) b t ((nI t) + Int32.ofInt (-1)) (by first | exact syd_1 hL hle9 hs9 (by show t ≤ 2 ^ n - 1; omega) | exact syd_0 hL (Or.inr hs9) | exact syd_0 hL (Or.inl (by omega))) (dec_m1 _) (by omega) (by omega) rfl
          ·
            have hle9 := h_20
            refine v_ic (v := (nI 0)) 63 zC dX5_synod_62 (by decide +kernel) ?_
            refine v_is (lv2 := [(4, .int (nI 0)), (3, .int (nI t)), (2, .int (nI b)), (1, .int (nI x)), (0, .ref r0)]) 65 zC dX5_synod_63 (by rw [hnE]; decide) rfl ?_
            refine v_ic (v := (nI 0)) 66 zC dX5_synod_65 (by decide +kernel) ?_
            refine v_is (lv2 := [(5, .int (nI 0)), (4, .int (nI 0)), (3, .int (nI t)), (2, .int (nI b)), (1, .int (nI x)), (0, .ref r0)]) 68 zC dX5_synod_66 (by rw [hnE]; decide) rfl ?_
            have lp68 : ∀ (mz : Nat) (y : Nat) (p : Nat), (y = orn (fun p => if Nat.testBit t p = true then DR (n, m, sh, 0, ki, op, fa, K, G, T) 24 p else 0) p) → (p ≤ n) → n - p = mz → VV E 0 0 68 [(5, .int (nI p)), (4, .int (nI y)), (3, .int (nI t)), (2, .int (nI b)), (1, .int (nI x)), (0, .ref r0)] [] [(r0, .inr (5, [.int (nI n), .ref k1, .ref k2, .ref k3, .ref k4, .int (nI m), .ref k6, .ref k7, .ref k8, .int (nI 0), .ref k10, .int (nI 0), .ref k12, .ref k13, .ref k14, .ref k15, .ref k16, .int (nI ls), .int (nI ap), .int (bz bd), .int (nI sq), .ref k21, .ref k22, .ref k23, .ref k24, .ref k25, .int (bz pd), .int (nI pl), .int (bz tk), kv, .ref k30, .ref k31, .int (nI tz), .ref k33, .int (nI rs), .int sd])), (k1, .inl (cI, 7, .inl (nIf ki))), (k2, .inl (cI, 7, .inl (nIf op))), (k3, .inl (cI, 7, .inl (nIf (shF sh)))), (k4, .inl (cI, 7, .inl (nIf fa))), (k6, .inl (cI, 6, .inl (nIf K))), (k7, .inl (cI, 6, .inl (nIf G))), (k8, .inl (cI, 6, .inl (nIf T))), (k12, .inl (cI, 7, .inl (nIf kw1_5))), (k13, .inl (cI, 175, .inl (nIf kn1_6))), (k14, .inl (cI, 144, .inl (mIf M1_7))), (k15, .inl (cI, 7, .inl (nIf mw1_8)))] := by
              intro mz
              induction mz using Nat.strongRecOn with
              | _ mz ih68 =>
              intro y p hy hp hm68
              refine v_il 70 zC dX5_synod_68 0 rfl ?_
              refine v_al_n 71 zC dX5_synod_70 5 rfl ?_
              refine v_gf 74 0 zC dX5_synod_71 gf_X5_77 rfl rfl ?_
              refine v_icmpn_ge 108 77 zC dX5_synod_74 (fun h_21 => ?_) (fun h_21 => ?_)
              ·
                refine v_il 110 zC dX5_synod_108 1 rfl ?_
                refine v_il_n 111 zC dX5_synod_110 4 rfl ?_
                have hy8 : y = KTO (n, m, sh, 0, ki, op, fa, K, G, T) t := by rw [hy, show p = n by omega]; rfl
                have hky : y < 1024 := by rw [hy8]; exact ktor_lt hR9
                have hkx : x < 1024 := by rw [hx8]; exact ktor_lt hR9
                refine v_icmpn_ne 118 114 zC dX5_synod_111 (fun h_22 => ?_) (fun h_22 => ?_)
                ·
                  have hs9 : ¬ SYP (n, m, sh, 0, ki, op, fa, K, G, T) t := fun z => h_22 (by rw [hy8, hx8]; exact z)
                  refine v_il_n 119 zC dX5_synod_118 3 rfl ?_
                  refine v_is_n (lv2 := [(2, .int (nI b)), (5, .int (nI p)), (4, .int (nI y)), (3, .int (nI t)), (1, .int (nI x)), (0, .ref r0)]) 120 zC dX5_synod_119 (by rw [hnE]; decide) rfl ?_
                  refine v_inc (v := ((nI t) + Int32.ofInt (-1))) (lv2 := [(3, .int ((nI t) + Int32.ofInt (-1))), (2, .int (nI b)), (5, .int (nI p)), (4, .int (nI y)), (1, .int (nI x)), (0, .ref r0)]) 123 zC dX5_synod_120 (j := 3) rfl rfl (by rw [hnE]; decide) rfl ?_
                  refine v_goto 47 zC dX5_synod_123 ?_
                  refine v_lvs (lv2 := [(3, .int ((nI t) + Int32.ofInt (-1))), (2, .int (nI b)), (1, .int (nI x)), (0, .ref r0)]) [0, 1, 4, 5] rfl ?_
                  exact ih47 _ (by omega) b t ((nI t) + Int32.ofInt (-1)) (by first | exact syd_1 hL hle9 hs9 (by show t ≤ 2 ^ n - 1; omega) | exact syd_0 hL (Or.inr hs9) | exact syd_0 hL (Or.inl (by omega))) (dec_m1 _) (by omega) (by omega) rfl
                ·
                  have hs9 : SYP (n, m, sh, 0, ki, op, fa, K, G, T) t := by show KTO (n, m, sh, 0, ki, op, fa, K, G, T) t = _; rw [← hy8, ← hx8]; exact h_22
                  refine v_il_n 115 zC dX5_synod_114 2 rfl ?_
                  refine v_goto 119 zC dX5_synod_115 ?_
                  refine v_is_n (lv2 := [(2, .int (nI t)), (5, .int (nI p)), (4, .int (nI y)), (3, .int (nI t)), (1, .int (nI x)), (0, .ref r0)]) 120 zC dX5_synod_119 (by rw [hnE]; decide) rfl ?_
                  refine v_inc (v := ((nI t) + Int32.ofInt (-1))) (lv2 := [(3, .int ((nI t) + Int32.ofInt (-1))), (2, .int (nI t)), (5, .int (nI p)), (4, .int (nI y)), (1, .int (nI x)), (0, .ref r0)]) 123 zC dX5_synod_120 (j := 3) rfl rfl (by rw [hnE]; decide) rfl ?_
                  refine v_goto 47 zC dX5_synod_123 ?_
                  refine v_lvs (lv2 := [(3, .int ((nI t) + Int32.ofInt (-1))), (2, .int (nI t)), (1, .int (nI x)), (0, .ref r0)]) [0, 1, 4, 5] rfl ?_
                  exact ih47 _ (by omega) t t ((nI t) + Int32.ofInt (-1)) (by first | exact syd_1 hL hle9 hs9 (by show t ≤ 2 ^ n - 1; omega) | exact syd_0 hL (Or.inr hs9) | exact syd_0 hL (Or.inl (by omega))) (dec_m1 _) (by omega) (by omega) rfl
              ·
                refine v_il 79 zC dX5_synod_77 1 rfl ?_
                refine v_il_n 80 zC dX5_synod_79 2 rfl ?_
                refine v_il 82 zC dX5_synod_80 0 rfl ?_
                refine v_cS (As := [.int (nI t), .int (nI p)]) (st := [.int (nI y)]) 85 [] zC dX5_synod_82 hA (c_X5_hasBit (ev_l E) (ev_D E) cI (x := t) (k := p) (hk := (by first | omega | assumption | rfl | (simp only []; omega) | decide))) cf_X5_hasBit lk_X5_95 rfl rfl rfl (by decide +kernel) (Nat.le_of_ble_eq_true rfl) (fun rv_23 wv_24 hp_25 hm_26 => ?_)
                clear hm_26
                obtain ⟨rfl, rfl⟩ := hp_25
                show VV E 0 0 85 [(5, .int (nI p)), (4, .int (nI y)), (3, .int (nI t)), (2, .int (nI b)), (1, .int (nI x)), (0, .ref r0)] [.int (bz (Nat.testBit t p)), .int (nI y)] [(r0, .inr (5, [.int (nI n), .ref k1, .ref k2, .ref k3, .ref k4, .int (nI m), .ref k6, .ref k7, .ref k8, .int (nI 0), .ref k10, .int (nI 0), .ref k12, .ref k13, .ref k14, .ref k15, .ref k16, .int (nI ls), .int (nI ap), .int (bz bd), .int (nI sq), .ref k21, .ref k22, .ref k23, .ref k24, .ref k25, .int (bz pd), .int (nI pl), .int (bz tk), kv, .ref k30, .ref k31, .int (nI tz), .ref k33, .int (nI rs), .int sd])), (k1, .inl (cI, 7, .inl (nIf ki))), (k2, .inl (cI, 7, .inl (nIf op))), (k3, .inl (cI, 7, .inl (nIf (shF sh)))), (k4, .inl (cI, 7, .inl (nIf fa))), (k6, .inl (cI, 6, .inl (nIf K))), (k7, .inl (cI, 6, .inl (nIf G))), (k8, .inl (cI, 6, .inl (nIf T))), (k12, .inl (cI, 7, .inl (nIf kw1_5))), (k13, .inl (cI, 175, .inl (nIf kn1_6))), (k14, .inl (cI, 144, .inl (mIf M1_7))), (k15, .inl (cI, 7, .inl (nIf mw1_8)))]
                refine v_ifb_eq 98 88 zC dX5_synod_85 (fun h_27 => ?_) (fun h_27 => ?_)
                ·
                  have hb9 := h_27
                  refine v_ic (v := (nI 0)) 99 zC dX5_synod_98 (by decide +kernel) ?_
                  refine v_ior (v := (nI y)) 100 zC dX5_synod_99 (by rw [fa_or, Nat.or_zero]) ?_
                  refine v_is (lv2 := [(4, .int (nI y)), (5, .int (nI p)), (3, .int (nI t)), (2, .int (nI b)), (1, .int (nI x)), (0, .ref r0)]) 102 zC dX5_synod_100 (by rw [hnE]; decide) rfl ?_
                  refine v_inc (v := (nI (p + 1))) (lv2 := [(5, .int (nI (p + 1))), (4, .int (nI y)), (3, .int (nI t)), (2, .int (nI b)), (1, .int (nI x)), (0, .ref r0)]) 105 zC dX5_synod_102 (j := 1) rfl (nI_add _ 1) (by rw [hnE]; decide) rfl ?_
                  refine v_goto 68 zC dX5_synod_105 ?_
                  refine v_lvs (lv2 := [(5, .int (nI (p + 1))), (4, .int (nI y)), (3, .int (nI t)), (2, .int (nI b)), (1, .int (nI x)), (0, .ref r0)]) [0, 1, 2, 3, 4, 5] rfl ?_
                  exact ih68 _ (by omega) y (p + 1) (by first | exact kto_s hy hb9 | exact kto_n hy hb9) (by first | omega | assumption | rfl | (simp only []; omega) | decide) rfl
                ·
                  have hb9 := h_27
                  refine v_al_n 89 zC dX5_synod_88 5 rfl ?_
                  refine v_gf 92 0 zC dX5_synod_89 gf_X5_34 rfl rfl ?_
                  refine v_il 94 zC dX5_synod_92 0 rfl ?_
                  refine v_ialn (v := (nI (DR (n, m, sh, 0, ki, op, fa, K, G, T) 24 p))) 95 8 zC dX5_synod_94 rfl (by omega) (congrArg nI (rk_w hR9 (by omega))) ?_
                  refine v_goto 99 zC dX5_synod_95 ?_
                  refine v_ior (v := (nI (y ||| (DR (n, m, sh, 0, ki, op, fa, K, G, T) 24 p)))) 100 zC dX5_synod_99 (fa_or _ _) ?_
                  refine v_is (lv2 := [(4, .int (nI (y ||| (DR (n, m, sh, 0, ki, op, fa, K, G, T) 24 p)))), (5, .int (nI p)), (3, .int (nI t)), (2, .int (nI b)), (1, .int (nI x)), (0, .ref r0)]) 102 zC dX5_synod_100 (by rw [hnE]; decide) rfl ?_
                  refine v_inc (v := (nI (p + 1))) (lv2 := [(5, .int (nI (p + 1))), (4, .int (nI (y ||| (DR (n, m, sh, 0, ki, op, fa, K, G, T) 24 p)))), (3, .int (nI t)), (2, .int (nI b)), (1, .int (nI x)), (0, .ref r0)]) 105 zC dX5_synod_102 (j := 1) rfl (nI_add _ 1) (by rw [hnE]; decide) rfl ?_
                  refine v_goto 68 zC dX5_synod_105 ?_
                  refine v_lvs (lv2 := [(5, .int (nI (p + 1))), (4, .int (nI (y ||| (DR (n, m, sh, 0, ki, op, fa, K, G, T) 24 p)))), (3, .int (nI t)), (2, .int (nI b)), (1, .int (nI x)), (0, .ref r0)]) [0, 1, 2, 3, 4, 5] rfl ?_
                  exact ih68 _ (by omega) (y ||| (DR (n, m, sh, 0, ki, op, fa, K, G, T) 24 p)) (p + 1) (by first | exact kto_s hy hb9 | exact kto_n hy hb9) (by first | omega | assumption | rfl | (simp only []; omega) | decide) rfl
            refine v_lvs (lv2 := [(5, .int (nI 0)), (4, .int (nI 0)), (3, .int (nI t)), (2, .int (nI b)), (1, .int (nI x)), (0, .ref r0)]) [0, 1, 2, 3, 4, 5] rfl ?_
            exact lp68 _ 0 0 rfl (by first | omega | assumption | rfl | (simp only []; omega) | decide) rfl
      refine v_lvs (lv2 := [(3, .int (nI ((2 ^ n) - 1))), (2, .int (nI ((2 ^ n) - 1))), (1, .int (nI x)), (0, .ref r0)]) [0, 1, 2, 3] rfl ?_
      exact lp47 _ ((2 ^ n) - 1) (2 ^ n) (nI ((2 ^ n) - 1)) (lmn_c (fun u => ⟨fun q => q.elim (fun r => Or.inl ⟨by have h8 : 2 ^ n - 1 < u := r.1; omega, r.2⟩) Or.inr, fun q => q.elim (fun r => Or.inl ⟨by have h8 : 2 ^ n ≤ u := r.1; show 2 ^ n - 1 < u; omega, r.2⟩) Or.inr⟩) (lmn_i (s := (n, m, sh, 0, ki, op, fa, K, G, T)))) (pk_sub (by omega)).symm (Nat.le_refl _) (Nat.le_refl _) rfl
    ·
      refine v_il_n 22 zC dX5_synod_21 1 rfl ?_
      refine v_al_n 23 zC dX5_synod_22 2 rfl ?_
      refine v_gf 26 0 zC dX5_synod_23 gf_X5_34 rfl rfl ?_
      refine v_il_n 27 zC dX5_synod_26 0 rfl ?_
      refine v_ialn (v := (nI (DR (n, m, sh, 0, ki, op, fa, K, G, T) 24 p))) 28 8 zC dX5_synod_27 rfl (by omega) (congrArg nI (rk_w hR9 (by omega))) ?_
      refine v_ior (v := (nI (x ||| (DR (n, m, sh, 0, ki, op, fa, K, G, T) 24 p)))) 29 zC dX5_synod_28 (fa_or _ _) ?_
      refine v_is_n (lv2 := [(1, .int (nI (x ||| (DR (n, m, sh, 0, ki, op, fa, K, G, T) 24 p)))), (2, .int (nI p)), (0, .ref r0)]) 30 zC dX5_synod_29 (by rw [hnE]; decide) rfl ?_
      refine v_inc (v := (nI (p + 1))) (lv2 := [(2, .int (nI (p + 1))), (1, .int (nI (x ||| (DR (n, m, sh, 0, ki, op, fa, K, G, T) 24 p)))), (0, .ref r0)]) 33 zC dX5_synod_30 (j := 1) rfl (nI_add _ 1) (by rw [hnE]; decide) rfl ?_
      refine v_goto 13 zC dX5_synod_33 ?_
      refine v_lvs (lv2 := [(2, .int (nI (p + 1))), (1, .int (nI (x ||| (DR (n, m, sh, 0, ki, op, fa, K, G, T) 24 p)))), (0, .ref r0)]) [0, 1, 2] rfl ?_
      exact ih13 _ (by omega) (x ||| (DR (n, m, sh, 0, ki, op, fa, K, G, T) 24 p)) (p + 1) (by rw [hx]; rfl) (by first | omega | assumption | rfl | (simp only []; omega) | decide) rfl
  refine v_lvs (lv2 := [(2, .int (nI 0)), (1, .int (nI 0)), (0, .ref r0)]) [0, 1, 2] rfl ?_
  exact lp13 _ 0 0 rfl (by first | omega | assumption | rfl | (simp only []; omega) | decide) rfl
set_option maxRecDepth 100000 in
set_option maxHeartbeats 4000000 in
theorem c_X5_judge (l : Launch) (D : va_G) (cI : ClassId) (r0 k1 k2 k3 k4 k6 k7 k8 k10 k12 k13 k14 k15 k16 k21 k22 k23 k24 k25 k30 k31 k33 : Nat) (n m ls ap sq pl tz rs : Nat) (bd pd tk : Bool) (kv : Value) (sd : Int32) (ki op fa K G T : Nat → Nat) (sh : Nat) (kw kn : Nat → Nat) (M : Nat → Option Nat) (mw : Nat → Nat) (rw : Nat → Nat) (hw : FW n m sh ki op fa K G T) (hkw : ∀ z, kw z < 1024) (hkn : ∀ z, kn z < 1024) (hM : ∀ z v, M z = some v → v < 7) (hr : rs ≤ 24) (hrw : ∀ z, rw z < 100) : CT l yX5_judge cX5_judge 3 (some .int) { frames := 6, cells := 0, slots := 0, locals := 138 } D cI [.ref r0] [(r0, .inr (5, [.int (nI n), .ref k1, .ref k2, .ref k3, .ref k4, .int (nI m), .ref k6, .ref k7, .ref k8, .int (nI 0), .ref k10, .int (nI 0), .ref k12, .ref k13, .ref k14, .ref k15, .ref k16, .int (nI ls), .int (nI ap), .int (bz bd), .int (nI sq), .ref k21, .ref k22, .ref k23, .ref k24, .ref k25, .int (bz pd), .int (nI pl), .int (bz tk), kv, .ref k30, .ref k31, .int (nI tz), .ref k33, .int (nI rs), .int sd])), (k1, .inl (cI, 7, .inl (nIf ki))), (k2, .inl (cI, 7, .inl (nIf op))), (k3, .inl (cI, 7, .inl (nIf (shF sh)))), (k4, .inl (cI, 7, .inl (nIf fa))), (k6, .inl (cI, 6, .inl (nIf K))), (k7, .inl (cI, 6, .inl (nIf G))), (k8, .inl (cI, 6, .inl (nIf T))), (k12, .inl (cI, 7, .inl (nIf kw))), (k13, .inl (cI, 175, .inl (nIf kn))), (k14, .inl (cI, 144, .inl (mIf M))), (k15, .inl (cI, 7, .inl (nIf mw))), (k33, .inl (cI, 24, .inl (nIf rw)))] (fun zr zw => (∃ kw1 : Nat → Nat, ∃ kn1 : Nat → Nat, ∃ M1 : Nat → Option Nat, ∃ mw1 : Nat → Nat, (∀ z, kw1 z < 1024) ∧ (∀ z, kn1 z < 1024) ∧ (∀ z v, M1 z = some v → v < 7) ∧ zr = some (.int (mI (JUD (n, m, sh, 0, ki, op, fa, K, G, T) rw rs))) ∧ zw = [(r0, .inr (5, [.int (nI n), .ref k1, .ref k2, .ref k3, .ref k4, .int (nI m), .ref k6, .ref k7, .ref k8, .int (nI 0), .ref k10, .int (nI 0), .ref k12, .ref k13, .ref k14, .ref k15, .ref k16, .int (nI ls), .int (nI ap), .int (bz bd), .int (nI sq), .ref k21, .ref k22, .ref k23, .ref k24, .ref k25, .int (bz pd), .int (nI pl), .int (bz tk), kv, .ref k30, .ref k31, .int (nI tz), .ref k33, .int (nI 0), .int sd])), (k1, .inl (cI, 7, .inl (nIf ki))), (k2, .inl (cI, 7, .inl (nIf op))), (k3, .inl (cI, 7, .inl (nIf (shF sh)))), (k4, .inl (cI, 7, .inl (nIf fa))), (k6, .inl (cI, 6, .inl (nIf K))), (k7, .inl (cI, 6, .inl (nIf G))), (k8, .inl (cI, 6, .inl (nIf T))), (k12, .inl (cI, 7, .inl (nIf kw1))), (k13, .inl (cI, 175, .inl (nIf kn1))), (k14, .inl (cI, 144, .inl (mIf M1))), (k15, .inl (cI, 7, .inl (nIf mw1))), (k33, .inl (cI, 24, .inl (nIf rw)))])) := by
  refine CT_of RX5 rfl (by decide +kernel) (Nat.le_of_ble_eq_true rfl) (fun E hnE zC zT => ?_)
  have hA : ∀ q, (ev_s E).heap.size ≤ q → ev_A E q := fun q h => by rw [zT.2]; exact Or.inr h
  obtain ⟨hn, hm, hsh, hki, hop, hfa, hK, hG, hT, vki, vop, vfa, vK, vG, vT⟩ := id hw
  show VV E 0 0 0 [(0, .ref r0)] [] [(r0, .inr (5, [.int (nI n), .ref k1, .ref k2, .ref k3, .ref k4, .int (nI m), .ref k6, .ref k7, .ref k8, .int (nI 0), .ref k10, .int (nI 0), .ref k12, .ref k13, .ref k14, .ref k15, .ref k16, .int (nI ls), .int (nI ap), .int (bz bd), .int (nI sq), .ref k21, .ref k22, .ref k23, .ref k24, .ref k25, .int (bz pd), .int (nI pl), .int (bz tk), kv, .ref k30, .ref k31, .int (nI tz), .ref k33, .int (nI rs), .int sd])), (k1, .inl (cI, 7, .inl (nIf ki))), (k2, .inl (cI, 7, .inl (nIf op))), (k3, .inl (cI, 7, .inl (nIf (shF sh)))), (k4, .inl (cI, 7, .inl (nIf fa))), (k6, .inl (cI, 6, .inl (nIf K))), (k7, .inl (cI, 6, .inl (nIf G))), (k8, .inl (cI, 6, .inl (nIf T))), (k12, .inl (cI, 7, .inl (nIf kw))), (k13, .inl (cI, 175, .inl (nIf kn))), (k14, .inl (cI, 144, .inl (mIf M))), (k15, .inl (cI, 7, .inl (nIf mw))), (k33, .inl (cI, 24, .inl (nIf rw)))]
  refine v_al_n 1 zC dX5_judge_0 0 rfl ?_
  refine v_ic (v := (nI 0)) 2 zC dX5_judge_1 (by decide +kernel) ?_
  refine v_pf (ws2 := [(r0, .inr (5, [.int (nI n), .ref k1, .ref k2, .ref k3, .ref k4, .int (nI m), .ref k6, .ref k7, .ref k8, .int (nI 0), .ref k10, .int (nI 0), .ref k12, .ref k13, .ref k14, .ref k15, .ref k16, .int (nI ls), .int (nI ap), .int (bz bd), .int (nI sq), .ref k21, .ref k22, .ref k23, .ref k24, .ref k25, .int (bz pd), .int (nI pl), .int (bz tk), kv, .ref k30, .ref k31, .int (nI tz), .ref k33, .int (nI rs), .int sd])), (k1, .inl (cI, 7, .inl (nIf ki))), (k2, .inl (cI, 7, .inl (nIf op))), (k3, .inl (cI, 7, .inl (nIf (shF sh)))), (k4, .inl (cI, 7, .inl (nIf fa))), (k6, .inl (cI, 6, .inl (nIf K))), (k7, .inl (cI, 6, .inl (nIf G))), (k8, .inl (cI, 6, .inl (nIf T))), (k12, .inl (cI, 7, .inl (nIf kw))), (k13, .inl (cI, 175, .inl (nIf kn))), (k14, .inl (cI, 144, .inl (mIf M))), (k15, .inl (cI, 7, .inl (nIf mw))), (k33, .inl (cI, 24, .inl (nIf rw)))]) 5 0 zC dX5_judge_2 pf_X5_73 rfl (Nat.le_of_ble_eq_true rfl) rfl rfl rfl ?_
  refine v_al_n 6 zC dX5_judge_5 0 rfl ?_
  refine v_gf 9 0 zC dX5_judge_6 gf_X5_270 rfl rfl ?_
  refine v_is_n (lv2 := [(1, .int (nI rs)), (0, .ref r0)]) 10 zC dX5_judge_9 (by rw [hnE]; decide) rfl ?_
  refine v_al_n 11 zC dX5_judge_10 1 rfl ?_
  refine v_ic (v := (nI 0)) 12 zC dX5_judge_11 (by decide +kernel) ?_
  refine v_pf (ws2 := [(r0, .inr (5, [.int (nI n), .ref k1, .ref k2, .ref k3, .ref k4, .int (nI m), .ref k6, .ref k7, .ref k8, .int (nI 0), .ref k10, .int (nI 0), .ref k12, .ref k13, .ref k14, .ref k15, .ref k16, .int (nI ls), .int (nI ap), .int (bz bd), .int (nI sq), .ref k21, .ref k22, .ref k23, .ref k24, .ref k25, .int (bz pd), .int (nI pl), .int (bz tk), kv, .ref k30, .ref k31, .int (nI tz), .ref k33, .int (nI 0), .int sd])), (k1, .inl (cI, 7, .inl (nIf ki))), (k2, .inl (cI, 7, .inl (nIf op))), (k3, .inl (cI, 7, .inl (nIf (shF sh)))), (k4, .inl (cI, 7, .inl (nIf fa))), (k6, .inl (cI, 6, .inl (nIf K))), (k7, .inl (cI, 6, .inl (nIf G))), (k8, .inl (cI, 6, .inl (nIf T))), (k12, .inl (cI, 7, .inl (nIf kw))), (k13, .inl (cI, 175, .inl (nIf kn))), (k14, .inl (cI, 144, .inl (mIf M))), (k15, .inl (cI, 7, .inl (nIf mw))), (k33, .inl (cI, 24, .inl (nIf rw)))]) 15 0 zC dX5_judge_12 pf_X5_270 rfl (Nat.le_of_ble_eq_true rfl) rfl rfl rfl ?_
  refine v_al_n 16 zC dX5_judge_15 1 rfl ?_
  refine v_cV (As := []) (st := []) 19 0 [0, 1, 2, 3, 4, 5, 6, 7, 8, 9, 10, 11] zC dX5_judge_16 hA (c_X5_day (ev_l E) (ev_D E) cI (r0 := r0) (k1 := k1) (k2 := k2) (k3 := k3) (k4 := k4) (k6 := k6) (k7 := k7) (k8 := k8) (k10 := k10) (k12 := k12) (k13 := k13) (k14 := k14) (k15 := k15) (k16 := k16) (k21 := k21) (k22 := k22) (k23 := k23) (k24 := k24) (k25 := k25) (k30 := k30) (k31 := k31) (k33 := k33) (n := n) (m := m) (aw := 0) (ls := ls) (ap := ap) (sq := sq) (pl := pl) (tz := tz) (rs := 0) (bd := bd) (pd := pd) (tk := tk) (kv := kv) (sd := sd) (ki := ki) (op := op) (fa := fa) (K := K) (G := G) (T := T) (sh := sh) (kw := kw) (kn := kn) (M := M) (mw := mw) (hw := (by first | omega | assumption | rfl | (simp only []; omega) | decide)) (hkw := (by first | omega | assumption | rfl | (simp only []; omega) | decide)) (hkn := (by first | omega | assumption | rfl | (simp only []; omega) | decide)) (hM := (by first | omega | assumption | rfl | (simp only []; omega) | decide))) cf_X5_day lk_X5_123 rfl rfl rfl rfl rfl (by decide +kernel) (Nat.le_of_ble_eq_true rfl) (fun rv_1 wv_2 hp_3 hm_4 => ?_)
  clear hm_4
  obtain ⟨kw1_5, kn1_6, M1_7, mw1_8, hR_9, rfl, rfl⟩ := hp_3
  show VV E 0 0 19 [(1, .int (nI rs)), (0, .ref r0)] [] [(r0, .inr (5, [.int (nI n), .ref k1, .ref k2, .ref k3, .ref k4, .int (nI m), .ref k6, .ref k7, .ref k8, .int (nI 0), .ref k10, .int (nI 0), .ref k12, .ref k13, .ref k14, .ref k15, .ref k16, .int (nI ls), .int (nI ap), .int (bz bd), .int (nI sq), .ref k21, .ref k22, .ref k23, .ref k24, .ref k25, .int (bz pd), .int (nI pl), .int (bz tk), kv, .ref k30, .ref k31, .int (nI tz), .ref k33, .int (nI 0), .int sd])), (k1, .inl (cI, 7, .inl (nIf ki))), (k2, .inl (cI, 7, .inl (nIf op))), (k3, .inl (cI, 7, .inl (nIf (shF sh)))), (k4, .inl (cI, 7, .inl (nIf fa))), (k6, .inl (cI, 6, .inl (nIf K))), (k7, .inl (cI, 6, .inl (nIf G))), (k8, .inl (cI, 6, .inl (nIf T))), (k12, .inl (cI, 7, .inl (nIf kw1_5))), (k13, .inl (cI, 175, .inl (nIf kn1_6))), (k14, .inl (cI, 144, .inl (mIf M1_7))), (k15, .inl (cI, 7, .inl (nIf mw1_8))), (k33, .inl (cI, 24, .inl (nIf rw)))]
  have hR9 := hR_9
  refine v_ic (v := (nI 0)) 20 zC dX5_judge_19 (by decide +kernel) ?_
  refine v_is_n (lv2 := [(2, .int (nI 0)), (1, .int (nI rs)), (0, .ref r0)]) 21 zC dX5_judge_20 (by rw [hnE]; decide) rfl ?_
  have lp21 : ∀ (mz : Nat) (h : Nat), (fs (fun h => decide (rw h ≠ pcn (SPK (n, m, sh, 0, ki, op, fa, K, G, T) h))) h = none) → (h ≤ rs) → rs - h = mz → VV E 0 0 21 [(2, .int (nI h)), (1, .int (nI rs)), (0, .ref r0)] [] [(r0, .inr (5, [.int (nI n), .ref k1, .ref k2, .ref k3, .ref k4, .int (nI m), .ref k6, .ref k7, .ref k8, .int (nI 0), .ref k10, .int (nI 0), .ref k12, .ref k13, .ref k14, .ref k15, .ref k16, .int (nI ls), .int (nI ap), .int (bz bd), .int (nI sq), .ref k21, .ref k22, .ref k23, .ref k24, .ref k25, .int (bz pd), .int (nI pl), .int (bz tk), kv, .ref k30, .ref k31, .int (nI tz), .ref k33, .int (nI 0), .int sd])), (k1, .inl (cI, 7, .inl (nIf ki))), (k2, .inl (cI, 7, .inl (nIf op))), (k3, .inl (cI, 7, .inl (nIf (shF sh)))), (k4, .inl (cI, 7, .inl (nIf fa))), (k6, .inl (cI, 6, .inl (nIf K))), (k7, .inl (cI, 6, .inl (nIf G))), (k8, .inl (cI, 6, .inl (nIf T))), (k12, .inl (cI, 7, .inl (nIf kw1_5))), (k13, .inl (cI, 175, .inl (nIf kn1_6))), (k14, .inl (cI, 144, .inl (mIf M1_7))), (k15, .inl (cI, 7, .inl (nIf mw1_8))), (k33, .inl (cI, 24, .inl (nIf rw)))] := by
    intro mz
    induction mz using Nat.strongRecOn with
    | _ mz ih21 =>
    intro h hq hh hm21
    refine v_il_n 22 zC dX5_judge_21 0 rfl ?_
    refine v_il_n 23 zC dX5_judge_22 1 rfl ?_
    refine v_icmpn_ge 52 26 zC dX5_judge_23 (fun h_10 => ?_) (fun h_10 => ?_)
    ·
      have hend9 := h_10
      refine v_bp (v := (-9)) 54 zC dX5_judge_52 (by decide +kernel) ?_
      refine v_iret zC zT dX5_judge_54  ?_
      first | (have g9 := hne9; exact ⟨_, _, _, _, hR9.2.2.2.1, hR9.2.2.2.2.1, hR9.2.2.2.2.2, by rw [show JUD (n, m, sh, 0, ki, op, fa, K, G, T) rw rs = some h from fs_m (by omega) (fs_1 hq (decide_eq_true (fun z => hne9 z.symm)))]; rfl, rfl⟩) | exact ⟨_, _, _, _, hR9.2.2.2.1, hR9.2.2.2.2.1, hR9.2.2.2.2.2, by rw [show JUD (n, m, sh, 0, ki, op, fa, K, G, T) rw rs = none from by unfold JUD; rw [show rs = h by omega]; exact hq]; rfl, rfl⟩
    ·
      refine v_al_n 27 zC dX5_judge_26 2 rfl ?_
      refine v_ic (v := (-1)) 28 zC dX5_judge_27 (by decide +kernel) ?_
      refine v_il_n 29 zC dX5_judge_28 0 rfl ?_
      refine v_cV (As := [.int (-1), .int (nI h)]) (st := []) 32 0 [0, 10] zC dX5_judge_29 hA (c_X5_speakers__A (ev_l E) (ev_D E) cI (r0 := r0) (k1 := k1) (k2 := k2) (k3 := k3) (k4 := k4) (k6 := k6) (k7 := k7) (k8 := k8) (k10 := k10) (k12 := k12) (k13 := k13) (k14 := k14) (k15 := k15) (k16 := k16) (k21 := k21) (k22 := k22) (k23 := k23) (k24 := k24) (k25 := k25) (k30 := k30) (k31 := k31) (k33 := k33) (n := n) (m := m) (aw := 0) (ls := ls) (ap := ap) (sq := sq) (pl := pl) (tz := tz) (rs := 0) (bd := bd) (pd := pd) (tk := tk) (kv := kv) (sd := sd) (ki := ki) (op := op) (fa := fa) (K := K) (G := G) (T := T) (sh := sh) (kw := kw1_5) (kn := kn1_6) (M := M1_7) (h := h) (hn := (by first | omega | assumption | rfl | (simp only []; omega) | decide)) (hm := (by first | omega | assumption | rfl | (simp only []; omega) | decide)) (hR := hR9) (hh := (by first | omega | assumption | rfl | (simp only []; omega) | decide))) cf_X5_speakers lk_X5_233 rfl rfl rfl rfl rfl (by decide +kernel) (Nat.le_of_ble_eq_true rfl) (fun rv_11 wv_12 hp_13 hm_14 => ?_)
      clear hm_14
      obtain ⟨rfl, rfl⟩ := hp_13
      show VV E 0 0 32 [(2, .int (nI h)), (1, .int (nI rs)), (0, .ref r0)] [.int (nI (SPK (n, m, sh, 0, ki, op, fa, K, G, T) h))] [(r0, .inr (5, [.int (nI n), .ref k1, .ref k2, .ref k3, .ref k4, .int (nI m), .ref k6, .ref k7, .ref k8, .int (nI 0), .ref k10, .int (nI 0), .ref k12, .ref k13, .ref k14, .ref k15, .ref k16, .int (nI ls), .int (nI ap), .int (bz bd), .int (nI sq), .ref k21, .ref k22, .ref k23, .ref k24, .ref k25, .int (bz pd), .int (nI pl), .int (bz tk), kv, .ref k30, .ref k31, .int (nI tz), .ref k33, .int (nI 0), .int sd])), (k1, .inl (cI, 7, .inl (nIf ki))), (k2, .inl (cI, 7, .inl (nIf op))), (k3, .inl (cI, 7, .inl (nIf (shF sh)))), (k4, .inl (cI, 7, .inl (nIf fa))), (k6, .inl (cI, 6, .inl (nIf K))), (k7, .inl (cI, 6, .inl (nIf G))), (k8, .inl (cI, 6, .inl (nIf T))), (k12, .inl (cI, 7, .inl (nIf kw1_5))), (k13, .inl (cI, 175, .inl (nIf kn1_6))), (k14, .inl (cI, 144, .inl (mIf M1_7))), (k15, .inl (cI, 7, .inl (nIf mw1_8))), (k33, .inl (cI, 24, .inl (nIf rw)))]
      refine v_cS (As := [.int (nI (SPK (n, m, sh, 0, ki, op, fa, K, G, T) h))]) (st := []) 35 [] zC dX5_judge_32 hA (c_X5_onesOf (ev_l E) (ev_D E) cI (x := (SPK (n, m, sh, 0, ki, op, fa, K, G, T) h)) (hx := (Nat.lt_of_lt_of_le (m := 2 ^ m) (mkn_lt _ _) (Nat.pow_le_pow_right (by decide) (Nat.le_trans hm (by decide)))))) cf_X5_onesOf lk_X5_120 rfl rfl rfl (by decide +kernel) (Nat.le_of_ble_eq_true rfl) (fun rv_15 wv_16 hp_17 hm_18 => ?_)
      clear hm_18
      obtain ⟨rfl, rfl⟩ := hp_17
      show VV E 0 0 35 [(2, .int (nI h)), (1, .int (nI rs)), (0, .ref r0)] [.int (nI (pcn (SPK (n, m, sh, 0, ki, op, fa, K, G, T) h)))] [(r0, .inr (5, [.int (nI n), .ref k1, .ref k2, .ref k3, .ref k4, .int (nI m), .ref k6, .ref k7, .ref k8, .int (nI 0), .ref k10, .int (nI 0), .ref k12, .ref k13, .ref k14, .ref k15, .ref k16, .int (nI ls), .int (nI ap), .int (bz bd), .int (nI sq), .ref k21, .ref k22, .ref k23, .ref k24, .ref k25, .int (bz pd), .int (nI pl), .int (bz tk), kv, .ref k30, .ref k31, .int (nI tz), .ref k33, .int (nI 0), .int sd])), (k1, .inl (cI, 7, .inl (nIf ki))), (k2, .inl (cI, 7, .inl (nIf op))), (k3, .inl (cI, 7, .inl (nIf (shF sh)))), (k4, .inl (cI, 7, .inl (nIf fa))), (k6, .inl (cI, 6, .inl (nIf K))), (k7, .inl (cI, 6, .inl (nIf G))), (k8, .inl (cI, 6, .inl (nIf T))), (k12, .inl (cI, 7, .inl (nIf kw1_5))), (k13, .inl (cI, 175, .inl (nIf kn1_6))), (k14, .inl (cI, 144, .inl (mIf M1_7))), (k15, .inl (cI, 7, .inl (nIf mw1_8))), (k33, .inl (cI, 24, .inl (nIf rw)))]
      have hc9 : pcn (SPK (n, m, sh, 0, ki, op, fa, K, G, T) h) ≤ m := pcn_k m _ (mkn_lt _ _)
      refine v_al_n 36 zC dX5_judge_35 2 rfl ?_
      refine v_gf 39 0 zC dX5_judge_36 gf_X5_70 rfl rfl ?_
      refine v_il_n 40 zC dX5_judge_39 0 rfl ?_
      refine v_ialn (v := (nI (rw h))) 41 12 zC dX5_judge_40 rfl (by omega) rfl ?_
      have hb_19 := hrw h
      refine v_icmpn_eq 46 44 zC dX5_judge_41 (fun h_20 => ?_) (fun h_20 => ?_)
      ·
        have he9 := h_20
        refine v_inc (v := (nI (h + 1))) (lv2 := [(2, .int (nI (h + 1))), (1, .int (nI rs)), (0, .ref r0)]) 49 zC dX5_judge_46 (j := 0) rfl (nI_add _ 1) (by rw [hnE]; decide) rfl ?_
        refine v_goto 21 zC dX5_judge_49 ?_
        refine v_lvs (lv2 := [(2, .int (nI (h + 1))), (1, .int (nI rs)), (0, .ref r0)]) [0, 1, 2] rfl ?_
        exact ih21 _ (by omega) (h + 1) (fs_0 hq (decide_eq_false (fun z => z he9.symm))) (by first | omega | assumption | rfl | (simp only []; omega) | decide) rfl
      ·
        have hne9 := h_20
        refine v_il_n 45 zC dX5_judge_44 0 rfl ?_
        refine v_iret zC zT dX5_judge_45  ?_
        first | (have g9 := hne9; exact ⟨_, _, _, _, hR9.2.2.2.1, hR9.2.2.2.2.1, hR9.2.2.2.2.2, by rw [show JUD (n, m, sh, 0, ki, op, fa, K, G, T) rw rs = some h from fs_m (by omega) (fs_1 hq (decide_eq_true (fun z => hne9 z.symm)))]; rfl, rfl⟩) | exact ⟨_, _, _, _, hR9.2.2.2.1, hR9.2.2.2.2.1, hR9.2.2.2.2.2, by rw [show JUD (n, m, sh, 0, ki, op, fa, K, G, T) rw rs = none from by unfold JUD; rw [show rs = h by omega]; exact hq]; rfl, rfl⟩
  refine v_lvs (lv2 := [(2, .int (nI 0)), (1, .int (nI rs)), (0, .ref r0)]) [0, 1, 2] rfl ?_
  exact lp21 _ 0 rfl (by first | omega | assumption | rfl | (simp only []; omega) | decide) rfl
set_option maxRecDepth 100000 in
set_option maxHeartbeats 4000000 in
theorem c_X5_sham (l : Launch) (D : va_G) (cI : ClassId) (r0 k1 k2 k3 k4 k6 k7 k8 k10 k12 k13 k14 k15 k16 k21 k22 k23 k24 k25 k30 k31 k33 : Nat) (n m ls ap sq pl tz rs : Nat) (bd pd tk : Bool) (kv : Value) (sd : Int32) (ki op fa K G T : Nat → Nat) (sh : Nat) (kw kn : Nat → Nat) (M : Nat → Option Nat) (mw : Nat → Nat) (R : Nat → Nat) (rw : Nat → Nat) (u : Int32) (hw : FW n m sh ki op fa K G T) (hkw : ∀ z, kw z < 1024) (hkn : ∀ z, kn z < 1024) (hM : ∀ z v, M z = some v → v < 7) (hr : rs ≤ 24) (hrw : ∀ z, rw z < 100) : CT l yX5_sham cX5_sham 6 (some .int) { frames := 6, cells := 0, slots := 0, locals := 138 } D cI [.ref r0, .int u] [(r0, .inr (5, [.int (nI n), .ref k1, .ref k2, .ref k3, .ref k4, .int (nI m), .ref k6, .ref k7, .ref k8, .int (nI 0), .ref k10, .int (nI 0), .ref k12, .ref k13, .ref k14, .ref k15, .ref k16, .int (nI ls), .int (nI ap), .int (bz bd), .int (nI sq), .ref k21, .ref k22, .ref k23, .ref k24, .ref k25, .int (bz pd), .int (nI pl), .int (bz tk), kv, .ref k30, .ref k31, .int (nI tz), .ref k33, .int (nI rs), .int sd])), (k1, .inl (cI, 7, .inl (nIf ki))), (k2, .inl (cI, 7, .inl (nIf op))), (k3, .inl (cI, 7, .inl (nIf (shF sh)))), (k4, .inl (cI, 7, .inl (nIf fa))), (k6, .inl (cI, 6, .inl (nIf K))), (k7, .inl (cI, 6, .inl (nIf G))), (k8, .inl (cI, 6, .inl (nIf T))), (k12, .inl (cI, 7, .inl (nIf kw))), (k13, .inl (cI, 175, .inl (nIf kn))), (k14, .inl (cI, 144, .inl (mIf M))), (k15, .inl (cI, 7, .inl (nIf mw))), (k10, .inl (cI, 7, .inl (nIf R))), (k33, .inl (cI, 24, .inl (nIf rw)))] (fun zr zw => (∃ kw1 : Nat → Nat, ∃ kn1 : Nat → Nat, ∃ M1 : Nat → Option Nat, ∃ mw1 : Nat → Nat, ∃ rc : Nat, ∃ rv : Int32, (q_sham (n, m, sh, 0, ki, op, fa, K, G, T) rw rs u = (rc, rv)) ∧ (∀ z, kw1 z < 1024) ∧ (∀ z, kn1 z < 1024) ∧ (∀ z v, M1 z = some v → v < 7) ∧ zr = some (.int rv) ∧ zw = [(r0, .inr (5, [.int (nI n), .ref k1, .ref k2, .ref k3, .ref k4, .int (nI m), .ref k6, .ref k7, .ref k8, .int (nI 0), .ref k10, .int (nI 0), .ref k12, .ref k13, .ref k14, .ref k15, .ref k16, .int (nI ls), .int (nI ap), .int (bz bd), .int (nI sq), .ref k21, .ref k22, .ref k23, .ref k24, .ref k25, .int (bz pd), .int (nI pl), .int (bz tk), kv, .ref k30, .ref k31, .int (nI tz), .ref k33, .int (nI rs), .int sd])), (k1, .inl (cI, 7, .inl (nIf ki))), (k2, .inl (cI, 7, .inl (nIf op))), (k3, .inl (cI, 7, .inl (nIf (shF sh)))), (k4, .inl (cI, 7, .inl (nIf fa))), (k6, .inl (cI, 6, .inl (nIf K))), (k7, .inl (cI, 6, .inl (nIf G))), (k8, .inl (cI, 6, .inl (nIf T))), (k12, .inl (cI, 7, .inl (nIf kw1))), (k13, .inl (cI, 175, .inl (nIf kn1))), (k14, .inl (cI, 144, .inl (mIf M1))), (k15, .inl (cI, 7, .inl (nIf mw1))), (k10, .inl (cI, 7, .inl (nIf (rf R rc)))), (k33, .inl (cI, 24, .inl (nIf rw)))])) := by
  refine CT_of RX5 rfl (by decide +kernel) (Nat.le_of_ble_eq_true rfl) (fun E hnE zC zT => ?_)
  have hA : ∀ q, (ev_s E).heap.size ≤ q → ev_A E q := fun q h => by rw [zT.2]; exact Or.inr h
  obtain ⟨hn, hm, hsh, hki, hop, hfa, hK, hG, hT, vki, vop, vfa, vK, vG, vT⟩ := id hw
  show VV E 0 0 0 [(0, .ref r0), (1, .int u)] [] [(r0, .inr (5, [.int (nI n), .ref k1, .ref k2, .ref k3, .ref k4, .int (nI m), .ref k6, .ref k7, .ref k8, .int (nI 0), .ref k10, .int (nI 0), .ref k12, .ref k13, .ref k14, .ref k15, .ref k16, .int (nI ls), .int (nI ap), .int (bz bd), .int (nI sq), .ref k21, .ref k22, .ref k23, .ref k24, .ref k25, .int (bz pd), .int (nI pl), .int (bz tk), kv, .ref k30, .ref k31, .int (nI tz), .ref k33, .int (nI rs), .int sd])), (k1, .inl (cI, 7, .inl (nIf ki))), (k2, .inl (cI, 7, .inl (nIf op))), (k3, .inl (cI, 7, .inl (nIf (shF sh)))), (k4, .inl (cI, 7, .inl (nIf fa))), (k6, .inl (cI, 6, .inl (nIf K))), (k7, .inl (cI, 6, .inl (nIf G))), (k8, .inl (cI, 6, .inl (nIf T))), (k12, .inl (cI, 7, .inl (nIf kw))), (k13, .inl (cI, 175, .inl (nIf kn))), (k14, .inl (cI, 144, .inl (mIf M))), (k15, .inl (cI, 7, .inl (nIf mw))), (k10, .inl (cI, 7, .inl (nIf R))), (k33, .inl (cI, 24, .inl (nIf rw)))]
  refine v_al_n 1 zC dX5_sham_0 0 rfl ?_
  refine v_ic (v := (nI 0)) 2 zC dX5_sham_1 (by decide +kernel) ?_
  refine v_pf (ws2 := [(r0, .inr (5, [.int (nI n), .ref k1, .ref k2, .ref k3, .ref k4, .int (nI m), .ref k6, .ref k7, .ref k8, .int (nI 0), .ref k10, .int (nI 0), .ref k12, .ref k13, .ref k14, .ref k15, .ref k16, .int (nI ls), .int (nI ap), .int (bz bd), .int (nI sq), .ref k21, .ref k22, .ref k23, .ref k24, .ref k25, .int (bz pd), .int (nI pl), .int (bz tk), kv, .ref k30, .ref k31, .int (nI tz), .ref k33, .int (nI rs), .int sd])), (k1, .inl (cI, 7, .inl (nIf ki))), (k2, .inl (cI, 7, .inl (nIf op))), (k3, .inl (cI, 7, .inl (nIf (shF sh)))), (k4, .inl (cI, 7, .inl (nIf fa))), (k6, .inl (cI, 6, .inl (nIf K))), (k7, .inl (cI, 6, .inl (nIf G))), (k8, .inl (cI, 6, .inl (nIf T))), (k12, .inl (cI, 7, .inl (nIf kw))), (k13, .inl (cI, 175, .inl (nIf kn))), (k14, .inl (cI, 144, .inl (mIf M))), (k15, .inl (cI, 7, .inl (nIf mw))), (k10, .inl (cI, 7, .inl (nIf R))), (k33, .inl (cI, 24, .inl (nIf rw)))]) 5 0 zC dX5_sham_2 pf_X5_73 rfl (Nat.le_of_ble_eq_true rfl) rfl rfl rfl ?_
  refine v_al_n 6 zC dX5_sham_5 0 rfl ?_
  refine v_il_n 7 zC dX5_sham_6 1 rfl ?_
  refine v_cV (As := [.int u]) (st := []) 10 0 [0] zC dX5_sham_7 hA (c_X5_isOne (ev_l E) (ev_D E) cI (r0 := r0) (k1 := k1) (k2 := k2) (k3 := k3) (k4 := k4) (k6 := k6) (k7 := k7) (k8 := k8) (k10 := k10) (k12 := k12) (k13 := k13) (k14 := k14) (k15 := k15) (k16 := k16) (k21 := k21) (k22 := k22) (k23 := k23) (k24 := k24) (k25 := k25) (k30 := k30) (k31 := k31) (k33 := k33) (n := n) (m := m) (aw := 0) (ls := ls) (ap := ap) (sq := sq) (pl := pl) (tz := tz) (rs := rs) (bd := bd) (pd := pd) (tk := tk) (kv := kv) (sd := sd) (p := u) (hn := (by first | omega | assumption | rfl | (simp only []; omega) | decide))) cf_X5_isOne lk_X5_164 rfl rfl rfl rfl rfl (by decide +kernel) (Nat.le_of_ble_eq_true rfl) (fun rv_1 wv_2 hp_3 hm_4 => ?_)
  clear hm_4
  rcases hp_3 with ⟨hi_5, rfl, rfl⟩ | ⟨j_6, he_7, hi_8, hj_9, rfl, rfl⟩
  ·
    show VV E 0 0 10 [(0, .ref r0), (1, .int u)] [.int (nI 0)] [(r0, .inr (5, [.int (nI n), .ref k1, .ref k2, .ref k3, .ref k4, .int (nI m), .ref k6, .ref k7, .ref k8, .int (nI 0), .ref k10, .int (nI 0), .ref k12, .ref k13, .ref k14, .ref k15, .ref k16, .int (nI ls), .int (nI ap), .int (bz bd), .int (nI sq), .ref k21, .ref k22, .ref k23, .ref k24, .ref k25, .int (bz pd), .int (nI pl), .int (bz tk), kv, .ref k30, .ref k31, .int (nI tz), .ref k33, .int (nI rs), .int sd])), (k1, .inl (cI, 7, .inl (nIf ki))), (k2, .inl (cI, 7, .inl (nIf op))), (k3, .inl (cI, 7, .inl (nIf (shF sh)))), (k4, .inl (cI, 7, .inl (nIf fa))), (k6, .inl (cI, 6, .inl (nIf K))), (k7, .inl (cI, 6, .inl (nIf G))), (k8, .inl (cI, 6, .inl (nIf T))), (k12, .inl (cI, 7, .inl (nIf kw))), (k13, .inl (cI, 175, .inl (nIf kn))), (k14, .inl (cI, 144, .inl (mIf M))), (k15, .inl (cI, 7, .inl (nIf mw))), (k10, .inl (cI, 7, .inl (nIf R))), (k33, .inl (cI, 24, .inl (nIf rw)))]
    have hn_u := hi_5
    refine v_if_eq 17 13 zC dX5_sham_10 (fun _ => ?_) (fun z => absurd (by decide +kernel) z)
    refine v_ic (v := (-1)) 18 zC dX5_sham_17 (by decide +kernel) ?_
    refine v_is_n (lv2 := [(2, .int (-1)), (0, .ref r0), (1, .int u)]) 19 zC dX5_sham_18 (by rw [hnE]; decide) rfl ?_
    refine v_ic (v := (nI 0)) 20 zC dX5_sham_19 (by decide +kernel) ?_
    refine v_is_n (lv2 := [(3, .int (nI 0)), (2, .int (-1)), (0, .ref r0), (1, .int u)]) 21 zC dX5_sham_20 (by rw [hnE]; decide) rfl ?_
    have lp21 : ∀ (mz : Nat) (k : Nat), (k ≤ rs) → rs - k = mz → VV E 0 0 21 [(3, .int (nI k)), (2, .int (-1)), (0, .ref r0), (1, .int u)] [] [(r0, .inr (5, [.int (nI n), .ref k1, .ref k2, .ref k3, .ref k4, .int (nI m), .ref k6, .ref k7, .ref k8, .int (nI 0), .ref k10, .int (nI 0), .ref k12, .ref k13, .ref k14, .ref k15, .ref k16, .int (nI ls), .int (nI ap), .int (bz bd), .int (nI sq), .ref k21, .ref k22, .ref k23, .ref k24, .ref k25, .int (bz pd), .int (nI pl), .int (bz tk), kv, .ref k30, .ref k31, .int (nI tz), .ref k33, .int (nI rs), .int sd])), (k1, .inl (cI, 7, .inl (nIf ki))), (k2, .inl (cI, 7, .inl (nIf op))), (k3, .inl (cI, 7, .inl (nIf (shF sh)))), (k4, .inl (cI, 7, .inl (nIf fa))), (k6, .inl (cI, 6, .inl (nIf K))), (k7, .inl (cI, 6, .inl (nIf G))), (k8, .inl (cI, 6, .inl (nIf T))), (k12, .inl (cI, 7, .inl (nIf kw))), (k13, .inl (cI, 175, .inl (nIf kn))), (k14, .inl (cI, 144, .inl (mIf M))), (k15, .inl (cI, 7, .inl (nIf mw))), (k10, .inl (cI, 7, .inl (nIf R))), (k33, .inl (cI, 24, .inl (nIf rw)))] := by
      intro mz
      induction mz using Nat.strongRecOn with
      | _ mz ih21 =>
      intro k hk hm21
      refine v_il_n 22 zC dX5_sham_21 0 rfl ?_
      refine v_al_n 23 zC dX5_sham_22 2 rfl ?_
      refine v_gf 26 0 zC dX5_sham_23 gf_X5_270 rfl rfl ?_
      refine v_icmpn_ge 57 29 zC dX5_sham_26 (fun h_11 => ?_) (fun h_11 => ?_)
      ·
        refine v_il_n 58 zC dX5_sham_57 1 rfl ?_
        refine v_if_ge 67 61 zC dX5_sham_58 (fun z => absurd z (by decide +kernel)) (fun _ => ?_)
        refine v_al_n 62 zC dX5_sham_61 2 rfl ?_
        refine v_il_n 63 zC dX5_sham_62 1 rfl ?_
        refine v_cV (As := [.int (-1)]) (st := []) 66 0 [0, 12] zC dX5_sham_63 hA (c_X5_refuse (ev_l E) (ev_D E) cI (r0 := r0) (k1 := k1) (k2 := k2) (k3 := k3) (k4 := k4) (k6 := k6) (k7 := k7) (k8 := k8) (k10 := k10) (k12 := k12) (k13 := k13) (k14 := k14) (k15 := k15) (k16 := k16) (k21 := k21) (k22 := k22) (k23 := k23) (k24 := k24) (k25 := k25) (k30 := k30) (k31 := k31) (k33 := k33) (n := n) (m := m) (aw := 0) (ls := ls) (ap := ap) (sq := sq) (pl := pl) (tz := tz) (rs := rs) (bd := bd) (pd := pd) (tk := tk) (kv := kv) (sd := sd) (R := R) (v := (-1)) (j := 1) (hv := (by first | omega | assumption | rfl | (simp only []; omega) | decide)) (h1 := (by first | omega | assumption | rfl | (simp only []; omega) | decide)) (h6 := (by first | omega | assumption | rfl | (simp only []; omega) | decide))) cf_X5_refuse lk_X5_129 rfl rfl rfl rfl rfl (by decide +kernel) (Nat.le_of_ble_eq_true rfl) (fun rv_13 wv_14 hp_15 hm_16 => ?_)
        clear hm_16
        obtain ⟨rfl, rfl⟩ := hp_15
        show VV E 0 0 66 [(3, .int (nI k)), (2, .int (-1)), (0, .ref r0), (1, .int u)] [.int (-1)] [(r0, .inr (5, [.int (nI n), .ref k1, .ref k2, .ref k3, .ref k4, .int (nI m), .ref k6, .ref k7, .ref k8, .int (nI 0), .ref k10, .int (nI 0), .ref k12, .ref k13, .ref k14, .ref k15, .ref k16, .int (nI ls), .int (nI ap), .int (bz bd), .int (nI sq), .ref k21, .ref k22, .ref k23, .ref k24, .ref k25, .int (bz pd), .int (nI pl), .int (bz tk), kv, .ref k30, .ref k31, .int (nI tz), .ref k33, .int (nI rs), .int sd])), (k1, .inl (cI, 7, .inl (nIf ki))), (k2, .inl (cI, 7, .inl (nIf op))), (k3, .inl (cI, 7, .inl (nIf (shF sh)))), (k4, .inl (cI, 7, .inl (nIf fa))), (k6, .inl (cI, 6, .inl (nIf K))), (k7, .inl (cI, 6, .inl (nIf G))), (k8, .inl (cI, 6, .inl (nIf T))), (k12, .inl (cI, 7, .inl (nIf kw))), (k13, .inl (cI, 175, .inl (nIf kn))), (k14, .inl (cI, 144, .inl (mIf M))), (k15, .inl (cI, 7, .inl (nIf mw))), (k10, .inl (cI, 7, .inl (nIf (un R 1 (R 1 + 1))))), (k33, .inl (cI, 24, .inl (nIf rw)))]
        refine v_iret zC zT dX5_sham_66  ?_
        first | (have g9 := hn_u; exact ⟨kw, kn, M, mw, 1, _, by unfold q_sham; rw [hn_u], hkw, hkn, hM, rfl, rfl⟩) | (have g9 := hz6; exact ⟨kw, kn, M, mw, 3, _, by unfold q_sham; rw [hi_u]; dsimp only; rw [if_pos hz6], hkw, hkn, hM, rfl, rfl⟩) | exact ⟨_, _, _, _, 0, _, by unfold q_sham; rw [hi_u]; dsimp only; rw [hz8]; first | (have g8 := hend9; rw [show fs (fun h => !(SHB (n, m, sh, 0, ki, op, fa, K, G, T) ju rw h)) rs = none from by rw [show rs = h by omega]; exact hq9]; rfl) | (rw [show fs (fun h => !(SHB (n, m, sh, 0, ki, op, fa, K, G, T) ju rw h)) rs = some h from fs_m (show h + 1 ≤ rs by omega) (fs_1 hq9 (by first | exact congrArg not ((shb_10 he9).trans (decide_eq_false (fun z => hk9 (say_0.mpr z)))) | exact congrArg not ((shb_f hn9).trans (say_bit.symm.trans hy9))))]; rfl), hR9.2.2.2.1, hR9.2.2.2.2.1, hR9.2.2.2.2.2, rfl, rfl⟩
      ·
        refine v_il_n 30 zC dX5_sham_29 1 rfl ?_
        refine v_if_ne 49 33 zC dX5_sham_30 (fun _ => ?_) (fun z => absurd z (by decide +kernel))
        refine v_il_n 50 zC dX5_sham_49 1 rfl ?_
        refine v_is_n (lv2 := [(2, .int (-1)), (3, .int (nI k)), (0, .ref r0), (1, .int u)]) 51 zC dX5_sham_50 (by rw [hnE]; decide) rfl ?_
        refine v_inc (v := (nI (k + 1))) (lv2 := [(3, .int (nI (k + 1))), (2, .int (-1)), (0, .ref r0), (1, .int u)]) 54 zC dX5_sham_51 (j := 1) rfl (nI_add _ 1) (by rw [hnE]; decide) rfl ?_
        refine v_goto 21 zC dX5_sham_54 ?_
        refine v_lvs (lv2 := [(3, .int (nI (k + 1))), (2, .int (-1)), (0, .ref r0), (1, .int u)]) [0, 1, 2, 3] rfl ?_
        exact ih21 _ (by omega) (k + 1) (by first | omega | assumption | rfl | (simp only []; omega) | decide) rfl
    refine v_lvs (lv2 := [(3, .int (nI 0)), (2, .int (-1)), (0, .ref r0), (1, .int u)]) [0, 1, 2, 3] rfl ?_
    exact lp21 _ 0 (by first | omega | assumption | rfl | (simp only []; omega) | decide) rfl
  ·
    show VV E 0 0 10 [(0, .ref r0), (1, .int u)] [.int (nI 1)] [(r0, .inr (5, [.int (nI n), .ref k1, .ref k2, .ref k3, .ref k4, .int (nI m), .ref k6, .ref k7, .ref k8, .int (nI 0), .ref k10, .int (nI 0), .ref k12, .ref k13, .ref k14, .ref k15, .ref k16, .int (nI ls), .int (nI ap), .int (bz bd), .int (nI sq), .ref k21, .ref k22, .ref k23, .ref k24, .ref k25, .int (bz pd), .int (nI pl), .int (bz tk), kv, .ref k30, .ref k31, .int (nI tz), .ref k33, .int (nI rs), .int sd])), (k1, .inl (cI, 7, .inl (nIf ki))), (k2, .inl (cI, 7, .inl (nIf op))), (k3, .inl (cI, 7, .inl (nIf (shF sh)))), (k4, .inl (cI, 7, .inl (nIf fa))), (k6, .inl (cI, 6, .inl (nIf K))), (k7, .inl (cI, 6, .inl (nIf G))), (k8, .inl (cI, 6, .inl (nIf T))), (k12, .inl (cI, 7, .inl (nIf kw))), (k13, .inl (cI, 175, .inl (nIf kn))), (k14, .inl (cI, 144, .inl (mIf M))), (k15, .inl (cI, 7, .inl (nIf mw))), (k10, .inl (cI, 7, .inl (nIf R))), (k33, .inl (cI, 24, .inl (nIf rw)))]
    subst he_7
    have hi_u := hi_8
    obtain ⟨ju, hx_ju⟩ : ∃ z, z = j_6 := ⟨_, rfl⟩
    subst hx_ju
    refine v_if_eq 17 13 zC dX5_sham_10 (fun z => absurd z (by decide +kernel)) (fun _ => ?_)
    refine v_ic (v := (nI 0)) 14 zC dX5_sham_13 (by decide +kernel) ?_
    refine v_goto 18 zC dX5_sham_14 ?_
    refine v_is_n (lv2 := [(2, .int (nI 0)), (0, .ref r0), (1, .int (nI ju))]) 19 zC dX5_sham_18 (by rw [hnE]; decide) rfl ?_
    refine v_ic (v := (nI 0)) 20 zC dX5_sham_19 (by decide +kernel) ?_
    refine v_is_n (lv2 := [(3, .int (nI 0)), (2, .int (nI 0)), (0, .ref r0), (1, .int (nI ju))]) 21 zC dX5_sham_20 (by rw [hnE]; decide) rfl ?_
    have lp21 : ∀ (mz : Nat) (wr : Int32) (k : Nat), (k ≤ rs) → ((wr = nI 0 ∧ fs (fun i => decide (10 < rw i)) k = none) ∨ (wr = -3 ∧ (fs (fun i => decide (10 < rw i)) k).isSome = true)) → rs - k = mz → VV E 0 0 21 [(3, .int (nI k)), (2, .int wr), (0, .ref r0), (1, .int (nI ju))] [] [(r0, .inr (5, [.int (nI n), .ref k1, .ref k2, .ref k3, .ref k4, .int (nI m), .ref k6, .ref k7, .ref k8, .int (nI 0), .ref k10, .int (nI 0), .ref k12, .ref k13, .ref k14, .ref k15, .ref k16, .int (nI ls), .int (nI ap), .int (bz bd), .int (nI sq), .ref k21, .ref k22, .ref k23, .ref k24, .ref k25, .int (bz pd), .int (nI pl), .int (bz tk), kv, .ref k30, .ref k31, .int (nI tz), .ref k33, .int (nI rs), .int sd])), (k1, .inl (cI, 7, .inl (nIf ki))), (k2, .inl (cI, 7, .inl (nIf op))), (k3, .inl (cI, 7, .inl (nIf (shF sh)))), (k4, .inl (cI, 7, .inl (nIf fa))), (k6, .inl (cI, 6, .inl (nIf K))), (k7, .inl (cI, 6, .inl (nIf G))), (k8, .inl (cI, 6, .inl (nIf T))), (k12, .inl (cI, 7, .inl (nIf kw))), (k13, .inl (cI, 175, .inl (nIf kn))), (k14, .inl (cI, 144, .inl (mIf M))), (k15, .inl (cI, 7, .inl (nIf mw))), (k10, .inl (cI, 7, .inl (nIf R))), (k33, .inl (cI, 24, .inl (nIf rw)))] := by
      intro mz
      induction mz using Nat.strongRecOn with
      | _ mz ih21 =>
      intro wr k hk hwr hm21
      refine v_il_n 22 zC dX5_sham_21 0 rfl ?_
      refine v_al_n 23 zC dX5_sham_22 2 rfl ?_
      refine v_gf 26 0 zC dX5_sham_23 gf_X5_270 rfl rfl ?_
      refine v_icmpn_ge 57 29 zC dX5_sham_26 (fun h_19 => ?_) (fun h_19 => ?_)
      ·
        rw [show k = rs by omega] at hwr
        rcases hwr with ⟨hw8, hz8⟩ | ⟨hw8, hz8⟩
        ·
          subst hw8
          have hz7 : ∀ z, z < rs → rw z ≤ 10 := fun z hz => Nat.not_lt.mp (of_decide_eq_false (fs_no hz8 hz))
          refine v_il_n 58 zC dX5_sham_57 1 rfl ?_
          refine v_if_ge 67 61 zC dX5_sham_58 (fun _ => ?_) (fun z => absurd (by decide +kernel) z)
          refine v_al_n 68 zC dX5_sham_67 2 rfl ?_
          refine v_cV (As := []) (st := []) 71 0 [0, 1, 2, 3, 4, 5, 6, 7, 8, 9, 10, 11] zC dX5_sham_68 hA (c_X5_day (ev_l E) (ev_D E) cI (r0 := r0) (k1 := k1) (k2 := k2) (k3 := k3) (k4 := k4) (k6 := k6) (k7 := k7) (k8 := k8) (k10 := k10) (k12 := k12) (k13 := k13) (k14 := k14) (k15 := k15) (k16 := k16) (k21 := k21) (k22 := k22) (k23 := k23) (k24 := k24) (k25 := k25) (k30 := k30) (k31 := k31) (k33 := k33) (n := n) (m := m) (aw := 0) (ls := ls) (ap := ap) (sq := sq) (pl := pl) (tz := tz) (rs := rs) (bd := bd) (pd := pd) (tk := tk) (kv := kv) (sd := sd) (ki := ki) (op := op) (fa := fa) (K := K) (G := G) (T := T) (sh := sh) (kw := kw) (kn := kn) (M := M) (mw := mw) (hw := (by first | omega | assumption | rfl | (simp only []; omega) | decide)) (hkw := (by first | omega | assumption | rfl | (simp only []; omega) | decide)) (hkn := (by first | omega | assumption | rfl | (simp only []; omega) | decide)) (hM := (by first | omega | assumption | rfl | (simp only []; omega) | decide))) cf_X5_day lk_X5_123 rfl rfl rfl rfl rfl (by decide +kernel) (Nat.le_of_ble_eq_true rfl) (fun rv_21 wv_22 hp_23 hm_24 => ?_)
          clear hm_24
          obtain ⟨kw1_25, kn1_26, M1_27, mw1_28, hR_29, rfl, rfl⟩ := hp_23
          show VV E 0 0 71 [(3, .int (nI k)), (2, .int (nI 0)), (0, .ref r0), (1, .int (nI ju))] [] [(r0, .inr (5, [.int (nI n), .ref k1, .ref k2, .ref k3, .ref k4, .int (nI m), .ref k6, .ref k7, .ref k8, .int (nI 0), .ref k10, .int (nI 0), .ref k12, .ref k13, .ref k14, .ref k15, .ref k16, .int (nI ls), .int (nI ap), .int (bz bd), .int (nI sq), .ref k21, .ref k22, .ref k23, .ref k24, .ref k25, .int (bz pd), .int (nI pl), .int (bz tk), kv, .ref k30, .ref k31, .int (nI tz), .ref k33, .int (nI rs), .int sd])), (k1, .inl (cI, 7, .inl (nIf ki))), (k2, .inl (cI, 7, .inl (nIf op))), (k3, .inl (cI, 7, .inl (nIf (shF sh)))), (k4, .inl (cI, 7, .inl (nIf fa))), (k6, .inl (cI, 6, .inl (nIf K))), (k7, .inl (cI, 6, .inl (nIf G))), (k8, .inl (cI, 6, .inl (nIf T))), (k12, .inl (cI, 7, .inl (nIf kw1_25))), (k13, .inl (cI, 175, .inl (nIf kn1_26))), (k14, .inl (cI, 144, .inl (mIf M1_27))), (k15, .inl (cI, 7, .inl (nIf mw1_28))), (k10, .inl (cI, 7, .inl (nIf R))), (k33, .inl (cI, 24, .inl (nIf rw)))]
          have hR9 := hR_29
          refine v_ic (v := (nI 0)) 72 zC dX5_sham_71 (by decide +kernel) ?_
          refine v_is_n (lv2 := [(3, .int (nI 0)), (2, .int (nI 0)), (0, .ref r0), (1, .int (nI ju))]) 73 zC dX5_sham_72 (by rw [hnE]; decide) rfl ?_
          have lp73 : ∀ (mz : Nat) (h : Nat), (fs (fun h => !(SHB (n, m, sh, 0, ki, op, fa, K, G, T) ju rw h)) h = none) → (h ≤ rs) → rs - h = mz → VV E 0 0 73 [(3, .int (nI h)), (2, .int (nI 0)), (0, .ref r0), (1, .int (nI ju))] [] [(r0, .inr (5, [.int (nI n), .ref k1, .ref k2, .ref k3, .ref k4, .int (nI m), .ref k6, .ref k7, .ref k8, .int (nI 0), .ref k10, .int (nI 0), .ref k12, .ref k13, .ref k14, .ref k15, .ref k16, .int (nI ls), .int (nI ap), .int (bz bd), .int (nI sq), .ref k21, .ref k22, .ref k23, .ref k24, .ref k25, .int (bz pd), .int (nI pl), .int (bz tk), kv, .ref k30, .ref k31, .int (nI tz), .ref k33, .int (nI rs), .int sd])), (k1, .inl (cI, 7, .inl (nIf ki))), (k2, .inl (cI, 7, .inl (nIf op))), (k3, .inl (cI, 7, .inl (nIf (shF sh)))), (k4, .inl (cI, 7, .inl (nIf fa))), (k6, .inl (cI, 6, .inl (nIf K))), (k7, .inl (cI, 6, .inl (nIf G))), (k8, .inl (cI, 6, .inl (nIf T))), (k12, .inl (cI, 7, .inl (nIf kw1_25))), (k13, .inl (cI, 175, .inl (nIf kn1_26))), (k14, .inl (cI, 144, .inl (mIf M1_27))), (k15, .inl (cI, 7, .inl (nIf mw1_28))), (k10, .inl (cI, 7, .inl (nIf R))), (k33, .inl (cI, 24, .inl (nIf rw)))] := by
            intro mz
            induction mz using Nat.strongRecOn with
            | _ mz ih73 =>
            intro h hq9 hh hm73
            refine v_il_n 74 zC dX5_sham_73 0 rfl ?_
            refine v_al_n 75 zC dX5_sham_74 2 rfl ?_
            refine v_gf 78 0 zC dX5_sham_75 gf_X5_270 rfl rfl ?_
            refine v_icmpn_ge 139 81 zC dX5_sham_78 (fun h_30 => ?_) (fun h_30 => ?_)
            ·
              have hend9 := h_30
              refine v_bp (v := (-9)) 141 zC dX5_sham_139 (by decide +kernel) ?_
              refine v_iret zC zT dX5_sham_141  ?_
              first | (have g9 := hn_u; exact ⟨kw, kn, M, mw, 1, _, by unfold q_sham; rw [hn_u], hkw, hkn, hM, rfl, rfl⟩) | (have g9 := hz6; exact ⟨kw, kn, M, mw, 3, _, by unfold q_sham; rw [hi_u]; dsimp only; rw [if_pos hz6], hkw, hkn, hM, rfl, rfl⟩) | exact ⟨_, _, _, _, 0, _, by unfold q_sham; rw [hi_u]; dsimp only; rw [hz8]; first | (have g8 := hend9; rw [show fs (fun h => !(SHB (n, m, sh, 0, ki, op, fa, K, G, T) ju rw h)) rs = none from by rw [show rs = h by omega]; exact hq9]; rfl) | (rw [show fs (fun h => !(SHB (n, m, sh, 0, ki, op, fa, K, G, T) ju rw h)) rs = some h from fs_m (show h + 1 ≤ rs by omega) (fs_1 hq9 (by first | exact congrArg not ((shb_10 he9).trans (decide_eq_false (fun z => hk9 (say_0.mpr z)))) | exact congrArg not ((shb_f hn9).trans (say_bit.symm.trans hy9))))]; rfl), hR9.2.2.2.1, hR9.2.2.2.2.1, hR9.2.2.2.2.2, rfl, rfl⟩
            ·
              refine v_al_n 82 zC dX5_sham_81 2 rfl ?_
              refine v_il_n 83 zC dX5_sham_82 3 rfl ?_
              refine v_il_n 84 zC dX5_sham_83 0 rfl ?_
              refine v_cV (As := [.int (nI ju), .int (nI h)]) (st := []) 87 0 [0, 7, 10] zC dX5_sham_84 hA (c_X5_saidBy (ev_l E) (ev_D E) cI (r0 := r0) (k1 := k1) (k2 := k2) (k3 := k3) (k4 := k4) (k6 := k6) (k7 := k7) (k8 := k8) (k10 := k10) (k12 := k12) (k13 := k13) (k14 := k14) (k15 := k15) (k16 := k16) (k21 := k21) (k22 := k22) (k23 := k23) (k24 := k24) (k25 := k25) (k30 := k30) (k31 := k31) (k33 := k33) (n := n) (m := m) (aw := 0) (ls := ls) (ap := ap) (sq := sq) (pl := pl) (tz := tz) (rs := rs) (bd := bd) (pd := pd) (tk := tk) (kv := kv) (sd := sd) (ki := ki) (op := op) (fa := fa) (K := K) (G := G) (T := T) (sh := sh) (kw := kw1_25) (kn := kn1_26) (M := M1_27) (p := ju) (h := h) (hn := (by first | omega | assumption | rfl | (simp only []; omega) | decide)) (hm := (by first | omega | assumption | rfl | (simp only []; omega) | decide)) (hR := hR9) (hp := (by first | omega | assumption | rfl | (simp only []; omega) | decide)) (hh := (by first | omega | assumption | rfl | (simp only []; omega) | decide)) (hT := hT)) cf_X5_saidBy lk_X5_267 rfl rfl rfl rfl rfl (by decide +kernel) (Nat.le_of_ble_eq_true rfl) (fun rv_31 wv_32 hp_33 hm_34 => ?_)
              clear hm_34
              obtain ⟨rfl, rfl⟩ := hp_33
              show VV E 0 0 87 [(3, .int (nI h)), (2, .int (nI 0)), (0, .ref r0), (1, .int (nI ju))] [.int (nI (SAY (n, m, sh, 0, ki, op, fa, K, G, T) ju h))] [(r0, .inr (5, [.int (nI n), .ref k1, .ref k2, .ref k3, .ref k4, .int (nI m), .ref k6, .ref k7, .ref k8, .int (nI 0), .ref k10, .int (nI 0), .ref k12, .ref k13, .ref k14, .ref k15, .ref k16, .int (nI ls), .int (nI ap), .int (bz bd), .int (nI sq), .ref k21, .ref k22, .ref k23, .ref k24, .ref k25, .int (bz pd), .int (nI pl), .int (bz tk), kv, .ref k30, .ref k31, .int (nI tz), .ref k33, .int (nI rs), .int sd])), (k1, .inl (cI, 7, .inl (nIf ki))), (k2, .inl (cI, 7, .inl (nIf op))), (k3, .inl (cI, 7, .inl (nIf (shF sh)))), (k4, .inl (cI, 7, .inl (nIf fa))), (k6, .inl (cI, 6, .inl (nIf K))), (k7, .inl (cI, 6, .inl (nIf G))), (k8, .inl (cI, 6, .inl (nIf T))), (k12, .inl (cI, 7, .inl (nIf kw1_25))), (k13, .inl (cI, 175, .inl (nIf kn1_26))), (k14, .inl (cI, 144, .inl (mIf M1_27))), (k15, .inl (cI, 7, .inl (nIf mw1_28))), (k10, .inl (cI, 7, .inl (nIf R))), (k33, .inl (cI, 24, .inl (nIf rw)))]
              have hsl9 : SAY (n, m, sh, 0, ki, op, fa, K, G, T) ju h < 1024 := say_lt hT
              refine v_is (lv2 := [(4, .int (nI (SAY (n, m, sh, 0, ki, op, fa, K, G, T) ju h))), (3, .int (nI h)), (2, .int (nI 0)), (0, .ref r0), (1, .int (nI ju))]) 89 zC dX5_sham_87 (by rw [hnE]; decide) rfl ?_
              refine v_al_n 90 zC dX5_sham_89 3 rfl ?_
              refine v_gf 93 0 zC dX5_sham_90 gf_X5_70 rfl rfl ?_
              refine v_il_n 94 zC dX5_sham_93 1 rfl ?_
              refine v_ialn (v := (nI (rw h))) 95 13 zC dX5_sham_94 rfl (by omega) rfl ?_
              have hb_35 := hrw h
              refine v_bp (v := (nI 10)) 97 zC dX5_sham_95 (by decide +kernel) ?_
              refine v_icmpn_ne 113 100 zC dX5_sham_97 (fun h_36 => ?_) (fun h_36 => ?_)
              ·
                have hn9 := h_36
                refine v_il 115 zC dX5_sham_113 0 rfl ?_
                refine v_al_n 116 zC dX5_sham_115 3 rfl ?_
                refine v_gf 119 0 zC dX5_sham_116 gf_X5_70 rfl rfl ?_
                refine v_il_n 120 zC dX5_sham_119 1 rfl ?_
                refine v_ialn (v := (nI (rw h))) 121 13 zC dX5_sham_120 rfl (by omega) rfl ?_
                have hb_37 := hrw h
                refine v_cS (As := [.int (nI (SAY (n, m, sh, 0, ki, op, fa, K, G, T) ju h)), .int (nI (rw h))]) (st := []) 124 [] zC dX5_sham_121 hA (c_X5_hasBit (ev_l E) (ev_D E) cI (x := (SAY (n, m, sh, 0, ki, op, fa, K, G, T) ju h)) (k := (rw h)) (hk := (by have := hz7 h (by omega); omega))) cf_X5_hasBit lk_X5_95 rfl rfl rfl (by decide +kernel) (Nat.le_of_ble_eq_true rfl) (fun rv_38 wv_39 hp_40 hm_41 => ?_)
                clear hm_41
                obtain ⟨rfl, rfl⟩ := hp_40
                show VV E 0 0 124 [(4, .int (nI (SAY (n, m, sh, 0, ki, op, fa, K, G, T) ju h))), (3, .int (nI h)), (2, .int (nI 0)), (0, .ref r0), (1, .int (nI ju))] [.int (bz (Nat.testBit (SAY (n, m, sh, 0, ki, op, fa, K, G, T) ju h) (rw h)))] [(r0, .inr (5, [.int (nI n), .ref k1, .ref k2, .ref k3, .ref k4, .int (nI m), .ref k6, .ref k7, .ref k8, .int (nI 0), .ref k10, .int (nI 0), .ref k12, .ref k13, .ref k14, .ref k15, .ref k16, .int (nI ls), .int (nI ap), .int (bz bd), .int (nI sq), .ref k21, .ref k22, .ref k23, .ref k24, .ref k25, .int (bz pd), .int (nI pl), .int (bz tk), kv, .ref k30, .ref k31, .int (nI tz), .ref k33, .int (nI rs), .int sd])), (k1, .inl (cI, 7, .inl (nIf ki))), (k2, .inl (cI, 7, .inl (nIf op))), (k3, .inl (cI, 7, .inl (nIf (shF sh)))), (k4, .inl (cI, 7, .inl (nIf fa))), (k6, .inl (cI, 6, .inl (nIf K))), (k7, .inl (cI, 6, .inl (nIf G))), (k8, .inl (cI, 6, .inl (nIf T))), (k12, .inl (cI, 7, .inl (nIf kw1_25))), (k13, .inl (cI, 175, .inl (nIf kn1_26))), (k14, .inl (cI, 144, .inl (mIf M1_27))), (k15, .inl (cI, 7, .inl (nIf mw1_28))), (k10, .inl (cI, 7, .inl (nIf R))), (k33, .inl (cI, 24, .inl (nIf rw)))]
                refine v_is (lv2 := [(5, .int (bz (Nat.testBit (SAY (n, m, sh, 0, ki, op, fa, K, G, T) ju h) (rw h)))), (4, .int (nI (SAY (n, m, sh, 0, ki, op, fa, K, G, T) ju h))), (3, .int (nI h)), (2, .int (nI 0)), (0, .ref r0), (1, .int (nI ju))]) 126 zC dX5_sham_124 (by rw [hnE]; decide) rfl ?_
                refine v_il 128 zC dX5_sham_126 0 rfl ?_
                refine v_ifb_ne 133 131 zC dX5_sham_128 (fun h_42 => ?_) (fun h_42 => ?_)
                ·
                  have hy9 := h_42
                  refine v_inc (v := (nI (h + 1))) (lv2 := [(3, .int (nI (h + 1))), (5, .int (bz (Nat.testBit (SAY (n, m, sh, 0, ki, op, fa, K, G, T) ju h) (rw h)))), (4, .int (nI (SAY (n, m, sh, 0, ki, op, fa, K, G, T) ju h))), (2, .int (nI 0)), (0, .ref r0), (1, .int (nI ju))]) 136 zC dX5_sham_133 (j := 2) rfl (nI_add _ 1) (by rw [hnE]; decide) rfl ?_
                  refine v_goto 73 zC dX5_sham_136 ?_
                  refine v_lvs (lv2 := [(3, .int (nI (h + 1))), (2, .int (nI 0)), (0, .ref r0), (1, .int (nI ju))]) [0, 3, 4, 5] rfl ?_
                  exact ih73 _ (by omega) (h + 1) (fs_0 hq9 (by first | exact congrArg not ((shb_10 he9).trans (decide_eq_true (say_0.mp hk9))) | exact congrArg not ((shb_f hn9).trans (say_bit.symm.trans hy9)))) (by first | omega | assumption | rfl | (simp only []; omega) | decide) rfl
                ·
                  have hy9 := h_42
                  refine v_il_n 132 zC dX5_sham_131 2 rfl ?_
                  refine v_iret zC zT dX5_sham_132  ?_
                  first | (have g9 := hn_u; exact ⟨kw, kn, M, mw, 1, _, by unfold q_sham; rw [hn_u], hkw, hkn, hM, rfl, rfl⟩) | (have g9 := hz6; exact ⟨kw, kn, M, mw, 3, _, by unfold q_sham; rw [hi_u]; dsimp only; rw [if_pos hz6], hkw, hkn, hM, rfl, rfl⟩) | exact ⟨_, _, _, _, 0, _, by unfold q_sham; rw [hi_u]; dsimp only; rw [hz8]; first | (have g8 := hend9; rw [show fs (fun h => !(SHB (n, m, sh, 0, ki, op, fa, K, G, T) ju rw h)) rs = none from by rw [show rs = h by omega]; exact hq9]; rfl) | (rw [show fs (fun h => !(SHB (n, m, sh, 0, ki, op, fa, K, G, T) ju rw h)) rs = some h from fs_m (show h + 1 ≤ rs by omega) (fs_1 hq9 (by first | exact congrArg not ((shb_10 he9).trans (decide_eq_false (fun z => hk9 (say_0.mpr z)))) | exact congrArg not ((shb_f hn9).trans (say_bit.symm.trans hy9))))]; rfl), hR9.2.2.2.1, hR9.2.2.2.2.1, hR9.2.2.2.2.2, rfl, rfl⟩
              ·
                have he9 := h_36
                refine v_il 102 zC dX5_sham_100 0 rfl ?_
                refine v_ifn_ne 109 105 zC dX5_sham_102 (fun h_43 => ?_) (fun h_43 => ?_)
                ·
                  have hk9 := h_43
                  refine v_ic (v := (nI 0)) 110 zC dX5_sham_109 (by decide +kernel) ?_
                  refine v_goto 124 zC dX5_sham_110 ?_
                  refine v_is (lv2 := [(5, .int (nI 0)), (4, .int (nI (SAY (n, m, sh, 0, ki, op, fa, K, G, T) ju h))), (3, .int (nI h)), (2, .int (nI 0)), (0, .ref r0), (1, .int (nI ju))]) 126 zC dX5_sham_124 (by rw [hnE]; decide) rfl ?_
                  refine v_il 128 zC dX5_sham_126 0 rfl ?_
                  refine v_if_ne 133 131 zC dX5_sham_128 (fun z => absurd (by decide +kernel) z) (fun _ => ?_)
                  refine v_il_n 132 zC dX5_sham_131 2 rfl ?_
                  refine v_iret zC zT dX5_sham_132  ?_
                  first | (have g9 := hn_u; exact ⟨kw, kn, M, mw, 1, _, by unfold q_sham; rw [hn_u], hkw, hkn, hM, rfl, rfl⟩) | (have g9 := hz6; exact ⟨kw, kn, M, mw, 3, _, by unfold q_sham; rw [hi_u]; dsimp only; rw [if_pos hz6], hkw, hkn, hM, rfl, rfl⟩) | exact ⟨_, _, _, _, 0, _, by unfold q_sham; rw [hi_u]; dsimp only; rw [hz8]; first | (have g8 := hend9; rw [show fs (fun h => !(SHB (n, m, sh, 0, ki, op, fa, K, G, T) ju rw h)) rs = none from by rw [show rs = h by omega]; exact hq9]; rfl) | (rw [show fs (fun h => !(SHB (n, m, sh, 0, ki, op, fa, K, G, T) ju rw h)) rs = some h from fs_m (show h + 1 ≤ rs by omega) (fs_1 hq9 (by first | exact congrArg not ((shb_10 he9).trans (decide_eq_false (fun z => hk9 (say_0.mpr z)))) | exact congrArg not ((shb_f hn9).trans (say_bit.symm.trans hy9))))]; rfl), hR9.2.2.2.1, hR9.2.2.2.2.1, hR9.2.2.2.2.2, rfl, rfl⟩
                ·
                  have hk9 := h_43
                  refine v_ic (v := (nI 1)) 106 zC dX5_sham_105 (by decide +kernel) ?_
                  refine v_goto 124 zC dX5_sham_106 ?_
                  refine v_is (lv2 := [(5, .int (nI 1)), (4, .int (nI (SAY (n, m, sh, 0, ki, op, fa, K, G, T) ju h))), (3, .int (nI h)), (2, .int (nI 0)), (0, .ref r0), (1, .int (nI ju))]) 126 zC dX5_sham_124 (by rw [hnE]; decide) rfl ?_
                  refine v_il 128 zC dX5_sham_126 0 rfl ?_
                  refine v_if_ne 133 131 zC dX5_sham_128 (fun _ => ?_) (fun z => absurd z (by decide +kernel))
                  refine v_inc (v := (nI (h + 1))) (lv2 := [(3, .int (nI (h + 1))), (5, .int (nI 1)), (4, .int (nI (SAY (n, m, sh, 0, ki, op, fa, K, G, T) ju h))), (2, .int (nI 0)), (0, .ref r0), (1, .int (nI ju))]) 136 zC dX5_sham_133 (j := 2) rfl (nI_add _ 1) (by rw [hnE]; decide) rfl ?_
                  refine v_goto 73 zC dX5_sham_136 ?_
                  refine v_lvs (lv2 := [(3, .int (nI (h + 1))), (2, .int (nI 0)), (0, .ref r0), (1, .int (nI ju))]) [0, 3, 4, 5] rfl ?_
                  exact ih73 _ (by omega) (h + 1) (fs_0 hq9 (by first | exact congrArg not ((shb_10 he9).trans (decide_eq_true (say_0.mp hk9))) | exact congrArg not ((shb_f hn9).trans (say_bit.symm.trans hy9)))) (by first | omega | assumption | rfl | (simp only []; omega) | decide) rfl
          refine v_lvs (lv2 := [(3, .int (nI 0)), (2, .int (nI 0)), (0, .ref r0), (1, .int (nI ju))]) [0, 1, 2, 3] rfl ?_
          exact lp73 _ 0 rfl (by first | omega | assumption | rfl | (simp only []; omega) | decide) rfl
        ·
          subst hw8
          have hz6 := hz8
          refine v_il_n 58 zC dX5_sham_57 1 rfl ?_
          refine v_if_ge 67 61 zC dX5_sham_58 (fun z => absurd z (by decide +kernel)) (fun _ => ?_)
          refine v_al_n 62 zC dX5_sham_61 2 rfl ?_
          refine v_il_n 63 zC dX5_sham_62 1 rfl ?_
          refine v_cV (As := [.int (-3)]) (st := []) 66 0 [0, 12] zC dX5_sham_63 hA (c_X5_refuse (ev_l E) (ev_D E) cI (r0 := r0) (k1 := k1) (k2 := k2) (k3 := k3) (k4 := k4) (k6 := k6) (k7 := k7) (k8 := k8) (k10 := k10) (k12 := k12) (k13 := k13) (k14 := k14) (k15 := k15) (k16 := k16) (k21 := k21) (k22 := k22) (k23 := k23) (k24 := k24) (k25 := k25) (k30 := k30) (k31 := k31) (k33 := k33) (n := n) (m := m) (aw := 0) (ls := ls) (ap := ap) (sq := sq) (pl := pl) (tz := tz) (rs := rs) (bd := bd) (pd := pd) (tk := tk) (kv := kv) (sd := sd) (R := R) (v := (-3)) (j := 3) (hv := (by first | omega | assumption | rfl | (simp only []; omega) | decide)) (h1 := (by first | omega | assumption | rfl | (simp only []; omega) | decide)) (h6 := (by first | omega | assumption | rfl | (simp only []; omega) | decide))) cf_X5_refuse lk_X5_129 rfl rfl rfl rfl rfl (by decide +kernel) (Nat.le_of_ble_eq_true rfl) (fun rv_47 wv_48 hp_49 hm_50 => ?_)
          clear hm_50
          obtain ⟨rfl, rfl⟩ := hp_49
          show VV E 0 0 66 [(3, .int (nI k)), (2, .int (-3)), (0, .ref r0), (1, .int (nI ju))] [.int (-3)] [(r0, .inr (5, [.int (nI n), .ref k1, .ref k2, .ref k3, .ref k4, .int (nI m), .ref k6, .ref k7, .ref k8, .int (nI 0), .ref k10, .int (nI 0), .ref k12, .ref k13, .ref k14, .ref k15, .ref k16, .int (nI ls), .int (nI ap), .int (bz bd), .int (nI sq), .ref k21, .ref k22, .ref k23, .ref k24, .ref k25, .int (bz pd), .int (nI pl), .int (bz tk), kv, .ref k30, .ref k31, .int (nI tz), .ref k33, .int (nI rs), .int sd])), (k1, .inl (cI, 7, .inl (nIf ki))), (k2, .inl (cI, 7, .inl (nIf op))), (k3, .inl (cI, 7, .inl (nIf (shF sh)))), (k4, .inl (cI, 7, .inl (nIf fa))), (k6, .inl (cI, 6, .inl (nIf K))), (k7, .inl (cI, 6, .inl (nIf G))), (k8, .inl (cI, 6, .inl (nIf T))), (k12, .inl (cI, 7, .inl (nIf kw))), (k13, .inl (cI, 175, .inl (nIf kn))), (k14, .inl (cI, 144, .inl (mIf M))), (k15, .inl (cI, 7, .inl (nIf mw))), (k10, .inl (cI, 7, .inl (nIf (un R 3 (R 3 + 1))))), (k33, .inl (cI, 24, .inl (nIf rw)))]
          refine v_iret zC zT dX5_sham_66  ?_
          first | (have g9 := hn_u; exact ⟨kw, kn, M, mw, 1, _, by unfold q_sham; rw [hn_u], hkw, hkn, hM, rfl, rfl⟩) | (have g9 := hz6; exact ⟨kw, kn, M, mw, 3, _, by unfold q_sham; rw [hi_u]; dsimp only; rw [if_pos hz6], hkw, hkn, hM, rfl, rfl⟩) | exact ⟨_, _, _, _, 0, _, by unfold q_sham; rw [hi_u]; dsimp only; rw [hz8]; first | (have g8 := hend9; rw [show fs (fun h => !(SHB (n, m, sh, 0, ki, op, fa, K, G, T) ju rw h)) rs = none from by rw [show rs = h by omega]; exact hq9]; rfl) | (rw [show fs (fun h => !(SHB (n, m, sh, 0, ki, op, fa, K, G, T) ju rw h)) rs = some h from fs_m (show h + 1 ≤ rs by omega) (fs_1 hq9 (by first | exact congrArg not ((shb_10 he9).trans (decide_eq_false (fun z => hk9 (say_0.mpr z)))) | exact congrArg not ((shb_f hn9).trans (say_bit.symm.trans hy9))))]; rfl), hR9.2.2.2.1, hR9.2.2.2.2.1, hR9.2.2.2.2.2, rfl, rfl⟩
      ·
        refine v_il_n 30 zC dX5_sham_29 1 rfl ?_
        refine v_if_ne 49 33 zC dX5_sham_30 (fun h_51 => ?_) (fun h_51 => ?_)
        ·
          have hz9 := h_51
          refine v_il_n 50 zC dX5_sham_49 1 rfl ?_
          refine v_is_n (lv2 := [(2, .int wr), (3, .int (nI k)), (0, .ref r0), (1, .int (nI ju))]) 51 zC dX5_sham_50 (by rw [hnE]; decide) rfl ?_
          refine v_inc (v := (nI (k + 1))) (lv2 := [(3, .int (nI (k + 1))), (2, .int wr), (0, .ref r0), (1, .int (nI ju))]) 54 zC dX5_sham_51 (j := 1) rfl (nI_add _ 1) (by rw [hnE]; decide) rfl ?_
          refine v_goto 21 zC dX5_sham_54 ?_
          refine v_lvs (lv2 := [(3, .int (nI (k + 1))), (2, .int wr), (0, .ref r0), (1, .int (nI ju))]) [0, 1, 2, 3] rfl ?_
          exact ih21 _ (by omega) wr (k + 1) (by first | omega | assumption | rfl | (simp only []; omega) | decide) (by first | exact shm_a hwr hz9 hu9 | exact shm_b hwr hz9 hv9 | exact shm_c hwr hz9) rfl
        ·
          have hz9 := h_51
          refine v_al_n 34 zC dX5_sham_33 2 rfl ?_
          refine v_gf 37 0 zC dX5_sham_34 gf_X5_70 rfl rfl ?_
          refine v_il_n 38 zC dX5_sham_37 0 rfl ?_
          refine v_ialn (v := (nI (rw k))) 39 13 zC dX5_sham_38 rfl (by omega) rfl ?_
          have hb_52 := hrw k
          refine v_bp (v := (nI 10)) 41 zC dX5_sham_39 (by decide +kernel) ?_
          refine v_icmpn_le 49 44 zC dX5_sham_41 (fun h_53 => ?_) (fun h_53 => ?_)
          ·
            have hv9 : ¬ 10 < rw k := Nat.not_lt.mpr h_53
            refine v_il_n 50 zC dX5_sham_49 1 rfl ?_
            refine v_is_n (lv2 := [(2, .int wr), (3, .int (nI k)), (0, .ref r0), (1, .int (nI ju))]) 51 zC dX5_sham_50 (by rw [hnE]; decide) rfl ?_
            refine v_inc (v := (nI (k + 1))) (lv2 := [(3, .int (nI (k + 1))), (2, .int wr), (0, .ref r0), (1, .int (nI ju))]) 54 zC dX5_sham_51 (j := 1) rfl (nI_add _ 1) (by rw [hnE]; decide) rfl ?_
            refine v_goto 21 zC dX5_sham_54 ?_
            refine v_lvs (lv2 := [(3, .int (nI (k + 1))), (2, .int wr), (0, .ref r0), (1, .int (nI ju))]) [0, 1, 2, 3] rfl ?_
            exact ih21 _ (by omega) wr (k + 1) (by first | omega | assumption | rfl | (simp only []; omega) | decide) (by first | exact shm_a hwr hz9 hu9 | exact shm_b hwr hz9 hv9 | exact shm_c hwr hz9) rfl
          ·
            have hu9 : 10 < rw k := h_53
            refine v_bp (v := (-3)) 46 zC dX5_sham_44 (by decide +kernel) ?_
            refine v_goto 50 zC dX5_sham_46 ?_
            refine v_is_n (lv2 := [(2, .int (-3)), (3, .int (nI k)), (0, .ref r0), (1, .int (nI ju))]) 51 zC dX5_sham_50 (by rw [hnE]; decide) rfl ?_
            refine v_inc (v := (nI (k + 1))) (lv2 := [(3, .int (nI (k + 1))), (2, .int (-3)), (0, .ref r0), (1, .int (nI ju))]) 54 zC dX5_sham_51 (j := 1) rfl (nI_add _ 1) (by rw [hnE]; decide) rfl ?_
            refine v_goto 21 zC dX5_sham_54 ?_
            refine v_lvs (lv2 := [(3, .int (nI (k + 1))), (2, .int (-3)), (0, .ref r0), (1, .int (nI ju))]) [0, 1, 2, 3] rfl ?_
            exact ih21 _ (by omega) (-3) (k + 1) (by first | omega | assumption | rfl | (simp only []; omega) | decide) (by first | exact shm_a hwr hz9 hu9 | exact shm_b hwr hz9 hv9 | exact shm_c hwr hz9) rfl
    refine v_lvs (lv2 := [(3, .int (nI 0)), (2, .int (nI 0)), (0, .ref r0), (1, .int (nI ju))]) [0, 1, 2, 3] rfl ?_
    exact lp21 _ (nI 0) 0 (by first | omega | assumption | rfl | (simp only []; omega) | decide) (Or.inl ⟨rfl, rfl⟩) rfl
