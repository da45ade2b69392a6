/-! a family told to the reference -/

set_option maxRecDepth 100000 in
set_option maxHeartbeats 4000000 in
theorem c_X5_readStatement (l : Launch) (D : va_G) (cI : ClassId) (r0 k1 k2 k3 k4 k6 k7 k8 k10 k12 k13 k14 k15 k16 k21 k22 k23 k24 k25 k30 k31 k33 : Nat) (n m aw ls ap sq pl tz rs : Nat) (pd tk : Bool) (kv : Value) (sd : Int32) (sg pi tl : Nat → Nat) (lo : Nat → Int32) (hl : ls ≤ 96) (hsg : ∀ z, sg z < 256) (ha : ap ≤ ls) (hsq : sq ≤ 32) : CT l yX5_readStatement cX5_readStatement 3 none { frames := 3, cells := 0, slots := 0, locals := 70 } D cI [.ref r0] [(r0, .inr (5, [.int (nI n), .ref k1, .ref k2, .ref k3, .ref k4, .int (nI m), .ref k6, .ref k7, .ref k8, .int (nI 0), .ref k10, .int (nI aw), .ref k12, .ref k13, .ref k14, .ref k15, .ref k16, .int (nI ls), .int (nI ap), .int (bz false), .int (nI sq), .ref k21, .ref k22, .ref k23, .ref k24, .ref k25, .int (bz pd), .int (nI pl), .int (bz tk), kv, .ref k30, .ref k31, .int (nI tz), .ref k33, .int (nI rs), .int sd])), (k16, .inl (cI, 96, .inl (nIf sg))), (k21, .inl (cI, 49, .inl (nIf pi))), (k22, .inl (cI, 49, .inl lo)), (k23, .inl (cI, 147, .inl (nIf tl)))] (fun zr zw => (∃ a2 : Nat, ∃ t1 : Nat → Nat, (SC ls sg ap = none) ∧ (ap < ls) ∧ (TLS sg (sg ap) (ap + 1) t1 (3 * sq)) ∧ (∀ z, z < 3 * sq → t1 z = tl z) ∧ (a2 = NXT sg ap) ∧ zr = none ∧ zw = [(r0, .inr (5, [.int (nI n), .ref k1, .ref k2, .ref k3, .ref k4, .int (nI m), .ref k6, .ref k7, .ref k8, .int (nI 0), .ref k10, .int (nI aw), .ref k12, .ref k13, .ref k14, .ref k15, .ref k16, .int (nI ls), .int (nI a2), .int (bz false), .int (nI (sq + 1)), .ref k21, .ref k22, .ref k23, .ref k24, .ref k25, .int (bz pd), .int (nI pl), .int (bz tk), kv, .ref k30, .ref k31, .int (nI tz), .ref k33, .int (nI rs), .int sd])), (k16, .inl (cI, 96, .inl (nIf sg))), (k21, .inl (cI, 49, .inl (nIf (un pi sq ap)))), (k22, .inl (cI, 49, .inl (upd lo sq (nI (sg ap))))), (k23, .inl (cI, 147, .inl (nIf t1)))]) ∨ (∃ b : Nat, ∃ p2 : Nat → Nat, ∃ l2 : Nat → Int32, ∃ t2 : Nat → Nat, ((ls ≤ ap ∧ b = ap) ∨ (ap < ls ∧ SC ls sg ap = some b)) ∧ (b ≤ 96) ∧ zr = none ∧ zw = [(r0, .inr (5, [.int (nI n), .ref k1, .ref k2, .ref k3, .ref k4, .int (nI m), .ref k6, .ref k7, .ref k8, .int (nI 0), .ref k10, .int (nI aw), .ref k12, .ref k13, .ref k14, .ref k15, .ref k16, .int (nI ls), .int (nI b), .int (bz true), .int (nI (sq + 1)), .ref k21, .ref k22, .ref k23, .ref k24, .ref k25, .int (bz pd), .int (nI pl), .int (bz tk), kv, .ref k30, .ref k31, .int (nI tz), .ref k33, .int (nI rs), .int sd])), (k16, .inl (cI, 96, .inl (nIf sg))), (k21, .inl (cI, 49, .inl (nIf p2))), (k22, .inl (cI, 49, .inl l2)), (k23, .inl (cI, 147, .inl (nIf t2)))])) := by
  refine CT_of RX5 rfl (by decide +kernel) (Nat.le_of_ble_eq_true rfl) (fun E hnE zC zT => ?_)
  have hA : ∀ q, (ev_s E).heap.size ≤ q → ev_A E q := fun q h => by rw [zT.2]; exact Or.inr h
  show VV E 0 0 0 [(0, .ref r0)] [] [(r0, .inr (5, [.int (nI n), .ref k1, .ref k2, .ref k3, .ref k4, .int (nI m), .ref k6, .ref k7, .ref k8, .int (nI 0), .ref k10, .int (nI aw), .ref k12, .ref k13, .ref k14, .ref k15, .ref k16, .int (nI ls), .int (nI ap), .int (bz false), .int (nI sq), .ref k21, .ref k22, .ref k23, .ref k24, .ref k25, .int (bz pd), .int (nI pl), .int (bz tk), kv, .ref k30, .ref k31, .int (nI tz), .ref k33, .int (nI rs), .int sd])), (k16, .inl (cI, 96, .inl (nIf sg))), (k21, .inl (cI, 49, .inl (nIf pi))), (k22, .inl (cI, 49, .inl lo)), (k23, .inl (cI, 147, .inl (nIf tl)))]
  refine v_al_n 1 zC dX5_readStatement_0 0 rfl ?_
  refine v_gf 4 0 zC dX5_readStatement_1 gf_X5_153 rfl rfl ?_
  refine v_is_n (lv2 := [(1, .int (nI sq)), (0, .ref r0)]) 5 zC dX5_readStatement_4 (by rw [hnE]; decide) rfl ?_
  refine v_al_n 6 zC dX5_readStatement_5 1 rfl ?_
  refine v_cV (As := []) (st := []) 9 0 [0, 1] zC dX5_readStatement_6 hA (c_X5_here (ev_l E) (ev_D E) cI (r0 := r0) (k1 := k1) (k2 := k2) (k3 := k3) (k4 := k4) (k6 := k6) (k7 := k7) (k8 := k8) (k10 := k10) (k12 := k12) (k13 := k13) (k14 := k14) (k15 := k15) (k16 := k16) (k21 := k21) (k22 := k22) (k23 := k23) (k24 := k24) (k25 := k25) (k30 := k30) (k31 := k31) (k33 := k33) (n := n) (m := m) (aw := aw) (ls := ls) (ap := ap) (sq := sq) (pl := pl) (tz := tz) (rs := rs) (bd := false) (pd := pd) (tk := tk) (kv := kv) (sd := sd) (sg := sg) (hl := (by first | omega | assumption | rfl | (simp only []; omega) | decide)) (ha := (by first | omega | assumption | rfl | (simp only []; omega) | decide))) cf_X5_here lk_X5_142 rfl rfl rfl rfl rfl (by decide +kernel) (Nat.le_of_ble_eq_true rfl) (fun rv_1 wv_2 hp_3 hm_4 => ?_)
  clear hm_4
  rcases hp_3 with ⟨hq_5, rfl, rfl⟩ | ⟨hq_6, rfl, rfl⟩
  ·
    show VV E 0 0 9 [(1, .int (nI sq)), (0, .ref r0)] [.int (-1)] [(r0, .inr (5, [.int (nI n), .ref k1, .ref k2, .ref k3, .ref k4, .int (nI m), .ref k6, .ref k7, .ref k8, .int (nI 0), .ref k10, .int (nI aw), .ref k12, .ref k13, .ref k14, .ref k15, .ref k16, .int (nI ls), .int (nI ap), .int (bz false), .int (nI sq), .ref k21, .ref k22, .ref k23, .ref k24, .ref k25, .int (bz pd), .int (nI pl), .int (bz tk), kv, .ref k30, .ref k31, .int (nI tz), .ref k33, .int (nI rs), .int sd])), (k16, .inl (cI, 96, .inl (nIf sg))), (k21, .inl (cI, 49, .inl (nIf pi))), (k22, .inl (cI, 49, .inl lo)), (k23, .inl (cI, 147, .inl (nIf tl)))]
    have hge9 := hq_5
    refine v_is_n (lv2 := [(2, .int (-1)), (1, .int (nI sq)), (0, .ref r0)]) 10 zC dX5_readStatement_9 (by rw [hnE]; decide) rfl ?_
    refine v_al_n 11 zC dX5_readStatement_10 2 rfl ?_
    refine v_gf 14 0 zC dX5_readStatement_11 gf_X5_49 rfl rfl ?_
    refine v_il_n 15 zC dX5_readStatement_14 1 rfl ?_
    refine v_al_n 16 zC dX5_readStatement_15 2 rfl ?_
    refine v_gf 19 0 zC dX5_readStatement_16 gf_X5_135 rfl rfl ?_
    refine v_iasn (ws2 := [(r0, .inr (5, [.int (nI n), .ref k1, .ref k2, .ref k3, .ref k4, .int (nI m), .ref k6, .ref k7, .ref k8, .int (nI 0), .ref k10, .int (nI aw), .ref k12, .ref k13, .ref k14, .ref k15, .ref k16, .int (nI ls), .int (nI ap), .int (bz false), .int (nI sq), .ref k21, .ref k22, .ref k23, .ref k24, .ref k25, .int (bz pd), .int (nI pl), .int (bz tk), kv, .ref k30, .ref k31, .int (nI tz), .ref k33, .int (nI rs), .int sd])), (k16, .inl (cI, 96, .inl (nIf sg))), (k21, .inl (cI, 49, .inl (nIf (un pi sq ap)))), (k22, .inl (cI, 49, .inl lo)), (k23, .inl (cI, 147, .inl (nIf tl)))]) 20 2 zC dX5_readStatement_19 rfl (by omega) (by rw [upd_nIf]; first | done | rfl) ?_
    refine v_al_n 21 zC dX5_readStatement_20 2 rfl ?_
    refine v_gf 24 0 zC dX5_readStatement_21 gf_X5_52 rfl rfl ?_
    refine v_il_n 25 zC dX5_readStatement_24 1 rfl ?_
    refine v_il_n 26 zC dX5_readStatement_25 0 rfl ?_
    refine v_iasn (ws2 := [(r0, .inr (5, [.int (nI n), .ref k1, .ref k2, .ref k3, .ref k4, .int (nI m), .ref k6, .ref k7, .ref k8, .int (nI 0), .ref k10, .int (nI aw), .ref k12, .ref k13, .ref k14, .ref k15, .ref k16, .int (nI ls), .int (nI ap), .int (bz false), .int (nI sq), .ref k21, .ref k22, .ref k23, .ref k24, .ref k25, .int (bz pd), .int (nI pl), .int (bz tk), kv, .ref k30, .ref k31, .int (nI tz), .ref k33, .int (nI rs), .int sd])), (k16, .inl (cI, 96, .inl (nIf sg))), (k21, .inl (cI, 49, .inl (nIf (un pi sq ap)))), (k22, .inl (cI, 49, .inl (upd lo sq (-1)))), (k23, .inl (cI, 147, .inl (nIf tl)))]) 27 3 zC dX5_readStatement_26 rfl (by omega) rfl ?_
    refine v_al_n 28 zC dX5_readStatement_27 2 rfl ?_
    refine v_al_n 29 zC dX5_readStatement_28 2 rfl ?_
    refine v_gf 32 0 zC dX5_readStatement_29 gf_X5_138 rfl rfl ?_
    refine v_ifb_ne 42 35 zC dX5_readStatement_32 (fun z => absurd z (by decide)) (fun _ => ?_)
    refine v_il_n 36 zC dX5_readStatement_35 0 rfl ?_
    refine v_cS (As := [.int (-1)]) (st := [.ref r0]) 39 [] zC dX5_readStatement_36 hA (c_X5_isLetter__M (ev_l E) (ev_D E) cI  ) cf_X5_isLetter lk_X5_156 rfl rfl rfl (by decide +kernel) (Nat.le_of_ble_eq_true rfl) (fun rv_8 wv_9 hp_10 hm_11 => ?_)
    clear hm_11
    obtain ⟨rfl, rfl⟩ := hp_10
    show VV E 0 0 39 [(2, .int (-1)), (1, .int (nI sq)), (0, .ref r0)] [.int (nI 0), .ref r0] [(r0, .inr (5, [.int (nI n), .ref k1, .ref k2, .ref k3, .ref k4, .int (nI m), .ref k6, .ref k7, .ref k8, .int (nI 0), .ref k10, .int (nI aw), .ref k12, .ref k13, .ref k14, .ref k15, .ref k16, .int (nI ls), .int (nI ap), .int (bz false), .int (nI sq), .ref k21, .ref k22, .ref k23, .ref k24, .ref k25, .int (bz pd), .int (nI pl), .int (bz tk), kv, .ref k30, .ref k31, .int (nI tz), .ref k33, .int (nI rs), .int sd])), (k16, .inl (cI, 96, .inl (nIf sg))), (k21, .inl (cI, 49, .inl (nIf (un pi sq ap)))), (k22, .inl (cI, 49, .inl (upd lo sq (-1)))), (k23, .inl (cI, 147, .inl (nIf tl)))]
    refine v_if_ne 46 42 zC dX5_readStatement_39 (fun z => absurd (by decide +kernel) z) (fun _ => ?_)
    refine v_ic (v := (nI 1)) 43 zC dX5_readStatement_42 (by decide +kernel) ?_
    refine v_goto 47 zC dX5_readStatement_43 ?_
    refine v_pf (ws2 := [(r0, .inr (5, [.int (nI n), .ref k1, .ref k2, .ref k3, .ref k4, .int (nI m), .ref k6, .ref k7, .ref k8, .int (nI 0), .ref k10, .int (nI aw), .ref k12, .ref k13, .ref k14, .ref k15, .ref k16, .int (nI ls), .int (nI ap), .int (nI 1), .int (nI sq), .ref k21, .ref k22, .ref k23, .ref k24, .ref k25, .int (bz pd), .int (nI pl), .int (bz tk), kv, .ref k30, .ref k31, .int (nI tz), .ref k33, .int (nI rs), .int sd])), (k16, .inl (cI, 96, .inl (nIf sg))), (k21, .inl (cI, 49, .inl (nIf (un pi sq ap)))), (k22, .inl (cI, 49, .inl (upd lo sq (-1)))), (k23, .inl (cI, 147, .inl (nIf tl)))]) 50 0 zC dX5_readStatement_47 pf_X5_138 rfl (Nat.le_of_ble_eq_true rfl) (by decide +kernel) (by decide +kernel) rfl ?_
    refine v_al_n 51 zC dX5_readStatement_50 2 rfl ?_
    refine v_dup 52 zC dX5_readStatement_51 rfl ?_
    refine v_gf 55 0 zC dX5_readStatement_52 gf_X5_135 rfl rfl ?_
    refine v_al_n 56 zC dX5_readStatement_55 2 rfl ?_
    refine v_gf 59 0 zC dX5_readStatement_56 gf_X5_138 rfl rfl ?_
    refine v_if_eq 66 62 zC dX5_readStatement_59 (fun z => absurd z (by decide +kernel)) (fun _ => ?_)
    refine v_ic (v := (nI 0)) 63 zC dX5_readStatement_62 (by decide +kernel) ?_
    refine v_goto 67 zC dX5_readStatement_63 ?_
    refine v_iadd (v := (nI ap)) 68 zC dX5_readStatement_67 (nI_add _ 0) ?_
    refine v_pf (ws2 := [(r0, .inr (5, [.int (nI n), .ref k1, .ref k2, .ref k3, .ref k4, .int (nI m), .ref k6, .ref k7, .ref k8, .int (nI 0), .ref k10, .int (nI aw), .ref k12, .ref k13, .ref k14, .ref k15, .ref k16, .int (nI ls), .int (nI ap), .int (nI 1), .int (nI sq), .ref k21, .ref k22, .ref k23, .ref k24, .ref k25, .int (bz pd), .int (nI pl), .int (bz tk), kv, .ref k30, .ref k31, .int (nI tz), .ref k33, .int (nI rs), .int sd])), (k16, .inl (cI, 96, .inl (nIf sg))), (k21, .inl (cI, 49, .inl (nIf (un pi sq ap)))), (k22, .inl (cI, 49, .inl (upd lo sq (-1)))), (k23, .inl (cI, 147, .inl (nIf tl)))]) 71 0 zC dX5_readStatement_68 pf_X5_135 rfl (Nat.le_of_ble_eq_true rfl) rfl rfl rfl ?_
    refine v_al_n 72 zC dX5_readStatement_71 2 rfl ?_
    refine v_gf 75 0 zC dX5_readStatement_72 gf_X5_138 rfl rfl ?_
    refine v_if_ne 86 78 zC dX5_readStatement_75 (fun _ => ?_) (fun z => absurd z (by decide +kernel))
    refine v_al_n 87 zC dX5_readStatement_86 2 rfl ?_
    refine v_al_n 88 zC dX5_readStatement_87 2 rfl ?_
    refine v_gf 91 0 zC dX5_readStatement_88 gf_X5_138 rfl rfl ?_
    refine v_if_ne 103 94 zC dX5_readStatement_91 (fun _ => ?_) (fun z => absurd z (by decide +kernel))
    refine v_ic (v := (nI 1)) 104 zC dX5_readStatement_103 (by decide +kernel) ?_
    refine v_goto 108 zC dX5_readStatement_104 ?_
    refine v_pf (ws2 := [(r0, .inr (5, [.int (nI n), .ref k1, .ref k2, .ref k3, .ref k4, .int (nI m), .ref k6, .ref k7, .ref k8, .int (nI 0), .ref k10, .int (nI aw), .ref k12, .ref k13, .ref k14, .ref k15, .ref k16, .int (nI ls), .int (nI ap), .int (nI 1), .int (nI sq), .ref k21, .ref k22, .ref k23, .ref k24, .ref k25, .int (bz pd), .int (nI pl), .int (bz tk), kv, .ref k30, .ref k31, .int (nI tz), .ref k33, .int (nI rs), .int sd])), (k16, .inl (cI, 96, .inl (nIf sg))), (k21, .inl (cI, 49, .inl (nIf (un pi sq ap)))), (k22, .inl (cI, 49, .inl (upd lo sq (-1)))), (k23, .inl (cI, 147, .inl (nIf tl)))]) 111 0 zC dX5_readStatement_108 pf_X5_138 rfl (Nat.le_of_ble_eq_true rfl) (by decide +kernel) (by decide +kernel) rfl ?_
    refine v_al_n 112 zC dX5_readStatement_111 2 rfl ?_
    refine v_dup 113 zC dX5_readStatement_112 rfl ?_
    refine v_gf 116 0 zC dX5_readStatement_113 gf_X5_135 rfl rfl ?_
    refine v_al_n 117 zC dX5_readStatement_116 2 rfl ?_
    refine v_gf 120 0 zC dX5_readStatement_117 gf_X5_138 rfl rfl ?_
    refine v_if_eq 127 123 zC dX5_readStatement_120 (fun z => absurd z (by decide +kernel)) (fun _ => ?_)
    refine v_ic (v := (nI 0)) 124 zC dX5_readStatement_123 (by decide +kernel) ?_
    refine v_goto 128 zC dX5_readStatement_124 ?_
    refine v_iadd (v := (nI ap)) 129 zC dX5_readStatement_128 (nI_add _ 0) ?_
    refine v_pf (ws2 := [(r0, .inr (5, [.int (nI n), .ref k1, .ref k2, .ref k3, .ref k4, .int (nI m), .ref k6, .ref k7, .ref k8, .int (nI 0), .ref k10, .int (nI aw), .ref k12, .ref k13, .ref k14, .ref k15, .ref k16, .int (nI ls), .int (nI ap), .int (nI 1), .int (nI sq), .ref k21, .ref k22, .ref k23, .ref k24, .ref k25, .int (bz pd), .int (nI pl), .int (bz tk), kv, .ref k30, .ref k31, .int (nI tz), .ref k33, .int (nI rs), .int sd])), (k16, .inl (cI, 96, .inl (nIf sg))), (k21, .inl (cI, 49, .inl (nIf (un pi sq ap)))), (k22, .inl (cI, 49, .inl (upd lo sq (-1)))), (k23, .inl (cI, 147, .inl (nIf tl)))]) 132 0 zC dX5_readStatement_129 pf_X5_135 rfl (Nat.le_of_ble_eq_true rfl) rfl rfl rfl ?_
    refine v_al_n 133 zC dX5_readStatement_132 2 rfl ?_
    refine v_dup 134 zC dX5_readStatement_133 rfl ?_
    refine v_gf 137 0 zC dX5_readStatement_134 gf_X5_153 rfl rfl ?_
    refine v_ic (v := (nI 1)) 138 zC dX5_readStatement_137 (by decide +kernel) ?_
    refine v_iadd (v := (nI (sq + 1))) 139 zC dX5_readStatement_138 (nI_add _ _) ?_
    refine v_pf (ws2 := [(r0, .inr (5, [.int (nI n), .ref k1, .ref k2, .ref k3, .ref k4, .int (nI m), .ref k6, .ref k7, .ref k8, .int (nI 0), .ref k10, .int (nI aw), .ref k12, .ref k13, .ref k14, .ref k15, .ref k16, .int (nI ls), .int (nI ap), .int (nI 1), .int (nI (sq + 1)), .ref k21, .ref k22, .ref k23, .ref k24, .ref k25, .int (bz pd), .int (nI pl), .int (bz tk), kv, .ref k30, .ref k31, .int (nI tz), .ref k33, .int (nI rs), .int sd])), (k16, .inl (cI, 96, .inl (nIf sg))), (k21, .inl (cI, 49, .inl (nIf (un pi sq ap)))), (k22, .inl (cI, 49, .inl (upd lo sq (-1)))), (k23, .inl (cI, 147, .inl (nIf tl)))]) 142 0 zC dX5_readStatement_139 pf_X5_153 rfl (Nat.le_of_ble_eq_true rfl) rfl rfl rfl ?_
    refine v_vret zC zT dX5_readStatement_142  ?_
    first | (have g9 := h59; exact Or.inl ⟨_, _, sc_3i hv rfl hf9 ⟨hln9, h59⟩, hlt9, ht9, hs9, by rw [nxt_v hv]; omega, rfl, rfl⟩) | (have g9 := hge9; exact Or.inr ⟨_, _, _, _, Or.inl ⟨hge9, rfl⟩, by omega, rfl, rfl⟩) | (have g9 := hd0; exact Or.inr ⟨_, _, _, _, Or.inr ⟨hlt9, sc_0 hd0⟩, by omega, rfl, rfl⟩) | (have g9 := hfB; exact Or.inr ⟨_, _, _, _, Or.inr ⟨hlt9, sc_f1 hv hfB⟩, by omega, rfl, rfl⟩) | (have g9 := hgn9; exact Or.inr ⟨_, _, _, _, Or.inr ⟨hlt9, sc_2i hv rfl hf9 (fun z => by omega)⟩, by omega, rfl, rfl⟩) | (have g9 := hn59; exact Or.inr ⟨_, _, _, _, Or.inr ⟨hlt9, sc_2i hv rfl hf9 (fun z => hn59 z.2)⟩, by omega, rfl, rfl⟩)
  ·
    show VV E 0 0 9 [(1, .int (nI sq)), (0, .ref r0)] [.int (nI (sg ap))] [(r0, .inr (5, [.int (nI n), .ref k1, .ref k2, .ref k3, .ref k4, .int (nI m), .ref k6, .ref k7, .ref k8, .int (nI 0), .ref k10, .int (nI aw), .ref k12, .ref k13, .ref k14, .ref k15, .ref k16, .int (nI ls), .int (nI ap), .int (bz false), .int (nI sq), .ref k21, .ref k22, .ref k23, .ref k24, .ref k25, .int (bz pd), .int (nI pl), .int (bz tk), kv, .ref k30, .ref k31, .int (nI tz), .ref k33, .int (nI rs), .int sd])), (k16, .inl (cI, 96, .inl (nIf sg))), (k21, .inl (cI, 49, .inl (nIf pi))), (k22, .inl (cI, 49, .inl lo)), (k23, .inl (cI, 147, .inl (nIf tl)))]
    have hlt9 := hq_6
    have hga := hsg ap
    refine v_is_n (lv2 := [(2, .int (nI (sg ap))), (1, .int (nI sq)), (0, .ref r0)]) 10 zC dX5_readStatement_9 (by rw [hnE]; decide) rfl ?_
    refine v_al_n 11 zC dX5_readStatement_10 2 rfl ?_
    refine v_gf 14 0 zC dX5_readStatement_11 gf_X5_49 rfl rfl ?_
    refine v_il_n 15 zC dX5_readStatement_14 1 rfl ?_
    refine v_al_n 16 zC dX5_readStatement_15 2 rfl ?_
    refine v_gf 19 0 zC dX5_readStatement_16 gf_X5_135 rfl rfl ?_
    refine v_iasn (ws2 := [(r0, .inr (5, [.int (nI n), .ref k1, .ref k2, .ref k3, .ref k4, .int (nI m), .ref k6, .ref k7, .ref k8, .int (nI 0), .ref k10, .int (nI aw), .ref k12, .ref k13, .ref k14, .ref k15, .ref k16, .int (nI ls), .int (nI ap), .int (bz false), .int (nI sq), .ref k21, .ref k22, .ref k23, .ref k24, .ref k25, .int (bz pd), .int (nI pl), .int (bz tk), kv, .ref k30, .ref k31, .int (nI tz), .ref k33, .int (nI rs), .int sd])), (k16, .inl (cI, 96, .inl (nIf sg))), (k21, .inl (cI, 49, .inl (nIf (un pi sq ap)))), (k22, .inl (cI, 49, .inl lo)), (k23, .inl (cI, 147, .inl (nIf tl)))]) 20 2 zC dX5_readStatement_19 rfl (by omega) (by rw [upd_nIf]; first | done | rfl) ?_
    refine v_al_n 21 zC dX5_readStatement_20 2 rfl ?_
    refine v_gf 24 0 zC dX5_readStatement_21 gf_X5_52 rfl rfl ?_
    refine v_il_n 25 zC dX5_readStatement_24 1 rfl ?_
    refine v_il_n 26 zC dX5_readStatement_25 0 rfl ?_
    refine v_iasn (ws2 := [(r0, .inr (5, [.int (nI n), .ref k1, .ref k2, .ref k3, .ref k4, .int (nI m), .ref k6, .ref k7, .ref k8, .int (nI 0), .ref k10, .int (nI aw), .ref k12, .ref k13, .ref k14, .ref k15, .ref k16, .int (nI ls), .int (nI ap), .int (bz false), .int (nI sq), .ref k21, .ref k22, .ref k23, .ref k24, .ref k25, .int (bz pd), .int (nI pl), .int (bz tk), kv, .ref k30, .ref k31, .int (nI tz), .ref k33, .int (nI rs), .int sd])), (k16, .inl (cI, 96, .inl (nIf sg))), (k21, .inl (cI, 49, .inl (nIf (un pi sq ap)))), (k22, .inl (cI, 49, .inl (upd lo sq (nI (sg ap))))), (k23, .inl (cI, 147, .inl (nIf tl)))]) 27 3 zC dX5_readStatement_26 rfl (by omega) rfl ?_
    refine v_al_n 28 zC dX5_readStatement_27 2 rfl ?_
    refine v_al_n 29 zC dX5_readStatement_28 2 rfl ?_
    refine v_gf 32 0 zC dX5_readStatement_29 gf_X5_138 rfl rfl ?_
    refine v_ifb_ne 42 35 zC dX5_readStatement_32 (fun z => absurd z (by decide)) (fun _ => ?_)
    refine v_il_n 36 zC dX5_readStatement_35 0 rfl ?_
    refine v_cS (As := [.int (nI (sg ap))]) (st := [.ref r0]) 39 [] zC dX5_readStatement_36 hA (c_X5_isLetter__N (ev_l E) (ev_D E) cI (c := (sg ap)) (hc := (by first | omega | assumption | rfl | (simp only []; omega) | decide))) cf_X5_isLetter lk_X5_156 rfl rfl rfl (by decide +kernel) (Nat.le_of_ble_eq_true rfl) (fun rv_18 wv_19 hp_20 hm_21 => ?_)
    clear hm_21
    obtain ⟨rfl, rfl⟩ := hp_20
    show VV E 0 0 39 [(2, .int (nI (sg ap))), (1, .int (nI sq)), (0, .ref r0)] [.int (bz ((DB (sg ap)).isSome)), .ref r0] [(r0, .inr (5, [.int (nI n), .ref k1, .ref k2, .ref k3, .ref k4, .int (nI m), .ref k6, .ref k7, .ref k8, .int (nI 0), .ref k10, .int (nI aw), .ref k12, .ref k13, .ref k14, .ref k15, .ref k16, .int (nI ls), .int (nI ap), .int (bz false), .int (nI sq), .ref k21, .ref k22, .ref k23, .ref k24, .ref k25, .int (bz pd), .int (nI pl), .int (bz tk), kv, .ref k30, .ref k31, .int (nI tz), .ref k33, .int (nI rs), .int sd])), (k16, .inl (cI, 96, .inl (nIf sg))), (k21, .inl (cI, 49, .inl (nIf (un pi sq ap)))), (k22, .inl (cI, 49, .inl (upd lo sq (nI (sg ap))))), (k23, .inl (cI, 147, .inl (nIf tl)))]
    refine v_ifb_ne 46 42 zC dX5_readStatement_39 (fun h_22 => ?_) (fun h_22 => ?_)
    ·
      obtain ⟨v, hv⟩ := Option.isSome_iff_exists.mp h_22
      refine v_ic (v := (nI 0)) 47 zC dX5_readStatement_46 (by decide +kernel) ?_
      refine v_pf (ws2 := [(r0, .inr (5, [.int (nI n), .ref k1, .ref k2, .ref k3, .ref k4, .int (nI m), .ref k6, .ref k7, .ref k8, .int (nI 0), .ref k10, .int (nI aw), .ref k12, .ref k13, .ref k14, .ref k15, .ref k16, .int (nI ls), .int (nI ap), .int (nI 0), .int (nI sq), .ref k21, .ref k22, .ref k23, .ref k24, .ref k25, .int (bz pd), .int (nI pl), .int (bz tk), kv, .ref k30, .ref k31, .int (nI tz), .ref k33, .int (nI rs), .int sd])), (k16, .inl (cI, 96, .inl (nIf sg))), (k21, .inl (cI, 49, .inl (nIf (un pi sq ap)))), (k22, .inl (cI, 49, .inl (upd lo sq (nI (sg ap))))), (k23, .inl (cI, 147, .inl (nIf tl)))]) 50 0 zC dX5_readStatement_47 pf_X5_138 rfl (Nat.le_of_ble_eq_true rfl) (by decide +kernel) (by decide +kernel) rfl ?_
      refine v_al_n 51 zC dX5_readStatement_50 2 rfl ?_
      refine v_dup 52 zC dX5_readStatement_51 rfl ?_
      refine v_gf 55 0 zC dX5_readStatement_52 gf_X5_135 rfl rfl ?_
      refine v_al_n 56 zC dX5_readStatement_55 2 rfl ?_
      refine v_gf 59 0 zC dX5_readStatement_56 gf_X5_138 rfl rfl ?_
      refine v_if_eq 66 62 zC dX5_readStatement_59 (fun _ => ?_) (fun z => absurd (by decide +kernel) z)
      refine v_ic (v := (nI 1)) 67 zC dX5_readStatement_66 (by decide +kernel) ?_
      refine v_iadd (v := (nI (ap + 1))) 68 zC dX5_readStatement_67 (nI_add _ _) ?_
      refine v_pf (ws2 := [(r0, .inr (5, [.int (nI n), .ref k1, .ref k2, .ref k3, .ref k4, .int (nI m), .ref k6, .ref k7, .ref k8, .int (nI 0), .ref k10, .int (nI aw), .ref k12, .ref k13, .ref k14, .ref k15, .ref k16, .int (nI ls), .int (nI (ap + 1)), .int (nI 0), .int (nI sq), .ref k21, .ref k22, .ref k23, .ref k24, .ref k25, .int (bz pd), .int (nI pl), .int (bz tk), kv, .ref k30, .ref k31, .int (nI tz), .ref k33, .int (nI rs), .int sd])), (k16, .inl (cI, 96, .inl (nIf sg))), (k21, .inl (cI, 49, .inl (nIf (un pi sq ap)))), (k22, .inl (cI, 49, .inl (upd lo sq (nI (sg ap))))), (k23, .inl (cI, 147, .inl (nIf tl)))]) 71 0 zC dX5_readStatement_68 pf_X5_135 rfl (Nat.le_of_ble_eq_true rfl) rfl rfl rfl ?_
      refine v_al_n 72 zC dX5_readStatement_71 2 rfl ?_
      refine v_gf 75 0 zC dX5_readStatement_72 gf_X5_138 rfl rfl ?_
      refine v_if_ne 86 78 zC dX5_readStatement_75 (fun z => absurd (by decide +kernel) z) (fun _ => ?_)
      refine v_al_n 79 zC dX5_readStatement_78 2 rfl ?_
      refine v_il_n 80 zC dX5_readStatement_79 0 rfl ?_
      refine v_ic (v := (nI 3)) 81 zC dX5_readStatement_80 (by decide +kernel) ?_
      refine v_il_n 82 zC dX5_readStatement_81 1 rfl ?_
      refine v_imul (v := (nI (3 * sq))) 83 zC dX5_readStatement_82 (pk_mul _ _) ?_
      refine v_cV (As := [.int (nI (sg ap)), .int (nI (3 * sq))]) (st := []) 86 0 [0, 1, 4] zC dX5_readStatement_83 hA (c_X5_readNumbers (ev_l E) (ev_D E) cI (r0 := r0) (k1 := k1) (k2 := k2) (k3 := k3) (k4 := k4) (k6 := k6) (k7 := k7) (k8 := k8) (k10 := k10) (k12 := k12) (k13 := k13) (k14 := k14) (k15 := k15) (k16 := k16) (k21 := k21) (k22 := k22) (k23 := k23) (k24 := k24) (k25 := k25) (k30 := k30) (k31 := k31) (k33 := k33) (n := n) (m := m) (aw := aw) (ls := ls) (ap := (ap + 1)) (sq := sq) (pl := pl) (tz := tz) (rs := rs) (pd := pd) (tk := tk) (kv := kv) (sd := sd) (sg := sg) (tl := tl) (c := (sg ap)) (i := (3 * sq)) (v := v) (hl := (by first | omega | assumption | rfl | (simp only []; omega) | decide)) (hsg := (by first | omega | assumption | rfl | (simp only []; omega) | decide)) (ha := (by first | omega | assumption | rfl | (simp only []; omega) | decide)) (hi := (by first | omega | assumption | rfl | (simp only []; omega) | decide)) (hv := hv)) cf_X5_readNumbers lk_X5_160 rfl rfl rfl rfl rfl (by decide +kernel) (Nat.le_of_ble_eq_true rfl) (fun rv_25 wv_26 hp_27 hm_28 => ?_)
      clear hm_28
      rcases hp_27 with ⟨t1_29, hf_30, ht_31, hs_32, rfl, rfl⟩ | ⟨j_33, t1_34, hf_35, hj_36, hs_37, rfl, rfl⟩
      ·
        show VV E 0 0 86 [(2, .int (nI (sg ap))), (1, .int (nI sq)), (0, .ref r0)] [] [(r0, .inr (5, [.int (nI n), .ref k1, .ref k2, .ref k3, .ref k4, .int (nI m), .ref k6, .ref k7, .ref k8, .int (nI 0), .ref k10, .int (nI aw), .ref k12, .ref k13, .ref k14, .ref k15, .ref k16, .int (nI ls), .int (nI ((ap + 1) + v)), .int (bz false), .int (nI sq), .ref k21, .ref k22, .ref k23, .ref k24, .ref k25, .int (bz pd), .int (nI pl), .int (bz tk), kv, .ref k30, .ref k31, .int (nI tz), .ref k33, .int (nI rs), .int sd])), (k16, .inl (cI, 96, .inl (nIf sg))), (k21, .inl (cI, 49, .inl (nIf (un pi sq ap)))), (k22, .inl (cI, 49, .inl (upd lo sq (nI (sg ap))))), (k23, .inl (cI, 147, .inl (nIf t1_29)))]
        have hf9 := hf_30
        have ht9 := ht_31
        have hs9 := hs_32
        have hv1 := db_pos hv
        have hdl := (fd_dig hf9 (show v - 1 < v by omega)).1
        refine v_al_n 87 zC dX5_readStatement_86 2 rfl ?_
        refine v_al_n 88 zC dX5_readStatement_87 2 rfl ?_
        refine v_gf 91 0 zC dX5_readStatement_88 gf_X5_138 rfl rfl ?_
        refine v_ifb_ne 103 94 zC dX5_readStatement_91 (fun z => absurd z (by decide)) (fun _ => ?_)
        refine v_al_n 95 zC dX5_readStatement_94 2 rfl ?_
        refine v_cV (As := []) (st := [.ref r0]) 98 0 [0, 1] zC dX5_readStatement_95 hA (c_X5_here (ev_l E) (ev_D E) cI (r0 := r0) (k1 := k1) (k2 := k2) (k3 := k3) (k4 := k4) (k6 := k6) (k7 := k7) (k8 := k8) (k10 := k10) (k12 := k12) (k13 := k13) (k14 := k14) (k15 := k15) (k16 := k16) (k21 := k21) (k22 := k22) (k23 := k23) (k24 := k24) (k25 := k25) (k30 := k30) (k31 := k31) (k33 := k33) (n := n) (m := m) (aw := aw) (ls := ls) (ap := ((ap + 1) + v)) (sq := sq) (pl := pl) (tz := tz) (rs := rs) (bd := false) (pd := pd) (tk := tk) (kv := kv) (sd := sd) (sg := sg) (hl := (by first | omega | assumption | rfl | (simp only []; omega) | decide)) (ha := (by first | omega | assumption | rfl | (simp only []; omega) | decide))) cf_X5_here lk_X5_142 rfl rfl rfl rfl rfl (by decide +kernel) (Nat.le_of_ble_eq_true rfl) (fun rv_39 wv_40 hp_41 hm_42 => ?_)
        clear hm_42
        rcases hp_41 with ⟨hq_43, rfl, rfl⟩ | ⟨hq_44, rfl, rfl⟩
        ·
          show VV E 0 0 98 [(2, .int (nI (sg ap))), (1, .int (nI sq)), (0, .ref r0)] [.int (-1), .ref r0] [(r0, .inr (5, [.int (nI n), .ref k1, .ref k2, .ref k3, .ref k4, .int (nI m), .ref k6, .ref k7, .ref k8, .int (nI 0), .ref k10, .int (nI aw), .ref k12, .ref k13, .ref k14, .ref k15, .ref k16, .int (nI ls), .int (nI ((ap + 1) + v)), .int (bz false), .int (nI sq), .ref k21, .ref k22, .ref k23, .ref k24, .ref k25, .int (bz pd), .int (nI pl), .int (bz tk), kv, .ref k30, .ref k31, .int (nI tz), .ref k33, .int (nI rs), .int sd])), (k16, .inl (cI, 96, .inl (nIf sg))), (k21, .inl (cI, 49, .inl (nIf (un pi sq ap)))), (k22, .inl (cI, 49, .inl (upd lo sq (nI (sg ap))))), (k23, .inl (cI, 147, .inl (nIf t1_29)))]
          have hgn9 := hq_43
          refine v_bp (v := (nI 59)) 100 zC dX5_readStatement_98 (by decide +kernel) ?_
          refine v_icmp_eq 107 103 zC dX5_readStatement_100 (fun z => absurd z (by decide +kernel)) (fun _ => ?_)
          refine v_ic (v := (nI 1)) 104 zC dX5_readStatement_103 (by decide +kernel) ?_
          refine v_goto 108 zC dX5_readStatement_104 ?_
          refine v_pf (ws2 := [(r0, .inr (5, [.int (nI n), .ref k1, .ref k2, .ref k3, .ref k4, .int (nI m), .ref k6, .ref k7, .ref k8, .int (nI 0), .ref k10, .int (nI aw), .ref k12, .ref k13, .ref k14, .ref k15, .ref k16, .int (nI ls), .int (nI ((ap + 1) + v)), .int (nI 1), .int (nI sq), .ref k21, .ref k22, .ref k23, .ref k24, .ref k25, .int (bz pd), .int (nI pl), .int (bz tk), kv, .ref k30, .ref k31, .int (nI tz), .ref k33, .int (nI rs), .int sd])), (k16, .inl (cI, 96, .inl (nIf sg))), (k21, .inl (cI, 49, .inl (nIf (un pi sq ap)))), (k22, .inl (cI, 49, .inl (upd lo sq (nI (sg ap))))), (k23, .inl (cI, 147, .inl (nIf t1_29)))]) 111 0 zC dX5_readStatement_108 pf_X5_138 rfl (Nat.le_of_ble_eq_true rfl) (by decide +kernel) (by decide +kernel) rfl ?_
          refine v_al_n 112 zC dX5_readStatement_111 2 rfl ?_
          refine v_dup 113 zC dX5_readStatement_112 rfl ?_
          refine v_gf 116 0 zC dX5_readStatement_113 gf_X5_135 rfl rfl ?_
          refine v_al_n 117 zC dX5_readStatement_116 2 rfl ?_
          refine v_gf 120 0 zC dX5_readStatement_117 gf_X5_138 rfl rfl ?_
          refine v_if_eq 127 123 zC dX5_readStatement_120 (fun z => absurd z (by decide +kernel)) (fun _ => ?_)
          refine v_ic (v := (nI 0)) 124 zC dX5_readStatement_123 (by decide +kernel) ?_
          refine v_goto 128 zC dX5_readStatement_124 ?_
          refine v_iadd (v := (nI ((ap + 1) + v))) 129 zC dX5_readStatement_128 (nI_add _ 0) ?_
          refine v_pf (ws2 := [(r0, .inr (5, [.int (nI n), .ref k1, .ref k2, .ref k3, .ref k4, .int (nI m), .ref k6, .ref k7, .ref k8, .int (nI 0), .ref k10, .int (nI aw), .ref k12, .ref k13, .ref k14, .ref k15, .ref k16, .int (nI ls), .int (nI ((ap + 1) + v)), .int (nI 1), .int (nI sq), .ref k21, .ref k22, .ref k23, .ref k24, .ref k25, .int (bz pd), .int (nI pl), .int (bz tk), kv, .ref k30, .ref k31, .int (nI tz), .ref k33, .int (nI rs), .int sd])), (k16, .inl (cI, 96, .inl (nIf sg))), (k21, .inl (cI, 49, .inl (nIf (un pi sq ap)))), (k22, .inl (cI, 49, .inl (upd lo sq (nI (sg ap))))), (k23, .inl (cI, 147, .inl (nIf t1_29)))]) 132 0 zC dX5_readStatement_129 pf_X5_135 rfl (Nat.le_of_ble_eq_true rfl) rfl rfl rfl ?_
          refine v_al_n 133 zC dX5_readStatement_132 2 rfl ?_
          refine v_dup 134 zC dX5_readStatement_133 rfl ?_
          refine v_gf 137 0 zC dX5_readStatement_134 gf_X5_153 rfl rfl ?_
          refine v_ic (v := (nI 1)) 138 zC dX5_readStatement_137 (by decide +kernel) ?_
          refine v_iadd (v := (nI (sq + 1))) 139 zC dX5_readStatement_138 (nI_add _ _) ?_
          refine v_pf (ws2 := [(r0, .inr (5, [.int (nI n), .ref k1, .ref k2, .ref k3, .ref k4, .int (nI m), .ref k6, .ref k7, .ref k8, .int (nI 0), .ref k10, .int (nI aw), .ref k12, .ref k13, .ref k14, .ref k15, .ref k16, .int (nI ls), .int (nI ((ap + 1) + v)), .int (nI 1), .int (nI (sq + 1)), .ref k21, .ref k22, .ref k23, .ref k24, .ref k25, .int (bz pd), .int (nI pl), .int (bz tk), kv, .ref k30, .ref k31, .int (nI tz), .ref k33, .int (nI rs), .int sd])), (k16, .inl (cI, 96, .inl (nIf sg))), (k21, .inl (cI, 49, .inl (nIf (un pi sq ap)))), (k22, .inl (cI, 49, .inl (upd lo sq (nI (sg ap))))), (k23, .inl (cI, 147, .inl (nIf t1_29)))]) 142 0 zC dX5_readStatement_139 pf_X5_153 rfl (Nat.le_of_ble_eq_true rfl) rfl rfl rfl ?_
          refine v_vret zC zT dX5_readStatement_142  ?_
          first | (have g9 := h59; exact Or.inl ⟨_, _, sc_3i hv rfl hf9 ⟨hln9, h59⟩, hlt9, ht9, hs9, by rw [nxt_v hv]; omega, rfl, rfl⟩) | (have g9 := hge9; exact Or.inr ⟨_, _, _, _, Or.inl ⟨hge9, rfl⟩, by omega, rfl, rfl⟩) | (have g9 := hd0; exact Or.inr ⟨_, _, _, _, Or.inr ⟨hlt9, sc_0 hd0⟩, by omega, rfl, rfl⟩) | (have g9 := hfB; exact Or.inr ⟨_, _, _, _, Or.inr ⟨hlt9, sc_f1 hv hfB⟩, by omega, rfl, rfl⟩) | (have g9 := hgn9; exact Or.inr ⟨_, _, _, _, Or.inr ⟨hlt9, sc_2i hv rfl hf9 (fun z => by omega)⟩, by omega, rfl, rfl⟩) | (have g9 := hn59; exact Or.inr ⟨_, _, _, _, Or.inr ⟨hlt9, sc_2i hv rfl hf9 (fun z => hn59 z.2)⟩, by omega, rfl, rfl⟩)
        ·
          show VV E 0 0 98 [(2, .int (nI (sg ap))), (1, .int (nI sq)), (0, .ref r0)] [.int (nI (sg ((ap + 1) + v))), .ref r0] [(r0, .inr (5, [.int (nI n), .ref k1, .ref k2, .ref k3, .ref k4, .int (nI m), .ref k6, .ref k7, .ref k8, .int (nI 0), .ref k10, .int (nI aw), .ref k12, .ref k13, .ref k14, .ref k15, .ref k16, .int (nI ls), .int (nI ((ap + 1) + v)), .int (bz false), .int (nI sq), .ref k21, .ref k22, .ref k23, .ref k24, .ref k25, .int (bz pd), .int (nI pl), .int (bz tk), kv, .ref k30, .ref k31, .int (nI tz), .ref k33, .int (nI rs), .int sd])), (k16, .inl (cI, 96, .inl (nIf sg))), (k21, .inl (cI, 49, .inl (nIf (un pi sq ap)))), (k22, .inl (cI, 49, .inl (upd lo sq (nI (sg ap))))), (k23, .inl (cI, 147, .inl (nIf t1_29)))]
          have hln9 := hq_44
          have hgb := hsg (ap + 1 + v)
          refine v_bp (v := (nI 59)) 100 zC dX5_readStatement_98 (by decide +kernel) ?_
          refine v_icmpn_eq 107 103 zC dX5_readStatement_100 (fun h_47 => ?_) (fun h_47 => ?_)
          ·
            have h59 := h_47
            refine v_ic (v := (nI 0)) 108 zC dX5_readStatement_107 (by decide +kernel) ?_
            refine v_pf (ws2 := [(r0, .inr (5, [.int (nI n), .ref k1, .ref k2, .ref k3, .ref k4, .int (nI m), .ref k6, .ref k7, .ref k8, .int (nI 0), .ref k10, .int (nI aw), .ref k12, .ref k13, .ref k14, .ref k15, .ref k16, .int (nI ls), .int (nI ((ap + 1) + v)), .int (nI 0), .int (nI sq), .ref k21, .ref k22, .ref k23, .ref k24, .ref k25, .int (bz pd), .int (nI pl), .int (bz tk), kv, .ref k30, .ref k31, .int (nI tz), .ref k33, .int (nI rs), .int sd])), (k16, .inl (cI, 96, .inl (nIf sg))), (k21, .inl (cI, 49, .inl (nIf (un pi sq ap)))), (k22, .inl (cI, 49, .inl (upd lo sq (nI (sg ap))))), (k23, .inl (cI, 147, .inl (nIf t1_29)))]) 111 0 zC dX5_readStatement_108 pf_X5_138 rfl (Nat.le_of_ble_eq_true rfl) (by decide +kernel) (by decide +kernel) rfl ?_
            refine v_al_n 112 zC dX5_readStatement_111 2 rfl ?_
            refine v_dup 113 zC dX5_readStatement_112 rfl ?_
            refine v_gf 116 0 zC dX5_readStatement_113 gf_X5_135 rfl rfl ?_
            refine v_al_n 117 zC dX5_readStatement_116 2 rfl ?_
            refine v_gf 120 0 zC dX5_readStatement_117 gf_X5_138 rfl rfl ?_
            refine v_if_eq 127 123 zC dX5_readStatement_120 (fun _ => ?_) (fun z => absurd (by decide +kernel) z)
            refine v_ic (v := (nI 1)) 128 zC dX5_readStatement_127 (by decide +kernel) ?_
            refine v_iadd (v := (nI (((ap + 1) + v) + 1))) 129 zC dX5_readStatement_128 (nI_add _ _) ?_
            refine v_pf (ws2 := [(r0, .inr (5, [.int (nI n), .ref k1, .ref k2, .ref k3, .ref k4, .int (nI m), .ref k6, .ref k7, .ref k8, .int (nI 0), .ref k10, .int (nI aw), .ref k12, .ref k13, .ref k14, .ref k15, .ref k16, .int (nI ls), .int (nI (((ap + 1) + v) + 1)), .int (nI 0), .int (nI sq), .ref k21, .ref k22, .ref k23, .ref k24, .ref k25, .int (bz pd), .int (nI pl), .int (bz tk), kv, .ref k30, .ref k31, .int (nI tz), .ref k33, .int (nI rs), .int sd])), (k16, .inl (cI, 96, .inl (nIf sg))), (k21, .inl (cI, 49, .inl (nIf (un pi sq ap)))), (k22, .inl (cI, 49, .inl (upd lo sq (nI (sg ap))))), (k23, .inl (cI, 147, .inl (nIf t1_29)))]) 132 0 zC dX5_readStatement_129 pf_X5_135 rfl (Nat.le_of_ble_eq_true rfl) rfl rfl rfl ?_
            refine v_al_n 133 zC dX5_readStatement_132 2 rfl ?_
            refine v_dup 134 zC dX5_readStatement_133 rfl ?_
            refine v_gf 137 0 zC dX5_readStatement_134 gf_X5_153 rfl rfl ?_
            refine v_ic (v := (nI 1)) 138 zC dX5_readStatement_137 (by decide +kernel) ?_
            refine v_iadd (v := (nI (sq + 1))) 139 zC dX5_readStatement_138 (nI_add _ _) ?_
            refine v_pf (ws2 := [(r0, .inr (5, [.int (nI n), .ref k1, .ref k2, .ref k3, .ref k4, .int (nI m), .ref k6, .ref k7, .ref k8, .int (nI 0), .ref k10, .int (nI aw), .ref k12, .ref k13, .ref k14, .ref k15, .ref k16, .int (nI ls), .int (nI (((ap + 1) + v) + 1)), .int (nI 0), .int (nI (sq + 1)), .ref k21, .ref k22, .ref k23, .ref k24, .ref k25, .int (bz pd), .int (nI pl), .int (bz tk), kv, .ref k30, .ref k31, .int (nI tz), .ref k33, .int (nI rs), .int sd])), (k16, .inl (cI, 96, .inl (nIf sg))), (k21, .inl (cI, 49, .inl (nIf (un pi sq ap)))), (k22, .inl (cI, 49, .inl (upd lo sq (nI (sg ap))))), (k23, .inl (cI, 147, .inl (nIf t1_29)))]) 142 0 zC dX5_readStatement_139 pf_X5_153 rfl (Nat.le_of_ble_eq_true rfl) rfl rfl rfl ?_
            refine v_vret zC zT dX5_readStatement_142  ?_
            first | (have g9 := h59; exact Or.inl ⟨_, _, sc_3i hv rfl hf9 ⟨hln9, h59⟩, hlt9, ht9, hs9, by rw [nxt_v hv]; omega, rfl, rfl⟩) | (have g9 := hge9; exact Or.inr ⟨_, _, _, _, Or.inl ⟨hge9, rfl⟩, by omega, rfl, rfl⟩) | (have g9 := hd0; exact Or.inr ⟨_, _, _, _, Or.inr ⟨hlt9, sc_0 hd0⟩, by omega, rfl, rfl⟩) | (have g9 := hfB; exact Or.inr ⟨_, _, _, _, Or.inr ⟨hlt9, sc_f1 hv hfB⟩, by omega, rfl, rfl⟩) | (have g9 := hgn9; exact Or.inr ⟨_, _, _, _, Or.inr ⟨hlt9, sc_2i hv rfl hf9 (fun z => by omega)⟩, by omega, rfl, rfl⟩) | (have g9 := hn59; exact Or.inr ⟨_, _, _, _, Or.inr ⟨hlt9, sc_2i hv rfl hf9 (fun z => hn59 z.2)⟩, by omega, rfl, rfl⟩)
          ·
            have hn59 := h_47
            refine v_ic (v := (nI 1)) 104 zC dX5_readStatement_103 (by decide +kernel) ?_
            refine v_goto 108 zC dX5_readStatement_104 ?_
            refine v_pf (ws2 := [(r0, .inr (5, [.int (nI n), .ref k1, .ref k2, .ref k3, .ref k4, .int (nI m), .ref k6, .ref k7, .ref k8, .int (nI 0), .ref k10, .int (nI aw), .ref k12, .ref k13, .ref k14, .ref k15, .ref k16, .int (nI ls), .int (nI ((ap + 1) + v)), .int (nI 1), .int (nI sq), .ref k21, .ref k22, .ref k23, .ref k24, .ref k25, .int (bz pd), .int (nI pl), .int (bz tk), kv, .ref k30, .ref k31, .int (nI tz), .ref k33, .int (nI rs), .int sd])), (k16, .inl (cI, 96, .inl (nIf sg))), (k21, .inl (cI, 49, .inl (nIf (un pi sq ap)))), (k22, .inl (cI, 49, .inl (upd lo sq (nI (sg ap))))), (k23, .inl (cI, 147, .inl (nIf t1_29)))]) 111 0 zC dX5_readStatement_108 pf_X5_138 rfl (Nat.le_of_ble_eq_true rfl) (by decide +kernel) (by decide +kernel) rfl ?_
            refine v_al_n 112 zC dX5_readStatement_111 2 rfl ?_
            refine v_dup 113 zC dX5_readStatement_112 rfl ?_
            refine v_gf 116 0 zC dX5_readStatement_113 gf_X5_135 rfl rfl ?_
            refine v_al_n 117 zC dX5_readStatement_116 2 rfl ?_
            refine v_gf 120 0 zC dX5_readStatement_117 gf_X5_138 rfl rfl ?_
            refine v_if_eq 127 123 zC dX5_readStatement_120 (fun z => absurd z (by decide +kernel)) (fun _ => ?_)
            refine v_ic (v := (nI 0)) 124 zC dX5_readStatement_123 (by decide +kernel) ?_
            refine v_goto 128 zC dX5_readStatement_124 ?_
            refine v_iadd (v := (nI ((ap + 1) + v))) 129 zC dX5_readStatement_128 (nI_add _ 0) ?_
            refine v_pf (ws2 := [(r0, .inr (5, [.int (nI n), .ref k1, .ref k2, .ref k3, .ref k4, .int (nI m), .ref k6, .ref k7, .ref k8, .int (nI 0), .ref k10, .int (nI aw), .ref k12, .ref k13, .ref k14, .ref k15, .ref k16, .int (nI ls), .int (nI ((ap + 1) + v)), .int (nI 1), .int (nI sq), .ref k21, .ref k22, .ref k23, .ref k24, .ref k25, .int (bz pd), .int (nI pl), .int (bz tk), kv, .ref k30, .ref k31, .int (nI tz), .ref k33, .int (nI rs), .int sd])), (k16, .inl (cI, 96, .inl (nIf sg))), (k21, .inl (cI, 49, .inl (nIf (un pi sq ap)))), (k22, .inl (cI, 49, .inl (upd lo sq (nI (sg ap))))), (k23, .inl (cI, 147, .inl (nIf t1_29)))]) 132 0 zC dX5_readStatement_129 pf_X5_135 rfl (Nat.le_of_ble_eq_true rfl) rfl rfl rfl ?_
            refine v_al_n 133 zC dX5_readStatement_132 2 rfl ?_
            refine v_dup 134 zC dX5_readStatement_133 rfl ?_
            refine v_gf 137 0 zC dX5_readStatement_134 gf_X5_153 rfl rfl ?_
            refine v_ic (v := (nI 1)) 138 zC dX5_readStatement_137 (by decide +kernel) ?_
            refine v_iadd (v := (nI (sq + 1))) 139 zC dX5_readStatement_138 (nI_add _ _) ?_
            refine v_pf (ws2 := [(r0, .inr (5, [.int (nI n), .ref k1, .ref k2, .ref k3, .ref k4, .int (nI m), .ref k6, .ref k7, .ref k8, .int (nI 0), .ref k10, .int (nI aw), .ref k12, .ref k13, .ref k14, .ref k15, .ref k16, .int (nI ls), .int (nI ((ap + 1) + v)), .int (nI 1), .int (nI (sq + 1)), .ref k21, .ref k22, .ref k23, .ref k24, .ref k25, .int (bz pd), .int (nI pl), .int (bz tk), kv, .ref k30, .ref k31, .int (nI tz), .ref k33, .int (nI rs), .int sd])), (k16, .inl (cI, 96, .inl (nIf sg))), (k21, .inl (cI, 49, .inl (nIf (un pi sq ap)))), (k22, .inl (cI, 49, .inl (upd lo sq (nI (sg ap))))), (k23, .inl (cI, 147, .inl (nIf t1_29)))]) 142 0 zC dX5_readStatement_139 pf_X5_153 rfl (Nat.le_of_ble_eq_true rfl) rfl rfl rfl ?_
            refine v_vret zC zT dX5_readStatement_142  ?_
            first | (have g9 := h59; exact Or.inl ⟨_, _, sc_3i hv rfl hf9 ⟨hln9, h59⟩, hlt9, ht9, hs9, by rw [nxt_v hv]; omega, rfl, rfl⟩) | (have g9 := hge9; exact Or.inr ⟨_, _, _, _, Or.inl ⟨hge9, rfl⟩, by omega, rfl, rfl⟩) | (have g9 := hd0; exact Or.inr ⟨_, _, _, _, Or.inr ⟨hlt9, sc_0 hd0⟩, by omega, rfl, rfl⟩) | (have g9 := hfB; exact Or.inr ⟨_, _, _, _, Or.inr ⟨hlt9, sc_f1 hv hfB⟩, by omega, rfl, rfl⟩) | (have g9 := hgn9; exact Or.inr ⟨_, _, _, _, Or.inr ⟨hlt9, sc_2i hv rfl hf9 (fun z => by omega)⟩, by omega, rfl, rfl⟩) | (have g9 := hn59; exact Or.inr ⟨_, _, _, _, Or.inr ⟨hlt9, sc_2i hv rfl hf9 (fun z => hn59 z.2)⟩, by omega, rfl, rfl⟩)
      ·
        show VV E 0 0 86 [(2, .int (nI (sg ap))), (1, .int (nI sq)), (0, .ref r0)] [] [(r0, .inr (5, [.int (nI n), .ref k1, .ref k2, .ref k3, .ref k4, .int (nI m), .ref k6, .ref k7, .ref k8, .int (nI 0), .ref k10, .int (nI aw), .ref k12, .ref k13, .ref k14, .ref k15, .ref k16, .int (nI ls), .int (nI ((ap + 1) + j_33)), .int (bz true), .int (nI sq), .ref k21, .ref k22, .ref k23, .ref k24, .ref k25, .int (bz pd), .int (nI pl), .int (bz tk), kv, .ref k30, .ref k31, .int (nI tz), .ref k33, .int (nI rs), .int sd])), (k16, .inl (cI, 96, .inl (nIf sg))), (k21, .inl (cI, 49, .inl (nIf (un pi sq ap)))), (k22, .inl (cI, 49, .inl (upd lo sq (nI (sg ap))))), (k23, .inl (cI, 147, .inl (nIf t1_34)))]
        obtain ⟨j9, hej⟩ : ∃ z, z = j_33 := ⟨_, rfl⟩
        subst hej
        have hfB := hf_35
        have hjB := hj_36
        refine v_al_n 87 zC dX5_readStatement_86 2 rfl ?_
        refine v_al_n 88 zC dX5_readStatement_87 2 rfl ?_
        refine v_gf 91 0 zC dX5_readStatement_88 gf_X5_138 rfl rfl ?_
        refine v_ifb_ne 103 94 zC dX5_readStatement_91 (fun _ => ?_) (fun z => absurd z (by decide))
        refine v_ic (v := (nI 1)) 104 zC dX5_readStatement_103 (by decide +kernel) ?_
        refine v_goto 108 zC dX5_readStatement_104 ?_
        refine v_pf (ws2 := [(r0, .inr (5, [.int (nI n), .ref k1, .ref k2, .ref k3, .ref k4, .int (nI m), .ref k6, .ref k7, .ref k8, .int (nI 0), .ref k10, .int (nI aw), .ref k12, .ref k13, .ref k14, .ref k15, .ref k16, .int (nI ls), .int (nI ((ap + 1) + j9)), .int (nI 1), .int (nI sq), .ref k21, .ref k22, .ref k23, .ref k24, .ref k25, .int (bz pd), .int (nI pl), .int (bz tk), kv, .ref k30, .ref k31, .int (nI tz), .ref k33, .int (nI rs), .int sd])), (k16, .inl (cI, 96, .inl (nIf sg))), (k21, .inl (cI, 49, .inl (nIf (un pi sq ap)))), (k22, .inl (cI, 49, .inl (upd lo sq (nI (sg ap))))), (k23, .inl (cI, 147, .inl (nIf t1_34)))]) 111 0 zC dX5_readStatement_108 pf_X5_138 rfl (Nat.le_of_ble_eq_true rfl) (by decide +kernel) (by decide +kernel) rfl ?_
        refine v_al_n 112 zC dX5_readStatement_111 2 rfl ?_
        refine v_dup 113 zC dX5_readStatement_112 rfl ?_
        refine v_gf 116 0 zC dX5_readStatement_113 gf_X5_135 rfl rfl ?_
        refine v_al_n 117 zC dX5_readStatement_116 2 rfl ?_
        refine v_gf 120 0 zC dX5_readStatement_117 gf_X5_138 rfl rfl ?_
        refine v_if_eq 127 123 zC dX5_readStatement_120 (fun z => absurd z (by decide +kernel)) (fun _ => ?_)
        refine v_ic (v := (nI 0)) 124 zC dX5_readStatement_123 (by decide +kernel) ?_
        refine v_goto 128 zC dX5_readStatement_124 ?_
        refine v_iadd (v := (nI ((ap + 1) + j9))) 129 zC dX5_readStatement_128 (nI_add _ 0) ?_
        refine v_pf (ws2 := [(r0, .inr (5, [.int (nI n), .ref k1, .ref k2, .ref k3, .ref k4, .int (nI m), .ref k6, .ref k7, .ref k8, .int (nI 0), .ref k10, .int (nI aw), .ref k12, .ref k13, .ref k14, .ref k15, .ref k16, .int (nI ls), .int (nI ((ap + 1) + j9)), .int (nI 1), .int (nI sq), .ref k21, .ref k22, .ref k23, .ref k24, .ref k25, .int (bz pd), .int (nI pl), .int (bz tk), kv, .ref k30, .ref k31, .int (nI tz), .ref k33, .int (nI rs), .int sd])), (k16, .inl (cI, 96, .inl (nIf sg))), (k21, .inl (cI, 49, .inl (nIf (un pi sq ap)))), (k22, .inl (cI, 49, .inl (upd lo sq (nI (sg ap))))), (k23, .inl (cI, 147, .inl (nIf t1_34)))]) 132 0 zC dX5_readStatement_129 pf_X5_135 rfl (Nat.le_of_ble_eq_true rfl) rfl rfl rfl ?_
        refine v_al_n 133 zC dX5_readStatement_132 2 rfl ?_
        refine v_dup 134 zC dX5_readStatement_133 rfl ?_
        refine v_gf 137 0 zC dX5_readStatement_134 gf_X5_153 rfl rfl ?_
        refine v_ic (v := (nI 1)) 138 zC dX5_readStatement_137 (by decide +kernel) ?_
        refine v_iadd (v := (nI (sq + 1))) 139 zC dX5_readStatement_138 (nI_add _ _) ?_
        refine v_pf (ws2 := [(r0, .inr (5, [.int (nI n), .ref k1, .ref k2, .ref k3, .ref k4, .int (nI m), .ref k6, .ref k7, .ref k8, .int (nI 0), .ref k10, .int (nI aw), .ref k12, .ref k13, .ref k14, .ref k15, .ref k16, .int (nI ls), .int (nI ((ap + 1) + j9)), .int (nI 1), .int (nI (sq + 1)), .ref k21, .ref k22, .ref k23, .ref k24, .ref k25, .int (bz pd), .int (nI pl), .int (bz tk), kv, .ref k30, .ref k31, .int (nI tz), .ref k33, .int (nI rs), .int sd])), (k16, .inl (cI, 96, .inl (nIf sg))), (k21, .inl (cI, 49, .inl (nIf (un pi sq ap)))), (k22, .inl (cI, 49, .inl (upd lo sq (nI (sg ap))))), (k23, .inl (cI, 147, .inl (nIf t1_34)))]) 142 0 zC dX5_readStatement_139 pf_X5_153 rfl (Nat.le_of_ble_eq_true rfl) rfl rfl rfl ?_
        refine v_vret zC zT dX5_readStatement_142  ?_
        first | (have g9 := h59; exact Or.inl ⟨_, _, sc_3i hv rfl hf9 ⟨hln9, h59⟩, hlt9, ht9, hs9, by rw [nxt_v hv]; omega, rfl, rfl⟩) | (have g9 := hge9; exact Or.inr ⟨_, _, _, _, Or.inl ⟨hge9, rfl⟩, by omega, rfl, rfl⟩) | (have g9 := hd0; exact Or.inr ⟨_, _, _, _, Or.inr ⟨hlt9, sc_0 hd0⟩, by omega, rfl, rfl⟩) | (have g9 := hfB; exact Or.inr ⟨_, _, _, _, Or.inr ⟨hlt9, sc_f1 hv hfB⟩, by omega, rfl, rfl⟩) | (have g9 := hgn9; exact Or.inr ⟨_, _, _, _, Or.inr ⟨hlt9, sc_2i hv rfl hf9 (fun z => by omega)⟩, by omega, rfl, rfl⟩) | (have g9 := hn59; exact Or.inr ⟨_, _, _, _, Or.inr ⟨hlt9, sc_2i hv rfl hf9 (fun z => hn59 z.2)⟩, by omega, rfl, rfl⟩)
    ·
      have hd0 : DB (sg ap) = none := by cases q : DB (sg ap) with | none => rfl | some _ => rw [q] at h_22; cases h_22
      refine v_ic (v := (nI 1)) 43 zC dX5_readStatement_42 (by decide +kernel) ?_
      refine v_goto 47 zC dX5_readStatement_43 ?_
      refine v_pf (ws2 := [(r0, .inr (5, [.int (nI n), .ref k1, .ref k2, .ref k3, .ref k4, .int (nI m), .ref k6, .ref k7, .ref k8, .int (nI 0), .ref k10, .int (nI aw), .ref k12, .ref k13, .ref k14, .ref k15, .ref k16, .int (nI ls), .int (nI ap), .int (nI 1), .int (nI sq), .ref k21, .ref k22, .ref k23, .ref k24, .ref k25, .int (bz pd), .int (nI pl), .int (bz tk), kv, .ref k30, .ref k31, .int (nI tz), .ref k33, .int (nI rs), .int sd])), (k16, .inl (cI, 96, .inl (nIf sg))), (k21, .inl (cI, 49, .inl (nIf (un pi sq ap)))), (k22, .inl (cI, 49, .inl (upd lo sq (nI (sg ap))))), (k23, .inl (cI, 147, .inl (nIf tl)))]) 50 0 zC dX5_readStatement_47 pf_X5_138 rfl (Nat.le_of_ble_eq_true rfl) (by decide +kernel) (by decide +kernel) rfl ?_
      refine v_al_n 51 zC dX5_readStatement_50 2 rfl ?_
      refine v_dup 52 zC dX5_readStatement_51 rfl ?_
      refine v_gf 55 0 zC dX5_readStatement_52 gf_X5_135 rfl rfl ?_
      refine v_al_n 56 zC dX5_readStatement_55 2 rfl ?_
      refine v_gf 59 0 zC dX5_readStatement_56 gf_X5_138 rfl rfl ?_
      refine v_if_eq 66 62 zC dX5_readStatement_59 (fun z => absurd z (by decide +kernel)) (fun _ => ?_)
      refine v_ic (v := (nI 0)) 63 zC dX5_readStatement_62 (by decide +kernel) ?_
      refine v_goto 67 zC dX5_readStatement_63 ?_
      refine v_iadd (v := (nI ap)) 68 zC dX5_readStatement_67 (nI_add _ 0) ?_
      refine v_pf (ws2 := [(r0, .inr (5, [.int (nI n), .ref k1, .ref k2, .ref k3, .ref k4, .int (nI m), .ref k6, .ref k7, .ref k8, .int (nI 0), .ref k10, .int (nI aw), .ref k12, .ref k13, .ref k14, .ref k15, .ref k16, .int (nI ls), .int (nI ap), .int (nI 1), .int (nI sq), .ref k21, .ref k22, .ref k23, .ref k24, .ref k25, .int (bz pd), .int (nI pl), .int (bz tk), kv, .ref k30, .ref k31, .int (nI tz), .ref k33, .int (nI rs), .int sd])), (k16, .inl (cI, 96, .inl (nIf sg))), (k21, .inl (cI, 49, .inl (nIf (un pi sq ap)))), (k22, .inl (cI, 49, .inl (upd lo sq (nI (sg ap))))), (k23, .inl (cI, 147, .inl (nIf tl)))]) 71 0 zC dX5_readStatement_68 pf_X5_135 rfl (Nat.le_of_ble_eq_true rfl) rfl rfl rfl ?_
      refine v_al_n 72 zC dX5_readStatement_71 2 rfl ?_
      refine v_gf 75 0 zC dX5_readStatement_72 gf_X5_138 rfl rfl ?_
      refine v_if_ne 86 78 zC dX5_readStatement_75 (fun _ => ?_) (fun z => absurd z (by decide +kernel))
      refine v_al_n 87 zC dX5_readStatement_86 2 rfl ?_
      refine v_al_n 88 zC dX5_readStatement_87 2 rfl ?_
      refine v_gf 91 0 zC dX5_readStatement_88 gf_X5_138 rfl rfl ?_
      refine v_if_ne 103 94 zC dX5_readStatement_91 (fun _ => ?_) (fun z => absurd z (by decide +kernel))
      refine v_ic (v := (nI 1)) 104 zC dX5_readStatement_103 (by decide +kernel) ?_
      refine v_goto 108 zC dX5_readStatement_104 ?_
      refine v_pf (ws2 := [(r0, .inr (5, [.int (nI n), .ref k1, .ref k2, .ref k3, .ref k4, .int (nI m), .ref k6, .ref k7, .ref k8, .int (nI 0), .ref k10, .int (nI aw), .ref k12, .ref k13, .ref k14, .ref k15, .ref k16, .int (nI ls), .int (nI ap), .int (nI 1), .int (nI sq), .ref k21, .ref k22, .ref k23, .ref k24, .ref k25, .int (bz pd), .int (nI pl), .int (bz tk), kv, .ref k30, .ref k31, .int (nI tz), .ref k33, .int (nI rs), .int sd])), (k16, .inl (cI, 96, .inl (nIf sg))), (k21, .inl (cI, 49, .inl (nIf (un pi sq ap)))), (k22, .inl (cI, 49, .inl (upd lo sq (nI (sg ap))))), (k23, .inl (cI, 147, .inl (nIf tl)))]) 111 0 zC dX5_readStatement_108 pf_X5_138 rfl (Nat.le_of_ble_eq_true rfl) (by decide +kernel) (by decide +kernel) rfl ?_
      refine v_al_n 112 zC dX5_readStatement_111 2 rfl ?_
      refine v_dup 113 zC dX5_readStatement_112 rfl ?_
      refine v_gf 116 0 zC dX5_readStatement_113 gf_X5_135 rfl rfl ?_
      refine v_al_n 117 zC dX5_readStatement_116 2 rfl ?_
      refine v_gf 120 0 zC dX5_readStatement_117 gf_X5_138 rfl rfl ?_
      refine v_if_eq 127 123 zC dX5_readStatement_120 (fun z => absurd z (by decide +kernel)) (fun _ => ?_)
      refine v_ic (v := (nI 0)) 124 zC dX5_readStatement_123 (by decide +kernel) ?_
      refine v_goto 128 zC dX5_readStatement_124 ?_
      refine v_iadd (v := (nI ap)) 129 zC dX5_readStatement_128 (nI_add _ 0) ?_
      refine v_pf (ws2 := [(r0, .inr (5, [.int (nI n), .ref k1, .ref k2, .ref k3, .ref k4, .int (nI m), .ref k6, .ref k7, .ref k8, .int (nI 0), .ref k10, .int (nI aw), .ref k12, .ref k13, .ref k14, .ref k15, .ref k16, .int (nI ls), .int (nI ap), .int (nI 1), .int (nI sq), .ref k21, .ref k22, .ref k23, .ref k24, .ref k25, .int (bz pd), .int (nI pl), .int (bz tk), kv, .ref k30, .ref k31, .int (nI tz), .ref k33, .int (nI rs), .int sd])), (k16, .inl (cI, 96, .inl (nIf sg))), (k21, .inl (cI, 49, .inl (nIf (un pi sq ap)))), (k22, .inl (cI, 49, .inl (upd lo sq (nI (sg ap))))), (k23, .inl (cI, 147, .inl (nIf tl)))]) 132 0 zC dX5_readStatement_129 pf_X5_135 rfl (Nat.le_of_ble_eq_true rfl) rfl rfl rfl ?_
      refine v_al_n 133 zC dX5_readStatement_132 2 rfl ?_
      refine v_dup 134 zC dX5_readStatement_133 rfl ?_
      refine v_gf 137 0 zC dX5_readStatement_134 gf_X5_153 rfl rfl ?_
      refine v_ic (v := (nI 1)) 138 zC dX5_readStatement_137 (by decide +kernel) ?_
      refine v_iadd (v := (nI (sq + 1))) 139 zC dX5_readStatement_138 (nI_add _ _) ?_
      refine v_pf (ws2 := [(r0, .inr (5, [.int (nI n), .ref k1, .ref k2, .ref k3, .ref k4, .int (nI m), .ref k6, .ref k7, .ref k8, .int (nI 0), .ref k10, .int (nI aw), .ref k12, .ref k13, .ref k14, .ref k15, .ref k16, .int (nI ls), .int (nI ap), .int (nI 1), .int (nI (sq + 1)), .ref k21, .ref k22, .ref k23, .ref k24, .ref k25, .int (bz pd), .int (nI pl), .int (bz tk), kv, .ref k30, .ref k31, .int (nI tz), .ref k33, .int (nI rs), .int sd])), (k16, .inl (cI, 96, .inl (nIf sg))), (k21, .inl (cI, 49, .inl (nIf (un pi sq ap)))), (k22, .inl (cI, 49, .inl (upd lo sq (nI (sg ap))))), (k23, .inl (cI, 147, .inl (nIf tl)))]) 142 0 zC dX5_readStatement_139 pf_X5_153 rfl (Nat.le_of_ble_eq_true rfl) rfl rfl rfl ?_
      refine v_vret zC zT dX5_readStatement_142  ?_
      first | (have g9 := h59; exact Or.inl ⟨_, _, sc_3i hv rfl hf9 ⟨hln9, h59⟩, hlt9, ht9, hs9, by rw [nxt_v hv]; omega, rfl, rfl⟩) | (have g9 := hge9; exact Or.inr ⟨_, _, _, _, Or.inl ⟨hge9, rfl⟩, by omega, rfl, rfl⟩) | (have g9 := hd0; exact Or.inr ⟨_, _, _, _, Or.inr ⟨hlt9, sc_0 hd0⟩, by omega, rfl, rfl⟩) | (have g9 := hfB; exact Or.inr ⟨_, _, _, _, Or.inr ⟨hlt9, sc_f1 hv hfB⟩, by omega, rfl, rfl⟩) | (have g9 := hgn9; exact Or.inr ⟨_, _, _, _, Or.inr ⟨hlt9, sc_2i hv rfl hf9 (fun z => by omega)⟩, by omega, rfl, rfl⟩) | (have g9 := hn59; exact Or.inr ⟨_, _, _, _, Or.inr ⟨hlt9, sc_2i hv rfl hf9 (fun z => hn59 z.2)⟩, by omega, rfl, rfl⟩)
set_option maxRecDepth 100000 in
set_option maxHeartbeats 4000000 in
theorem c_X5_comesTold (l : Launch) (D : va_G) (cI : ClassId) (r0 k1 k2 k3 k4 k6 k7 k8 k10 k12 k13 k14 k15 k16 k21 k22 k23 k24 k25 k30 k31 k33 : Nat) (n m aw ls ap sq pl tz rs : Nat) (bd pd tk : Bool) (kv : Value) (sd : Int32) (ki op fa K G T : Nat → Nat) (sh : Nat) (sg tl : Nat → Nat) (lo : Nat → Int32) (i a lq : Nat) (hl : lq ≤ 96) (hi : i ≤ 32) (ha : a < lq) (hsg : ∀ z, sg z < 256) (hlo : lo i = nI (sg a)) (htl : TLS sg (sg a) (a + 1) tl (3 * i)) (hsc : SC lq sg a = none) (hw : FW n m sh ki op fa K G T) : CT l yX5_comesTold cX5_comesTold 5 (some .boolean) { frames := 3, cells := 0, slots := 0, locals := 72 } D cI [.ref r0, .int (nI i)] [(r0, .inr (5, [.int (nI n), .ref k1, .ref k2, .ref k3, .ref k4, .int (nI m), .ref k6, .ref k7, .ref k8, .int (nI 0), .ref k10, .int (nI aw), .ref k12, .ref k13, .ref k14, .ref k15, .ref k16, .int (nI ls), .int (nI ap), .int (bz bd), .int (nI sq), .ref k21, .ref k22, .ref k23, .ref k24, .ref k25, .int (bz pd), .int (nI pl), .int (bz tk), kv, .ref k30, .ref k31, .int (nI tz), .ref k33, .int (nI rs), .int sd])), (k1, .inl (cI, 7, .inl (nIf ki))), (k2, .inl (cI, 7, .inl (nIf op))), (k3, .inl (cI, 7, .inl (nIf (shF sh)))), (k4, .inl (cI, 7, .inl (nIf fa))), (k6, .inl (cI, 6, .inl (nIf K))), (k7, .inl (cI, 6, .inl (nIf G))), (k8, .inl (cI, 6, .inl (nIf T))), (k22, .inl (cI, 49, .inl lo)), (k23, .inl (cI, 147, .inl (nIf tl)))] (fun zr zw => ((TS sg a (n, m, sh, aw, ki, op, fa, K, G, T) = none) ∧ zr = some (.int (nI 0)) ∧ zw = [(r0, .inr (5, [.int (nI n), .ref k1, .ref k2, .ref k3, .ref k4, .int (nI m), .ref k6, .ref k7, .ref k8, .int (nI 0), .ref k10, .int (nI aw), .ref k12, .ref k13, .ref k14, .ref k15, .ref k16, .int (nI ls), .int (nI ap), .int (bz bd), .int (nI sq), .ref k21, .ref k22, .ref k23, .ref k24, .ref k25, .int (bz pd), .int (nI pl), .int (bz tk), kv, .ref k30, .ref k31, .int (nI tz), .ref k33, .int (nI rs), .int sd])), (k1, .inl (cI, 7, .inl (nIf ki))), (k2, .inl (cI, 7, .inl (nIf op))), (k3, .inl (cI, 7, .inl (nIf (shF sh)))), (k4, .inl (cI, 7, .inl (nIf fa))), (k6, .inl (cI, 6, .inl (nIf K))), (k7, .inl (cI, 6, .inl (nIf G))), (k8, .inl (cI, 6, .inl (nIf T))), (k22, .inl (cI, 49, .inl lo)), (k23, .inl (cI, 147, .inl (nIf tl)))]) ∨ (∃ n2 : Nat, ∃ m2 : Nat, ∃ sh2 : Nat, ∃ ki2 : Nat → Nat, ∃ op2 : Nat → Nat, ∃ fa2 : Nat → Nat, ∃ K2 : Nat → Nat, ∃ G2 : Nat → Nat, ∃ T2 : Nat → Nat, (TS sg a (n, m, sh, aw, ki, op, fa, K, G, T) = some (n2, m2, sh2, aw, ki2, op2, fa2, K2, G2, T2)) ∧ (FW n2 m2 sh2 ki2 op2 fa2 K2 G2 T2) ∧ zr = some (.int (nI 1)) ∧ zw = [(r0, .inr (5, [.int (nI n2), .ref k1, .ref k2, .ref k3, .ref k4, .int (nI m2), .ref k6, .ref k7, .ref k8, .int (nI 0), .ref k10, .int (nI aw), .ref k12, .ref k13, .ref k14, .ref k15, .ref k16, .int (nI ls), .int (nI ap), .int (bz bd), .int (nI sq), .ref k21, .ref k22, .ref k23, .ref k24, .ref k25, .int (bz pd), .int (nI pl), .int (bz tk), kv, .ref k30, .ref k31, .int (nI tz), .ref k33, .int (nI rs), .int sd])), (k1, .inl (cI, 7, .inl (nIf ki2))), (k2, .inl (cI, 7, .inl (nIf op2))), (k3, .inl (cI, 7, .inl (nIf (shF sh2)))), (k4, .inl (cI, 7, .inl (nIf fa2))), (k6, .inl (cI, 6, .inl (nIf K2))), (k7, .inl (cI, 6, .inl (nIf G2))), (k8, .inl (cI, 6, .inl (nIf T2))), (k22, .inl (cI, 49, .inl lo)), (k23, .inl (cI, 147, .inl (nIf tl)))])) := by
  refine CT_of RX5 rfl (by decide +kernel) (Nat.le_of_ble_eq_true rfl) (fun E hnE zC zT => ?_)
  have hA : ∀ q, (ev_s E).heap.size ≤ q → ev_A E q := fun q h => by rw [zT.2]; exact Or.inr h
  obtain ⟨hn, hm, hsh, hki, hop, hfa, hK, hG, hT, vki, vop, vfa, vK, vG, vT⟩ := id hw
  show VV E 0 0 0 [(0, .ref r0), (1, .int (nI i))] [] [(r0, .inr (5, [.int (nI n), .ref k1, .ref k2, .ref k3, .ref k4, .int (nI m), .ref k6, .ref k7, .ref k8, .int (nI 0), .ref k10, .int (nI aw), .ref k12, .ref k13, .ref k14, .ref k15, .ref k16, .int (nI ls), .int (nI ap), .int (bz bd), .int (nI sq), .ref k21, .ref k22, .ref k23, .ref k24, .ref k25, .int (bz pd), .int (nI pl), .int (bz tk), kv, .ref k30, .ref k31, .int (nI tz), .ref k33, .int (nI rs), .int sd])), (k1, .inl (cI, 7, .inl (nIf ki))), (k2, .inl (cI, 7, .inl (nIf op))), (k3, .inl (cI, 7, .inl (nIf (shF sh)))), (k4, .inl (cI, 7, .inl (nIf fa))), (k6, .inl (cI, 6, .inl (nIf K))), (k7, .inl (cI, 6, .inl (nIf G))), (k8, .inl (cI, 6, .inl (nIf T))), (k22, .inl (cI, 49, .inl lo)), (k23, .inl (cI, 147, .inl (nIf tl)))]
  refine v_al_n 1 zC dX5_comesTold_0 0 rfl ?_
  refine v_gf 4 0 zC dX5_comesTold_1 gf_X5_55 rfl rfl ?_
  refine v_ic (v := (nI 3)) 5 zC dX5_comesTold_4 (by decide +kernel) ?_
  refine v_il_n 6 zC dX5_comesTold_5 1 rfl ?_
  refine v_imul (v := (nI (3 * i))) 7 zC dX5_comesTold_6 (pk_mul _ _) ?_
  refine v_ialn (v := (nI (tl (3 * i)))) 8 9 zC dX5_comesTold_7 rfl (by omega) rfl ?_
  refine v_is_n (lv2 := [(2, .int (nI (tl (3 * i)))), (0, .ref r0), (1, .int (nI i))]) 9 zC dX5_comesTold_8 (by rw [hnE]; decide) rfl ?_
  refine v_al_n 10 zC dX5_comesTold_9 1 rfl ?_
  refine v_gf 13 0 zC dX5_comesTold_10 gf_X5_55 rfl rfl ?_
  refine v_ic (v := (nI 3)) 14 zC dX5_comesTold_13 (by decide +kernel) ?_
  refine v_il_n 15 zC dX5_comesTold_14 2 rfl ?_
  refine v_imul (v := (nI (3 * i))) 16 zC dX5_comesTold_15 (pk_mul _ _) ?_
  refine v_ic (v := (nI 1)) 17 zC dX5_comesTold_16 (by decide +kernel) ?_
  refine v_iadd (v := (nI ((3 * i) + 1))) 18 zC dX5_comesTold_17 (nI_add _ _) ?_
  refine v_ialn (v := (nI (tl ((3 * i) + 1)))) 19 9 zC dX5_comesTold_18 rfl (by omega) rfl ?_
  refine v_is_n (lv2 := [(3, .int (nI (tl ((3 * i) + 1)))), (2, .int (nI (tl (3 * i)))), (0, .ref r0), (1, .int (nI i))]) 20 zC dX5_comesTold_19 (by rw [hnE]; decide) rfl ?_
  refine v_ic (v := (nI 1)) 21 zC dX5_comesTold_20 (by decide +kernel) ?_
  refine v_is (lv2 := [(4, .int (nI 1)), (3, .int (nI (tl ((3 * i) + 1)))), (2, .int (nI (tl (3 * i)))), (0, .ref r0), (1, .int (nI i))]) 23 zC dX5_comesTold_21 (by rw [hnE]; decide) rfl ?_
  refine v_al_n 24 zC dX5_comesTold_23 3 rfl ?_
  refine v_gf 27 0 zC dX5_comesTold_24 gf_X5_52 rfl rfl ?_
  refine v_il_n 28 zC dX5_comesTold_27 4 rfl ?_
  refine v_ialn (v := (lo i)) 29 8 zC dX5_comesTold_28 rfl (by omega) rfl ?_
  obtain ⟨v, hv, hdg, hl9, h59⟩ := sc_ok hsc
  rcases db_six hv with ⟨hs9, he9⟩ | ⟨hs9, he9⟩ | ⟨hs9, he9⟩ | ⟨hs9, he9⟩ | ⟨hs9, he9⟩ | ⟨hs9, he9⟩
  ·
    subst he9
    have d0 : (a + 1) < lq ∧ 48 ≤ sg (a + 1) ∧ sg (a + 1) ≤ 57 := dig_d (hdg 0 (by omega))
    rw [hlo, hs9]
    have t0 : (tl (3 * i)) = (sg (a + 1) - 48) := htl.2.2.2.1 hs9
    rw [t0]
    refine v_lsw (off := 168) 197 zC dX5_comesTold_29 ((by decide +kernel)) ?_
    refine v_al_n 198 zC dX5_comesTold_197 3 rfl ?_
    refine v_il_n 199 zC dX5_comesTold_198 2 rfl ?_
    refine v_cV (As := [.int (nI (sg (a + 1) - 48))]) (st := []) 202 0 [0] zC dX5_comesTold_199 hA (c_X5_isOne (ev_l E) (ev_D E) cI (r0 := r0) (k1 := k1) (k2 := k2) (k3 := k3) (k4 := k4) (k6 := k6) (k7 := k7) (k8 := k8) (k10 := k10) (k12 := k12) (k13 := k13) (k14 := k14) (k15 := k15) (k16 := k16) (k21 := k21) (k22 := k22) (k23 := k23) (k24 := k24) (k25 := k25) (k30 := k30) (k31 := k31) (k33 := k33) (n := n) (m := m) (aw := aw) (ls := ls) (ap := ap) (sq := sq) (pl := pl) (tz := tz) (rs := rs) (bd := bd) (pd := pd) (tk := tk) (kv := kv) (sd := sd) (p := (nI (sg (a + 1) - 48))) (hn := (by first | omega | assumption | rfl | (simp only []; omega) | decide))) cf_X5_isOne lk_X5_164 rfl rfl rfl rfl rfl (by decide +kernel) (Nat.le_of_ble_eq_true rfl) (fun rv_1 wv_2 hp_3 hm_4 => ?_)
    clear hm_4
    rcases hp_3 with ⟨hi_5, rfl, rfl⟩ | ⟨j_6, he_7, hi_8, hj_9, rfl, rfl⟩
    ·
      show VV E 0 0 202 [(4, .int (nI 1)), (3, .int (nI (tl ((3 * i) + 1)))), (2, .int (nI (sg (a + 1) - 48))), (0, .ref r0), (1, .int (nI i))] [.int (nI 0)] [(r0, .inr (5, [.int (nI n), .ref k1, .ref k2, .ref k3, .ref k4, .int (nI m), .ref k6, .ref k7, .ref k8, .int (nI 0), .ref k10, .int (nI aw), .ref k12, .ref k13, .ref k14, .ref k15, .ref k16, .int (nI ls), .int (nI ap), .int (bz bd), .int (nI sq), .ref k21, .ref k22, .ref k23, .ref k24, .ref k25, .int (bz pd), .int (nI pl), .int (bz tk), kv, .ref k30, .ref k31, .int (nI tz), .ref k33, .int (nI rs), .int sd])), (k1, .inl (cI, 7, .inl (nIf ki))), (k2, .inl (cI, 7, .inl (nIf op))), (k3, .inl (cI, 7, .inl (nIf (shF sh)))), (k4, .inl (cI, 7, .inl (nIf fa))), (k6, .inl (cI, 6, .inl (nIf K))), (k7, .inl (cI, 6, .inl (nIf G))), (k8, .inl (cI, 6, .inl (nIf T))), (k22, .inl (cI, 49, .inl lo)), (k23, .inl (cI, 147, .inl (nIf tl)))]
      have hn_q := ix_nn hi_5 hn (by omega)
      refine v_is (lv2 := [(4, .int (nI 0)), (3, .int (nI (tl ((3 * i) + 1)))), (2, .int (nI (sg (a + 1) - 48))), (0, .ref r0), (1, .int (nI i))]) 204 zC dX5_comesTold_202 (by rw [hnE]; decide) rfl ?_
      refine v_il 206 zC dX5_comesTold_204 0 rfl ?_
      refine v_if_eq 223 209 zC dX5_comesTold_206 (fun _ => ?_) (fun z => absurd (by decide +kernel) z)
      refine v_il 225 zC dX5_comesTold_223 0 rfl ?_
      refine v_zret zC zT dX5_comesTold_225 (by decide +kernel) ?_
      first | exact Or.inl ⟨ts_p0 hs9 (by omega), rfl, rfl⟩ | exact Or.inl ⟨ts_d0 hs9 d1.2.2 d2.2.2 (by omega), rfl, rfl⟩ | exact Or.inl ⟨ts_o0 (Or.inl hs9) (by assumption), rfl, rfl⟩ | exact Or.inl ⟨ts_o0 (Or.inr hs9) (by assumption), rfl, rfl⟩ | exact Or.inl ⟨ts_s0 hs9 hn_q, rfl, rfl⟩ | exact Or.inl ⟨ts_k0 hs9 hn_q, rfl, rfl⟩ | exact Or.inr ⟨_, _, _, _, _, _, _, _, _, ts_p1 hs9 (by omega) (by omega), ⟨by omega, hm, Nat.lt_of_lt_of_le hsh (Nat.pow_le_pow_right (by decide) (by omega)), un_b hki (by omega), un_b hop (by decide), un_b hfa (by decide), hK, hG, hT, un_v vki (by omega), un_v vop (by omega), un_v vfa (by omega), vK, vG, vT⟩, rfl, rfl⟩ | exact Or.inr ⟨_, _, _, _, _, _, _, _, _, ts_d1 hs9 (by omega) (by omega), ⟨hn, by omega, hsh, hki, hop, hfa, un_b hK (by omega), un_b hG (by omega), un_b hT (by omega), vki, vop, vfa, un_v vK (by omega), un_v vG (by omega), un_v vT (by omega)⟩, rfl, rfl⟩ | exact Or.inr ⟨_, _, _, _, _, _, _, _, _, ts_o1 hs9 (by assumption) (by assumption) (by assumption), ⟨hn, hm, hsh, hki, un_b hop (opv_lt (hop _) (by assumption)), hfa, hK, hG, hT, vki, un_v vop (by omega), vfa, vK, vG, vT⟩, rfl, rfl⟩ | exact Or.inr ⟨_, _, _, _, _, _, _, _, _, ts_c1 hs9 (by assumption) (by assumption) (by assumption), ⟨hn, hm, hsh, hki, un_b hop (opv_lt (hop _) (by assumption)), hfa, hK, hG, hT, vki, un_v vop (by omega), vfa, vK, vG, vT⟩, rfl, rfl⟩ | exact Or.inr ⟨_, _, _, _, _, _, _, _, _, ts_s1 hs9 hi_q, ⟨hn, hm, Nat.xor_lt_two_pow hsh (pow_lt2 hi_q), hki, hop, hfa, hK, hG, hT, vki, vop, vfa, vK, vG, vT⟩, rfl, by rw [shf_x]⟩ | exact Or.inr ⟨_, _, _, _, _, _, _, _, _, ts_k1 hs9 hi_q, ⟨hn, hm, hsh, hki, hop, un_b hfa (Nat.or_lt_two_pow (n := 10) (hfa _) (pow_lt2 (by omega))), hK, hG, hT, vki, vop, un_v vfa (by omega), vK, vG, vT⟩, rfl, rfl⟩
    ·
      show VV E 0 0 202 [(4, .int (nI 1)), (3, .int (nI (tl ((3 * i) + 1)))), (2, .int (nI (sg (a + 1) - 48))), (0, .ref r0), (1, .int (nI i))] [.int (nI 1)] [(r0, .inr (5, [.int (nI n), .ref k1, .ref k2, .ref k3, .ref k4, .int (nI m), .ref k6, .ref k7, .ref k8, .int (nI 0), .ref k10, .int (nI aw), .ref k12, .ref k13, .ref k14, .ref k15, .ref k16, .int (nI ls), .int (nI ap), .int (bz bd), .int (nI sq), .ref k21, .ref k22, .ref k23, .ref k24, .ref k25, .int (bz pd), .int (nI pl), .int (bz tk), kv, .ref k30, .ref k31, .int (nI tz), .ref k33, .int (nI rs), .int sd])), (k1, .inl (cI, 7, .inl (nIf ki))), (k2, .inl (cI, 7, .inl (nIf op))), (k3, .inl (cI, 7, .inl (nIf (shF sh)))), (k4, .inl (cI, 7, .inl (nIf fa))), (k6, .inl (cI, 6, .inl (nIf K))), (k7, .inl (cI, 6, .inl (nIf G))), (k8, .inl (cI, 6, .inl (nIf T))), (k22, .inl (cI, 49, .inl lo)), (k23, .inl (cI, 147, .inl (nIf tl)))]
      have hi_q := ix_ns he_7 hj_9 hn (by omega)
      refine v_is (lv2 := [(4, .int (nI 1)), (3, .int (nI (tl ((3 * i) + 1)))), (2, .int (nI (sg (a + 1) - 48))), (0, .ref r0), (1, .int (nI i))]) 204 zC dX5_comesTold_202 (by rw [hnE]; decide) rfl ?_
      refine v_il 206 zC dX5_comesTold_204 0 rfl ?_
      refine v_if_eq 223 209 zC dX5_comesTold_206 (fun z => absurd z (by decide +kernel)) (fun _ => ?_)
      refine v_al_n 210 zC dX5_comesTold_209 3 rfl ?_
      refine v_gf 213 0 zC dX5_comesTold_210 gf_X5_16 rfl rfl ?_
      refine v_il_n 214 zC dX5_comesTold_213 2 rfl ?_
      refine v_ic (v := (nI 1)) 215 zC dX5_comesTold_214 (by decide +kernel) ?_
      refine v_al_n 216 zC dX5_comesTold_215 3 rfl ?_
      refine v_gf 219 0 zC dX5_comesTold_216 gf_X5_16 rfl rfl ?_
      refine v_il_n 220 zC dX5_comesTold_219 2 rfl ?_
      refine v_ialn (v := (nI ((shF sh) (sg (a + 1) - 48)))) 221 3 zC dX5_comesTold_220 rfl (by omega) rfl ?_
      have hs1 := shf_l sh (sg (a + 1) - 48)
      refine v_isub (v := (nI (1 - ((shF sh) (sg (a + 1) - 48))))) 222 zC dX5_comesTold_221 (pk_sub (by first | omega | exact Nat.one_le_two_pow)) ?_
      refine v_iasn (ws2 := [(r0, .inr (5, [.int (nI n), .ref k1, .ref k2, .ref k3, .ref k4, .int (nI m), .ref k6, .ref k7, .ref k8, .int (nI 0), .ref k10, .int (nI aw), .ref k12, .ref k13, .ref k14, .ref k15, .ref k16, .int (nI ls), .int (nI ap), .int (bz bd), .int (nI sq), .ref k21, .ref k22, .ref k23, .ref k24, .ref k25, .int (bz pd), .int (nI pl), .int (bz tk), kv, .ref k30, .ref k31, .int (nI tz), .ref k33, .int (nI rs), .int sd])), (k1, .inl (cI, 7, .inl (nIf ki))), (k2, .inl (cI, 7, .inl (nIf op))), (k3, .inl (cI, 7, .inl (nIf (un (shF sh) (sg (a + 1) - 48) (1 - ((shF sh) (sg (a + 1) - 48))))))), (k4, .inl (cI, 7, .inl (nIf fa))), (k6, .inl (cI, 6, .inl (nIf K))), (k7, .inl (cI, 6, .inl (nIf G))), (k8, .inl (cI, 6, .inl (nIf T))), (k22, .inl (cI, 49, .inl lo)), (k23, .inl (cI, 147, .inl (nIf tl)))]) 223 3 zC dX5_comesTold_222 rfl (by omega) (by rw [upd_nIf]; first | done | rfl) ?_
      refine v_il 225 zC dX5_comesTold_223 0 rfl ?_
      refine v_zret zC zT dX5_comesTold_225 (by decide +kernel) ?_
      first | exact Or.inl ⟨ts_p0 hs9 (by omega), rfl, rfl⟩ | exact Or.inl ⟨ts_d0 hs9 d1.2.2 d2.2.2 (by omega), rfl, rfl⟩ | exact Or.inl ⟨ts_o0 (Or.inl hs9) (by assumption), rfl, rfl⟩ | exact Or.inl ⟨ts_o0 (Or.inr hs9) (by assumption), rfl, rfl⟩ | exact Or.inl ⟨ts_s0 hs9 hn_q, rfl, rfl⟩ | exact Or.inl ⟨ts_k0 hs9 hn_q, rfl, rfl⟩ | exact Or.inr ⟨_, _, _, _, _, _, _, _, _, ts_p1 hs9 (by omega) (by omega), ⟨by omega, hm, Nat.lt_of_lt_of_le hsh (Nat.pow_le_pow_right (by decide) (by omega)), un_b hki (by omega), un_b hop (by decide), un_b hfa (by decide), hK, hG, hT, un_v vki (by omega), un_v vop (by omega), un_v vfa (by omega), vK, vG, vT⟩, rfl, rfl⟩ | exact Or.inr ⟨_, _, _, _, _, _, _, _, _, ts_d1 hs9 (by omega) (by omega), ⟨hn, by omega, hsh, hki, hop, hfa, un_b hK (by omega), un_b hG (by omega), un_b hT (by omega), vki, vop, vfa, un_v vK (by omega), un_v vG (by omega), un_v vT (by omega)⟩, rfl, rfl⟩ | exact Or.inr ⟨_, _, _, _, _, _, _, _, _, ts_o1 hs9 (by assumption) (by assumption) (by assumption), ⟨hn, hm, hsh, hki, un_b hop (opv_lt (hop _) (by assumption)), hfa, hK, hG, hT, vki, un_v vop (by omega), vfa, vK, vG, vT⟩, rfl, rfl⟩ | exact Or.inr ⟨_, _, _, _, _, _, _, _, _, ts_c1 hs9 (by assumption) (by assumption) (by assumption), ⟨hn, hm, hsh, hki, un_b hop (opv_lt (hop _) (by assumption)), hfa, hK, hG, hT, vki, un_v vop (by omega), vfa, vK, vG, vT⟩, rfl, rfl⟩ | exact Or.inr ⟨_, _, _, _, _, _, _, _, _, ts_s1 hs9 hi_q, ⟨hn, hm, Nat.xor_lt_two_pow hsh (pow_lt2 hi_q), hki, hop, hfa, hK, hG, hT, vki, vop, vfa, vK, vG, vT⟩, rfl, by rw [shf_x]⟩ | exact Or.inr ⟨_, _, _, _, _, _, _, _, _, ts_k1 hs9 hi_q, ⟨hn, hm, hsh, hki, hop, un_b hfa (Nat.or_lt_two_pow (n := 10) (hfa _) (pow_lt2 (by omega))), hK, hG, hT, vki, vop, un_v vfa (by omega), vK, vG, vT⟩, rfl, rfl⟩
  ·
    subst he9
    have d0 : (a + 1) < lq ∧ 48 ≤ sg (a + 1) ∧ sg (a + 1) ≤ 57 := dig_d (hdg 0 (by omega))
    have d1 : (a + 2) < lq ∧ 48 ≤ sg (a + 2) ∧ sg (a + 2) ≤ 57 := dig_d (hdg 1 (by omega))
    have e1 : (a + 1 + 1) < lq ∧ 48 ≤ sg (a + 1 + 1) ∧ sg (a + 1 + 1) ≤ 57 := d1
    rw [hlo, hs9]
    have t0 : (tl (3 * i)) = (10 * (sg (a + 1) - 48) + (sg (a + 1 + 1) - 48)) := htl.1 hs9
    rw [t0]
    refine v_lsw (off := 51) 80 zC dX5_comesTold_29 ((by decide +kernel)) ?_
    refine v_il_n 81 zC dX5_comesTold_80 2 rfl ?_
    refine v_bp (v := (nI 64)) 83 zC dX5_comesTold_81 (by decide +kernel) ?_
    refine v_icmpn_ge 99 86 zC dX5_comesTold_83 (fun h_12 => ?_) (fun h_12 => ?_)
    ·
      refine v_ic (v := (nI 0)) 100 zC dX5_comesTold_99 (by decide +kernel) ?_
      refine v_is (lv2 := [(4, .int (nI 0)), (3, .int (nI (tl ((3 * i) + 1)))), (2, .int (nI (10 * (sg (a + 1) - 48) + (sg (a + 1 + 1) - 48)))), (0, .ref r0), (1, .int (nI i))]) 102 zC dX5_comesTold_100 (by rw [hnE]; decide) rfl ?_
      refine v_il 104 zC dX5_comesTold_102 0 rfl ?_
      refine v_if_eq 112 107 zC dX5_comesTold_104 (fun _ => ?_) (fun z => absurd (by decide +kernel) z)
      refine v_il 114 zC dX5_comesTold_112 0 rfl ?_
      refine v_zret zC zT dX5_comesTold_114 (by decide +kernel) ?_
      first | exact Or.inl ⟨ts_p0 hs9 (by omega), rfl, rfl⟩ | exact Or.inl ⟨ts_d0 hs9 d1.2.2 d2.2.2 (by omega), rfl, rfl⟩ | exact Or.inl ⟨ts_o0 (Or.inl hs9) (by assumption), rfl, rfl⟩ | exact Or.inl ⟨ts_o0 (Or.inr hs9) (by assumption), rfl, rfl⟩ | exact Or.inl ⟨ts_s0 hs9 hn_q, rfl, rfl⟩ | exact Or.inl ⟨ts_k0 hs9 hn_q, rfl, rfl⟩ | exact Or.inr ⟨_, _, _, _, _, _, _, _, _, ts_p1 hs9 (by omega) (by omega), ⟨by omega, hm, Nat.lt_of_lt_of_le hsh (Nat.pow_le_pow_right (by decide) (by omega)), un_b hki (by omega), un_b hop (by decide), un_b hfa (by decide), hK, hG, hT, un_v vki (by omega), un_v vop (by omega), un_v vfa (by omega), vK, vG, vT⟩, rfl, rfl⟩ | exact Or.inr ⟨_, _, _, _, _, _, _, _, _, ts_d1 hs9 (by omega) (by omega), ⟨hn, by omega, hsh, hki, hop, hfa, un_b hK (by omega), un_b hG (by omega), un_b hT (by omega), vki, vop, vfa, un_v vK (by omega), un_v vG (by omega), un_v vT (by omega)⟩, rfl, rfl⟩ | exact Or.inr ⟨_, _, _, _, _, _, _, _, _, ts_o1 hs9 (by assumption) (by assumption) (by assumption), ⟨hn, hm, hsh, hki, un_b hop (opv_lt (hop _) (by assumption)), hfa, hK, hG, hT, vki, un_v vop (by omega), vfa, vK, vG, vT⟩, rfl, rfl⟩ | exact Or.inr ⟨_, _, _, _, _, _, _, _, _, ts_c1 hs9 (by assumption) (by assumption) (by assumption), ⟨hn, hm, hsh, hki, un_b hop (opv_lt (hop _) (by assumption)), hfa, hK, hG, hT, vki, un_v vop (by omega), vfa, vK, vG, vT⟩, rfl, rfl⟩ | exact Or.inr ⟨_, _, _, _, _, _, _, _, _, ts_s1 hs9 hi_q, ⟨hn, hm, Nat.xor_lt_two_pow hsh (pow_lt2 hi_q), hki, hop, hfa, hK, hG, hT, vki, vop, vfa, vK, vG, vT⟩, rfl, by rw [shf_x]⟩ | exact Or.inr ⟨_, _, _, _, _, _, _, _, _, ts_k1 hs9 hi_q, ⟨hn, hm, hsh, hki, hop, un_b hfa (Nat.or_lt_two_pow (n := 10) (hfa _) (pow_lt2 (by omega))), hK, hG, hT, vki, vop, un_v vfa (by omega), vK, vG, vT⟩, rfl, rfl⟩
    ·
      refine v_al_n 87 zC dX5_comesTold_86 3 rfl ?_
      refine v_gf 90 0 zC dX5_comesTold_87 gf_X5_77 rfl rfl ?_
      refine v_bp (v := (nI 7)) 92 zC dX5_comesTold_90 (by decide +kernel) ?_
      refine v_icmpn_ge 99 95 zC dX5_comesTold_92 (fun h_14 => ?_) (fun h_14 => ?_)
      ·
        refine v_ic (v := (nI 0)) 100 zC dX5_comesTold_99 (by decide +kernel) ?_
        refine v_is (lv2 := [(4, .int (nI 0)), (3, .int (nI (tl ((3 * i) + 1)))), (2, .int (nI (10 * (sg (a + 1) - 48) + (sg (a + 1 + 1) - 48)))), (0, .ref r0), (1, .int (nI i))]) 102 zC dX5_comesTold_100 (by rw [hnE]; decide) rfl ?_
        refine v_il 104 zC dX5_comesTold_102 0 rfl ?_
        refine v_if_eq 112 107 zC dX5_comesTold_104 (fun _ => ?_) (fun z => absurd (by decide +kernel) z)
        refine v_il 114 zC dX5_comesTold_112 0 rfl ?_
        refine v_zret zC zT dX5_comesTold_114 (by decide +kernel) ?_
        first | exact Or.inl ⟨ts_p0 hs9 (by omega), rfl, rfl⟩ | exact Or.inl ⟨ts_d0 hs9 d1.2.2 d2.2.2 (by omega), rfl, rfl⟩ | exact Or.inl ⟨ts_o0 (Or.inl hs9) (by assumption), rfl, rfl⟩ | exact Or.inl ⟨ts_o0 (Or.inr hs9) (by assumption), rfl, rfl⟩ | exact Or.inl ⟨ts_s0 hs9 hn_q, rfl, rfl⟩ | exact Or.inl ⟨ts_k0 hs9 hn_q, rfl, rfl⟩ | exact Or.inr ⟨_, _, _, _, _, _, _, _, _, ts_p1 hs9 (by omega) (by omega), ⟨by omega, hm, Nat.lt_of_lt_of_le hsh (Nat.pow_le_pow_right (by decide) (by omega)), un_b hki (by omega), un_b hop (by decide), un_b hfa (by decide), hK, hG, hT, un_v vki (by omega), un_v vop (by omega), un_v vfa (by omega), vK, vG, vT⟩, rfl, rfl⟩ | exact Or.inr ⟨_, _, _, _, _, _, _, _, _, ts_d1 hs9 (by omega) (by omega), ⟨hn, by omega, hsh, hki, hop, hfa, un_b hK (by omega), un_b hG (by omega), un_b hT (by omega), vki, vop, vfa, un_v vK (by omega), un_v vG (by omega), un_v vT (by omega)⟩, rfl, rfl⟩ | exact Or.inr ⟨_, _, _, _, _, _, _, _, _, ts_o1 hs9 (by assumption) (by assumption) (by assumption), ⟨hn, hm, hsh, hki, un_b hop (opv_lt (hop _) (by assumption)), hfa, hK, hG, hT, vki, un_v vop (by omega), vfa, vK, vG, vT⟩, rfl, rfl⟩ | exact Or.inr ⟨_, _, _, _, _, _, _, _, _, ts_c1 hs9 (by assumption) (by assumption) (by assumption), ⟨hn, hm, hsh, hki, un_b hop (opv_lt (hop _) (by assumption)), hfa, hK, hG, hT, vki, un_v vop (by omega), vfa, vK, vG, vT⟩, rfl, rfl⟩ | exact Or.inr ⟨_, _, _, _, _, _, _, _, _, ts_s1 hs9 hi_q, ⟨hn, hm, Nat.xor_lt_two_pow hsh (pow_lt2 hi_q), hki, hop, hfa, hK, hG, hT, vki, vop, vfa, vK, vG, vT⟩, rfl, by rw [shf_x]⟩ | exact Or.inr ⟨_, _, _, _, _, _, _, _, _, ts_k1 hs9 hi_q, ⟨hn, hm, hsh, hki, hop, un_b hfa (Nat.or_lt_two_pow (n := 10) (hfa _) (pow_lt2 (by omega))), hK, hG, hT, vki, vop, un_v vfa (by omega), vK, vG, vT⟩, rfl, rfl⟩
      ·
        refine v_ic (v := (nI 1)) 96 zC dX5_comesTold_95 (by decide +kernel) ?_
        refine v_goto 100 zC dX5_comesTold_96 ?_
        refine v_is (lv2 := [(4, .int (nI 1)), (3, .int (nI (tl ((3 * i) + 1)))), (2, .int (nI (10 * (sg (a + 1) - 48) + (sg (a + 1 + 1) - 48)))), (0, .ref r0), (1, .int (nI i))]) 102 zC dX5_comesTold_100 (by rw [hnE]; decide) rfl ?_
        refine v_il 104 zC dX5_comesTold_102 0 rfl ?_
        refine v_if_eq 112 107 zC dX5_comesTold_104 (fun z => absurd z (by decide +kernel)) (fun _ => ?_)
        refine v_al_n 108 zC dX5_comesTold_107 3 rfl ?_
        refine v_il_n 109 zC dX5_comesTold_108 2 rfl ?_
        refine v_cV (As := [.int (nI (10 * (sg (a + 1) - 48) + (sg (a + 1 + 1) - 48)))]) (st := []) 112 0 [0, 1, 2, 3, 4] zC dX5_comesTold_109 hA (c_X5_oneComes (ev_l E) (ev_D E) cI (r0 := r0) (k1 := k1) (k2 := k2) (k3 := k3) (k4 := k4) (k6 := k6) (k7 := k7) (k8 := k8) (k10 := k10) (k12 := k12) (k13 := k13) (k14 := k14) (k15 := k15) (k16 := k16) (k21 := k21) (k22 := k22) (k23 := k23) (k24 := k24) (k25 := k25) (k30 := k30) (k31 := k31) (k33 := k33) (n := n) (m := m) (aw := aw) (ls := ls) (ap := ap) (sq := sq) (pl := pl) (tz := tz) (rs := rs) (bd := bd) (pd := pd) (tk := tk) (kv := kv) (sd := sd) (ki := ki) (op := op) (fa := fa) (sh := sh) (k := (10 * (sg (a + 1) - 48) + (sg (a + 1 + 1) - 48))) (hn := (by first | omega | assumption | rfl | (simp only []; omega) | decide)) (hsh := (by first | omega | assumption | rfl | (simp only []; omega) | decide))) cf_X5_oneComes lk_X5_167 rfl rfl rfl rfl rfl (by decide +kernel) (Nat.le_of_ble_eq_true rfl) (fun rv_17 wv_18 hp_19 hm_20 => ?_)
        clear hm_20
        obtain ⟨rfl, rfl⟩ := hp_19
        show VV E 0 0 112 [(4, .int (nI 1)), (3, .int (nI (tl ((3 * i) + 1)))), (2, .int (nI (10 * (sg (a + 1) - 48) + (sg (a + 1 + 1) - 48)))), (0, .ref r0), (1, .int (nI i))] [] [(r0, .inr (5, [.int (nI (n + 1)), .ref k1, .ref k2, .ref k3, .ref k4, .int (nI m), .ref k6, .ref k7, .ref k8, .int (nI 0), .ref k10, .int (nI aw), .ref k12, .ref k13, .ref k14, .ref k15, .ref k16, .int (nI ls), .int (nI ap), .int (bz bd), .int (nI sq), .ref k21, .ref k22, .ref k23, .ref k24, .ref k25, .int (bz pd), .int (nI pl), .int (bz tk), kv, .ref k30, .ref k31, .int (nI tz), .ref k33, .int (nI rs), .int sd])), (k1, .inl (cI, 7, .inl (nIf (un ki n (10 * (sg (a + 1) - 48) + (sg (a + 1 + 1) - 48)))))), (k2, .inl (cI, 7, .inl (nIf (un op n 0)))), (k3, .inl (cI, 7, .inl (nIf (shF sh)))), (k4, .inl (cI, 7, .inl (nIf (un fa n 0)))), (k6, .inl (cI, 6, .inl (nIf K))), (k7, .inl (cI, 6, .inl (nIf G))), (k8, .inl (cI, 6, .inl (nIf T))), (k22, .inl (cI, 49, .inl lo)), (k23, .inl (cI, 147, .inl (nIf tl)))]
        refine v_il 114 zC dX5_comesTold_112 0 rfl ?_
        refine v_zret zC zT dX5_comesTold_114 (by decide +kernel) ?_
        first | exact Or.inl ⟨ts_p0 hs9 (by omega), rfl, rfl⟩ | exact Or.inl ⟨ts_d0 hs9 d1.2.2 d2.2.2 (by omega), rfl, rfl⟩ | exact Or.inl ⟨ts_o0 (Or.inl hs9) (by assumption), rfl, rfl⟩ | exact Or.inl ⟨ts_o0 (Or.inr hs9) (by assumption), rfl, rfl⟩ | exact Or.inl ⟨ts_s0 hs9 hn_q, rfl, rfl⟩ | exact Or.inl ⟨ts_k0 hs9 hn_q, rfl, rfl⟩ | exact Or.inr ⟨_, _, _, _, _, _, _, _, _, ts_p1 hs9 (by omega) (by omega), ⟨by omega, hm, Nat.lt_of_lt_of_le hsh (Nat.pow_le_pow_right (by decide) (by omega)), un_b hki (by omega), un_b hop (by decide), un_b hfa (by decide), hK, hG, hT, un_v vki (by omega), un_v vop (by omega), un_v vfa (by omega), vK, vG, vT⟩, rfl, rfl⟩ | exact Or.inr ⟨_, _, _, _, _, _, _, _, _, ts_d1 hs9 (by omega) (by omega), ⟨hn, by omega, hsh, hki, hop, hfa, un_b hK (by omega), un_b hG (by omega), un_b hT (by omega), vki, vop, vfa, un_v vK (by omega), un_v vG (by omega), un_v vT (by omega)⟩, rfl, rfl⟩ | exact Or.inr ⟨_, _, _, _, _, _, _, _, _, ts_o1 hs9 (by assumption) (by assumption) (by assumption), ⟨hn, hm, hsh, hki, un_b hop (opv_lt (hop _) (by assumption)), hfa, hK, hG, hT, vki, un_v vop (by omega), vfa, vK, vG, vT⟩, rfl, rfl⟩ | exact Or.inr ⟨_, _, _, _, _, _, _, _, _, ts_c1 hs9 (by assumption) (by assumption) (by assumption), ⟨hn, hm, hsh, hki, un_b hop (opv_lt (hop _) (by assumption)), hfa, hK, hG, hT, vki, un_v vop (by omega), vfa, vK, vG, vT⟩, rfl, rfl⟩ | exact Or.inr ⟨_, _, _, _, _, _, _, _, _, ts_s1 hs9 hi_q, ⟨hn, hm, Nat.xor_lt_two_pow hsh (pow_lt2 hi_q), hki, hop, hfa, hK, hG, hT, vki, vop, vfa, vK, vG, vT⟩, rfl, by rw [shf_x]⟩ | exact Or.inr ⟨_, _, _, _, _, _, _, _, _, ts_k1 hs9 hi_q, ⟨hn, hm, hsh, hki, hop, un_b hfa (Nat.or_lt_two_pow (n := 10) (hfa _) (pow_lt2 (by omega))), hK, hG, hT, vki, vop, un_v vfa (by omega), vK, vG, vT⟩, rfl, rfl⟩
  ·
    subst he9
    have d0 : (a + 1) < lq ∧ 48 ≤ sg (a + 1) ∧ sg (a + 1) ≤ 57 := dig_d (hdg 0 (by omega))
    have d1 : (a + 2) < lq ∧ 48 ≤ sg (a + 2) ∧ sg (a + 2) ≤ 57 := dig_d (hdg 1 (by omega))
    rw [hlo, hs9]
    have t0 : (tl (3 * i)) = (sg (a + 1) - 48) := (htl.2.2.2.2 hs9).1
    rw [t0]
    have t1 : (tl ((3 * i) + 1)) = (sg (a + 2) - 48) := (htl.2.2.2.2 hs9).2
    rw [t1]
    refine v_lsw (off := 197) 226 zC dX5_comesTold_29 ((by decide +kernel)) ?_
    refine v_al_n 227 zC dX5_comesTold_226 3 rfl ?_
    refine v_il_n 228 zC dX5_comesTold_227 2 rfl ?_
    refine v_cV (As := [.int (nI (sg (a + 1) - 48))]) (st := []) 231 0 [0] zC dX5_comesTold_228 hA (c_X5_isOne (ev_l E) (ev_D E) cI (r0 := r0) (k1 := k1) (k2 := k2) (k3 := k3) (k4 := k4) (k6 := k6) (k7 := k7) (k8 := k8) (k10 := k10) (k12 := k12) (k13 := k13) (k14 := k14) (k15 := k15) (k16 := k16) (k21 := k21) (k22 := k22) (k23 := k23) (k24 := k24) (k25 := k25) (k30 := k30) (k31 := k31) (k33 := k33) (n := n) (m := m) (aw := aw) (ls := ls) (ap := ap) (sq := sq) (pl := pl) (tz := tz) (rs := rs) (bd := bd) (pd := pd) (tk := tk) (kv := kv) (sd := sd) (p := (nI (sg (a + 1) - 48))) (hn := (by first | omega | assumption | rfl | (simp only []; omega) | decide))) cf_X5_isOne lk_X5_164 rfl rfl rfl rfl rfl (by decide +kernel) (Nat.le_of_ble_eq_true rfl) (fun rv_21 wv_22 hp_23 hm_24 => ?_)
    clear hm_24
    rcases hp_23 with ⟨hi_25, rfl, rfl⟩ | ⟨j_26, he_27, hi_28, hj_29, rfl, rfl⟩
    ·
      show VV E 0 0 231 [(4, .int (nI 1)), (3, .int (nI (sg (a + 2) - 48))), (2, .int (nI (sg (a + 1) - 48))), (0, .ref r0), (1, .int (nI i))] [.int (nI 0)] [(r0, .inr (5, [.int (nI n), .ref k1, .ref k2, .ref k3, .ref k4, .int (nI m), .ref k6, .ref k7, .ref k8, .int (nI 0), .ref k10, .int (nI aw), .ref k12, .ref k13, .ref k14, .ref k15, .ref k16, .int (nI ls), .int (nI ap), .int (bz bd), .int (nI sq), .ref k21, .ref k22, .ref k23, .ref k24, .ref k25, .int (bz pd), .int (nI pl), .int (bz tk), kv, .ref k30, .ref k31, .int (nI tz), .ref k33, .int (nI rs), .int sd])), (k1, .inl (cI, 7, .inl (nIf ki))), (k2, .inl (cI, 7, .inl (nIf op))), (k3, .inl (cI, 7, .inl (nIf (shF sh)))), (k4, .inl (cI, 7, .inl (nIf fa))), (k6, .inl (cI, 6, .inl (nIf K))), (k7, .inl (cI, 6, .inl (nIf G))), (k8, .inl (cI, 6, .inl (nIf T))), (k22, .inl (cI, 49, .inl lo)), (k23, .inl (cI, 147, .inl (nIf tl)))]
      have hn_q := ix_nn hi_25 hn (by omega)
      refine v_is (lv2 := [(4, .int (nI 0)), (3, .int (nI (sg (a + 2) - 48))), (2, .int (nI (sg (a + 1) - 48))), (0, .ref r0), (1, .int (nI i))]) 233 zC dX5_comesTold_231 (by rw [hnE]; decide) rfl ?_
      refine v_il 235 zC dX5_comesTold_233 0 rfl ?_
      refine v_if_eq 250 238 zC dX5_comesTold_235 (fun _ => ?_) (fun z => absurd (by decide +kernel) z)
      refine v_il 252 zC dX5_comesTold_250 0 rfl ?_
      refine v_zret zC zT dX5_comesTold_252 (by decide +kernel) ?_
      first | exact Or.inl ⟨ts_p0 hs9 (by omega), rfl, rfl⟩ | exact Or.inl ⟨ts_d0 hs9 d1.2.2 d2.2.2 (by omega), rfl, rfl⟩ | exact Or.inl ⟨ts_o0 (Or.inl hs9) (by assumption), rfl, rfl⟩ | exact Or.inl ⟨ts_o0 (Or.inr hs9) (by assumption), rfl, rfl⟩ | exact Or.inl ⟨ts_s0 hs9 hn_q, rfl, rfl⟩ | exact Or.inl ⟨ts_k0 hs9 hn_q, rfl, rfl⟩ | exact Or.inr ⟨_, _, _, _, _, _, _, _, _, ts_p1 hs9 (by omega) (by omega), ⟨by omega, hm, Nat.lt_of_lt_of_le hsh (Nat.pow_le_pow_right (by decide) (by omega)), un_b hki (by omega), un_b hop (by decide), un_b hfa (by decide), hK, hG, hT, un_v vki (by omega), un_v vop (by omega), un_v vfa (by omega), vK, vG, vT⟩, rfl, rfl⟩ | exact Or.inr ⟨_, _, _, _, _, _, _, _, _, ts_d1 hs9 (by omega) (by omega), ⟨hn, by omega, hsh, hki, hop, hfa, un_b hK (by omega), un_b hG (by omega), un_b hT (by omega), vki, vop, vfa, un_v vK (by omega), un_v vG (by omega), un_v vT (by omega)⟩, rfl, rfl⟩ | exact Or.inr ⟨_, _, _, _, _, _, _, _, _, ts_o1 hs9 (by assumption) (by assumption) (by assumption), ⟨hn, hm, hsh, hki, un_b hop (opv_lt (hop _) (by assumption)), hfa, hK, hG, hT, vki, un_v vop (by omega), vfa, vK, vG, vT⟩, rfl, rfl⟩ | exact Or.inr ⟨_, _, _, _, _, _, _, _, _, ts_c1 hs9 (by assumption) (by assumption) (by assumption), ⟨hn, hm, hsh, hki, un_b hop (opv_lt (hop _) (by assumption)), hfa, hK, hG, hT, vki, un_v vop (by omega), vfa, vK, vG, vT⟩, rfl, rfl⟩ | exact Or.inr ⟨_, _, _, _, _, _, _, _, _, ts_s1 hs9 hi_q, ⟨hn, hm, Nat.xor_lt_two_pow hsh (pow_lt2 hi_q), hki, hop, hfa, hK, hG, hT, vki, vop, vfa, vK, vG, vT⟩, rfl, by rw [shf_x]⟩ | exact Or.inr ⟨_, _, _, _, _, _, _, _, _, ts_k1 hs9 hi_q, ⟨hn, hm, hsh, hki, hop, un_b hfa (Nat.or_lt_two_pow (n := 10) (hfa _) (pow_lt2 (by omega))), hK, hG, hT, vki, vop, un_v vfa (by omega), vK, vG, vT⟩, rfl, rfl⟩
    ·
      show VV E 0 0 231 [(4, .int (nI 1)), (3, .int (nI (sg (a + 2) - 48))), (2, .int (nI (sg (a + 1) - 48))), (0, .ref r0), (1, .int (nI i))] [.int (nI 1)] [(r0, .inr (5, [.int (nI n), .ref k1, .ref k2, .ref k3, .ref k4, .int (nI m), .ref k6, .ref k7, .ref k8, .int (nI 0), .ref k10, .int (nI aw), .ref k12, .ref k13, .ref k14, .ref k15, .ref k16, .int (nI ls), .int (nI ap), .int (bz bd), .int (nI sq), .ref k21, .ref k22, .ref k23, .ref k24, .ref k25, .int (bz pd), .int (nI pl), .int (bz tk), kv, .ref k30, .ref k31, .int (nI tz), .ref k33, .int (nI rs), .int sd])), (k1, .inl (cI, 7, .inl (nIf ki))), (k2, .inl (cI, 7, .inl (nIf op))), (k3, .inl (cI, 7, .inl (nIf (shF sh)))), (k4, .inl (cI, 7, .inl (nIf fa))), (k6, .inl (cI, 6, .inl (nIf K))), (k7, .inl (cI, 6, .inl (nIf G))), (k8, .inl (cI, 6, .inl (nIf T))), (k22, .inl (cI, 49, .inl lo)), (k23, .inl (cI, 147, .inl (nIf tl)))]
      have hi_q := ix_ns he_27 hj_29 hn (by omega)
      refine v_is (lv2 := [(4, .int (nI 1)), (3, .int (nI (sg (a + 2) - 48))), (2, .int (nI (sg (a + 1) - 48))), (0, .ref r0), (1, .int (nI i))]) 233 zC dX5_comesTold_231 (by rw [hnE]; decide) rfl ?_
      refine v_il 235 zC dX5_comesTold_233 0 rfl ?_
      refine v_if_eq 250 238 zC dX5_comesTold_235 (fun z => absurd z (by decide +kernel)) (fun _ => ?_)
      refine v_al_n 239 zC dX5_comesTold_238 3 rfl ?_
      refine v_gf 242 0 zC dX5_comesTold_239 gf_X5_19 rfl rfl ?_
      refine v_il_n 243 zC dX5_comesTold_242 2 rfl ?_
      refine v_dup2 244 zC dX5_comesTold_243 rfl rfl ?_
      refine v_ialn (v := (nI (fa (sg (a + 1) - 48)))) 245 4 zC dX5_comesTold_244 rfl (by omega) rfl ?_
      refine v_ic (v := (nI 1)) 246 zC dX5_comesTold_245 (by decide +kernel) ?_
      refine v_il_n 247 zC dX5_comesTold_246 1 rfl ?_
      refine v_ishl (v := (nI (2 ^ (sg (a + 2) - 48)))) 248 zC dX5_comesTold_247 (b1n (by omega)) ?_
      refine v_ior (v := (nI ((fa (sg (a + 1) - 48)) ||| (2 ^ (sg (a + 2) - 48))))) 249 zC dX5_comesTold_248 (fa_or _ _) ?_
      refine v_iasn (ws2 := [(r0, .inr (5, [.int (nI n), .ref k1, .ref k2, .ref k3, .ref k4, .int (nI m), .ref k6, .ref k7, .ref k8, .int (nI 0), .ref k10, .int (nI aw), .ref k12, .ref k13, .ref k14, .ref k15, .ref k16, .int (nI ls), .int (nI ap), .int (bz bd), .int (nI sq), .ref k21, .ref k22, .ref k23, .ref k24, .ref k25, .int (bz pd), .int (nI pl), .int (bz tk), kv, .ref k30, .ref k31, .int (nI tz), .ref k33, .int (nI rs), .int sd])), (k1, .inl (cI, 7, .inl (nIf ki))), (k2, .inl (cI, 7, .inl (nIf op))), (k3, .inl (cI, 7, .inl (nIf (shF sh)))), (k4, .inl (cI, 7, .inl (nIf (un fa (sg (a + 1) - 48) ((fa (sg (a + 1) - 48)) ||| (2 ^ (sg (a + 2) - 48))))))), (k6, .inl (cI, 6, .inl (nIf K))), (k7, .inl (cI, 6, .inl (nIf G))), (k8, .inl (cI, 6, .inl (nIf T))), (k22, .inl (cI, 49, .inl lo)), (k23, .inl (cI, 147, .inl (nIf tl)))]) 250 4 zC dX5_comesTold_249 rfl (by omega) (by rw [upd_nIf]; first | done | rfl) ?_
      refine v_il 252 zC dX5_comesTold_250 0 rfl ?_
      refine v_zret zC zT dX5_comesTold_252 (by decide +kernel) ?_
      first | exact Or.inl ⟨ts_p0 hs9 (by omega), rfl, rfl⟩ | exact Or.inl ⟨ts_d0 hs9 d1.2.2 d2.2.2 (by omega), rfl, rfl⟩ | exact Or.inl ⟨ts_o0 (Or.inl hs9) (by assumption), rfl, rfl⟩ | exact Or.inl ⟨ts_o0 (Or.inr hs9) (by assumption), rfl, rfl⟩ | exact Or.inl ⟨ts_s0 hs9 hn_q, rfl, rfl⟩ | exact Or.inl ⟨ts_k0 hs9 hn_q, rfl, rfl⟩ | exact Or.inr ⟨_, _, _, _, _, _, _, _, _, ts_p1 hs9 (by omega) (by omega), ⟨by omega, hm, Nat.lt_of_lt_of_le hsh (Nat.pow_le_pow_right (by decide) (by omega)), un_b hki (by omega), un_b hop (by decide), un_b hfa (by decide), hK, hG, hT, un_v vki (by omega), un_v vop (by omega), un_v vfa (by omega), vK, vG, vT⟩, rfl, rfl⟩ | exact Or.inr ⟨_, _, _, _, _, _, _, _, _, ts_d1 hs9 (by omega) (by omega), ⟨hn, by omega, hsh, hki, hop, hfa, un_b hK (by omega), un_b hG (by omega), un_b hT (by omega), vki, vop, vfa, un_v vK (by omega), un_v vG (by omega), un_v vT (by omega)⟩, rfl, rfl⟩ | exact Or.inr ⟨_, _, _, _, _, _, _, _, _, ts_o1 hs9 (by assumption) (by assumption) (by assumption), ⟨hn, hm, hsh, hki, un_b hop (opv_lt (hop _) (by assumption)), hfa, hK, hG, hT, vki, un_v vop (by omega), vfa, vK, vG, vT⟩, rfl, rfl⟩ | exact Or.inr ⟨_, _, _, _, _, _, _, _, _, ts_c1 hs9 (by assumption) (by assumption) (by assumption), ⟨hn, hm, hsh, hki, un_b hop (opv_lt (hop _) (by assumption)), hfa, hK, hG, hT, vki, un_v vop (by omega), vfa, vK, vG, vT⟩, rfl, rfl⟩ | exact Or.inr ⟨_, _, _, _, _, _, _, _, _, ts_s1 hs9 hi_q, ⟨hn, hm, Nat.xor_lt_two_pow hsh (pow_lt2 hi_q), hki, hop, hfa, hK, hG, hT, vki, vop, vfa, vK, vG, vT⟩, rfl, by rw [shf_x]⟩ | exact Or.inr ⟨_, _, _, _, _, _, _, _, _, ts_k1 hs9 hi_q, ⟨hn, hm, hsh, hki, hop, un_b hfa (Nat.or_lt_two_pow (n := 10) (hfa _) (pow_lt2 (by omega))), hK, hG, hT, vki, vop, un_v vfa (by omega), vK, vG, vT⟩, rfl, rfl⟩
  ·
    subst he9
    have d0 : (a + 1) < lq ∧ 48 ≤ sg (a + 1) ∧ sg (a + 1) ≤ 57 := dig_d (hdg 0 (by omega))
    have d1 : (a + 2) < lq ∧ 48 ≤ sg (a + 2) ∧ sg (a + 2) ≤ 57 := dig_d (hdg 1 (by omega))
    have d2 : (a + 3) < lq ∧ 48 ≤ sg (a + 3) ∧ sg (a + 3) ≤ 57 := dig_d (hdg 2 (by omega))
    rw [hlo, hs9]
    have t0 : (tl (3 * i)) = (sg (a + 1) - 48) := (htl.2.1 hs9).1
    rw [t0]
    have t1 : (tl ((3 * i) + 1)) = (sg (a + 2) - 48) := (htl.2.1 hs9).2.1
    rw [t1]
    refine v_lsw (off := 86) 115 zC dX5_comesTold_29 ((by decide +kernel)) ?_
    refine v_il_n 116 zC dX5_comesTold_115 2 rfl ?_
    refine v_bp (v := (nI 6)) 118 zC dX5_comesTold_116 (by decide +kernel) ?_
    refine v_icmpn_ge 134 121 zC dX5_comesTold_118 (fun h_32 => ?_) (fun h_32 => ?_)
    ·
      refine v_ic (v := (nI 0)) 135 zC dX5_comesTold_134 (by decide +kernel) ?_
      refine v_is (lv2 := [(4, .int (nI 0)), (3, .int (nI (sg (a + 2) - 48))), (2, .int (nI (sg (a + 1) - 48))), (0, .ref r0), (1, .int (nI i))]) 137 zC dX5_comesTold_135 (by rw [hnE]; decide) rfl ?_
      refine v_il 139 zC dX5_comesTold_137 0 rfl ?_
      refine v_if_eq 158 142 zC dX5_comesTold_139 (fun _ => ?_) (fun z => absurd (by decide +kernel) z)
      refine v_il 160 zC dX5_comesTold_158 0 rfl ?_
      refine v_zret zC zT dX5_comesTold_160 (by decide +kernel) ?_
      first | exact Or.inl ⟨ts_p0 hs9 (by omega), rfl, rfl⟩ | exact Or.inl ⟨ts_d0 hs9 d1.2.2 d2.2.2 (by omega), rfl, rfl⟩ | exact Or.inl ⟨ts_o0 (Or.inl hs9) (by assumption), rfl, rfl⟩ | exact Or.inl ⟨ts_o0 (Or.inr hs9) (by assumption), rfl, rfl⟩ | exact Or.inl ⟨ts_s0 hs9 hn_q, rfl, rfl⟩ | exact Or.inl ⟨ts_k0 hs9 hn_q, rfl, rfl⟩ | exact Or.inr ⟨_, _, _, _, _, _, _, _, _, ts_p1 hs9 (by omega) (by omega), ⟨by omega, hm, Nat.lt_of_lt_of_le hsh (Nat.pow_le_pow_right (by decide) (by omega)), un_b hki (by omega), un_b hop (by decide), un_b hfa (by decide), hK, hG, hT, un_v vki (by omega), un_v vop (by omega), un_v vfa (by omega), vK, vG, vT⟩, rfl, rfl⟩ | exact Or.inr ⟨_, _, _, _, _, _, _, _, _, ts_d1 hs9 (by omega) (by omega), ⟨hn, by omega, hsh, hki, hop, hfa, un_b hK (by omega), un_b hG (by omega), un_b hT (by omega), vki, vop, vfa, un_v vK (by omega), un_v vG (by omega), un_v vT (by omega)⟩, rfl, rfl⟩ | exact Or.inr ⟨_, _, _, _, _, _, _, _, _, ts_o1 hs9 (by assumption) (by assumption) (by assumption), ⟨hn, hm, hsh, hki, un_b hop (opv_lt (hop _) (by assumption)), hfa, hK, hG, hT, vki, un_v vop (by omega), vfa, vK, vG, vT⟩, rfl, rfl⟩ | exact Or.inr ⟨_, _, _, _, _, _, _, _, _, ts_c1 hs9 (by assumption) (by assumption) (by assumption), ⟨hn, hm, hsh, hki, un_b hop (opv_lt (hop _) (by assumption)), hfa, hK, hG, hT, vki, un_v vop (by omega), vfa, vK, vG, vT⟩, rfl, rfl⟩ | exact Or.inr ⟨_, _, _, _, _, _, _, _, _, ts_s1 hs9 hi_q, ⟨hn, hm, Nat.xor_lt_two_pow hsh (pow_lt2 hi_q), hki, hop, hfa, hK, hG, hT, vki, vop, vfa, vK, vG, vT⟩, rfl, by rw [shf_x]⟩ | exact Or.inr ⟨_, _, _, _, _, _, _, _, _, ts_k1 hs9 hi_q, ⟨hn, hm, hsh, hki, hop, un_b hfa (Nat.or_lt_two_pow (n := 10) (hfa _) (pow_lt2 (by omega))), hK, hG, hT, vki, vop, un_v vfa (by omega), vK, vG, vT⟩, rfl, rfl⟩
    ·
      refine v_al_n 122 zC dX5_comesTold_121 3 rfl ?_
      refine v_gf 125 0 zC dX5_comesTold_122 gf_X5_84 rfl rfl ?_
      refine v_bp (v := (nI 6)) 127 zC dX5_comesTold_125 (by decide +kernel) ?_
      refine v_icmpn_ge 134 130 zC dX5_comesTold_127 (fun h_34 => ?_) (fun h_34 => ?_)
      ·
        refine v_ic (v := (nI 0)) 135 zC dX5_comesTold_134 (by decide +kernel) ?_
        refine v_is (lv2 := [(4, .int (nI 0)), (3, .int (nI (sg (a + 2) - 48))), (2, .int (nI (sg (a + 1) - 48))), (0, .ref r0), (1, .int (nI i))]) 137 zC dX5_comesTold_135 (by rw [hnE]; decide) rfl ?_
        refine v_il 139 zC dX5_comesTold_137 0 rfl ?_
        refine v_if_eq 158 142 zC dX5_comesTold_139 (fun _ => ?_) (fun z => absurd (by decide +kernel) z)
        refine v_il 160 zC dX5_comesTold_158 0 rfl ?_
        refine v_zret zC zT dX5_comesTold_160 (by decide +kernel) ?_
        first | exact Or.inl ⟨ts_p0 hs9 (by omega), rfl, rfl⟩ | exact Or.inl ⟨ts_d0 hs9 d1.2.2 d2.2.2 (by omega), rfl, rfl⟩ | exact Or.inl ⟨ts_o0 (Or.inl hs9) (by assumption), rfl, rfl⟩ | exact Or.inl ⟨ts_o0 (Or.inr hs9) (by assumption), rfl, rfl⟩ | exact Or.inl ⟨ts_s0 hs9 hn_q, rfl, rfl⟩ | exact Or.inl ⟨ts_k0 hs9 hn_q, rfl, rfl⟩ | exact Or.inr ⟨_, _, _, _, _, _, _, _, _, ts_p1 hs9 (by omega) (by omega), ⟨by omega, hm, Nat.lt_of_lt_of_le hsh (Nat.pow_le_pow_right (by decide) (by omega)), un_b hki (by omega), un_b hop (by decide), un_b hfa (by decide), hK, hG, hT, un_v vki (by omega), un_v vop (by omega), un_v vfa (by omega), vK, vG, vT⟩, rfl, rfl⟩ | exact Or.inr ⟨_, _, _, _, _, _, _, _, _, ts_d1 hs9 (by omega) (by omega), ⟨hn, by omega, hsh, hki, hop, hfa, un_b hK (by omega), un_b hG (by omega), un_b hT (by omega), vki, vop, vfa, un_v vK (by omega), un_v vG (by omega), un_v vT (by omega)⟩, rfl, rfl⟩ | exact Or.inr ⟨_, _, _, _, _, _, _, _, _, ts_o1 hs9 (by assumption) (by assumption) (by assumption), ⟨hn, hm, hsh, hki, un_b hop (opv_lt (hop _) (by assumption)), hfa, hK, hG, hT, vki, un_v vop (by omega), vfa, vK, vG, vT⟩, rfl, rfl⟩ | exact Or.inr ⟨_, _, _, _, _, _, _, _, _, ts_c1 hs9 (by assumption) (by assumption) (by assumption), ⟨hn, hm, hsh, hki, un_b hop (opv_lt (hop _) (by assumption)), hfa, hK, hG, hT, vki, un_v vop (by omega), vfa, vK, vG, vT⟩, rfl, rfl⟩ | exact Or.inr ⟨_, _, _, _, _, _, _, _, _, ts_s1 hs9 hi_q, ⟨hn, hm, Nat.xor_lt_two_pow hsh (pow_lt2 hi_q), hki, hop, hfa, hK, hG, hT, vki, vop, vfa, vK, vG, vT⟩, rfl, by rw [shf_x]⟩ | exact Or.inr ⟨_, _, _, _, _, _, _, _, _, ts_k1 hs9 hi_q, ⟨hn, hm, hsh, hki, hop, un_b hfa (Nat.or_lt_two_pow (n := 10) (hfa _) (pow_lt2 (by omega))), hK, hG, hT, vki, vop, un_v vfa (by omega), vK, vG, vT⟩, rfl, rfl⟩
      ·
        refine v_ic (v := (nI 1)) 131 zC dX5_comesTold_130 (by decide +kernel) ?_
        refine v_goto 135 zC dX5_comesTold_131 ?_
        refine v_is (lv2 := [(4, .int (nI 1)), (3, .int (nI (sg (a + 2) - 48))), (2, .int (nI (sg (a + 1) - 48))), (0, .ref r0), (1, .int (nI i))]) 137 zC dX5_comesTold_135 (by rw [hnE]; decide) rfl ?_
        refine v_il 139 zC dX5_comesTold_137 0 rfl ?_
        refine v_if_eq 158 142 zC dX5_comesTold_139 (fun z => absurd z (by decide +kernel)) (fun _ => ?_)
        refine v_al_n 143 zC dX5_comesTold_142 3 rfl ?_
        refine v_il_n 144 zC dX5_comesTold_143 2 rfl ?_
        refine v_il_n 145 zC dX5_comesTold_144 1 rfl ?_
        refine v_al_n 146 zC dX5_comesTold_145 3 rfl ?_
        refine v_gf 149 0 zC dX5_comesTold_146 gf_X5_55 rfl rfl ?_
        refine v_ic (v := (nI 3)) 150 zC dX5_comesTold_149 (by decide +kernel) ?_
        refine v_il_n 151 zC dX5_comesTold_150 4 rfl ?_
        refine v_imul (v := (nI (3 * i))) 152 zC dX5_comesTold_151 (pk_mul _ _) ?_
        refine v_ic (v := (nI 2)) 153 zC dX5_comesTold_152 (by decide +kernel) ?_
        refine v_iadd (v := (nI ((3 * i) + 2))) 154 zC dX5_comesTold_153 (nI_add _ _) ?_
        refine v_ialn (v := (nI (tl ((3 * i) + 2)))) 155 9 zC dX5_comesTold_154 rfl (by omega) rfl ?_
        have t2 : tl (3 * i + 2) = (sg (a + 3) - 48) := (htl.2.1 hs9).2.2
        rw [t2]
        refine v_cV (As := [.int (nI (sg (a + 1) - 48)), .int (nI (sg (a + 2) - 48)), .int (nI (sg (a + 3) - 48))]) (st := []) 158 0 [0, 5, 6, 7] zC dX5_comesTold_155 hA (c_X5_oneDies (ev_l E) (ev_D E) cI (r0 := r0) (k1 := k1) (k2 := k2) (k3 := k3) (k4 := k4) (k6 := k6) (k7 := k7) (k8 := k8) (k10 := k10) (k12 := k12) (k13 := k13) (k14 := k14) (k15 := k15) (k16 := k16) (k21 := k21) (k22 := k22) (k23 := k23) (k24 := k24) (k25 := k25) (k30 := k30) (k31 := k31) (k33 := k33) (n := n) (m := m) (aw := aw) (ls := ls) (ap := ap) (sq := sq) (pl := pl) (tz := tz) (rs := rs) (bd := bd) (pd := pd) (tk := tk) (kv := kv) (sd := sd) (K := K) (G := G) (T := T) (k := (sg (a + 1) - 48)) (g := (sg (a + 2) - 48)) (t := (sg (a + 3) - 48)) (hm := (by first | omega | assumption | rfl | (simp only []; omega) | decide))) cf_X5_oneDies lk_X5_170 rfl rfl rfl rfl rfl (by decide +kernel) (Nat.le_of_ble_eq_true rfl) (fun rv_37 wv_38 hp_39 hm_40 => ?_)
        clear hm_40
        obtain ⟨rfl, rfl⟩ := hp_39
        show VV E 0 0 158 [(4, .int (nI 1)), (3, .int (nI (sg (a + 2) - 48))), (2, .int (nI (sg (a + 1) - 48))), (0, .ref r0), (1, .int (nI i))] [] [(r0, .inr (5, [.int (nI n), .ref k1, .ref k2, .ref k3, .ref k4, .int (nI (m + 1)), .ref k6, .ref k7, .ref k8, .int (nI 0), .ref k10, .int (nI aw), .ref k12, .ref k13, .ref k14, .ref k15, .ref k16, .int (nI ls), .int (nI ap), .int (bz bd), .int (nI sq), .ref k21, .ref k22, .ref k23, .ref k24, .ref k25, .int (bz pd), .int (nI pl), .int (bz tk), kv, .ref k30, .ref k31, .int (nI tz), .ref k33, .int (nI rs), .int sd])), (k1, .inl (cI, 7, .inl (nIf ki))), (k2, .inl (cI, 7, .inl (nIf op))), (k3, .inl (cI, 7, .inl (nIf (shF sh)))), (k4, .inl (cI, 7, .inl (nIf fa))), (k6, .inl (cI, 6, .inl (nIf (un K m (sg (a + 1) - 48))))), (k7, .inl (cI, 6, .inl (nIf (un G m (sg (a + 2) - 48))))), (k8, .inl (cI, 6, .inl (nIf (un T m (sg (a + 3) - 48))))), (k22, .inl (cI, 49, .inl lo)), (k23, .inl (cI, 147, .inl (nIf tl)))]
        refine v_il 160 zC dX5_comesTold_158 0 rfl ?_
        refine v_zret zC zT dX5_comesTold_160 (by decide +kernel) ?_
        first | exact Or.inl ⟨ts_p0 hs9 (by omega), rfl, rfl⟩ | exact Or.inl ⟨ts_d0 hs9 d1.2.2 d2.2.2 (by omega), rfl, rfl⟩ | exact Or.inl ⟨ts_o0 (Or.inl hs9) (by assumption), rfl, rfl⟩ | exact Or.inl ⟨ts_o0 (Or.inr hs9) (by assumption), rfl, rfl⟩ | exact Or.inl ⟨ts_s0 hs9 hn_q, rfl, rfl⟩ | exact Or.inl ⟨ts_k0 hs9 hn_q, rfl, rfl⟩ | exact Or.inr ⟨_, _, _, _, _, _, _, _, _, ts_p1 hs9 (by omega) (by omega), ⟨by omega, hm, Nat.lt_of_lt_of_le hsh (Nat.pow_le_pow_right (by decide) (by omega)), un_b hki (by omega), un_b hop (by decide), un_b hfa (by decide), hK, hG, hT, un_v vki (by omega), un_v vop (by omega), un_v vfa (by omega), vK, vG, vT⟩, rfl, rfl⟩ | exact Or.inr ⟨_, _, _, _, _, _, _, _, _, ts_d1 hs9 (by omega) (by omega), ⟨hn, by omega, hsh, hki, hop, hfa, un_b hK (by omega), un_b hG (by omega), un_b hT (by omega), vki, vop, vfa, un_v vK (by omega), un_v vG (by omega), un_v vT (by omega)⟩, rfl, rfl⟩ | exact Or.inr ⟨_, _, _, _, _, _, _, _, _, ts_o1 hs9 (by assumption) (by assumption) (by assumption), ⟨hn, hm, hsh, hki, un_b hop (opv_lt (hop _) (by assumption)), hfa, hK, hG, hT, vki, un_v vop (by omega), vfa, vK, vG, vT⟩, rfl, rfl⟩ | exact Or.inr ⟨_, _, _, _, _, _, _, _, _, ts_c1 hs9 (by assumption) (by assumption) (by assumption), ⟨hn, hm, hsh, hki, un_b hop (opv_lt (hop _) (by assumption)), hfa, hK, hG, hT, vki, un_v vop (by omega), vfa, vK, vG, vT⟩, rfl, rfl⟩ | exact Or.inr ⟨_, _, _, _, _, _, _, _, _, ts_s1 hs9 hi_q, ⟨hn, hm, Nat.xor_lt_two_pow hsh (pow_lt2 hi_q), hki, hop, hfa, hK, hG, hT, vki, vop, vfa, vK, vG, vT⟩, rfl, by rw [shf_x]⟩ | exact Or.inr ⟨_, _, _, _, _, _, _, _, _, ts_k1 hs9 hi_q, ⟨hn, hm, hsh, hki, hop, un_b hfa (Nat.or_lt_two_pow (n := 10) (hfa _) (pow_lt2 (by omega))), hK, hG, hT, vki, vop, un_v vfa (by omega), vK, vG, vT⟩, rfl, rfl⟩
  ·
    subst he9
    have d0 : (a + 1) < lq ∧ 48 ≤ sg (a + 1) ∧ sg (a + 1) ≤ 57 := dig_d (hdg 0 (by omega))
    have d1 : (a + 2) < lq ∧ 48 ≤ sg (a + 2) ∧ sg (a + 2) ≤ 57 := dig_d (hdg 1 (by omega))
    have d2 : (a + 3) < lq ∧ 48 ≤ sg (a + 3) ∧ sg (a + 3) ≤ 57 := dig_d (hdg 2 (by omega))
    have d3 : (a + 4) < lq ∧ 48 ≤ sg (a + 4) ∧ sg (a + 4) ≤ 57 := dig_d (hdg 3 (by omega))
    have d4 : (a + 4 + 1) < lq ∧ 48 ≤ sg (a + 4 + 1) ∧ sg (a + 4 + 1) ≤ 57 := dig_d (hdg 4 (by omega))
    have e2 : (a + 2 + 1) < lq ∧ 48 ≤ sg (a + 2 + 1) ∧ sg (a + 2 + 1) ≤ 57 := d2
    rw [hlo, hs9]
    have t0 : (tl (3 * i)) = (sg (a + 1) - 48) := (htl.2.2.1 (by omega)).1
    rw [t0]
    have t1 : (tl ((3 * i) + 1)) = (10 * (sg (a + 2) - 48) + (sg (a + 2 + 1) - 48)) := (htl.2.2.1 (by omega)).2.1
    rw [t1]
    refine v_lsw (off := 132) 161 zC dX5_comesTold_29 ((by decide +kernel)) ?_
    refine v_al_n 162 zC dX5_comesTold_161 3 rfl ?_
    refine v_il_n 163 zC dX5_comesTold_162 2 rfl ?_
    refine v_il_n 164 zC dX5_comesTold_163 1 rfl ?_
    refine v_al_n 165 zC dX5_comesTold_164 3 rfl ?_
    refine v_gf 168 0 zC dX5_comesTold_165 gf_X5_55 rfl rfl ?_
    refine v_ic (v := (nI 3)) 169 zC dX5_comesTold_168 (by decide +kernel) ?_
    refine v_il_n 170 zC dX5_comesTold_169 4 rfl ?_
    refine v_imul (v := (nI (3 * i))) 171 zC dX5_comesTold_170 (pk_mul _ _) ?_
    refine v_ic (v := (nI 2)) 172 zC dX5_comesTold_171 (by decide +kernel) ?_
    refine v_iadd (v := (nI ((3 * i) + 2))) 173 zC dX5_comesTold_172 (nI_add _ _) ?_
    refine v_ialn (v := (nI (tl ((3 * i) + 2)))) 174 9 zC dX5_comesTold_173 rfl (by omega) rfl ?_
    refine v_ic (v := (nI 1)) 175 zC dX5_comesTold_174 (by decide +kernel) ?_
    have t2 : tl (3 * i + 2) = (10 * (sg (a + 4) - 48) + (sg (a + 4 + 1) - 48)) := (htl.2.2.1 (by omega)).2.2
    rw [t2]
    refine v_cV (As := [.int (nI (sg (a + 1) - 48)), .int (nI (10 * (sg (a + 2) - 48) + (sg (a + 2 + 1) - 48))), .int (nI (10 * (sg (a + 4) - 48) + (sg (a + 4 + 1) - 48))), .int (nI 1)]) (st := []) 178 0 [0, 2] zC dX5_comesTold_175 hA (c_X5_hoursCome (ev_l E) (ev_D E) cI (r0 := r0) (k1 := k1) (k2 := k2) (k3 := k3) (k4 := k4) (k6 := k6) (k7 := k7) (k8 := k8) (k10 := k10) (k12 := k12) (k13 := k13) (k14 := k14) (k15 := k15) (k16 := k16) (k21 := k21) (k22 := k22) (k23 := k23) (k24 := k24) (k25 := k25) (k30 := k30) (k31 := k31) (k33 := k33) (n := n) (m := m) (aw := aw) (ls := ls) (ap := ap) (sq := sq) (pl := pl) (tz := tz) (rs := rs) (bd := bd) (pd := pd) (tk := tk) (kv := kv) (sd := sd) (op := op) (p := (sg (a + 1) - 48)) (f := (10 * (sg (a + 2) - 48) + (sg (a + 2 + 1) - 48))) (e := (10 * (sg (a + 4) - 48) + (sg (a + 4 + 1) - 48))) (o := true) (hn := (by first | omega | assumption | rfl | (simp only []; omega) | decide)) (hp := (by first | omega | assumption | rfl | (simp only []; omega) | decide)) (hf := (by first | omega | assumption | rfl | (simp only []; omega) | decide)) (he := (by first | omega | assumption | rfl | (simp only []; omega) | decide))) cf_X5_hoursCome lk_X5_174 rfl rfl rfl rfl rfl (by decide +kernel) (Nat.le_of_ble_eq_true rfl) (fun rv_41 wv_42 hp_43 hm_44 => ?_)
    clear hm_44
    rcases hp_43 with ⟨hq_45, rfl, rfl⟩ | ⟨hp_46, hf_47, he_48, rfl, rfl⟩
    ·
      show VV E 0 0 178 [(4, .int (nI 1)), (3, .int (nI (10 * (sg (a + 2) - 48) + (sg (a + 2 + 1) - 48)))), (2, .int (nI (sg (a + 1) - 48))), (0, .ref r0), (1, .int (nI i))] [.int (nI 0)] [(r0, .inr (5, [.int (nI n), .ref k1, .ref k2, .ref k3, .ref k4, .int (nI m), .ref k6, .ref k7, .ref k8, .int (nI 0), .ref k10, .int (nI aw), .ref k12, .ref k13, .ref k14, .ref k15, .ref k16, .int (nI ls), .int (nI ap), .int (bz bd), .int (nI sq), .ref k21, .ref k22, .ref k23, .ref k24, .ref k25, .int (bz pd), .int (nI pl), .int (bz tk), kv, .ref k30, .ref k31, .int (nI tz), .ref k33, .int (nI rs), .int sd])), (k1, .inl (cI, 7, .inl (nIf ki))), (k2, .inl (cI, 7, .inl (nIf op))), (k3, .inl (cI, 7, .inl (nIf (shF sh)))), (k4, .inl (cI, 7, .inl (nIf fa))), (k6, .inl (cI, 6, .inl (nIf K))), (k7, .inl (cI, 6, .inl (nIf G))), (k8, .inl (cI, 6, .inl (nIf T))), (k22, .inl (cI, 49, .inl lo)), (k23, .inl (cI, 147, .inl (nIf tl)))]
      refine v_zret zC zT dX5_comesTold_178 (by decide +kernel) ?_
      first | exact Or.inl ⟨ts_p0 hs9 (by omega), rfl, rfl⟩ | exact Or.inl ⟨ts_d0 hs9 d1.2.2 d2.2.2 (by omega), rfl, rfl⟩ | exact Or.inl ⟨ts_o0 (Or.inl hs9) (by assumption), rfl, rfl⟩ | exact Or.inl ⟨ts_o0 (Or.inr hs9) (by assumption), rfl, rfl⟩ | exact Or.inl ⟨ts_s0 hs9 hn_q, rfl, rfl⟩ | exact Or.inl ⟨ts_k0 hs9 hn_q, rfl, rfl⟩ | exact Or.inr ⟨_, _, _, _, _, _, _, _, _, ts_p1 hs9 (by omega) (by omega), ⟨by omega, hm, Nat.lt_of_lt_of_le hsh (Nat.pow_le_pow_right (by decide) (by omega)), un_b hki (by omega), un_b hop (by decide), un_b hfa (by decide), hK, hG, hT, un_v vki (by omega), un_v vop (by omega), un_v vfa (by omega), vK, vG, vT⟩, rfl, rfl⟩ | exact Or.inr ⟨_, _, _, _, _, _, _, _, _, ts_d1 hs9 (by omega) (by omega), ⟨hn, by omega, hsh, hki, hop, hfa, un_b hK (by omega), un_b hG (by omega), un_b hT (by omega), vki, vop, vfa, un_v vK (by omega), un_v vG (by omega), un_v vT (by omega)⟩, rfl, rfl⟩ | exact Or.inr ⟨_, _, _, _, _, _, _, _, _, ts_o1 hs9 (by assumption) (by assumption) (by assumption), ⟨hn, hm, hsh, hki, un_b hop (opv_lt (hop _) (by assumption)), hfa, hK, hG, hT, vki, un_v vop (by omega), vfa, vK, vG, vT⟩, rfl, rfl⟩ | exact Or.inr ⟨_, _, _, _, _, _, _, _, _, ts_c1 hs9 (by assumption) (by assumption) (by assumption), ⟨hn, hm, hsh, hki, un_b hop (opv_lt (hop _) (by assumption)), hfa, hK, hG, hT, vki, un_v vop (by omega), vfa, vK, vG, vT⟩, rfl, rfl⟩ | exact Or.inr ⟨_, _, _, _, _, _, _, _, _, ts_s1 hs9 hi_q, ⟨hn, hm, Nat.xor_lt_two_pow hsh (pow_lt2 hi_q), hki, hop, hfa, hK, hG, hT, vki, vop, vfa, vK, vG, vT⟩, rfl, by rw [shf_x]⟩ | exact Or.inr ⟨_, _, _, _, _, _, _, _, _, ts_k1 hs9 hi_q, ⟨hn, hm, hsh, hki, hop, un_b hfa (Nat.or_lt_two_pow (n := 10) (hfa _) (pow_lt2 (by omega))), hK, hG, hT, vki, vop, un_v vfa (by omega), vK, vG, vT⟩, rfl, rfl⟩
    ·
      show VV E 0 0 178 [(4, .int (nI 1)), (3, .int (nI (10 * (sg (a + 2) - 48) + (sg (a + 2 + 1) - 48)))), (2, .int (nI (sg (a + 1) - 48))), (0, .ref r0), (1, .int (nI i))] [.int (nI 1)] [(r0, .inr (5, [.int (nI n), .ref k1, .ref k2, .ref k3, .ref k4, .int (nI m), .ref k6, .ref k7, .ref k8, .int (nI 0), .ref k10, .int (nI aw), .ref k12, .ref k13, .ref k14, .ref k15, .ref k16, .int (nI ls), .int (nI ap), .int (bz bd), .int (nI sq), .ref k21, .ref k22, .ref k23, .ref k24, .ref k25, .int (bz pd), .int (nI pl), .int (bz tk), kv, .ref k30, .ref k31, .int (nI tz), .ref k33, .int (nI rs), .int sd])), (k1, .inl (cI, 7, .inl (nIf ki))), (k2, .inl (cI, 7, .inl (nIf (un op (sg (a + 1) - 48) (if true = true then (op (sg (a + 1) - 48)) ||| HR (10 * (sg (a + 2) - 48) + (sg (a + 2 + 1) - 48)) (10 * (sg (a + 4) - 48) + (sg (a + 4 + 1) - 48)) else andn (op (sg (a + 1) - 48)) (HR (10 * (sg (a + 2) - 48) + (sg (a + 2 + 1) - 48)) (10 * (sg (a + 4) - 48) + (sg (a + 4 + 1) - 48)))))))), (k3, .inl (cI, 7, .inl (nIf (shF sh)))), (k4, .inl (cI, 7, .inl (nIf fa))), (k6, .inl (cI, 6, .inl (nIf K))), (k7, .inl (cI, 6, .inl (nIf G))), (k8, .inl (cI, 6, .inl (nIf T))), (k22, .inl (cI, 49, .inl lo)), (k23, .inl (cI, 147, .inl (nIf tl)))]
      refine v_zret zC zT dX5_comesTold_178 (by decide +kernel) ?_
      first | exact Or.inl ⟨ts_p0 hs9 (by omega), rfl, rfl⟩ | exact Or.inl ⟨ts_d0 hs9 d1.2.2 d2.2.2 (by omega), rfl, rfl⟩ | exact Or.inl ⟨ts_o0 (Or.inl hs9) (by assumption), rfl, rfl⟩ | exact Or.inl ⟨ts_o0 (Or.inr hs9) (by assumption), rfl, rfl⟩ | exact Or.inl ⟨ts_s0 hs9 hn_q, rfl, rfl⟩ | exact Or.inl ⟨ts_k0 hs9 hn_q, rfl, rfl⟩ | exact Or.inr ⟨_, _, _, _, _, _, _, _, _, ts_p1 hs9 (by omega) (by omega), ⟨by omega, hm, Nat.lt_of_lt_of_le hsh (Nat.pow_le_pow_right (by decide) (by omega)), un_b hki (by omega), un_b hop (by decide), un_b hfa (by decide), hK, hG, hT, un_v vki (by omega), un_v vop (by omega), un_v vfa (by omega), vK, vG, vT⟩, rfl, rfl⟩ | exact Or.inr ⟨_, _, _, _, _, _, _, _, _, ts_d1 hs9 (by omega) (by omega), ⟨hn, by omega, hsh, hki, hop, hfa, un_b hK (by omega), un_b hG (by omega), un_b hT (by omega), vki, vop, vfa, un_v vK (by omega), un_v vG (by omega), un_v vT (by omega)⟩, rfl, rfl⟩ | exact Or.inr ⟨_, _, _, _, _, _, _, _, _, ts_o1 hs9 (by assumption) (by assumption) (by assumption), ⟨hn, hm, hsh, hki, un_b hop (opv_lt (hop _) (by assumption)), hfa, hK, hG, hT, vki, un_v vop (by omega), vfa, vK, vG, vT⟩, rfl, rfl⟩ | exact Or.inr ⟨_, _, _, _, _, _, _, _, _, ts_c1 hs9 (by assumption) (by assumption) (by assumption), ⟨hn, hm, hsh, hki, un_b hop (opv_lt (hop _) (by assumption)), hfa, hK, hG, hT, vki, un_v vop (by omega), vfa, vK, vG, vT⟩, rfl, rfl⟩ | exact Or.inr ⟨_, _, _, _, _, _, _, _, _, ts_s1 hs9 hi_q, ⟨hn, hm, Nat.xor_lt_two_pow hsh (pow_lt2 hi_q), hki, hop, hfa, hK, hG, hT, vki, vop, vfa, vK, vG, vT⟩, rfl, by rw [shf_x]⟩ | exact Or.inr ⟨_, _, _, _, _, _, _, _, _, ts_k1 hs9 hi_q, ⟨hn, hm, hsh, hki, hop, un_b hfa (Nat.or_lt_two_pow (n := 10) (hfa _) (pow_lt2 (by omega))), hK, hG, hT, vki, vop, un_v vfa (by omega), vK, vG, vT⟩, rfl, rfl⟩
  ·
    subst he9
    have d0 : (a + 1) < lq ∧ 48 ≤ sg (a + 1) ∧ sg (a + 1) ≤ 57 := dig_d (hdg 0 (by omega))
    have d1 : (a + 2) < lq ∧ 48 ≤ sg (a + 2) ∧ sg (a + 2) ≤ 57 := dig_d (hdg 1 (by omega))
    have d2 : (a + 3) < lq ∧ 48 ≤ sg (a + 3) ∧ sg (a + 3) ≤ 57 := dig_d (hdg 2 (by omega))
    have d3 : (a + 4) < lq ∧ 48 ≤ sg (a + 4) ∧ sg (a + 4) ≤ 57 := dig_d (hdg 3 (by omega))
    have d4 : (a + 4 + 1) < lq ∧ 48 ≤ sg (a + 4 + 1) ∧ sg (a + 4 + 1) ≤ 57 := dig_d (hdg 4 (by omega))
    have e2 : (a + 2 + 1) < lq ∧ 48 ≤ sg (a + 2 + 1) ∧ sg (a + 2 + 1) ≤ 57 := d2
    rw [hlo, hs9]
    have t0 : (tl (3 * i)) = (sg (a + 1) - 48) := (htl.2.2.1 (by omega)).1
    rw [t0]
    have t1 : (tl ((3 * i) + 1)) = (10 * (sg (a + 2) - 48) + (sg (a + 2 + 1) - 48)) := (htl.2.2.1 (by omega)).2.1
    rw [t1]
    refine v_lsw (off := 150) 179 zC dX5_comesTold_29 ((by decide +kernel)) ?_
    refine v_al_n 180 zC dX5_comesTold_179 3 rfl ?_
    refine v_il_n 181 zC dX5_comesTold_180 2 rfl ?_
    refine v_il_n 182 zC dX5_comesTold_181 1 rfl ?_
    refine v_al_n 183 zC dX5_comesTold_182 3 rfl ?_
    refine v_gf 186 0 zC dX5_comesTold_183 gf_X5_55 rfl rfl ?_
    refine v_ic (v := (nI 3)) 187 zC dX5_comesTold_186 (by decide +kernel) ?_
    refine v_il_n 188 zC dX5_comesTold_187 4 rfl ?_
    refine v_imul (v := (nI (3 * i))) 189 zC dX5_comesTold_188 (pk_mul _ _) ?_
    refine v_ic (v := (nI 2)) 190 zC dX5_comesTold_189 (by decide +kernel) ?_
    refine v_iadd (v := (nI ((3 * i) + 2))) 191 zC dX5_comesTold_190 (nI_add _ _) ?_
    refine v_ialn (v := (nI (tl ((3 * i) + 2)))) 192 9 zC dX5_comesTold_191 rfl (by omega) rfl ?_
    refine v_ic (v := (nI 0)) 193 zC dX5_comesTold_192 (by decide +kernel) ?_
    have t2 : tl (3 * i + 2) = (10 * (sg (a + 4) - 48) + (sg (a + 4 + 1) - 48)) := (htl.2.2.1 (by omega)).2.2
    rw [t2]
    refine v_cV (As := [.int (nI (sg (a + 1) - 48)), .int (nI (10 * (sg (a + 2) - 48) + (sg (a + 2 + 1) - 48))), .int (nI (10 * (sg (a + 4) - 48) + (sg (a + 4 + 1) - 48))), .int (nI 0)]) (st := []) 196 0 [0, 2] zC dX5_comesTold_193 hA (c_X5_hoursCome (ev_l E) (ev_D E) cI (r0 := r0) (k1 := k1) (k2 := k2) (k3 := k3) (k4 := k4) (k6 := k6) (k7 := k7) (k8 := k8) (k10 := k10) (k12 := k12) (k13 := k13) (k14 := k14) (k15 := k15) (k16 := k16) (k21 := k21) (k22 := k22) (k23 := k23) (k24 := k24) (k25 := k25) (k30 := k30) (k31 := k31) (k33 := k33) (n := n) (m := m) (aw := aw) (ls := ls) (ap := ap) (sq := sq) (pl := pl) (tz := tz) (rs := rs) (bd := bd) (pd := pd) (tk := tk) (kv := kv) (sd := sd) (op := op) (p := (sg (a + 1) - 48)) (f := (10 * (sg (a + 2) - 48) + (sg (a + 2 + 1) - 48))) (e := (10 * (sg (a + 4) - 48) + (sg (a + 4 + 1) - 48))) (o := false) (hn := (by first | omega | assumption | rfl | (simp only []; omega) | decide)) (hp := (by first | omega | assumption | rfl | (simp only []; omega) | decide)) (hf := (by first | omega | assumption | rfl | (simp only []; omega) | decide)) (he := (by first | omega | assumption | rfl | (simp only []; omega) | decide))) cf_X5_hoursCome lk_X5_174 rfl rfl rfl rfl rfl (by decide +kernel) (Nat.le_of_ble_eq_true rfl) (fun rv_49 wv_50 hp_51 hm_52 => ?_)
    clear hm_52
    rcases hp_51 with ⟨hq_53, rfl, rfl⟩ | ⟨hp_54, hf_55, he_56, rfl, rfl⟩
    ·
      show VV E 0 0 196 [(4, .int (nI 1)), (3, .int (nI (10 * (sg (a + 2) - 48) + (sg (a + 2 + 1) - 48)))), (2, .int (nI (sg (a + 1) - 48))), (0, .ref r0), (1, .int (nI i))] [.int (nI 0)] [(r0, .inr (5, [.int (nI n), .ref k1, .ref k2, .ref k3, .ref k4, .int (nI m), .ref k6, .ref k7, .ref k8, .int (nI 0), .ref k10, .int (nI aw), .ref k12, .ref k13, .ref k14, .ref k15, .ref k16, .int (nI ls), .int (nI ap), .int (bz bd), .int (nI sq), .ref k21, .ref k22, .ref k23, .ref k24, .ref k25, .int (bz pd), .int (nI pl), .int (bz tk), kv, .ref k30, .ref k31, .int (nI tz), .ref k33, .int (nI rs), .int sd])), (k1, .inl (cI, 7, .inl (nIf ki))), (k2, .inl (cI, 7, .inl (nIf op))), (k3, .inl (cI, 7, .inl (nIf (shF sh)))), (k4, .inl (cI, 7, .inl (nIf fa))), (k6, .inl (cI, 6, .inl (nIf K))), (k7, .inl (cI, 6, .inl (nIf G))), (k8, .inl (cI, 6, .inl (nIf T))), (k22, .inl (cI, 49, .inl lo)), (k23, .inl (cI, 147, .inl (nIf tl)))]
      refine v_zret zC zT dX5_comesTold_196 (by decide +kernel) ?_
      first | exact Or.inl ⟨ts_p0 hs9 (by omega), rfl, rfl⟩ | exact Or.inl ⟨ts_d0 hs9 d1.2.2 d2.2.2 (by omega), rfl, rfl⟩ | exact Or.inl ⟨ts_o0 (Or.inl hs9) (by assumption), rfl, rfl⟩ | exact Or.inl ⟨ts_o0 (Or.inr hs9) (by assumption), rfl, rfl⟩ | exact Or.inl ⟨ts_s0 hs9 hn_q, rfl, rfl⟩ | exact Or.inl ⟨ts_k0 hs9 hn_q, rfl, rfl⟩ | exact Or.inr ⟨_, _, _, _, _, _, _, _, _, ts_p1 hs9 (by omega) (by omega), ⟨by omega, hm, Nat.lt_of_lt_of_le hsh (Nat.pow_le_pow_right (by decide) (by omega)), un_b hki (by omega), un_b hop (by decide), un_b hfa (by decide), hK, hG, hT, un_v vki (by omega), un_v vop (by omega), un_v vfa (by omega), vK, vG, vT⟩, rfl, rfl⟩ | exact Or.inr ⟨_, _, _, _, _, _, _, _, _, ts_d1 hs9 (by omega) (by omega), ⟨hn, by omega, hsh, hki, hop, hfa, un_b hK (by omega), un_b hG (by omega), un_b hT (by omega), vki, vop, vfa, un_v vK (by omega), un_v vG (by omega), un_v vT (by omega)⟩, rfl, rfl⟩ | exact Or.inr ⟨_, _, _, _, _, _, _, _, _, ts_o1 hs9 (by assumption) (by assumption) (by assumption), ⟨hn, hm, hsh, hki, un_b hop (opv_lt (hop _) (by assumption)), hfa, hK, hG, hT, vki, un_v vop (by omega), vfa, vK, vG, vT⟩, rfl, rfl⟩ | exact Or.inr ⟨_, _, _, _, _, _, _, _, _, ts_c1 hs9 (by assumption) (by assumption) (by assumption), ⟨hn, hm, hsh, hki, un_b hop (opv_lt (hop _) (by assumption)), hfa, hK, hG, hT, vki, un_v vop (by omega), vfa, vK, vG, vT⟩, rfl, rfl⟩ | exact Or.inr ⟨_, _, _, _, _, _, _, _, _, ts_s1 hs9 hi_q, ⟨hn, hm, Nat.xor_lt_two_pow hsh (pow_lt2 hi_q), hki, hop, hfa, hK, hG, hT, vki, vop, vfa, vK, vG, vT⟩, rfl, by rw [shf_x]⟩ | exact Or.inr ⟨_, _, _, _, _, _, _, _, _, ts_k1 hs9 hi_q, ⟨hn, hm, hsh, hki, hop, un_b hfa (Nat.or_lt_two_pow (n := 10) (hfa _) (pow_lt2 (by omega))), hK, hG, hT, vki, vop, un_v vfa (by omega), vK, vG, vT⟩, rfl, rfl⟩
    ·
      show VV E 0 0 196 [(4, .int (nI 1)), (3, .int (nI (10 * (sg (a + 2) - 48) + (sg (a + 2 + 1) - 48)))), (2, .int (nI (sg (a + 1) - 48))), (0, .ref r0), (1, .int (nI i))] [.int (nI 1)] [(r0, .inr (5, [.int (nI n), .ref k1, .ref k2, .ref k3, .ref k4, .int (nI m), .ref k6, .ref k7, .ref k8, .int (nI 0), .ref k10, .int (nI aw), .ref k12, .ref k13, .ref k14, .ref k15, .ref k16, .int (nI ls), .int (nI ap), .int (bz bd), .int (nI sq), .ref k21, .ref k22, .ref k23, .ref k24, .ref k25, .int (bz pd), .int (nI pl), .int (bz tk), kv, .ref k30, .ref k31, .int (nI tz), .ref k33, .int (nI rs), .int sd])), (k1, .inl (cI, 7, .inl (nIf ki))), (k2, .inl (cI, 7, .inl (nIf (un op (sg (a + 1) - 48) (if false = true then (op (sg (a + 1) - 48)) ||| HR (10 * (sg (a + 2) - 48) + (sg (a + 2 + 1) - 48)) (10 * (sg (a + 4) - 48) + (sg (a + 4 + 1) - 48)) else andn (op (sg (a + 1) - 48)) (HR (10 * (sg (a + 2) - 48) + (sg (a + 2 + 1) - 48)) (10 * (sg (a + 4) - 48) + (sg (a + 4 + 1) - 48)))))))), (k3, .inl (cI, 7, .inl (nIf (shF sh)))), (k4, .inl (cI, 7, .inl (nIf fa))), (k6, .inl (cI, 6, .inl (nIf K))), (k7, .inl (cI, 6, .inl (nIf G))), (k8, .inl (cI, 6, .inl (nIf T))), (k22, .inl (cI, 49, .inl lo)), (k23, .inl (cI, 147, .inl (nIf tl)))]
      refine v_zret zC zT dX5_comesTold_196 (by decide +kernel) ?_
      first | exact Or.inl ⟨ts_p0 hs9 (by omega), rfl, rfl⟩ | exact Or.inl ⟨ts_d0 hs9 d1.2.2 d2.2.2 (by omega), rfl, rfl⟩ | exact Or.inl ⟨ts_o0 (Or.inl hs9) (by assumption), rfl, rfl⟩ | exact Or.inl ⟨ts_o0 (Or.inr hs9) (by assumption), rfl, rfl⟩ | exact Or.inl ⟨ts_s0 hs9 hn_q, rfl, rfl⟩ | exact Or.inl ⟨ts_k0 hs9 hn_q, rfl, rfl⟩ | exact Or.inr ⟨_, _, _, _, _, _, _, _, _, ts_p1 hs9 (by omega) (by omega), ⟨by omega, hm, Nat.lt_of_lt_of_le hsh (Nat.pow_le_pow_right (by decide) (by omega)), un_b hki (by omega), un_b hop (by decide), un_b hfa (by decide), hK, hG, hT, un_v vki (by omega), un_v vop (by omega), un_v vfa (by omega), vK, vG, vT⟩, rfl, rfl⟩ | exact Or.inr ⟨_, _, _, _, _, _, _, _, _, ts_d1 hs9 (by omega) (by omega), ⟨hn, by omega, hsh, hki, hop, hfa, un_b hK (by omega), un_b hG (by omega), un_b hT (by omega), vki, vop, vfa, un_v vK (by omega), un_v vG (by omega), un_v vT (by omega)⟩, rfl, rfl⟩ | exact Or.inr ⟨_, _, _, _, _, _, _, _, _, ts_o1 hs9 (by assumption) (by assumption) (by assumption), ⟨hn, hm, hsh, hki, un_b hop (opv_lt (hop _) (by assumption)), hfa, hK, hG, hT, vki, un_v vop (by omega), vfa, vK, vG, vT⟩, rfl, rfl⟩ | exact Or.inr ⟨_, _, _, _, _, _, _, _, _, ts_c1 hs9 (by assumption) (by assumption) (by assumption), ⟨hn, hm, hsh, hki, un_b hop (opv_lt (hop _) (by assumption)), hfa, hK, hG, hT, vki, un_v vop (by omega), vfa, vK, vG, vT⟩, rfl, rfl⟩ | exact Or.inr ⟨_, _, _, _, _, _, _, _, _, ts_s1 hs9 hi_q, ⟨hn, hm, Nat.xor_lt_two_pow hsh (pow_lt2 hi_q), hki, hop, hfa, hK, hG, hT, vki, vop, vfa, vK, vG, vT⟩, rfl, by rw [shf_x]⟩ | exact Or.inr ⟨_, _, _, _, _, _, _, _, _, ts_k1 hs9 hi_q, ⟨hn, hm, hsh, hki, hop, un_b hfa (Nat.or_lt_two_pow (n := 10) (hfa _) (pow_lt2 (by omega))), hK, hG, hT, vki, vop, un_v vfa (by omega), vK, vG, vT⟩, rfl, rfl⟩
set_option maxRecDepth 100000 in
set_option maxHeartbeats 4000000 in
theorem c_X5_family (l : Launch) (D : va_G) (cI : ClassId) (r0 k1 k2 k3 k4 k6 k7 k8 k10 k12 k13 k14 k15 k16 k21 k22 k23 k24 k25 k30 k31 k33 : Nat) (n m ls ap sq pl tz rs : Nat) (bd pd tk : Bool) (kv : Value) (sd : Int32) (ki op fa K G T : Nat → Nat) (sh : Nat) (sg pi tl kp : Nat → Nat) (lo : Nat → Int32) (hw : FW n m sh ki op fa K G T) (hl : ls ≤ 96) (hsg : ∀ z, sg z < 256) : CT l yX5_family cX5_family 2 (some .int) { frames := 4, cells := 0, slots := 0, locals := 96 } D cI [.ref r0] [(r0, .inr (5, [.int (nI n), .ref k1, .ref k2, .ref k3, .ref k4, .int (nI m), .ref k6, .ref k7, .ref k8, .int (nI 0), .ref k10, .int (nI 0), .ref k12, .ref k13, .ref k14, .ref k15, .ref k16, .int (nI ls), .int (nI ap), .int (bz bd), .int (nI sq), .ref k21, .ref k22, .ref k23, .ref k24, .ref k25, .int (bz pd), .int (nI pl), .int (bz tk), kv, .ref k30, .ref k31, .int (nI tz), .ref k33, .int (nI rs), .int sd])), (k1, .inl (cI, 7, .inl (nIf ki))), (k2, .inl (cI, 7, .inl (nIf op))), (k3, .inl (cI, 7, .inl (nIf (shF sh)))), (k4, .inl (cI, 7, .inl (nIf fa))), (k6, .inl (cI, 6, .inl (nIf K))), (k7, .inl (cI, 6, .inl (nIf G))), (k8, .inl (cI, 6, .inl (nIf T))), (k16, .inl (cI, 96, .inl (nIf sg))), (k21, .inl (cI, 49, .inl (nIf pi))), (k22, .inl (cI, 49, .inl lo)), (k23, .inl (cI, 147, .inl (nIf tl))), (k24, .inl (cI, 48, .inl (nIf kp)))] (fun zr zw => (∃ b : Nat, ∃ q1 : Nat, ∃ p2 : Nat → Nat, ∃ l2 : Nat → Int32, ∃ t2 : Nat → Nat, (BRK ls sg = some b) ∧ (b ≤ 96) ∧ zr = some (.int ((-1000) - (nI b))) ∧ zw = [(r0, .inr (5, [.int (nI n), .ref k1, .ref k2, .ref k3, .ref k4, .int (nI m), .ref k6, .ref k7, .ref k8, .int (nI 0), .ref k10, .int (nI 0), .ref k12, .ref k13, .ref k14, .ref k15, .ref k16, .int (nI 0), .int (nI b), .int (bz true), .int (nI q1), .ref k21, .ref k22, .ref k23, .ref k24, .ref k25, .int (bz pd), .int (nI pl), .int (bz tk), kv, .ref k30, .ref k31, .int (nI tz), .ref k33, .int (nI rs), .int sd])), (k1, .inl (cI, 7, .inl (nIf ki))), (k2, .inl (cI, 7, .inl (nIf op))), (k3, .inl (cI, 7, .inl (nIf (shF sh)))), (k4, .inl (cI, 7, .inl (nIf fa))), (k6, .inl (cI, 6, .inl (nIf K))), (k7, .inl (cI, 6, .inl (nIf G))), (k8, .inl (cI, 6, .inl (nIf T))), (k16, .inl (cI, 96, .inl (nIf sg))), (k21, .inl (cI, 49, .inl (nIf p2))), (k22, .inl (cI, 49, .inl l2)), (k23, .inl (cI, 147, .inl (nIf t2))), (k24, .inl (cI, 48, .inl (nIf kp)))]) ∨ (∃ b : Nat, ∃ a1 : Nat, ∃ q1 : Nat, ∃ p2 : Nat → Nat, ∃ l2 : Nat → Int32, ∃ t2 : Nat → Nat, ∃ kp1 : Nat → Nat, (BRK ls sg = none) ∧ (TELL ls sg ls 0 0 (n, m, sh, 0, ki, op, fa, K, G, T) = (none, b)) ∧ (b ≤ 96) ∧ zr = some (.int ((-2000) - (nI b))) ∧ zw = [(r0, .inr (5, [.int (nI n), .ref k1, .ref k2, .ref k3, .ref k4, .int (nI m), .ref k6, .ref k7, .ref k8, .int (nI 0), .ref k10, .int (nI 0), .ref k12, .ref k13, .ref k14, .ref k15, .ref k16, .int (nI 0), .int (nI a1), .int (bz false), .int (nI q1), .ref k21, .ref k22, .ref k23, .ref k24, .ref k25, .int (bz pd), .int (nI 48), .int (bz false), .ref k24, .ref k30, .ref k31, .int (nI tz), .ref k33, .int (nI rs), .int sd])), (k1, .inl (cI, 7, .inl (nIf ki))), (k2, .inl (cI, 7, .inl (nIf op))), (k3, .inl (cI, 7, .inl (nIf (shF sh)))), (k4, .inl (cI, 7, .inl (nIf fa))), (k6, .inl (cI, 6, .inl (nIf K))), (k7, .inl (cI, 6, .inl (nIf G))), (k8, .inl (cI, 6, .inl (nIf T))), (k16, .inl (cI, 96, .inl (nIf sg))), (k21, .inl (cI, 49, .inl (nIf p2))), (k22, .inl (cI, 49, .inl l2)), (k23, .inl (cI, 147, .inl (nIf t2))), (k24, .inl (cI, 48, .inl (nIf kp1)))]) ∨ (∃ c : Nat, ∃ n3 : Nat, ∃ m3 : Nat, ∃ s3 : Nat, ∃ ki3 : Nat → Nat, ∃ op3 : Nat → Nat, ∃ fa3 : Nat → Nat, ∃ K3 : Nat → Nat, ∃ G3 : Nat → Nat, ∃ T3 : Nat → Nat, ∃ a1 : Nat, ∃ p2 : Nat → Nat, ∃ l2 : Nat → Int32, ∃ t2 : Nat → Nat, ∃ kp1 : Nat → Nat, (BRK ls sg = none) ∧ (TELL ls sg ls 0 0 (n, m, sh, 0, ki, op, fa, K, G, T) = (some (n3, m3, s3, 0, ki3, op3, fa3, K3, G3, T3), c)) ∧ (FW n3 m3 s3 ki3 op3 fa3 K3 G3 T3) ∧ zr = some (.int (nI c)) ∧ zw = [(r0, .inr (5, [.int (nI n3), .ref k1, .ref k2, .ref k3, .ref k4, .int (nI m3), .ref k6, .ref k7, .ref k8, .int (nI 0), .ref k10, .int (nI 0), .ref k12, .ref k13, .ref k14, .ref k15, .ref k16, .int (nI 0), .int (nI a1), .int (bz false), .int (nI c), .ref k21, .ref k22, .ref k23, .ref k24, .ref k25, .int (bz pd), .int (nI 48), .int (bz true), .ref k24, .ref k30, .ref k31, .int (nI 0), .ref k33, .int (nI rs), .int sd])), (k1, .inl (cI, 7, .inl (nIf ki3))), (k2, .inl (cI, 7, .inl (nIf op3))), (k3, .inl (cI, 7, .inl (nIf (shF s3)))), (k4, .inl (cI, 7, .inl (nIf fa3))), (k6, .inl (cI, 6, .inl (nIf K3))), (k7, .inl (cI, 6, .inl (nIf G3))), (k8, .inl (cI, 6, .inl (nIf T3))), (k16, .inl (cI, 96, .inl (nIf sg))), (k21, .inl (cI, 49, .inl (nIf p2))), (k22, .inl (cI, 49, .inl l2)), (k23, .inl (cI, 147, .inl (nIf t2))), (k24, .inl (cI, 48, .inl (nIf kp1)))])) := by
  refine CT_of RX5 rfl (by decide +kernel) (Nat.le_of_ble_eq_true rfl) (fun E hnE zC zT => ?_)
  have hA : ∀ q, (ev_s E).heap.size ≤ q → ev_A E q := fun q h => by rw [zT.2]; exact Or.inr h
  obtain ⟨hn, hm, hsh, hki, hop, hfa, hK, hG, hT, vki, vop, vfa, vK, vG, vT⟩ := id hw
  show VV E 0 0 0 [(0, .ref r0)] [] [(r0, .inr (5, [.int (nI n), .ref k1, .ref k2, .ref k3, .ref k4, .int (nI m), .ref k6, .ref k7, .ref k8, .int (nI 0), .ref k10, .int (nI 0), .ref k12, .ref k13, .ref k14, .ref k15, .ref k16, .int (nI ls), .int (nI ap), .int (bz bd), .int (nI sq), .ref k21, .ref k22, .ref k23, .ref k24, .ref k25, .int (bz pd), .int (nI pl), .int (bz tk), kv, .ref k30, .ref k31, .int (nI tz), .ref k33, .int (nI rs), .int sd])), (k1, .inl (cI, 7, .inl (nIf ki))), (k2, .inl (cI, 7, .inl (nIf op))), (k3, .inl (cI, 7, .inl (nIf (shF sh)))), (k4, .inl (cI, 7, .inl (nIf fa))), (k6, .inl (cI, 6, .inl (nIf K))), (k7, .inl (cI, 6, .inl (nIf G))), (k8, .inl (cI, 6, .inl (nIf T))), (k16, .inl (cI, 96, .inl (nIf sg))), (k21, .inl (cI, 49, .inl (nIf pi))), (k22, .inl (cI, 49, .inl lo)), (k23, .inl (cI, 147, .inl (nIf tl))), (k24, .inl (cI, 48, .inl (nIf kp)))]
  refine v_al_n 1 zC dX5_family_0 0 rfl ?_
  refine v_ic (v := (nI 0)) 2 zC dX5_family_1 (by decide +kernel) ?_
  refine v_pf (ws2 := [(r0, .inr (5, [.int (nI n), .ref k1, .ref k2, .ref k3, .ref k4, .int (nI m), .ref k6, .ref k7, .ref k8, .int (nI 0), .ref k10, .int (nI 0), .ref k12, .ref k13, .ref k14, .ref k15, .ref k16, .int (nI ls), .int (nI ap), .int (bz bd), .int (nI sq), .ref k21, .ref k22, .ref k23, .ref k24, .ref k25, .int (bz pd), .int (nI pl), .int (bz tk), kv, .ref k30, .ref k31, .int (nI tz), .ref k33, .int (nI rs), .int sd])), (k1, .inl (cI, 7, .inl (nIf ki))), (k2, .inl (cI, 7, .inl (nIf op))), (k3, .inl (cI, 7, .inl (nIf (shF sh)))), (k4, .inl (cI, 7, .inl (nIf fa))), (k6, .inl (cI, 6, .inl (nIf K))), (k7, .inl (cI, 6, .inl (nIf G))), (k8, .inl (cI, 6, .inl (nIf T))), (k16, .inl (cI, 96, .inl (nIf sg))), (k21, .inl (cI, 49, .inl (nIf pi))), (k22, .inl (cI, 49, .inl lo)), (k23, .inl (cI, 147, .inl (nIf tl))), (k24, .inl (cI, 48, .inl (nIf kp)))]) 5 0 zC dX5_family_2 pf_X5_73 rfl (Nat.le_of_ble_eq_true rfl) rfl rfl rfl ?_
  refine v_al_n 6 zC dX5_family_5 0 rfl ?_
  refine v_ic (v := (nI 0)) 7 zC dX5_family_6 (by decide +kernel) ?_
  refine v_pf (ws2 := [(r0, .inr (5, [.int (nI n), .ref k1, .ref k2, .ref k3, .ref k4, .int (nI m), .ref k6, .ref k7, .ref k8, .int (nI 0), .ref k10, .int (nI 0), .ref k12, .ref k13, .ref k14, .ref k15, .ref k16, .int (nI ls), .int (nI 0), .int (bz bd), .int (nI sq), .ref k21, .ref k22, .ref k23, .ref k24, .ref k25, .int (bz pd), .int (nI pl), .int (bz tk), kv, .ref k30, .ref k31, .int (nI tz), .ref k33, .int (nI rs), .int sd])), (k1, .inl (cI, 7, .inl (nIf ki))), (k2, .inl (cI, 7, .inl (nIf op))), (k3, .inl (cI, 7, .inl (nIf (shF sh)))), (k4, .inl (cI, 7, .inl (nIf fa))), (k6, .inl (cI, 6, .inl (nIf K))), (k7, .inl (cI, 6, .inl (nIf G))), (k8, .inl (cI, 6, .inl (nIf T))), (k16, .inl (cI, 96, .inl (nIf sg))), (k21, .inl (cI, 49, .inl (nIf pi))), (k22, .inl (cI, 49, .inl lo)), (k23, .inl (cI, 147, .inl (nIf tl))), (k24, .inl (cI, 48, .inl (nIf kp)))]) 10 0 zC dX5_family_7 pf_X5_135 rfl (Nat.le_of_ble_eq_true rfl) rfl rfl rfl ?_
  refine v_al_n 11 zC dX5_family_10 0 rfl ?_
  refine v_ic (v := (nI 0)) 12 zC dX5_family_11 (by decide +kernel) ?_
  refine v_pf (ws2 := [(r0, .inr (5, [.int (nI n), .ref k1, .ref k2, .ref k3, .ref k4, .int (nI m), .ref k6, .ref k7, .ref k8, .int (nI 0), .ref k10, .int (nI 0), .ref k12, .ref k13, .ref k14, .ref k15, .ref k16, .int (nI ls), .int (nI 0), .int (nI 0), .int (nI sq), .ref k21, .ref k22, .ref k23, .ref k24, .ref k25, .int (bz pd), .int (nI pl), .int (bz tk), kv, .ref k30, .ref k31, .int (nI tz), .ref k33, .int (nI rs), .int sd])), (k1, .inl (cI, 7, .inl (nIf ki))), (k2, .inl (cI, 7, .inl (nIf op))), (k3, .inl (cI, 7, .inl (nIf (shF sh)))), (k4, .inl (cI, 7, .inl (nIf fa))), (k6, .inl (cI, 6, .inl (nIf K))), (k7, .inl (cI, 6, .inl (nIf G))), (k8, .inl (cI, 6, .inl (nIf T))), (k16, .inl (cI, 96, .inl (nIf sg))), (k21, .inl (cI, 49, .inl (nIf pi))), (k22, .inl (cI, 49, .inl lo)), (k23, .inl (cI, 147, .inl (nIf tl))), (k24, .inl (cI, 48, .inl (nIf kp)))]) 15 0 zC dX5_family_12 pf_X5_138 rfl (Nat.le_of_ble_eq_true rfl) (by decide +kernel) (by decide +kernel) rfl ?_
  refine v_al_n 16 zC dX5_family_15 0 rfl ?_
  refine v_ic (v := (nI 0)) 17 zC dX5_family_16 (by decide +kernel) ?_
  refine v_pf (ws2 := [(r0, .inr (5, [.int (nI n), .ref k1, .ref k2, .ref k3, .ref k4, .int (nI m), .ref k6, .ref k7, .ref k8, .int (nI 0), .ref k10, .int (nI 0), .ref k12, .ref k13, .ref k14, .ref k15, .ref k16, .int (nI ls), .int (nI 0), .int (nI 0), .int (nI 0), .ref k21, .ref k22, .ref k23, .ref k24, .ref k25, .int (bz pd), .int (nI pl), .int (bz tk), kv, .ref k30, .ref k31, .int (nI tz), .ref k33, .int (nI rs), .int sd])), (k1, .inl (cI, 7, .inl (nIf ki))), (k2, .inl (cI, 7, .inl (nIf op))), (k3, .inl (cI, 7, .inl (nIf (shF sh)))), (k4, .inl (cI, 7, .inl (nIf fa))), (k6, .inl (cI, 6, .inl (nIf K))), (k7, .inl (cI, 6, .inl (nIf G))), (k8, .inl (cI, 6, .inl (nIf T))), (k16, .inl (cI, 96, .inl (nIf sg))), (k21, .inl (cI, 49, .inl (nIf pi))), (k22, .inl (cI, 49, .inl lo)), (k23, .inl (cI, 147, .inl (nIf tl))), (k24, .inl (cI, 48, .inl (nIf kp)))]) 20 0 zC dX5_family_17 pf_X5_153 rfl (Nat.le_of_ble_eq_true rfl) rfl rfl rfl ?_
  have lp20 : ∀ (mz : Nat) (b : Bool) (a : Nat) (c : Nat) (f : Nat) (mu : Nat) (p2 : Nat → Nat) (l2 : Nat → Int32) (t2 : Nat → Nat), (RST ls sg p2 l2 t2 b a c f) → (b = true ∨ mu = ls + 1 - a) → (c ≤ 33) → (a ≤ 96) → mu = mz → VV E 0 0 20 [(0, .ref r0)] [] [(r0, .inr (5, [.int (nI n), .ref k1, .ref k2, .ref k3, .ref k4, .int (nI m), .ref k6, .ref k7, .ref k8, .int (nI 0), .ref k10, .int (nI 0), .ref k12, .ref k13, .ref k14, .ref k15, .ref k16, .int (nI ls), .int (nI a), .int (bz b), .int (nI c), .ref k21, .ref k22, .ref k23, .ref k24, .ref k25, .int (bz pd), .int (nI pl), .int (bz tk), kv, .ref k30, .ref k31, .int (nI tz), .ref k33, .int (nI rs), .int sd])), (k1, .inl (cI, 7, .inl (nIf ki))), (k2, .inl (cI, 7, .inl (nIf op))), (k3, .inl (cI, 7, .inl (nIf (shF sh)))), (k4, .inl (cI, 7, .inl (nIf fa))), (k6, .inl (cI, 6, .inl (nIf K))), (k7, .inl (cI, 6, .inl (nIf G))), (k8, .inl (cI, 6, .inl (nIf T))), (k16, .inl (cI, 96, .inl (nIf sg))), (k21, .inl (cI, 49, .inl (nIf p2))), (k22, .inl (cI, 49, .inl l2)), (k23, .inl (cI, 147, .inl (nIf t2))), (k24, .inl (cI, 48, .inl (nIf kp)))] := by
    intro mz
    induction mz using Nat.strongRecOn with
    | _ mz ih20 =>
    intro b a c f mu p2 l2 t2 hS hmu hc hal hm20
    refine v_al_n 21 zC dX5_family_20 0 rfl ?_
    refine v_gf 24 0 zC dX5_family_21 gf_X5_138 rfl rfl ?_
    refine v_ifb_ne 52 27 zC dX5_family_24 (fun h_1 => ?_) (fun h_1 => ?_)
    ·
      subst h_1
      have hbt := rst_t hS
      refine v_al_n 53 zC dX5_family_52 0 rfl ?_
      refine v_ic (v := (nI 0)) 54 zC dX5_family_53 (by decide +kernel) ?_
      refine v_pf (ws2 := [(r0, .inr (5, [.int (nI n), .ref k1, .ref k2, .ref k3, .ref k4, .int (nI m), .ref k6, .ref k7, .ref k8, .int (nI 0), .ref k10, .int (nI 0), .ref k12, .ref k13, .ref k14, .ref k15, .ref k16, .int (nI 0), .int (nI a), .int (bz true), .int (nI c), .ref k21, .ref k22, .ref k23, .ref k24, .ref k25, .int (bz pd), .int (nI pl), .int (bz tk), kv, .ref k30, .ref k31, .int (nI tz), .ref k33, .int (nI rs), .int sd])), (k1, .inl (cI, 7, .inl (nIf ki))), (k2, .inl (cI, 7, .inl (nIf op))), (k3, .inl (cI, 7, .inl (nIf (shF sh)))), (k4, .inl (cI, 7, .inl (nIf fa))), (k6, .inl (cI, 6, .inl (nIf K))), (k7, .inl (cI, 6, .inl (nIf G))), (k8, .inl (cI, 6, .inl (nIf T))), (k16, .inl (cI, 96, .inl (nIf sg))), (k21, .inl (cI, 49, .inl (nIf p2))), (k22, .inl (cI, 49, .inl l2)), (k23, .inl (cI, 147, .inl (nIf t2))), (k24, .inl (cI, 48, .inl (nIf kp)))]) 57 0 zC dX5_family_54 pf_X5_132 rfl (Nat.le_of_ble_eq_true rfl) rfl rfl rfl ?_
      refine v_al_n 58 zC dX5_family_57 0 rfl ?_
      refine v_gf 61 0 zC dX5_family_58 gf_X5_138 rfl rfl ?_
      refine v_ifb_eq 73 64 zC dX5_family_61 (fun z => absurd z (by decide)) (fun _ => ?_)
      refine v_sp (v := (-1000)) 67 zC dX5_family_64 (by decide +kernel) ?_
      refine v_al_n 68 zC dX5_family_67 0 rfl ?_
      refine v_gf 71 0 zC dX5_family_68 gf_X5_135 rfl rfl ?_
      refine v_isub (v := ((-1000) - (nI a))) 72 zC dX5_family_71 rfl ?_
      refine v_iret zC zT dX5_family_72  ?_
      first | (have g9 := hbt; exact Or.inl ⟨_, _, _, _, _, hbt.1, hbt.2, rfl, rfl⟩) | (have g9 := htn9; exact Or.inr (Or.inl ⟨_, _, _, _, _, _, _, he9.1, by rw [← ht]; exact tell_b hg5 hf2 htn9, by omega, rfl, rfl⟩)) | (have hic : i = c := (by omega); subst hic; exact Or.inr (Or.inr ⟨_, _, _, _, _, _, _, _, _, _, _, _, _, _, _, he9.1, by rw [← ht]; exact tell_e (by have := he9.2.1; omega), hF, rfl, rfl⟩))
    ·
      subst h_1
      refine v_al_n 28 zC dX5_family_27 0 rfl ?_
      refine v_gf 31 0 zC dX5_family_28 gf_X5_153 rfl rfl ?_
      refine v_ifn_eq 45 34 zC dX5_family_31 (fun h_3 => ?_) (fun h_3 => ?_)
      ·
        have hca : c = 0 ∨ a < ls := Or.inl h_3
        refine v_al_n 46 zC dX5_family_45 0 rfl ?_
        have hr9 := rst_f hS
        have hr3 := hr9.2.2.1
        have hr4 := hr9.2.2.2.1
        have hmu9 := hmu.resolve_left (fun z => by cases z)
        refine v_cV (As := []) (st := []) 49 0 [0, 8, 9, 10, 11] zC dX5_family_46 hA (c_X5_readStatement (ev_l E) (ev_D E) cI (r0 := r0) (k1 := k1) (k2 := k2) (k3 := k3) (k4 := k4) (k6 := k6) (k7 := k7) (k8 := k8) (k10 := k10) (k12 := k12) (k13 := k13) (k14 := k14) (k15 := k15) (k16 := k16) (k21 := k21) (k22 := k22) (k23 := k23) (k24 := k24) (k25 := k25) (k30 := k30) (k31 := k31) (k33 := k33) (n := n) (m := m) (aw := 0) (ls := ls) (ap := a) (sq := c) (pl := pl) (tz := tz) (rs := rs) (pd := pd) (tk := tk) (kv := kv) (sd := sd) (sg := sg) (pi := p2) (tl := t2) (lo := l2) (hl := (by first | omega | assumption | rfl | (simp only []; omega) | decide)) (hsg := (by first | omega | assumption | rfl | (simp only []; omega) | decide)) (ha := (by first | omega | assumption | rfl | (simp only []; omega) | decide)) (hsq := (by first | omega | assumption | rfl | (simp only []; omega) | decide))) cf_X5_readStatement lk_X5_178 rfl rfl rfl rfl rfl (by decide +kernel) (Nat.le_of_ble_eq_true rfl) (fun rv_4 wv_5 hp_6 hm_7 => ?_)
        clear hm_7
        rcases hp_6 with ⟨a2_8, t1_9, h1_10, h2_11, h3_12, h4_13, h5_14, rfl, rfl⟩ | ⟨b_15, p2_16, l2_17, t2_18, h1_19, h2_20, rfl, rfl⟩
        ·
          show VV E 0 0 49 [(0, .ref r0)] [] [(r0, .inr (5, [.int (nI n), .ref k1, .ref k2, .ref k3, .ref k4, .int (nI m), .ref k6, .ref k7, .ref k8, .int (nI 0), .ref k10, .int (nI 0), .ref k12, .ref k13, .ref k14, .ref k15, .ref k16, .int (nI ls), .int (nI a2_8), .int (bz false), .int (nI (c + 1)), .ref k21, .ref k22, .ref k23, .ref k24, .ref k25, .int (bz pd), .int (nI pl), .int (bz tk), kv, .ref k30, .ref k31, .int (nI tz), .ref k33, .int (nI rs), .int sd])), (k1, .inl (cI, 7, .inl (nIf ki))), (k2, .inl (cI, 7, .inl (nIf op))), (k3, .inl (cI, 7, .inl (nIf (shF sh)))), (k4, .inl (cI, 7, .inl (nIf fa))), (k6, .inl (cI, 6, .inl (nIf K))), (k7, .inl (cI, 6, .inl (nIf G))), (k8, .inl (cI, 6, .inl (nIf T))), (k16, .inl (cI, 96, .inl (nIf sg))), (k21, .inl (cI, 49, .inl (nIf (un p2 c a)))), (k22, .inl (cI, 49, .inl (upd l2 c (nI (sg a))))), (k23, .inl (cI, 147, .inl (nIf t1_9))), (k24, .inl (cI, 48, .inl (nIf kp)))]
          have hk1 := h1_10
          have hk2 := h2_11
          have hk3 := h3_12
          have hk4 := h4_13
          have hk5 := h5_14
          refine v_goto 20 zC dX5_family_49 ?_
          refine v_lvs (lv2 := [(0, .ref r0)]) [0] rfl ?_
          exact ih20 _ (by first | omega | (have := (nxt_gt hk1).1; omega)) false a2_8 (c + 1) (f - 1) (ls + 1 - a2_8) (un p2 c a) (upd l2 c (nI (sg a))) t1_9 (by first | exact rst_s hS hk1 hk2 hk3 hk4 hk5 | exact rst_b hS hca hj1 hj2) (by first | exact Or.inl rfl | exact Or.inr rfl) (by omega) (by first | exact hj2 | (have := (nxt_gt hk1).2; omega)) rfl
        ·
          show VV E 0 0 49 [(0, .ref r0)] [] [(r0, .inr (5, [.int (nI n), .ref k1, .ref k2, .ref k3, .ref k4, .int (nI m), .ref k6, .ref k7, .ref k8, .int (nI 0), .ref k10, .int (nI 0), .ref k12, .ref k13, .ref k14, .ref k15, .ref k16, .int (nI ls), .int (nI b_15), .int (bz true), .int (nI (c + 1)), .ref k21, .ref k22, .ref k23, .ref k24, .ref k25, .int (bz pd), .int (nI pl), .int (bz tk), kv, .ref k30, .ref k31, .int (nI tz), .ref k33, .int (nI rs), .int sd])), (k1, .inl (cI, 7, .inl (nIf ki))), (k2, .inl (cI, 7, .inl (nIf op))), (k3, .inl (cI, 7, .inl (nIf (shF sh)))), (k4, .inl (cI, 7, .inl (nIf fa))), (k6, .inl (cI, 6, .inl (nIf K))), (k7, .inl (cI, 6, .inl (nIf G))), (k8, .inl (cI, 6, .inl (nIf T))), (k16, .inl (cI, 96, .inl (nIf sg))), (k21, .inl (cI, 49, .inl (nIf p2_16))), (k22, .inl (cI, 49, .inl l2_17)), (k23, .inl (cI, 147, .inl (nIf t2_18))), (k24, .inl (cI, 48, .inl (nIf kp)))]
          have hj1 := h1_19
          have hj2 := h2_20
          refine v_goto 20 zC dX5_family_49 ?_
          refine v_lvs (lv2 := [(0, .ref r0)]) [0] rfl ?_
          exact ih20 _ (by first | omega | (have := (nxt_gt hk1).1; omega)) true b_15 (c + 1) 0 0 p2_16 l2_17 t2_18 (by first | exact rst_s hS hk1 hk2 hk3 hk4 hk5 | exact rst_b hS hca hj1 hj2) (by first | exact Or.inl rfl | exact Or.inr rfl) (by omega) (by first | exact hj2 | (have := (nxt_gt hk1).2; omega)) rfl
      ·
        have hcn := h_3
        refine v_al_n 35 zC dX5_family_34 0 rfl ?_
        refine v_gf 38 0 zC dX5_family_35 gf_X5_135 rfl rfl ?_
        refine v_al_n 39 zC dX5_family_38 0 rfl ?_
        refine v_gf 42 0 zC dX5_family_39 gf_X5_132 rfl rfl ?_
        refine v_icmpn_ge 52 45 zC dX5_family_42 (fun h_21 => ?_) (fun h_21 => ?_)
        ·
          have he9 := (rst_e hS hcn h_21).resolve_right (by omega)
          refine v_al_n 53 zC dX5_family_52 0 rfl ?_
          refine v_ic (v := (nI 0)) 54 zC dX5_family_53 (by decide +kernel) ?_
          refine v_pf (ws2 := [(r0, .inr (5, [.int (nI n), .ref k1, .ref k2, .ref k3, .ref k4, .int (nI m), .ref k6, .ref k7, .ref k8, .int (nI 0), .ref k10, .int (nI 0), .ref k12, .ref k13, .ref k14, .ref k15, .ref k16, .int (nI 0), .int (nI a), .int (bz false), .int (nI c), .ref k21, .ref k22, .ref k23, .ref k24, .ref k25, .int (bz pd), .int (nI pl), .int (bz tk), kv, .ref k30, .ref k31, .int (nI tz), .ref k33, .int (nI rs), .int sd])), (k1, .inl (cI, 7, .inl (nIf ki))), (k2, .inl (cI, 7, .inl (nIf op))), (k3, .inl (cI, 7, .inl (nIf (shF sh)))), (k4, .inl (cI, 7, .inl (nIf fa))), (k6, .inl (cI, 6, .inl (nIf K))), (k7, .inl (cI, 6, .inl (nIf G))), (k8, .inl (cI, 6, .inl (nIf T))), (k16, .inl (cI, 96, .inl (nIf sg))), (k21, .inl (cI, 49, .inl (nIf p2))), (k22, .inl (cI, 49, .inl l2)), (k23, .inl (cI, 147, .inl (nIf t2))), (k24, .inl (cI, 48, .inl (nIf kp)))]) 57 0 zC dX5_family_54 pf_X5_132 rfl (Nat.le_of_ble_eq_true rfl) rfl rfl rfl ?_
          refine v_al_n 58 zC dX5_family_57 0 rfl ?_
          refine v_gf 61 0 zC dX5_family_58 gf_X5_138 rfl rfl ?_
          refine v_ifb_eq 73 64 zC dX5_family_61 (fun _ => ?_) (fun z => absurd z (by decide))
          refine v_al_n 74 zC dX5_family_73 0 rfl ?_
          refine v_al_n 75 zC dX5_family_74 0 rfl ?_
          refine v_gf 78 0 zC dX5_family_75 gf_X5_58 rfl rfl ?_
          refine v_ic (v := (nI 1)) 79 zC dX5_family_78 (by decide +kernel) ?_
          refine v_cV (As := [.ref k24, .int (nI 1)]) (st := []) 82 0 [0, 1, 2, 3, 4, 5, 6, 7, 12] zC dX5_family_79 hA (c_X5_carryAll__T (ev_l E) (ev_D E) cI (r0 := r0) (k1 := k1) (k2 := k2) (k3 := k3) (k4 := k4) (k6 := k6) (k7 := k7) (k8 := k8) (k10 := k10) (k12 := k12) (k13 := k13) (k14 := k14) (k15 := k15) (k16 := k16) (k21 := k21) (k22 := k22) (k23 := k23) (k24 := k24) (k25 := k25) (k30 := k30) (k31 := k31) (k33 := k33) (n := n) (m := m) (aw := 0) (ls := 0) (ap := a) (sq := c) (pl := pl) (tz := tz) (rs := rs) (bd := false) (pd := pd) (tk := tk) (kv := kv) (sd := sd) (ki := ki) (op := op) (fa := fa) (K := K) (G := G) (T := T) (sh := sh) (q := k24) (En := kp) ) cf_X5_carryAll lk_X5_181 rfl rfl rfl rfl rfl (by decide +kernel) (Nat.le_of_ble_eq_true rfl) (fun rv_23 wv_24 hp_25 hm_26 => ?_)
          clear hm_26
          obtain ⟨E1_27, hE_28, rfl, rfl⟩ := hp_25
          show VV E 0 0 82 [(0, .ref r0)] [] [(r0, .inr (5, [.int (nI n), .ref k1, .ref k2, .ref k3, .ref k4, .int (nI m), .ref k6, .ref k7, .ref k8, .int (nI 0), .ref k10, .int (nI 0), .ref k12, .ref k13, .ref k14, .ref k15, .ref k16, .int (nI 0), .int (nI a), .int (bz false), .int (nI c), .ref k21, .ref k22, .ref k23, .ref k24, .ref k25, .int (bz pd), .int (nI 48), .int (nI 1), .ref k24, .ref k30, .ref k31, .int (nI tz), .ref k33, .int (nI rs), .int sd])), (k1, .inl (cI, 7, .inl (nIf ki))), (k2, .inl (cI, 7, .inl (nIf op))), (k3, .inl (cI, 7, .inl (nIf (shF sh)))), (k4, .inl (cI, 7, .inl (nIf fa))), (k6, .inl (cI, 6, .inl (nIf K))), (k7, .inl (cI, 6, .inl (nIf G))), (k8, .inl (cI, 6, .inl (nIf T))), (k16, .inl (cI, 96, .inl (nIf sg))), (k21, .inl (cI, 49, .inl (nIf p2))), (k22, .inl (cI, 49, .inl l2)), (k23, .inl (cI, 147, .inl (nIf t2))), (k24, .inl (cI, 48, .inl (nIf E1_27)))]
          have hE9 := hE_28
          refine v_ic (v := (nI 0)) 83 zC dX5_family_82 (by decide +kernel) ?_
          refine v_is_n (lv2 := [(1, .int (nI 0)), (0, .ref r0)]) 84 zC dX5_family_83 (by rw [hnE]; decide) rfl ?_
          have lp84 : ∀ (mz : Nat) (n3 : Nat) (m3 : Nat) (s3 : Nat) (ki3 : Nat → Nat) (op3 : Nat → Nat) (fa3 : Nat → Nat) (K3 : Nat → Nat) (G3 : Nat → Nat) (T3 : Nat → Nat) (i : Nat) (f2 : Nat), (FW n3 m3 s3 ki3 op3 fa3 K3 G3 T3) → (TELL ls sg f2 (PLC sg i) i (n3, m3, s3, 0, ki3, op3, fa3, K3, G3, T3) = TELL ls sg ls 0 0 (n, m, sh, 0, ki, op, fa, K, G, T)) → (ls ≤ PLC sg i + f2) → (i ≤ c) → c - i = mz → VV E 0 0 84 [(1, .int (nI i)), (0, .ref r0)] [] [(r0, .inr (5, [.int (nI n3), .ref k1, .ref k2, .ref k3, .ref k4, .int (nI m3), .ref k6, .ref k7, .ref k8, .int (nI 0), .ref k10, .int (nI 0), .ref k12, .ref k13, .ref k14, .ref k15, .ref k16, .int (nI 0), .int (nI a), .int (bz false), .int (nI c), .ref k21, .ref k22, .ref k23, .ref k24, .ref k25, .int (bz pd), .int (nI 48), .int (nI 1), .ref k24, .ref k30, .ref k31, .int (nI tz), .ref k33, .int (nI rs), .int sd])), (k1, .inl (cI, 7, .inl (nIf ki3))), (k2, .inl (cI, 7, .inl (nIf op3))), (k3, .inl (cI, 7, .inl (nIf (shF s3)))), (k4, .inl (cI, 7, .inl (nIf fa3))), (k6, .inl (cI, 6, .inl (nIf K3))), (k7, .inl (cI, 6, .inl (nIf G3))), (k8, .inl (cI, 6, .inl (nIf T3))), (k16, .inl (cI, 96, .inl (nIf sg))), (k21, .inl (cI, 49, .inl (nIf p2))), (k22, .inl (cI, 49, .inl l2)), (k23, .inl (cI, 147, .inl (nIf t2))), (k24, .inl (cI, 48, .inl (nIf E1_27)))] := by
            intro mz
            induction mz using Nat.strongRecOn with
            | _ mz ih84 =>
            intro n3 m3 s3 ki3 op3 fa3 K3 G3 T3 i f2 hF ht hf2 hi hm84
            refine v_il_n 85 zC dX5_family_84 0 rfl ?_
            refine v_al_n 86 zC dX5_family_85 1 rfl ?_
            refine v_gf 89 0 zC dX5_family_86 gf_X5_153 rfl rfl ?_
            refine v_icmpn_ge 126 92 zC dX5_family_89 (fun h_29 => ?_) (fun h_29 => ?_)
            ·
              refine v_al_n 127 zC dX5_family_126 1 rfl ?_
              refine v_ic (v := (nI 0)) 128 zC dX5_family_127 (by decide +kernel) ?_
              refine v_pf (ws2 := [(r0, .inr (5, [.int (nI n3), .ref k1, .ref k2, .ref k3, .ref k4, .int (nI m3), .ref k6, .ref k7, .ref k8, .int (nI 0), .ref k10, .int (nI 0), .ref k12, .ref k13, .ref k14, .ref k15, .ref k16, .int (nI 0), .int (nI a), .int (bz false), .int (nI c), .ref k21, .ref k22, .ref k23, .ref k24, .ref k25, .int (bz pd), .int (nI 48), .int (nI 1), .ref k24, .ref k30, .ref k31, .int (nI 0), .ref k33, .int (nI rs), .int sd])), (k1, .inl (cI, 7, .inl (nIf ki3))), (k2, .inl (cI, 7, .inl (nIf op3))), (k3, .inl (cI, 7, .inl (nIf (shF s3)))), (k4, .inl (cI, 7, .inl (nIf fa3))), (k6, .inl (cI, 6, .inl (nIf K3))), (k7, .inl (cI, 6, .inl (nIf G3))), (k8, .inl (cI, 6, .inl (nIf T3))), (k16, .inl (cI, 96, .inl (nIf sg))), (k21, .inl (cI, 49, .inl (nIf p2))), (k22, .inl (cI, 49, .inl l2)), (k23, .inl (cI, 147, .inl (nIf t2))), (k24, .inl (cI, 48, .inl (nIf E1_27)))]) 131 0 zC dX5_family_128 pf_X5_188 rfl (Nat.le_of_ble_eq_true rfl) rfl rfl rfl ?_
              refine v_al_n 132 zC dX5_family_131 1 rfl ?_
              refine v_gf 135 0 zC dX5_family_132 gf_X5_153 rfl rfl ?_
              refine v_iret zC zT dX5_family_135  ?_
              first | (have g9 := hbt; exact Or.inl ⟨_, _, _, _, _, hbt.1, hbt.2, rfl, rfl⟩) | (have g9 := htn9; exact Or.inr (Or.inl ⟨_, _, _, _, _, _, _, he9.1, by rw [← ht]; exact tell_b hg5 hf2 htn9, by omega, rfl, rfl⟩)) | (have hic : i = c := (by omega); subst hic; exact Or.inr (Or.inr ⟨_, _, _, _, _, _, _, _, _, _, _, _, _, _, _, he9.1, by rw [← ht]; exact tell_e (by have := he9.2.1; omega), hF, rfl, rfl⟩))
            ·
              refine v_al_n 93 zC dX5_family_92 1 rfl ?_
              refine v_il_n 94 zC dX5_family_93 0 rfl ?_
              have hg9 := he9.2.2.1 i (by omega)
              have hg5 := hg9.2.2.2.2
              refine v_cV (As := [.int (nI i)]) (st := []) 97 0 [0, 1, 2, 3, 4, 5, 6, 7, 10, 11] zC dX5_family_94 hA (c_X5_comesTold (ev_l E) (ev_D E) cI (r0 := r0) (k1 := k1) (k2 := k2) (k3 := k3) (k4 := k4) (k6 := k6) (k7 := k7) (k8 := k8) (k10 := k10) (k12 := k12) (k13 := k13) (k14 := k14) (k15 := k15) (k16 := k16) (k21 := k21) (k22 := k22) (k23 := k23) (k24 := k24) (k25 := k25) (k30 := k30) (k31 := k31) (k33 := k33) (n := n3) (m := m3) (aw := 0) (ls := 0) (ap := a) (sq := c) (pl := 48) (tz := tz) (rs := rs) (bd := false) (pd := pd) (tk := true) (kv := (.ref k24 : Value)) (sd := sd) (ki := ki3) (op := op3) (fa := fa3) (K := K3) (G := G3) (T := T3) (sh := s3) (sg := sg) (tl := t2) (lo := l2) (i := i) (a := (PLC sg i)) (lq := ls) (hl := hl) (hi := (by have := he9.2.2.2; omega)) (ha := hg5) (hsg := hsg) (hlo := hg9.2.1) (htl := hg9.2.2.1) (hsc := hg9.2.2.2.1) (hw := hF)) cf_X5_comesTold lk_X5_185 rfl rfl rfl rfl rfl (by decide +kernel) (Nat.le_of_ble_eq_true rfl) (fun rv_30 wv_31 hp_32 hm_33 => ?_)
              clear hm_33
              rcases hp_32 with ⟨ht_34, rfl, rfl⟩ | ⟨n2_35, m2_36, sh2_37, ki2_38, op2_39, fa2_40, K2_41, G2_42, T2_43, ht_44, hw2_45, rfl, rfl⟩
              ·
                show VV E 0 0 97 [(1, .int (nI i)), (0, .ref r0)] [.int (nI 0)] [(r0, .inr (5, [.int (nI n3), .ref k1, .ref k2, .ref k3, .ref k4, .int (nI m3), .ref k6, .ref k7, .ref k8, .int (nI 0), .ref k10, .int (nI 0), .ref k12, .ref k13, .ref k14, .ref k15, .ref k16, .int (nI 0), .int (nI a), .int (bz false), .int (nI c), .ref k21, .ref k22, .ref k23, .ref k24, .ref k25, .int (bz pd), .int (nI 48), .int (nI 1), .ref k24, .ref k30, .ref k31, .int (nI tz), .ref k33, .int (nI rs), .int sd])), (k1, .inl (cI, 7, .inl (nIf ki3))), (k2, .inl (cI, 7, .inl (nIf op3))), (k3, .inl (cI, 7, .inl (nIf (shF s3)))), (k4, .inl (cI, 7, .inl (nIf fa3))), (k6, .inl (cI, 6, .inl (nIf K3))), (k7, .inl (cI, 6, .inl (nIf G3))), (k8, .inl (cI, 6, .inl (nIf T3))), (k16, .inl (cI, 96, .inl (nIf sg))), (k21, .inl (cI, 49, .inl (nIf p2))), (k22, .inl (cI, 49, .inl l2)), (k23, .inl (cI, 147, .inl (nIf t2))), (k24, .inl (cI, 48, .inl (nIf E1_27)))]
                have htn9 := ht_34
                refine v_if_ne 120 100 zC dX5_family_97 (fun z => absurd (by decide +kernel) z) (fun _ => ?_)
                refine v_al_n 101 zC dX5_family_100 1 rfl ?_
                refine v_al_n 102 zC dX5_family_101 1 rfl ?_
                refine v_gf 105 0 zC dX5_family_102 gf_X5_58 rfl rfl ?_
                refine v_ic (v := (nI 0)) 106 zC dX5_family_105 (by decide +kernel) ?_
                refine v_cV (As := [.ref k24, .int (nI 0)]) (st := []) 109 0 [0, 1, 2, 3, 4, 5, 6, 7, 12] zC dX5_family_106 hA (c_X5_carryAll__F (ev_l E) (ev_D E) cI (r0 := r0) (k1 := k1) (k2 := k2) (k3 := k3) (k4 := k4) (k6 := k6) (k7 := k7) (k8 := k8) (k10 := k10) (k12 := k12) (k13 := k13) (k14 := k14) (k15 := k15) (k16 := k16) (k21 := k21) (k22 := k22) (k23 := k23) (k24 := k24) (k25 := k25) (k30 := k30) (k31 := k31) (k33 := k33) (n := n3) (m := m3) (aw := 0) (ls := 0) (ap := a) (sq := c) (pl := 48) (tz := tz) (rs := rs) (bd := false) (pd := pd) (tk := true) (kv := (.ref k24 : Value)) (sd := sd) (ki := ki3) (op := op3) (fa := fa3) (K := K3) (G := G3) (T := T3) (sh := s3) (q := k24) (En := E1_27) (n1 := n) (m1 := m) (sh1 := sh) (aw1 := 0) (ki1 := ki) (op1 := op) (fa1 := fa) (K1 := K) (G1 := G) (T1 := T) (hw := hF) (hw1 := hw) (hE := hE9)) cf_X5_carryAll lk_X5_181 rfl rfl rfl rfl rfl (by decide +kernel) (Nat.le_of_ble_eq_true rfl) (fun rv_47 wv_48 hp_49 hm_50 => ?_)
                clear hm_50
                obtain ⟨rfl, rfl⟩ := hp_49
                show VV E 0 0 109 [(1, .int (nI i)), (0, .ref r0)] [] [(r0, .inr (5, [.int (nI n), .ref k1, .ref k2, .ref k3, .ref k4, .int (nI m), .ref k6, .ref k7, .ref k8, .int (nI 0), .ref k10, .int (nI 0), .ref k12, .ref k13, .ref k14, .ref k15, .ref k16, .int (nI 0), .int (nI a), .int (bz false), .int (nI c), .ref k21, .ref k22, .ref k23, .ref k24, .ref k25, .int (bz pd), .int (nI 48), .int (nI 0), .ref k24, .ref k30, .ref k31, .int (nI tz), .ref k33, .int (nI rs), .int sd])), (k1, .inl (cI, 7, .inl (nIf ki))), (k2, .inl (cI, 7, .inl (nIf op))), (k3, .inl (cI, 7, .inl (nIf (shF sh)))), (k4, .inl (cI, 7, .inl (nIf fa))), (k6, .inl (cI, 6, .inl (nIf K))), (k7, .inl (cI, 6, .inl (nIf G))), (k8, .inl (cI, 6, .inl (nIf T))), (k16, .inl (cI, 96, .inl (nIf sg))), (k21, .inl (cI, 49, .inl (nIf p2))), (k22, .inl (cI, 49, .inl l2)), (k23, .inl (cI, 147, .inl (nIf t2))), (k24, .inl (cI, 48, .inl (nIf E1_27)))]
                refine v_sp (v := (-2000)) 112 zC dX5_family_109 (by decide +kernel) ?_
                refine v_al_n 113 zC dX5_family_112 1 rfl ?_
                refine v_gf 116 0 zC dX5_family_113 gf_X5_49 rfl rfl ?_
                refine v_il_n 117 zC dX5_family_116 0 rfl ?_
                refine v_ialn (v := (nI (PLC sg i))) 118 9 zC dX5_family_117 rfl (by omega) (congrArg nI hg9.1) ?_
                refine v_isub (v := ((-2000) - (nI (PLC sg i)))) 119 zC dX5_family_118 rfl ?_
                refine v_iret zC zT dX5_family_119  ?_
                first | (have g9 := hbt; exact Or.inl ⟨_, _, _, _, _, hbt.1, hbt.2, rfl, rfl⟩) | (have g9 := htn9; exact Or.inr (Or.inl ⟨_, _, _, _, _, _, _, he9.1, by rw [← ht]; exact tell_b hg5 hf2 htn9, by omega, rfl, rfl⟩)) | (have hic : i = c := (by omega); subst hic; exact Or.inr (Or.inr ⟨_, _, _, _, _, _, _, _, _, _, _, _, _, _, _, he9.1, by rw [← ht]; exact tell_e (by have := he9.2.1; omega), hF, rfl, rfl⟩))
              ·
                show VV E 0 0 97 [(1, .int (nI i)), (0, .ref r0)] [.int (nI 1)] [(r0, .inr (5, [.int (nI n2_35), .ref k1, .ref k2, .ref k3, .ref k4, .int (nI m2_36), .ref k6, .ref k7, .ref k8, .int (nI 0), .ref k10, .int (nI 0), .ref k12, .ref k13, .ref k14, .ref k15, .ref k16, .int (nI 0), .int (nI a), .int (bz false), .int (nI c), .ref k21, .ref k22, .ref k23, .ref k24, .ref k25, .int (bz pd), .int (nI 48), .int (bz true), (.ref k24 : Value), .ref k30, .ref k31, .int (nI tz), .ref k33, .int (nI rs), .int sd])), (k1, .inl (cI, 7, .inl (nIf ki2_38))), (k2, .inl (cI, 7, .inl (nIf op2_39))), (k3, .inl (cI, 7, .inl (nIf (shF sh2_37)))), (k4, .inl (cI, 7, .inl (nIf fa2_40))), (k6, .inl (cI, 6, .inl (nIf K2_41))), (k7, .inl (cI, 6, .inl (nIf G2_42))), (k8, .inl (cI, 6, .inl (nIf T2_43))), (k16, .inl (cI, 96, .inl (nIf sg))), (k21, .inl (cI, 49, .inl (nIf p2))), (k22, .inl (cI, 49, .inl l2)), (k23, .inl (cI, 147, .inl (nIf t2))), (k24, .inl (cI, 48, .inl (nIf E1_27)))]
                have ht9s := ht_44
                have hw9 := hw2_45
                refine v_if_ne 120 100 zC dX5_family_97 (fun _ => ?_) (fun z => absurd z (by decide +kernel))
                refine v_inc (v := (nI (i + 1))) (lv2 := [(1, .int (nI (i + 1))), (0, .ref r0)]) 123 zC dX5_family_120 (j := 0) rfl (nI_add _ 1) (by rw [hnE]; decide) rfl ?_
                refine v_goto 84 zC dX5_family_123 ?_
                refine v_lvs (lv2 := [(1, .int (nI (i + 1))), (0, .ref r0)]) [0, 1] rfl ?_
                exact ih84 _ (by omega) n2_35 m2_36 sh2_37 ki2_38 op2_39 fa2_40 K2_41 G2_42 T2_43 (i + 1) (f2 - 1) hw9 (by rw [← ht]; exact (tell_s hg9.2.2.2.2 hf2 ht9s).symm) (by have := (nxt_gt hg9.2.2.2.1).1; show ls ≤ NXT sg (PLC sg i) + (f2 - 1); omega) (by omega) rfl
          refine v_lvs (lv2 := [(1, .int (nI 0)), (0, .ref r0)]) [0, 1] rfl ?_
          exact lp84 _ n m sh ki op fa K G T 0 ls hw rfl (Nat.le_add_left _ _) (Nat.zero_le _) rfl
        ·
          have hca : c = 0 ∨ a < ls := Or.inr h_21
          refine v_al_n 46 zC dX5_family_45 0 rfl ?_
          have hr9 := rst_f hS
          have hr3 := hr9.2.2.1
          have hr4 := hr9.2.2.2.1
          have hmu9 := hmu.resolve_left (fun z => by cases z)
          refine v_cV (As := []) (st := []) 49 0 [0, 8, 9, 10, 11] zC dX5_family_46 hA (c_X5_readStatement (ev_l E) (ev_D E) cI (r0 := r0) (k1 := k1) (k2 := k2) (k3 := k3) (k4 := k4) (k6 := k6) (k7 := k7) (k8 := k8) (k10 := k10) (k12 := k12) (k13 := k13) (k14 := k14) (k15 := k15) (k16 := k16) (k21 := k21) (k22 := k22) (k23 := k23) (k24 := k24) (k25 := k25) (k30 := k30) (k31 := k31) (k33 := k33) (n := n) (m := m) (aw := 0) (ls := ls) (ap := a) (sq := c) (pl := pl) (tz := tz) (rs := rs) (pd := pd) (tk := tk) (kv := kv) (sd := sd) (sg := sg) (pi := p2) (tl := t2) (lo := l2) (hl := (by first | omega | assumption | rfl | (simp only []; omega) | decide)) (hsg := (by first | omega | assumption | rfl | (simp only []; omega) | decide)) (ha := (by first | omega | assumption | rfl | (simp only []; omega) | decide)) (hsq := (by first | omega | assumption | rfl | (simp only []; omega) | decide))) cf_X5_readStatement lk_X5_178 rfl rfl rfl rfl rfl (by decide +kernel) (Nat.le_of_ble_eq_true rfl) (fun rv_52 wv_53 hp_54 hm_55 => ?_)
          clear hm_55
          rcases hp_54 with ⟨a2_56, t1_57, h1_58, h2_59, h3_60, h4_61, h5_62, rfl, rfl⟩ | ⟨b_63, p2_64, l2_65, t2_66, h1_67, h2_68, rfl, rfl⟩
          ·
            show VV E 0 0 49 [(0, .ref r0)] [] [(r0, .inr (5, [.int (nI n), .ref k1, .ref k2, .ref k3, .ref k4, .int (nI m), .ref k6, .ref k7, .ref k8, .int (nI 0), .ref k10, .int (nI 0), .ref k12, .ref k13, .ref k14, .ref k15, .ref k16, .int (nI ls), .int (nI a2_56), .int (bz false), .int (nI (c + 1)), .ref k21, .ref k22, .ref k23, .ref k24, .ref k25, .int (bz pd), .int (nI pl), .int (bz tk), kv, .ref k30, .ref k31, .int (nI tz), .ref k33, .int (nI rs), .int sd])), (k1, .inl (cI, 7, .inl (nIf ki))), (k2, .inl (cI, 7, .inl (nIf op))), (k3, .inl (cI, 7, .inl (nIf (shF sh)))), (k4, .inl (cI, 7, .inl (nIf fa))), (k6, .inl (cI, 6, .inl (nIf K))), (k7, .inl (cI, 6, .inl (nIf G))), (k8, .inl (cI, 6, .inl (nIf T))), (k16, .inl (cI, 96, .inl (nIf sg))), (k21, .inl (cI, 49, .inl (nIf (un p2 c a)))), (k22, .inl (cI, 49, .inl (upd l2 c (nI (sg a))))), (k23, .inl (cI, 147, .inl (nIf t1_57))), (k24, .inl (cI, 48, .inl (nIf kp)))]
            have hk1 := h1_58
            have hk2 := h2_59
            have hk3 := h3_60
            have hk4 := h4_61
            have hk5 := h5_62
            refine v_goto 20 zC dX5_family_49 ?_
            refine v_lvs (lv2 := [(0, .ref r0)]) [0] rfl ?_
            exact ih20 _ (by first | omega | (have := (nxt_gt hk1).1; omega)) false a2_56 (c + 1) (f - 1) (ls + 1 - a2_56) (un p2 c a) (upd l2 c (nI (sg a))) t1_57 (by first | exact rst_s hS hk1 hk2 hk3 hk4 hk5 | exact rst_b hS hca hj1 hj2) (by first | exact Or.inl rfl | exact Or.inr rfl) (by omega) (by first | exact hj2 | (have := (nxt_gt hk1).2; omega)) rfl
          ·
            show VV E 0 0 49 [(0, .ref r0)] [] [(r0, .inr (5, [.int (nI n), .ref k1, .ref k2, .ref k3, .ref k4, .int (nI m), .ref k6, .ref k7, .ref k8, .int (nI 0), .ref k10, .int (nI 0), .ref k12, .ref k13, .ref k14, .ref k15, .ref k16, .int (nI ls), .int (nI b_63), .int (bz true), .int (nI (c + 1)), .ref k21, .ref k22, .ref k23, .ref k24, .ref k25, .int (bz pd), .int (nI pl), .int (bz tk), kv, .ref k30, .ref k31, .int (nI tz), .ref k33, .int (nI rs), .int sd])), (k1, .inl (cI, 7, .inl (nIf ki))), (k2, .inl (cI, 7, .inl (nIf op))), (k3, .inl (cI, 7, .inl (nIf (shF sh)))), (k4, .inl (cI, 7, .inl (nIf fa))), (k6, .inl (cI, 6, .inl (nIf K))), (k7, .inl (cI, 6, .inl (nIf G))), (k8, .inl (cI, 6, .inl (nIf T))), (k16, .inl (cI, 96, .inl (nIf sg))), (k21, .inl (cI, 49, .inl (nIf p2_64))), (k22, .inl (cI, 49, .inl l2_65)), (k23, .inl (cI, 147, .inl (nIf t2_66))), (k24, .inl (cI, 48, .inl (nIf kp)))]
            have hj1 := h1_67
            have hj2 := h2_68
            refine v_goto 20 zC dX5_family_49 ?_
            refine v_lvs (lv2 := [(0, .ref r0)]) [0] rfl ?_
            exact ih20 _ (by first | omega | (have := (nxt_gt hk1).1; omega)) true b_63 (c + 1) 0 0 p2_64 l2_65 t2_66 (by first | exact rst_s hS hk1 hk2 hk3 hk4 hk5 | exact rst_b hS hca hj1 hj2) (by first | exact Or.inl rfl | exact Or.inr rfl) (by omega) (by first | exact hj2 | (have := (nxt_gt hk1).2; omega)) rfl
  refine v_lvs (lv2 := [(0, .ref r0)]) [0] rfl ?_
  exact lp20 _ false 0 0 ls (ls + 1) pi lo tl (Or.inl ⟨rfl, rfl, fun i hi => absurd hi (Nat.not_lt_zero i), Nat.zero_le _, Nat.le_refl _, by omega, rfl⟩) (Or.inr rfl) (by first | omega | assumption | rfl | (simp only []; omega) | decide) (by first | omega | assumption | rfl | (simp only []; omega) | decide) rfl
