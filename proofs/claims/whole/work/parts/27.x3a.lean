def DIG (ls : Nat) (sg : Nat → Nat) (i : Nat) : Bool := decide (i < ls ∧ 48 ≤ sg i ∧ sg i ≤ 57)

set_option maxRecDepth 100000 in
set_option maxHeartbeats 4000000 in
theorem c_X3_sign (l : Launch) (D : va_G) (cI : ClassId) (s0 s1 ls : Nat) (sg : Nat → Nat) (i : Nat) (hl : ls ≤ 96) (hi : i < 2 ^ 31) : CT l yX3_sign cX3_sign 2 (some .int) { frames := 0, cells := 0, slots := 0, locals := 0 } D cI [.ref s0, .int (nI i)] [(s0, .inr (3, [.int (nI ls), .ref s1])), (s1, .inl (cI, 96, .inl (nIf sg)))] (fun zr zw => ((ls ≤ i) ∧ zr = some (.int (-1)) ∧ zw = [(s0, .inr (3, [.int (nI ls), .ref s1])), (s1, .inl (cI, 96, .inl (nIf sg)))]) ∨ ((i < ls) ∧ zr = some (.int (nI (sg i))) ∧ zw = [(s0, .inr (3, [.int (nI ls), .ref s1])), (s1, .inl (cI, 96, .inl (nIf sg)))])) := by
  refine CT_of RX3 rfl (by decide +kernel) (Nat.le_of_ble_eq_true rfl) (fun E hnE zC zT => ?_)
  have hA : ∀ q, (ev_s E).heap.size ≤ q → ev_A E q := fun q h => by rw [zT.2]; exact Or.inr h
  show VV E 0 0 0 [(0, .ref s0), (1, .int (nI i))] [] [(s0, .inr (3, [.int (nI ls), .ref s1])), (s1, .inl (cI, 96, .inl (nIf sg)))]
  refine v_il_n 1 zC dX3_sign_0 1 rfl ?_
  refine v_ifn_lt 21 4 zC dX3_sign_1 (fun z => absurd z (Nat.not_lt_zero _)) (fun _ => ?_)
  refine v_il_n 5 zC dX3_sign_4 1 rfl ?_
  refine v_al_n 6 zC dX3_sign_5 0 rfl ?_
  refine v_gf 9 0 zC dX3_sign_6 gf_X3_15 rfl rfl ?_
  refine v_icmpn_ge 21 12 zC dX3_sign_9 (fun h_2 => ?_) (fun h_2 => ?_)
  ·
    refine v_ic (v := (-1)) 22 zC dX3_sign_21 (by decide +kernel) ?_
    refine v_iret zC zT dX3_sign_22  ?_
    first | exact Or.inl ⟨by omega, rfl, rfl⟩ | exact Or.inr ⟨by omega, rfl, rfl⟩
  ·
    refine v_al_n 13 zC dX3_sign_12 0 rfl ?_
    refine v_gf 16 0 zC dX3_sign_13 gf_X3_9 rfl rfl ?_
    refine v_il_n 17 zC dX3_sign_16 1 rfl ?_
    refine v_ialn (v := (nI (sg i))) 18 1 zC dX3_sign_17 rfl (by omega) rfl ?_
    refine v_goto 22 zC dX3_sign_18 ?_
    refine v_iret zC zT dX3_sign_22  ?_
    first | exact Or.inl ⟨by omega, rfl, rfl⟩ | exact Or.inr ⟨by omega, rfl, rfl⟩
set_option maxRecDepth 100000 in
set_option maxHeartbeats 4000000 in
theorem c_X3_isDigit (l : Launch) (D : va_G) (cI : ClassId) (s0 s1 ls : Nat) (sg : Nat → Nat) (i : Nat) (hl : ls ≤ 96) (hi : i < 2 ^ 31) (hsg : ∀ z, sg z < 256) : CT l yX3_isDigit cX3_isDigit 2 (some .boolean) { frames := 1, cells := 0, slots := 0, locals := 21 } D cI [.ref s0, .int (nI i)] [(s0, .inr (3, [.int (nI ls), .ref s1])), (s1, .inl (cI, 96, .inl (nIf sg)))] (fun zr zw => (zr = some (.int (bz (DIG ls sg i))) ∧ zw = [(s0, .inr (3, [.int (nI ls), .ref s1])), (s1, .inl (cI, 96, .inl (nIf sg)))])) := by
  refine CT_of RX3 rfl (by decide +kernel) (Nat.le_of_ble_eq_true rfl) (fun E hnE zC zT => ?_)
  have hA : ∀ q, (ev_s E).heap.size ≤ q → ev_A E q := fun q h => by rw [zT.2]; exact Or.inr h
  have hgi := hsg i
  show VV E 0 0 0 [(0, .ref s0), (1, .int (nI i))] [] [(s0, .inr (3, [.int (nI ls), .ref s1])), (s1, .inl (cI, 96, .inl (nIf sg)))]
  refine v_al_n 1 zC dX3_isDigit_0 0 rfl ?_
  refine v_il_n 2 zC dX3_isDigit_1 1 rfl ?_
  refine v_cV (As := [.int (nI i)]) (st := []) 5 0 [0, 1] zC dX3_isDigit_2 hA (c_X3_sign (ev_l E) (ev_D E) cI (s0 := s0) (s1 := s1) (ls := ls) (sg := sg) (i := i) (hl := (by first | omega | assumption | rfl | (simp only []; omega) | decide)) (hi := (by first | omega | assumption | rfl | (simp only []; omega) | decide))) cf_X3_sign lk_X3_19 rfl rfl rfl rfl rfl (by decide +kernel) (Nat.le_of_ble_eq_true rfl) (fun rv_1 wv_2 hp_3 hm_4 => ?_)
  clear hm_4
  rcases hp_3 with ⟨hq_5, rfl, rfl⟩ | ⟨hq_6, rfl, rfl⟩
  ·
    show VV E 0 0 5 [(0, .ref s0), (1, .int (nI i))] [.int (-1)] [(s0, .inr (3, [.int (nI ls), .ref s1])), (s1, .inl (cI, 96, .inl (nIf sg)))]
    refine v_bp (v := (nI 48)) 7 zC dX3_isDigit_5 (by decide +kernel) ?_
    refine v_icmp_lt 24 10 zC dX3_isDigit_7 (fun _ => ?_) (fun z => absurd (by decide +kernel) z)
    refine v_ic (v := (nI 0)) 25 zC dX3_isDigit_24 (by decide +kernel) ?_
    refine v_zret zC zT dX3_isDigit_25 (by decide +kernel) ?_
    first | exact ⟨sb1 (decide_eq_true ⟨by omega, by omega, by omega⟩), rfl⟩ | exact ⟨sb0 (decide_eq_false (fun z => by omega)), rfl⟩
  ·
    show VV E 0 0 5 [(0, .ref s0), (1, .int (nI i))] [.int (nI (sg i))] [(s0, .inr (3, [.int (nI ls), .ref s1])), (s1, .inl (cI, 96, .inl (nIf sg)))]
    refine v_bp (v := (nI 48)) 7 zC dX3_isDigit_5 (by decide +kernel) ?_
    refine v_icmpn_lt 24 10 zC dX3_isDigit_7 (fun h_8 => ?_) (fun h_8 => ?_)
    ·
      refine v_ic (v := (nI 0)) 25 zC dX3_isDigit_24 (by decide +kernel) ?_
      refine v_zret zC zT dX3_isDigit_25 (by decide +kernel) ?_
      first | exact ⟨sb1 (decide_eq_true ⟨by omega, by omega, by omega⟩), rfl⟩ | exact ⟨sb0 (decide_eq_false (fun z => by omega)), rfl⟩
    ·
      refine v_al_n 11 zC dX3_isDigit_10 0 rfl ?_
      refine v_il_n 12 zC dX3_isDigit_11 1 rfl ?_
      refine v_cV (As := [.int (nI i)]) (st := []) 15 0 [0, 1] zC dX3_isDigit_12 hA (c_X3_sign (ev_l E) (ev_D E) cI (s0 := s0) (s1 := s1) (ls := ls) (sg := sg) (i := i) (hl := (by first | omega | assumption | rfl | (simp only []; omega) | decide)) (hi := (by first | omega | assumption | rfl | (simp only []; omega) | decide))) cf_X3_sign lk_X3_19 rfl rfl rfl rfl rfl (by decide +kernel) (Nat.le_of_ble_eq_true rfl) (fun rv_9 wv_10 hp_11 hm_12 => ?_)
      clear hm_12
      rcases hp_11 with ⟨hq_13, rfl, rfl⟩ | ⟨hq_14, rfl, rfl⟩
      ·
        show VV E 0 0 15 [(0, .ref s0), (1, .int (nI i))] [.int (-1)] [(s0, .inr (3, [.int (nI ls), .ref s1])), (s1, .inl (cI, 96, .inl (nIf sg)))]
        exfalso; omega
      ·
        show VV E 0 0 15 [(0, .ref s0), (1, .int (nI i))] [.int (nI (sg i))] [(s0, .inr (3, [.int (nI ls), .ref s1])), (s1, .inl (cI, 96, .inl (nIf sg)))]
        refine v_bp (v := (nI 57)) 17 zC dX3_isDigit_15 (by decide +kernel) ?_
        refine v_icmpn_gt 24 20 zC dX3_isDigit_17 (fun h_15 => ?_) (fun h_15 => ?_)
        ·
          refine v_ic (v := (nI 0)) 25 zC dX3_isDigit_24 (by decide +kernel) ?_
          refine v_zret zC zT dX3_isDigit_25 (by decide +kernel) ?_
          first | exact ⟨sb1 (decide_eq_true ⟨by omega, by omega, by omega⟩), rfl⟩ | exact ⟨sb0 (decide_eq_false (fun z => by omega)), rfl⟩
        ·
          refine v_ic (v := (nI 1)) 21 zC dX3_isDigit_20 (by decide +kernel) ?_
          refine v_goto 25 zC dX3_isDigit_21 ?_
          refine v_zret zC zT dX3_isDigit_25 (by decide +kernel) ?_
          first | exact ⟨sb1 (decide_eq_true ⟨by omega, by omega, by omega⟩), rfl⟩ | exact ⟨sb0 (decide_eq_false (fun z => by omega)), rfl⟩
set_option maxRecDepth 100000 in
set_option maxHeartbeats 4000000 in
theorem c_X3_digit (l : Launch) (D : va_G) (cI : ClassId) (s0 s1 ls : Nat) (sg : Nat → Nat) (i : Nat) (hl : ls ≤ 96) (hi : i < ls) (hsg : ∀ z, sg z < 256) (h48 : 48 ≤ sg i) : CT l yX3_digit cX3_digit 2 (some .int) { frames := 1, cells := 0, slots := 0, locals := 21 } D cI [.ref s0, .int (nI i)] [(s0, .inr (3, [.int (nI ls), .ref s1])), (s1, .inl (cI, 96, .inl (nIf sg)))] (fun zr zw => (zr = some (.int (nI (sg i - 48))) ∧ zw = [(s0, .inr (3, [.int (nI ls), .ref s1])), (s1, .inl (cI, 96, .inl (nIf sg)))])) := by
  refine CT_of RX3 rfl (by decide +kernel) (Nat.le_of_ble_eq_true rfl) (fun E hnE zC zT => ?_)
  have hA : ∀ q, (ev_s E).heap.size ≤ q → ev_A E q := fun q h => by rw [zT.2]; exact Or.inr h
  have hgi := hsg i
  show VV E 0 0 0 [(0, .ref s0), (1, .int (nI i))] [] [(s0, .inr (3, [.int (nI ls), .ref s1])), (s1, .inl (cI, 96, .inl (nIf sg)))]
  refine v_al_n 1 zC dX3_digit_0 0 rfl ?_
  refine v_il_n 2 zC dX3_digit_1 1 rfl ?_
  refine v_cV (As := [.int (nI i)]) (st := []) 5 0 [0, 1] zC dX3_digit_2 hA (c_X3_sign (ev_l E) (ev_D E) cI (s0 := s0) (s1 := s1) (ls := ls) (sg := sg) (i := i) (hl := (by first | omega | assumption | rfl | (simp only []; omega) | decide)) (hi := (by first | omega | assumption | rfl | (simp only []; omega) | decide))) cf_X3_sign lk_X3_19 rfl rfl rfl rfl rfl (by decide +kernel) (Nat.le_of_ble_eq_true rfl) (fun rv_1 wv_2 hp_3 hm_4 => ?_)
  clear hm_4
  rcases hp_3 with ⟨hq_5, rfl, rfl⟩ | ⟨hq_6, rfl, rfl⟩
  ·
    show VV E 0 0 5 [(0, .ref s0), (1, .int (nI i))] [.int (-1)] [(s0, .inr (3, [.int (nI ls), .ref s1])), (s1, .inl (cI, 96, .inl (nIf sg)))]
    exfalso; omega
  ·
    show VV E 0 0 5 [(0, .ref s0), (1, .int (nI i))] [.int (nI (sg i))] [(s0, .inr (3, [.int (nI ls), .ref s1])), (s1, .inl (cI, 96, .inl (nIf sg)))]
    refine v_bp (v := (nI 48)) 7 zC dX3_digit_5 (by decide +kernel) ?_
    refine v_isub (v := (nI ((sg i) - 48))) 8 zC dX3_digit_7 (pk_sub (by first | omega | exact Nat.one_le_two_pow)) ?_
    refine v_iret zC zT dX3_digit_8  ?_
    first | exact ⟨rfl, rfl⟩ | exact ⟨sb1 (by assumption), rfl⟩ | exact ⟨sb0 (by assumption), rfl⟩ | (exfalso; omega) | exact ⟨sb1 (by simp [*]), rfl⟩ | exact ⟨sb0 (by simp [*]), rfl⟩
set_option maxRecDepth 100000 in
set_option maxHeartbeats 4000000 in
theorem c_X3_pair (l : Launch) (D : va_G) (cI : ClassId) (s0 s1 ls : Nat) (sg : Nat → Nat) (i : Nat) (hl : ls ≤ 96) (hi : i + 1 < ls) (hsg : ∀ z, sg z < 256) (h48 : 48 ≤ sg i) (h49 : 48 ≤ sg (i + 1)) : CT l yX3_pair cX3_pair 2 (some .int) { frames := 2, cells := 0, slots := 0, locals := 42 } D cI [.ref s0, .int (nI i)] [(s0, .inr (3, [.int (nI ls), .ref s1])), (s1, .inl (cI, 96, .inl (nIf sg)))] (fun zr zw => (zr = some (.int (nI (10 * (sg i - 48) + (sg (i + 1) - 48)))) ∧ zw = [(s0, .inr (3, [.int (nI ls), .ref s1])), (s1, .inl (cI, 96, .inl (nIf sg)))])) := by
  refine CT_of RX3 rfl (by decide +kernel) (Nat.le_of_ble_eq_true rfl) (fun E hnE zC zT => ?_)
  have hA : ∀ q, (ev_s E).heap.size ≤ q → ev_A E q := fun q h => by rw [zT.2]; exact Or.inr h
  have hgi := hsg i
  have hgj := hsg (i + 1)
  show VV E 0 0 0 [(0, .ref s0), (1, .int (nI i))] [] [(s0, .inr (3, [.int (nI ls), .ref s1])), (s1, .inl (cI, 96, .inl (nIf sg)))]
  refine v_bp (v := (nI 10)) 2 zC dX3_pair_0 (by decide +kernel) ?_
  refine v_al_n 3 zC dX3_pair_2 0 rfl ?_
  refine v_il_n 4 zC dX3_pair_3 1 rfl ?_
  refine v_cV (As := [.int (nI i)]) (st := [.int (nI 10)]) 7 0 [0, 1] zC dX3_pair_4 hA (c_X3_digit (ev_l E) (ev_D E) cI (s0 := s0) (s1 := s1) (ls := ls) (sg := sg) (i := i) (hl := (by first | omega | assumption | rfl | (simp only []; omega) | decide)) (hi := (by first | omega | assumption | rfl | (simp only []; omega) | decide)) (hsg := (by first | omega | assumption | rfl | (simp only []; omega) | decide)) (h48 := (by first | omega | assumption | rfl | (simp only []; omega) | decide))) cf_X3_digit lk_X3_30 rfl rfl rfl rfl rfl (by decide +kernel) (Nat.le_of_ble_eq_true rfl) (fun rv_1 wv_2 hp_3 hm_4 => ?_)
  clear hm_4
  obtain ⟨rfl, rfl⟩ := hp_3
  show VV E 0 0 7 [(0, .ref s0), (1, .int (nI i))] [.int (nI (sg i - 48)), .int (nI 10)] [(s0, .inr (3, [.int (nI ls), .ref s1])), (s1, .inl (cI, 96, .inl (nIf sg)))]
  refine v_imul (v := (nI (10 * (sg i - 48)))) 8 zC dX3_pair_7 (pk_mul _ _) ?_
  refine v_al_n 9 zC dX3_pair_8 0 rfl ?_
  refine v_il_n 10 zC dX3_pair_9 1 rfl ?_
  refine v_ic (v := (nI 1)) 11 zC dX3_pair_10 (by decide +kernel) ?_
  refine v_iadd (v := (nI (i + 1))) 12 zC dX3_pair_11 (nI_add _ _) ?_
  refine v_cV (As := [.int (nI (i + 1))]) (st := [.int (nI (10 * (sg i - 48)))]) 15 0 [0, 1] zC dX3_pair_12 hA (c_X3_digit (ev_l E) (ev_D E) cI (s0 := s0) (s1 := s1) (ls := ls) (sg := sg) (i := (i + 1)) (hl := (by first | omega | assumption | rfl | (simp only []; omega) | decide)) (hi := (by first | omega | assumption | rfl | (simp only []; omega) | decide)) (hsg := (by first | omega | assumption | rfl | (simp only []; omega) | decide)) (h48 := (by first | omega | assumption | rfl | (simp only []; omega) | decide))) cf_X3_digit lk_X3_30 rfl rfl rfl rfl rfl (by decide +kernel) (Nat.le_of_ble_eq_true rfl) (fun rv_5 wv_6 hp_7 hm_8 => ?_)
  clear hm_8
  obtain ⟨rfl, rfl⟩ := hp_7
  show VV E 0 0 15 [(0, .ref s0), (1, .int (nI i))] [.int (nI (sg (i + 1) - 48)), .int (nI (10 * (sg i - 48)))] [(s0, .inr (3, [.int (nI ls), .ref s1])), (s1, .inl (cI, 96, .inl (nIf sg)))]
  refine v_iadd (v := (nI ((10 * (sg i - 48)) + (sg (i + 1) - 48)))) 16 zC dX3_pair_15 (nI_add _ _) ?_
  refine v_iret zC zT dX3_pair_16  ?_
  first | exact ⟨rfl, rfl⟩ | exact ⟨sb1 (by assumption), rfl⟩ | exact ⟨sb0 (by assumption), rfl⟩ | (exfalso; omega) | exact ⟨sb1 (by simp [*]), rfl⟩ | exact ⟨sb0 (by simp [*]), rfl⟩
