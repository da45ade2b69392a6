/-- how many digits stand behind a first letter -/
def DB (x : Nat) : Option Nat := if x = 115 then some 1 else if x = 112 ∨ x = 107 then some 2 else if x = 100 then some 3 else if x = 111 ∨ x = 99 then some 5 else none
theorem db_o {x : Nat} (h : x < 99 ∨ 115 < x) : DB x = none := by
  unfold DB
  rw [if_neg (by omega), if_neg (by omega), if_neg (by omega), if_neg (by omega)]

set_option maxRecDepth 100000 in
set_option maxHeartbeats 4000000 in
theorem c_X3_digitsBehind (l : Launch) (D : va_G) (cI : ClassId) (s0 : Nat) (x : Nat) (hx : x < 2 ^ 31) : CT l yX3_digitsBehind cX3_digitsBehind 2 (some .int) { frames := 0, cells := 0, slots := 0, locals := 0 } D cI [.ref s0, .int (nI x)] [] (fun zr zw => ((DB x = none) ∧ zr = some (.int (-1)) ∧ zw = []) ∨ (∃ v : Nat, (DB x = some v) ∧ (v ≤ 5) ∧ zr = some (.int (nI v)) ∧ zw = [])) := by
  refine CT_of RX3 rfl (by decide +kernel) (Nat.le_of_ble_eq_true rfl) (fun E hnE zC zT => ?_)
  have hA : ∀ q, (ev_s E).heap.size ≤ q → ev_A E q := fun q h => by rw [zT.2]; exact Or.inr h
  show VV E 0 0 0 [(0, .ref s0), (1, .int (nI x))] [] []
  refine v_il_n 1 zC dX3_digitsBehind_0 1 rfl ?_
  by_cases hc9 : x < 99 ∨ 115 < x
  ·
    refine v_tsw (off := 91) 92 zC dX3_digitsBehind_1 (Or.inr ⟨by rw [nI_toInt (by omega)]; omega, rfl⟩) ?_
    refine v_ic (v := (-1)) 93 zC dX3_digitsBehind_92 (by decide +kernel) ?_
    refine v_iret zC zT dX3_digitsBehind_93  ?_
    first | exact Or.inl ⟨db_o hc9, rfl, rfl⟩ | exact Or.inl ⟨rfl, rfl, rfl⟩ | exact Or.inr ⟨1, rfl, by decide, rfl, rfl⟩ | exact Or.inr ⟨2, rfl, by decide, rfl, rfl⟩ | exact Or.inr ⟨3, rfl, by decide, rfl, rfl⟩ | exact Or.inr ⟨5, rfl, by decide, rfl, rfl⟩
  ·
    have hs9 : x = 99 ∨ x = 100 ∨ x = 101 ∨ x = 102 ∨ x = 103 ∨ x = 104 ∨ x = 105 ∨ x = 106 ∨ x = 107 ∨ x = 108 ∨ x = 109 ∨ x = 110 ∨ x = 111 ∨ x = 112 ∨ x = 113 ∨ x = 114 ∨ x = 115 := by omega
    rcases hs9 with hs9 | hs9 | hs9 | hs9 | hs9 | hs9 | hs9 | hs9 | hs9 | hs9 | hs9 | hs9 | hs9 | hs9 | hs9 | hs9 | hs9
    ·
      subst hs9
      refine v_tsw (off := 89) 90 zC dX3_digitsBehind_1 (Or.inl (by decide +kernel)) ?_
      refine v_ic (v := (nI 5)) 91 zC dX3_digitsBehind_90 (by decide +kernel) ?_
      refine v_iret zC zT dX3_digitsBehind_91  ?_
      first | exact Or.inl ⟨db_o hc9, rfl, rfl⟩ | exact Or.inl ⟨rfl, rfl, rfl⟩ | exact Or.inr ⟨1, rfl, by decide, rfl, rfl⟩ | exact Or.inr ⟨2, rfl, by decide, rfl, rfl⟩ | exact Or.inr ⟨3, rfl, by decide, rfl, rfl⟩ | exact Or.inr ⟨5, rfl, by decide, rfl, rfl⟩
    ·
      subst hs9
      refine v_tsw (off := 87) 88 zC dX3_digitsBehind_1 (Or.inl (by decide +kernel)) ?_
      refine v_ic (v := (nI 3)) 89 zC dX3_digitsBehind_88 (by decide +kernel) ?_
      refine v_iret zC zT dX3_digitsBehind_89  ?_
      first | exact Or.inl ⟨db_o hc9, rfl, rfl⟩ | exact Or.inl ⟨rfl, rfl, rfl⟩ | exact Or.inr ⟨1, rfl, by decide, rfl, rfl⟩ | exact Or.inr ⟨2, rfl, by decide, rfl, rfl⟩ | exact Or.inr ⟨3, rfl, by decide, rfl, rfl⟩ | exact Or.inr ⟨5, rfl, by decide, rfl, rfl⟩
    ·
      subst hs9
      refine v_tsw (off := 91) 92 zC dX3_digitsBehind_1 (Or.inl (by decide +kernel)) ?_
      refine v_ic (v := (-1)) 93 zC dX3_digitsBehind_92 (by decide +kernel) ?_
      refine v_iret zC zT dX3_digitsBehind_93  ?_
      first | exact Or.inl ⟨db_o hc9, rfl, rfl⟩ | exact Or.inl ⟨rfl, rfl, rfl⟩ | exact Or.inr ⟨1, rfl, by decide, rfl, rfl⟩ | exact Or.inr ⟨2, rfl, by decide, rfl, rfl⟩ | exact Or.inr ⟨3, rfl, by decide, rfl, rfl⟩ | exact Or.inr ⟨5, rfl, by decide, rfl, rfl⟩
    ·
      subst hs9
      refine v_tsw (off := 91) 92 zC dX3_digitsBehind_1 (Or.inl (by decide +kernel)) ?_
      refine v_ic (v := (-1)) 93 zC dX3_digitsBehind_92 (by decide +kernel) ?_
      refine v_iret zC zT dX3_digitsBehind_93  ?_
      first | exact Or.inl ⟨db_o hc9, rfl, rfl⟩ | exact Or.inl ⟨rfl, rfl, rfl⟩ | exact Or.inr ⟨1, rfl, by decide, rfl, rfl⟩ | exact Or.inr ⟨2, rfl, by decide, rfl, rfl⟩ | exact Or.inr ⟨3, rfl, by decide, rfl, rfl⟩ | exact Or.inr ⟨5, rfl, by decide, rfl, rfl⟩
    ·
      subst hs9
      refine v_tsw (off := 91) 92 zC dX3_digitsBehind_1 (Or.inl (by decide +kernel)) ?_
      refine v_ic (v := (-1)) 93 zC dX3_digitsBehind_92 (by decide +kernel) ?_
      refine v_iret zC zT dX3_digitsBehind_93  ?_
      first | exact Or.inl ⟨db_o hc9, rfl, rfl⟩ | exact Or.inl ⟨rfl, rfl, rfl⟩ | exact Or.inr ⟨1, rfl, by decide, rfl, rfl⟩ | exact Or.inr ⟨2, rfl, by decide, rfl, rfl⟩ | exact Or.inr ⟨3, rfl, by decide, rfl, rfl⟩ | exact Or.inr ⟨5, rfl, by decide, rfl, rfl⟩
    ·
      subst hs9
      refine v_tsw (off := 91) 92 zC dX3_digitsBehind_1 (Or.inl (by decide +kernel)) ?_
      refine v_ic (v := (-1)) 93 zC dX3_digitsBehind_92 (by decide +kernel) ?_
      refine v_iret zC zT dX3_digitsBehind_93  ?_
      first | exact Or.inl ⟨db_o hc9, rfl, rfl⟩ | exact Or.inl ⟨rfl, rfl, rfl⟩ | exact Or.inr ⟨1, rfl, by decide, rfl, rfl⟩ | exact Or.inr ⟨2, rfl, by decide, rfl, rfl⟩ | exact Or.inr ⟨3, rfl, by decide, rfl, rfl⟩ | exact Or.inr ⟨5, rfl, by decide, rfl, rfl⟩
    ·
      subst hs9
      refine v_tsw (off := 91) 92 zC dX3_digitsBehind_1 (Or.inl (by decide +kernel)) ?_
      refine v_ic (v := (-1)) 93 zC dX3_digitsBehind_92 (by decide +kernel) ?_
      refine v_iret zC zT dX3_digitsBehind_93  ?_
      first | exact Or.inl ⟨db_o hc9, rfl, rfl⟩ | exact Or.inl ⟨rfl, rfl, rfl⟩ | exact Or.inr ⟨1, rfl, by decide, rfl, rfl⟩ | exact Or.inr ⟨2, rfl, by decide, rfl, rfl⟩ | exact Or.inr ⟨3, rfl, by decide, rfl, rfl⟩ | exact Or.inr ⟨5, rfl, by decide, rfl, rfl⟩
    ·
      subst hs9
      refine v_tsw (off := 91) 92 zC dX3_digitsBehind_1 (Or.inl (by decide +kernel)) ?_
      refine v_ic (v := (-1)) 93 zC dX3_digitsBehind_92 (by decide +kernel) ?_
      refine v_iret zC zT dX3_digitsBehind_93  ?_
      first | exact Or.inl ⟨db_o hc9, rfl, rfl⟩ | exact Or.inl ⟨rfl, rfl, rfl⟩ | exact Or.inr ⟨1, rfl, by decide, rfl, rfl⟩ | exact Or.inr ⟨2, rfl, by decide, rfl, rfl⟩ | exact Or.inr ⟨3, rfl, by decide, rfl, rfl⟩ | exact Or.inr ⟨5, rfl, by decide, rfl, rfl⟩
    ·
      subst hs9
      refine v_tsw (off := 85) 86 zC dX3_digitsBehind_1 (Or.inl (by decide +kernel)) ?_
      refine v_ic (v := (nI 2)) 87 zC dX3_digitsBehind_86 (by decide +kernel) ?_
      refine v_iret zC zT dX3_digitsBehind_87  ?_
      first | exact Or.inl ⟨db_o hc9, rfl, rfl⟩ | exact Or.inl ⟨rfl, rfl, rfl⟩ | exact Or.inr ⟨1, rfl, by decide, rfl, rfl⟩ | exact Or.inr ⟨2, rfl, by decide, rfl, rfl⟩ | exact Or.inr ⟨3, rfl, by decide, rfl, rfl⟩ | exact Or.inr ⟨5, rfl, by decide, rfl, rfl⟩
    ·
      subst hs9
      refine v_tsw (off := 91) 92 zC dX3_digitsBehind_1 (Or.inl (by decide +kernel)) ?_
      refine v_ic (v := (-1)) 93 zC dX3_digitsBehind_92 (by decide +kernel) ?_
      refine v_iret zC zT dX3_digitsBehind_93  ?_
      first | exact Or.inl ⟨db_o hc9, rfl, rfl⟩ | exact Or.inl ⟨rfl, rfl, rfl⟩ | exact Or.inr ⟨1, rfl, by decide, rfl, rfl⟩ | exact Or.inr ⟨2, rfl, by decide, rfl, rfl⟩ | exact Or.inr ⟨3, rfl, by decide, rfl, rfl⟩ | exact Or.inr ⟨5, rfl, by decide, rfl, rfl⟩
    ·
      subst hs9
      refine v_tsw (off := 91) 92 zC dX3_digitsBehind_1 (Or.inl (by decide +kernel)) ?_
      refine v_ic (v := (-1)) 93 zC dX3_digitsBehind_92 (by decide +kernel) ?_
      refine v_iret zC zT dX3_digitsBehind_93  ?_
      first | exact Or.inl ⟨db_o hc9, rfl, rfl⟩ | exact Or.inl ⟨rfl, rfl, rfl⟩ | exact Or.inr ⟨1, rfl, by decide, rfl, rfl⟩ | exact Or.inr ⟨2, rfl, by decide, rfl, rfl⟩ | exact Or.inr ⟨3, rfl, by decide, rfl, rfl⟩ | exact Or.inr ⟨5, rfl, by decide, rfl, rfl⟩
    ·
      subst hs9
      refine v_tsw (off := 91) 92 zC dX3_digitsBehind_1 (Or.inl (by decide +kernel)) ?_
      refine v_ic (v := (-1)) 93 zC dX3_digitsBehind_92 (by decide +kernel) ?_
      refine v_iret zC zT dX3_digitsBehind_93  ?_
      first | exact Or.inl ⟨db_o hc9, rfl, rfl⟩ | exact Or.inl ⟨rfl, rfl, rfl⟩ | exact Or.inr ⟨1, rfl, by decide, rfl, rfl⟩ | exact Or.inr ⟨2, rfl, by decide, rfl, rfl⟩ | exact Or.inr ⟨3, rfl, by decide, rfl, rfl⟩ | exact Or.inr ⟨5, rfl, by decide, rfl, rfl⟩
    ·
      subst hs9
      refine v_tsw (off := 89) 90 zC dX3_digitsBehind_1 (Or.inl (by decide +kernel)) ?_
      refine v_ic (v := (nI 5)) 91 zC dX3_digitsBehind_90 (by decide +kernel) ?_
      refine v_iret zC zT dX3_digitsBehind_91  ?_
      first | exact Or.inl ⟨db_o hc9, rfl, rfl⟩ | exact Or.inl ⟨rfl, rfl, rfl⟩ | exact Or.inr ⟨1, rfl, by decide, rfl, rfl⟩ | exact Or.inr ⟨2, rfl, by decide, rfl, rfl⟩ | exact Or.inr ⟨3, rfl, by decide, rfl, rfl⟩ | exact Or.inr ⟨5, rfl, by decide, rfl, rfl⟩
    ·
      subst hs9
      refine v_tsw (off := 85) 86 zC dX3_digitsBehind_1 (Or.inl (by decide +kernel)) ?_
      refine v_ic (v := (nI 2)) 87 zC dX3_digitsBehind_86 (by decide +kernel) ?_
      refine v_iret zC zT dX3_digitsBehind_87  ?_
      first | exact Or.inl ⟨db_o hc9, rfl, rfl⟩ | exact Or.inl ⟨rfl, rfl, rfl⟩ | exact Or.inr ⟨1, rfl, by decide, rfl, rfl⟩ | exact Or.inr ⟨2, rfl, by decide, rfl, rfl⟩ | exact Or.inr ⟨3, rfl, by decide, rfl, rfl⟩ | exact Or.inr ⟨5, rfl, by decide, rfl, rfl⟩
    ·
      subst hs9
      refine v_tsw (off := 91) 92 zC dX3_digitsBehind_1 (Or.inl (by decide +kernel)) ?_
      refine v_ic (v := (-1)) 93 zC dX3_digitsBehind_92 (by decide +kernel) ?_
      refine v_iret zC zT dX3_digitsBehind_93  ?_
      first | exact Or.inl ⟨db_o hc9, rfl, rfl⟩ | exact Or.inl ⟨rfl, rfl, rfl⟩ | exact Or.inr ⟨1, rfl, by decide, rfl, rfl⟩ | exact Or.inr ⟨2, rfl, by decide, rfl, rfl⟩ | exact Or.inr ⟨3, rfl, by decide, rfl, rfl⟩ | exact Or.inr ⟨5, rfl, by decide, rfl, rfl⟩
    ·
      subst hs9
      refine v_tsw (off := 91) 92 zC dX3_digitsBehind_1 (Or.inl (by decide +kernel)) ?_
      refine v_ic (v := (-1)) 93 zC dX3_digitsBehind_92 (by decide +kernel) ?_
      refine v_iret zC zT dX3_digitsBehind_93  ?_
      first | exact Or.inl ⟨db_o hc9, rfl, rfl⟩ | exact Or.inl ⟨rfl, rfl, rfl⟩ | exact Or.inr ⟨1, rfl, by decide, rfl, rfl⟩ | exact Or.inr ⟨2, rfl, by decide, rfl, rfl⟩ | exact Or.inr ⟨3, rfl, by decide, rfl, rfl⟩ | exact Or.inr ⟨5, rfl, by decide, rfl, rfl⟩
    ·
      subst hs9
      refine v_tsw (off := 83) 84 zC dX3_digitsBehind_1 (Or.inl (by decide +kernel)) ?_
      refine v_ic (v := (nI 1)) 85 zC dX3_digitsBehind_84 (by decide +kernel) ?_
      refine v_iret zC zT dX3_digitsBehind_85  ?_
      first | exact Or.inl ⟨db_o hc9, rfl, rfl⟩ | exact Or.inl ⟨rfl, rfl, rfl⟩ | exact Or.inr ⟨1, rfl, by decide, rfl, rfl⟩ | exact Or.inr ⟨2, rfl, by decide, rfl, rfl⟩ | exact Or.inr ⟨3, rfl, by decide, rfl, rfl⟩ | exact Or.inr ⟨5, rfl, by decide, rfl, rfl⟩
set_option maxRecDepth 100000 in
set_option maxHeartbeats 4000000 in
theorem c_X3_behind (l : Launch) (D : va_G) (cI : ClassId) (s0 s1 ls : Nat) (sg : Nat → Nat) (i v : Nat) (hl : ls ≤ 96) (hi : i < ls) (hsg : ∀ z, sg z < 256) (hd : DB (sg i) = some v) : CT l yX3_behind cX3_behind 2 (some .int) { frames := 1, cells := 0, slots := 0, locals := 21 } D cI [.ref s0, .int (nI i)] [(s0, .inr (3, [.int (nI ls), .ref s1])), (s1, .inl (cI, 96, .inl (nIf sg)))] (fun zr zw => (zr = some (.int (nI (i + v + 2))) ∧ zw = [(s0, .inr (3, [.int (nI ls), .ref s1])), (s1, .inl (cI, 96, .inl (nIf sg)))])) := by
  refine CT_of RX3 rfl (by decide +kernel) (Nat.le_of_ble_eq_true rfl) (fun E hnE zC zT => ?_)
  have hA : ∀ q, (ev_s E).heap.size ≤ q → ev_A E q := fun q h => by rw [zT.2]; exact Or.inr h
  have hgi := hsg i
  show VV E 0 0 0 [(0, .ref s0), (1, .int (nI i))] [] [(s0, .inr (3, [.int (nI ls), .ref s1])), (s1, .inl (cI, 96, .inl (nIf sg)))]
  refine v_il_n 1 zC dX3_behind_0 1 rfl ?_
  refine v_al_n 2 zC dX3_behind_1 0 rfl ?_
  refine v_al_n 3 zC dX3_behind_2 0 rfl ?_
  refine v_il_n 4 zC dX3_behind_3 1 rfl ?_
  refine v_cV (As := [.int (nI i)]) (st := [.ref s0, .int (nI i)]) 7 0 [0, 1] zC dX3_behind_4 hA (c_X3_sign (ev_l E) (ev_D E) cI (s0 := s0) (s1 := s1) (ls := ls) (sg := sg) (i := i) (hl := (by first | omega | assumption | rfl | (simp only []; omega) | decide)) (hi := (by first | omega | assumption | rfl | (simp only []; omega) | decide))) cf_X3_sign lk_X3_19 rfl rfl rfl rfl rfl (by decide +kernel) (Nat.le_of_ble_eq_true rfl) (fun rv_1 wv_2 hp_3 hm_4 => ?_)
  clear hm_4
  rcases hp_3 with ⟨hq_5, rfl, rfl⟩ | ⟨hq_6, rfl, rfl⟩
  ·
    show VV E 0 0 7 [(0, .ref s0), (1, .int (nI i))] [.int (-1), .ref s0, .int (nI i)] [(s0, .inr (3, [.int (nI ls), .ref s1])), (s1, .inl (cI, 96, .inl (nIf sg)))]
    exfalso; omega
  ·
    show VV E 0 0 7 [(0, .ref s0), (1, .int (nI i))] [.int (nI (sg i)), .ref s0, .int (nI i)] [(s0, .inr (3, [.int (nI ls), .ref s1])), (s1, .inl (cI, 96, .inl (nIf sg)))]
    refine v_cV (As := [.int (nI (sg i))]) (st := [.int (nI i)]) 10 0 [] zC dX3_behind_7 hA (c_X3_digitsBehind (ev_l E) (ev_D E) cI (s0 := s0) (x := (sg i)) (hx := (by first | omega | assumption | rfl | (simp only []; omega) | decide))) cf_X3_digitsBehind lk_X3_23 rfl rfl rfl rfl rfl (by decide +kernel) (Nat.le_of_ble_eq_true rfl) (fun rv_7 wv_8 hp_9 hm_10 => ?_)
    clear hm_10
    rcases hp_9 with ⟨hq_11, rfl, rfl⟩ | ⟨v_12, hq_13, hv_14, rfl, rfl⟩
    ·
      show VV E 0 0 10 [(0, .ref s0), (1, .int (nI i))] [.int (-1), .int (nI i)] [(s0, .inr (3, [.int (nI ls), .ref s1])), (s1, .inl (cI, 96, .inl (nIf sg)))]
      exfalso; rw [hd] at hq_11; cases hq_11
    ·
      show VV E 0 0 10 [(0, .ref s0), (1, .int (nI i))] [.int (nI v_12), .int (nI i)] [(s0, .inr (3, [.int (nI ls), .ref s1])), (s1, .inl (cI, 96, .inl (nIf sg)))]
      have he9 := Option.some.inj (hd.symm.trans hq_13)
      have hv9 := hv_14
      refine v_iadd (v := (nI (i + v_12))) 11 zC dX3_behind_10 (nI_add _ _) ?_
      refine v_ic (v := (nI 2)) 12 zC dX3_behind_11 (by decide +kernel) ?_
      refine v_iadd (v := (nI ((i + v_12) + 2))) 13 zC dX3_behind_12 (nI_add _ _) ?_
      refine v_iret zC zT dX3_behind_13  ?_
      exact ⟨sn (by omega), rfl⟩
