def csz (c : Nat) : Nat := if c < 8 then c + 1 else 8
def shp (f : Nat → Nat) (c v : Nat) : Nat → Nat := if c < 8 then un f c v else un (va_cpy f f 1 0 7) 7 v
def q_count (n m sh ls rs cs : Nat) (op fa R : Nat → Nat) (w : Int32) : Int32 := match IX 8 w with
  | some k => nI (if k = 0 then n else if k = 1 then m else if k = 2 then pcn sh else if k = 3 then sm (fun p => pcn (op p)) n else if k = 4 then sm (fun p => pcn (fa p)) n else if k = 5 then ls else if k = 6 then rs else cs)
  | none => match IX 17 w with
    | none => -9
    | some k => if 11 ≤ k then nI (R (k - 10)) else -9
theorem sw_out {w : Int32} {N : Nat} (hN : N < 2 ^ 30) (h : w < 0 ∨ nI (N + 1) ≤ w) : w.toInt < ((0 : Nat) : Int) ∨ ((N : Nat) : Int) < w.toInt := by
  rcases h with h | h
  · left
    have h2 := Int32.lt_iff_toInt_lt.mp h
    simpa using h2
  · right
    have h2 := Int32.le_iff_toInt_le.mp h
    rw [nI_toInt (by omega)] at h2
    omega
theorem ofR2 {p : Int32} {A N : Nat} (h1 : ¬ p < nI A) (h2 : ¬ nI N < p) (hA : A < 2 ^ 30) (hN : N < 2 ^ 30) : ∃ k : Nat, A ≤ k ∧ k ≤ N ∧ p = nI k := by
  have h0 : ¬ p < 0 := fun h => h1 (by
    rw [Int32.lt_iff_toInt_lt] at h ⊢
    rw [nI_toInt (by omega)]
    have e : (0 : Int32).toInt = 0 := rfl
    rw [e] at h
    omega)
  obtain ⟨k, hk, e⟩ := ofR h0 h2 hN
  refine ⟨k, ?_, hk, e⟩
  rw [e, nI_ltI (by omega) (by omega)] at h1
  omega
theorem IX_hi {N : Nat} {w : Int32} (h : nI N < w) (hN : N < 2 ^ 30) : IX (N + 1) w = none := by
  refine IX_n (Or.inr ?_)
  rw [Int32.le_iff_toInt_le]
  rw [Int32.lt_iff_toInt_lt] at h
  rw [nI_toInt (by omega)] at h ⊢
  omega
theorem IX_lo {N A : Nat} {w : Int32} {k : Nat} (h : IX N w = some k) (hw : w < nI A) (hN : N < 2 ^ 30) (hA : A < 2 ^ 30) : k < A := by
  unfold IX at h
  by_cases c : w < 0 ∨ nI N ≤ w
  · rw [if_pos c] at h
    cases h
  · rw [if_neg c] at h
    have e := Option.some.inj h
    obtain ⟨j, hj, e2⟩ := nI_of (fun z => c (Or.inl z))
    rw [e2, nI_clamp hj] at e
    rw [e2, nI_ltI hj (by omega)] at hw
    omega

set_option maxRecDepth 100000 in
set_option maxHeartbeats 4000000 in
theorem c_X0_forget (l : Launch) (D : va_G) (cI : ClassId) (g0 g1 g2 g3 : Nat) (cs : Nat)  : CT l yX0_forget cX0_forget 1 none { frames := 0, cells := 0, slots := 0, locals := 0 } D cI [.ref g0] [(g0, .inr (0, [.int (nI cs), .ref g1, .ref g2, .ref g3]))] (fun zr zw => (zr = none ∧ zw = [(g0, .inr (0, [.int (nI 0), .ref g1, .ref g2, .ref g3]))])) := by
  refine CT_of RX0 rfl (by decide +kernel) (Nat.le_of_ble_eq_true rfl) (fun E hnE zC zT => ?_)
  have hA : ∀ q, (ev_s E).heap.size ≤ q → ev_A E q := fun q h => by rw [zT.2]; exact Or.inr h
  show VV E 0 0 0 [(0, .ref g0)] [] [(g0, .inr (0, [.int (nI cs), .ref g1, .ref g2, .ref g3]))]
  refine v_al_n 1 zC dX0_forget_0 0 rfl ?_
  refine v_ic (v := (nI 0)) 2 zC dX0_forget_1 (by decide +kernel) ?_
  refine v_pf (ws2 := [(g0, .inr (0, [.int (nI 0), .ref g1, .ref g2, .ref g3]))]) 5 0 zC dX0_forget_2 pf_X0_21 rfl (Nat.le_of_ble_eq_true rfl) rfl rfl rfl ?_
  refine v_vret zC zT dX0_forget_5  ?_
  first | exact ⟨rfl, rfl⟩ | exact ⟨sb1 (by assumption), rfl⟩ | exact ⟨sb0 (by assumption), rfl⟩ | (exfalso; omega) | exact ⟨sb1 (by simp [*]), rfl⟩ | exact ⟨sb0 (by simp [*]), rfl⟩
set_option maxRecDepth 100000 in
set_option maxHeartbeats 4000000 in
theorem c_X0_add (l : Launch) (D : va_G) (cI : ClassId) (g0 g1 g2 g3 : Nat) (cs : Nat) (so wh va : Nat → Nat) (s o v : Nat) (hc : cs ≤ 8) : CT l yX0_add cX0_add 4 none { frames := 1, cells := 0, slots := 0, locals := 40 } D cI [.ref g0, .int (nI s), .int (nI o), .int (nI v)] [(g0, .inr (0, [.int (nI cs), .ref g1, .ref g2, .ref g3])), (g1, .inl (cI, 8, .inl (nIf so))), (g2, .inl (cI, 8, .inl (nIf wh))), (g3, .inl (cI, 8, .inl (nIf va)))] (fun zr zw => (zr = none ∧ zw = [(g0, .inr (0, [.int (nI (csz cs)), .ref g1, .ref g2, .ref g3])), (g1, .inl (cI, 8, .inl (nIf (shp so cs s)))), (g2, .inl (cI, 8, .inl (nIf (shp wh cs o)))), (g3, .inl (cI, 8, .inl (nIf (shp va cs v))))])) := by
  refine CT_of RX0 rfl (by decide +kernel) (Nat.le_of_ble_eq_true rfl) (fun E hnE zC zT => ?_)
  have hA : ∀ q, (ev_s E).heap.size ≤ q → ev_A E q := fun q h => by rw [zT.2]; exact Or.inr h
  show VV E 0 0 0 [(0, .ref g0), (1, .int (nI s)), (2, .int (nI o)), (3, .int (nI v))] [] [(g0, .inr (0, [.int (nI cs), .ref g1, .ref g2, .ref g3])), (g1, .inl (cI, 8, .inl (nIf so))), (g2, .inl (cI, 8, .inl (nIf wh))), (g3, .inl (cI, 8, .inl (nIf va)))]
  refine v_al_n 1 zC dX0_add_0 0 rfl ?_
  refine v_gf 4 0 zC dX0_add_1 gf_X0_21 rfl rfl ?_
  refine v_bp (v := (nI 8)) 6 zC dX0_add_4 (by decide +kernel) ?_
  refine v_icmpn_lt 60 9 zC dX0_add_6 (fun h_1 => ?_) (fun h_1 => ?_)
  ·
    refine v_al_n 61 zC dX0_add_60 0 rfl ?_
    refine v_gf 64 0 zC dX0_add_61 gf_X0_9 rfl rfl ?_
    refine v_al_n 65 zC dX0_add_64 0 rfl ?_
    refine v_gf 68 0 zC dX0_add_65 gf_X0_21 rfl rfl ?_
    refine v_il_n 69 zC dX0_add_68 1 rfl ?_
    refine v_iasn (ws2 := [(g0, .inr (0, [.int (nI cs), .ref g1, .ref g2, .ref g3])), (g1, .inl (cI, 8, .inl (nIf (un so cs s)))), (g2, .inl (cI, 8, .inl (nIf wh))), (g3, .inl (cI, 8, .inl (nIf va)))]) 70 1 zC dX0_add_69 rfl (by omega) (by rw [upd_nIf]; first | done | rfl) ?_
    refine v_al_n 71 zC dX0_add_70 0 rfl ?_
    refine v_gf 74 0 zC dX0_add_71 gf_X0_15 rfl rfl ?_
    refine v_al_n 75 zC dX0_add_74 0 rfl ?_
    refine v_gf 78 0 zC dX0_add_75 gf_X0_21 rfl rfl ?_
    refine v_il_n 79 zC dX0_add_78 2 rfl ?_
    refine v_iasn (ws2 := [(g0, .inr (0, [.int (nI cs), .ref g1, .ref g2, .ref g3])), (g1, .inl (cI, 8, .inl (nIf (un so cs s)))), (g2, .inl (cI, 8, .inl (nIf (un wh cs o)))), (g3, .inl (cI, 8, .inl (nIf va)))]) 80 2 zC dX0_add_79 rfl (by omega) (by rw [upd_nIf]; first | done | rfl) ?_
    refine v_al_n 81 zC dX0_add_80 0 rfl ?_
    refine v_gf 84 0 zC dX0_add_81 gf_X0_18 rfl rfl ?_
    refine v_al_n 85 zC dX0_add_84 0 rfl ?_
    refine v_gf 88 0 zC dX0_add_85 gf_X0_21 rfl rfl ?_
    refine v_il_n 89 zC dX0_add_88 3 rfl ?_
    refine v_iasn (ws2 := [(g0, .inr (0, [.int (nI cs), .ref g1, .ref g2, .ref g3])), (g1, .inl (cI, 8, .inl (nIf (un so cs s)))), (g2, .inl (cI, 8, .inl (nIf (un wh cs o)))), (g3, .inl (cI, 8, .inl (nIf (un va cs v))))]) 90 3 zC dX0_add_89 rfl (by omega) (by rw [upd_nIf]; first | done | rfl) ?_
    refine v_al_n 91 zC dX0_add_90 0 rfl ?_
    refine v_dup 92 zC dX0_add_91 rfl ?_
    refine v_gf 95 0 zC dX0_add_92 gf_X0_21 rfl rfl ?_
    refine v_ic (v := (nI 1)) 96 zC dX0_add_95 (by decide +kernel) ?_
    refine v_iadd (v := (nI (cs + 1))) 97 zC dX0_add_96 (nI_add _ _) ?_
    refine v_pf (ws2 := [(g0, .inr (0, [.int (nI (cs + 1)), .ref g1, .ref g2, .ref g3])), (g1, .inl (cI, 8, .inl (nIf (un so cs s)))), (g2, .inl (cI, 8, .inl (nIf (un wh cs o)))), (g3, .inl (cI, 8, .inl (nIf (un va cs v))))]) 100 0 zC dX0_add_97 pf_X0_21 rfl (Nat.le_of_ble_eq_true rfl) rfl rfl rfl ?_
    refine v_vret zC zT dX0_add_100  ?_
    first | (have h8 : cs < 8 := (by omega); exact ⟨rfl, by simp [csz, shp, h8]⟩) | (have h8 : ¬ cs < 8 := (by omega); exact ⟨rfl, by simp [csz, shp, h8]⟩)
  ·
    refine v_al_n 10 zC dX0_add_9 0 rfl ?_
    refine v_gf 13 0 zC dX0_add_10 gf_X0_9 rfl rfl ?_
    refine v_ic (v := (nI 1)) 14 zC dX0_add_13 (by decide +kernel) ?_
    refine v_al_n 15 zC dX0_add_14 0 rfl ?_
    refine v_gf 18 0 zC dX0_add_15 gf_X0_9 rfl rfl ?_
    refine v_ic (v := (nI 0)) 19 zC dX0_add_18 (by decide +kernel) ?_
    refine v_bp (v := (nI 7)) 21 zC dX0_add_19 (by decide +kernel) ?_
    refine v_cpy (ws2 := [(g0, .inr (0, [.int (nI cs), .ref g1, .ref g2, .ref g3])), (g1, .inl (cI, 8, .inl (nIf (va_cpy so so 1 0 7)))), (g2, .inl (cI, 8, .inl (nIf wh))), (g3, .inl (cI, 8, .inl (nIf va)))]) (hsp := (by decide)) (hdp := (by decide)) (hm := (by decide)) 24 1 1 zC dX0_add_21 ac_X0_25 ac_n ac_s ac_i rfl rfl (by omega) (by omega) ⟨Nat.le_of_ble_eq_true rfl, Nat.le_of_ble_eq_true rfl⟩ (by rw [cpy_nIf]; first | done | rfl) ?_
    refine v_al_n 25 zC dX0_add_24 0 rfl ?_
    refine v_gf 28 0 zC dX0_add_25 gf_X0_15 rfl rfl ?_
    refine v_ic (v := (nI 1)) 29 zC dX0_add_28 (by decide +kernel) ?_
    refine v_al_n 30 zC dX0_add_29 0 rfl ?_
    refine v_gf 33 0 zC dX0_add_30 gf_X0_15 rfl rfl ?_
    refine v_ic (v := (nI 0)) 34 zC dX0_add_33 (by decide +kernel) ?_
    refine v_bp (v := (nI 7)) 36 zC dX0_add_34 (by decide +kernel) ?_
    refine v_cpy (ws2 := [(g0, .inr (0, [.int (nI cs), .ref g1, .ref g2, .ref g3])), (g1, .inl (cI, 8, .inl (nIf (va_cpy so so 1 0 7)))), (g2, .inl (cI, 8, .inl (nIf (va_cpy wh wh 1 0 7)))), (g3, .inl (cI, 8, .inl (nIf va)))]) (hsp := (by decide)) (hdp := (by decide)) (hm := (by decide)) 39 2 2 zC dX0_add_36 ac_X0_25 ac_n ac_s ac_i rfl rfl (by omega) (by omega) ⟨Nat.le_of_ble_eq_true rfl, Nat.le_of_ble_eq_true rfl⟩ (by rw [cpy_nIf]; first | done | rfl) ?_
    refine v_al_n 40 zC dX0_add_39 0 rfl ?_
    refine v_gf 43 0 zC dX0_add_40 gf_X0_18 rfl rfl ?_
    refine v_ic (v := (nI 1)) 44 zC dX0_add_43 (by decide +kernel) ?_
    refine v_al_n 45 zC dX0_add_44 0 rfl ?_
    refine v_gf 48 0 zC dX0_add_45 gf_X0_18 rfl rfl ?_
    refine v_ic (v := (nI 0)) 49 zC dX0_add_48 (by decide +kernel) ?_
    refine v_bp (v := (nI 7)) 51 zC dX0_add_49 (by decide +kernel) ?_
    refine v_cpy (ws2 := [(g0, .inr (0, [.int (nI cs), .ref g1, .ref g2, .ref g3])), (g1, .inl (cI, 8, .inl (nIf (va_cpy so so 1 0 7)))), (g2, .inl (cI, 8, .inl (nIf (va_cpy wh wh 1 0 7)))), (g3, .inl (cI, 8, .inl (nIf (va_cpy va va 1 0 7))))]) (hsp := (by decide)) (hdp := (by decide)) (hm := (by decide)) 54 3 3 zC dX0_add_51 ac_X0_25 ac_n ac_s ac_i rfl rfl (by omega) (by omega) ⟨Nat.le_of_ble_eq_true rfl, Nat.le_of_ble_eq_true rfl⟩ (by rw [cpy_nIf]; first | done | rfl) ?_
    refine v_al_n 55 zC dX0_add_54 0 rfl ?_
    refine v_bp (v := (nI 7)) 57 zC dX0_add_55 (by decide +kernel) ?_
    refine v_pf (ws2 := [(g0, .inr (0, [.int (nI 7), .ref g1, .ref g2, .ref g3])), (g1, .inl (cI, 8, .inl (nIf (va_cpy so so 1 0 7)))), (g2, .inl (cI, 8, .inl (nIf (va_cpy wh wh 1 0 7)))), (g3, .inl (cI, 8, .inl (nIf (va_cpy va va 1 0 7))))]) 60 0 zC dX0_add_57 pf_X0_21 rfl (Nat.le_of_ble_eq_true rfl) rfl rfl rfl ?_
    refine v_al_n 61 zC dX0_add_60 0 rfl ?_
    refine v_gf 64 0 zC dX0_add_61 gf_X0_9 rfl rfl ?_
    refine v_al_n 65 zC dX0_add_64 0 rfl ?_
    refine v_gf 68 0 zC dX0_add_65 gf_X0_21 rfl rfl ?_
    refine v_il_n 69 zC dX0_add_68 1 rfl ?_
    refine v_iasn (ws2 := [(g0, .inr (0, [.int (nI 7), .ref g1, .ref g2, .ref g3])), (g1, .inl (cI, 8, .inl (nIf (un (va_cpy so so 1 0 7) 7 s)))), (g2, .inl (cI, 8, .inl (nIf (va_cpy wh wh 1 0 7)))), (g3, .inl (cI, 8, .inl (nIf (va_cpy va va 1 0 7))))]) 70 1 zC dX0_add_69 rfl (by omega) (by rw [upd_nIf]; first | done | rfl) ?_
    refine v_al_n 71 zC dX0_add_70 0 rfl ?_
    refine v_gf 74 0 zC dX0_add_71 gf_X0_15 rfl rfl ?_
    refine v_al_n 75 zC dX0_add_74 0 rfl ?_
    refine v_gf 78 0 zC dX0_add_75 gf_X0_21 rfl rfl ?_
    refine v_il_n 79 zC dX0_add_78 2 rfl ?_
    refine v_iasn (ws2 := [(g0, .inr (0, [.int (nI 7), .ref g1, .ref g2, .ref g3])), (g1, .inl (cI, 8, .inl (nIf (un (va_cpy so so 1 0 7) 7 s)))), (g2, .inl (cI, 8, .inl (nIf (un (va_cpy wh wh 1 0 7) 7 o)))), (g3, .inl (cI, 8, .inl (nIf (va_cpy va va 1 0 7))))]) 80 2 zC dX0_add_79 rfl (by omega) (by rw [upd_nIf]; first | done | rfl) ?_
    refine v_al_n 81 zC dX0_add_80 0 rfl ?_
    refine v_gf 84 0 zC dX0_add_81 gf_X0_18 rfl rfl ?_
    refine v_al_n 85 zC dX0_add_84 0 rfl ?_
    refine v_gf 88 0 zC dX0_add_85 gf_X0_21 rfl rfl ?_
    refine v_il_n 89 zC dX0_add_88 3 rfl ?_
    refine v_iasn (ws2 := [(g0, .inr (0, [.int (nI 7), .ref g1, .ref g2, .ref g3])), (g1, .inl (cI, 8, .inl (nIf (un (va_cpy so so 1 0 7) 7 s)))), (g2, .inl (cI, 8, .inl (nIf (un (va_cpy wh wh 1 0 7) 7 o)))), (g3, .inl (cI, 8, .inl (nIf (un (va_cpy va va 1 0 7) 7 v))))]) 90 3 zC dX0_add_89 rfl (by omega) (by rw [upd_nIf]; first | done | rfl) ?_
    refine v_al_n 91 zC dX0_add_90 0 rfl ?_
    refine v_dup 92 zC dX0_add_91 rfl ?_
    refine v_gf 95 0 zC dX0_add_92 gf_X0_21 rfl rfl ?_
    refine v_ic (v := (nI 1)) 96 zC dX0_add_95 (by decide +kernel) ?_
    refine v_iadd (v := (nI 8)) 97 zC dX0_add_96 (by decide +kernel) ?_
    refine v_pf (ws2 := [(g0, .inr (0, [.int (nI 8), .ref g1, .ref g2, .ref g3])), (g1, .inl (cI, 8, .inl (nIf (un (va_cpy so so 1 0 7) 7 s)))), (g2, .inl (cI, 8, .inl (nIf (un (va_cpy wh wh 1 0 7) 7 o)))), (g3, .inl (cI, 8, .inl (nIf (un (va_cpy va va 1 0 7) 7 v))))]) 100 0 zC dX0_add_97 pf_X0_21 rfl (Nat.le_of_ble_eq_true rfl) rfl rfl rfl ?_
    refine v_vret zC zT dX0_add_100  ?_
    first | (have h8 : cs < 8 := (by omega); exact ⟨rfl, by simp [csz, shp, h8]⟩) | (have h8 : ¬ cs < 8 := (by omega); exact ⟨rfl, by simp [csz, shp, h8]⟩)
set_option maxRecDepth 100000 in
set_option maxHeartbeats 4000000 in
theorem c_X0_takeBack (l : Launch) (D : va_G) (cI : ClassId) (g0 g1 g2 g3 : Nat) (cs : Nat) (so wh va : Nat → Nat) (a0 a1 a2 a3 a4 a5 a6 : Nat) (n m sh : Nat) (ki op G : Nat → Nat) (hn : n ≤ 7) (hm : m ≤ 6) (hc0 : 0 < cs) (hc : cs ≤ 8) (h4 : so (cs - 1) < 4) (h0 : so (cs - 1) = 0 → wh (cs - 1) < n ∧ va (cs - 1) < 24) (h1 : so (cs - 1) = 1 → wh (cs - 1) < n) (h2 : so (cs - 1) = 2 → wh (cs - 1) < n ∧ va (cs - 1) < 6) (h3 : so (cs - 1) = 3 → wh (cs - 1) < m) : CT l yX0_takeBack cX0_takeBack 4 none { frames := 1, cells := 0, slots := 0, locals := 22 } D cI [.ref g0, .ref a0] [(g0, .inr (0, [.int (nI cs), .ref g1, .ref g2, .ref g3])), (g1, .inl (cI, 8, .inl (nIf so))), (g2, .inl (cI, 8, .inl (nIf wh))), (g3, .inl (cI, 8, .inl (nIf va))), (a0, .inr (2, [.int (nI n), .int (nI m), .int (nI sh), .int (nI 0), .ref a1, .ref a2, .ref a3, .ref a4, .ref a5, .ref a6])), (a1, .inl (cI, 7, .inl (nIf ki))), (a2, .inl (cI, 7, .inl (nIf op))), (a5, .inl (cI, 6, .inl (nIf G)))] (fun zr zw => ((so (cs - 1) = 0) ∧ zr = none ∧ zw = [(g0, .inr (0, [.int (nI (cs - 1)), .ref g1, .ref g2, .ref g3])), (g1, .inl (cI, 8, .inl (nIf so))), (g2, .inl (cI, 8, .inl (nIf wh))), (g3, .inl (cI, 8, .inl (nIf va))), (a0, .inr (2, [.int (nI n), .int (nI m), .int (nI sh), .int (nI 0), .ref a1, .ref a2, .ref a3, .ref a4, .ref a5, .ref a6])), (a1, .inl (cI, 7, .inl (nIf ki))), (a2, .inl (cI, 7, .inl (nIf (un op (wh (cs - 1)) (op (wh (cs - 1)) ^^^ 2 ^ va (cs - 1)))))), (a5, .inl (cI, 6, .inl (nIf G)))]) ∨ ((so (cs - 1) = 1) ∧ zr = none ∧ zw = [(g0, .inr (0, [.int (nI (cs - 1)), .ref g1, .ref g2, .ref g3])), (g1, .inl (cI, 8, .inl (nIf so))), (g2, .inl (cI, 8, .inl (nIf wh))), (g3, .inl (cI, 8, .inl (nIf va))), (a0, .inr (2, [.int (nI n), .int (nI m), .int (nI (sh ^^^ 2 ^ wh (cs - 1))), .int (nI 0), .ref a1, .ref a2, .ref a3, .ref a4, .ref a5, .ref a6])), (a1, .inl (cI, 7, .inl (nIf ki))), (a2, .inl (cI, 7, .inl (nIf op))), (a5, .inl (cI, 6, .inl (nIf G)))]) ∨ ((so (cs - 1) = 2) ∧ zr = none ∧ zw = [(g0, .inr (0, [.int (nI (cs - 1)), .ref g1, .ref g2, .ref g3])), (g1, .inl (cI, 8, .inl (nIf so))), (g2, .inl (cI, 8, .inl (nIf wh))), (g3, .inl (cI, 8, .inl (nIf va))), (a0, .inr (2, [.int (nI n), .int (nI m), .int (nI sh), .int (nI 0), .ref a1, .ref a2, .ref a3, .ref a4, .ref a5, .ref a6])), (a1, .inl (cI, 7, .inl (nIf (un ki (wh (cs - 1)) (ki (wh (cs - 1)) ^^^ 2 ^ va (cs - 1)))))), (a2, .inl (cI, 7, .inl (nIf op))), (a5, .inl (cI, 6, .inl (nIf G)))]) ∨ ((so (cs - 1) = 3) ∧ zr = none ∧ zw = [(g0, .inr (0, [.int (nI (cs - 1)), .ref g1, .ref g2, .ref g3])), (g1, .inl (cI, 8, .inl (nIf so))), (g2, .inl (cI, 8, .inl (nIf wh))), (g3, .inl (cI, 8, .inl (nIf va))), (a0, .inr (2, [.int (nI n), .int (nI m), .int (nI sh), .int (nI 0), .ref a1, .ref a2, .ref a3, .ref a4, .ref a5, .ref a6])), (a1, .inl (cI, 7, .inl (nIf ki))), (a2, .inl (cI, 7, .inl (nIf op))), (a5, .inl (cI, 6, .inl (nIf (un G (wh (cs - 1)) (va (cs - 1))))))])) := by
  refine CT_of RX0 rfl (by decide +kernel) (Nat.le_of_ble_eq_true rfl) (fun E hnE zC zT => ?_)
  have hA : ∀ q, (ev_s E).heap.size ≤ q → ev_A E q := fun q h => by rw [zT.2]; exact Or.inr h
  show VV E 0 0 0 [(0, .ref g0), (1, .ref a0)] [] [(g0, .inr (0, [.int (nI cs), .ref g1, .ref g2, .ref g3])), (g1, .inl (cI, 8, .inl (nIf so))), (g2, .inl (cI, 8, .inl (nIf wh))), (g3, .inl (cI, 8, .inl (nIf va))), (a0, .inr (2, [.int (nI n), .int (nI m), .int (nI sh), .int (nI 0), .ref a1, .ref a2, .ref a3, .ref a4, .ref a5, .ref a6])), (a1, .inl (cI, 7, .inl (nIf ki))), (a2, .inl (cI, 7, .inl (nIf op))), (a5, .inl (cI, 6, .inl (nIf G)))]
  refine v_al_n 1 zC dX0_takeBack_0 0 rfl ?_
  refine v_gf 4 0 zC dX0_takeBack_1 gf_X0_21 rfl rfl ?_
  refine v_ic (v := (nI 1)) 5 zC dX0_takeBack_4 (by decide +kernel) ?_
  refine v_icmpn_ge 9 8 zC dX0_takeBack_5 (fun h_1 => ?_) (fun h_1 => False.elim (by omega))
  refine v_al_n 10 zC dX0_takeBack_9 0 rfl ?_
  refine v_dup 11 zC dX0_takeBack_10 rfl ?_
  refine v_gf 14 0 zC dX0_takeBack_11 gf_X0_21 rfl rfl ?_
  refine v_ic (v := (nI 1)) 15 zC dX0_takeBack_14 (by decide +kernel) ?_
  refine v_isub (v := (nI (cs - 1))) 16 zC dX0_takeBack_15 (pk_sub (by first | omega | exact Nat.one_le_two_pow)) ?_
  refine v_pf (ws2 := [(g0, .inr (0, [.int (nI (cs - 1)), .ref g1, .ref g2, .ref g3])), (g1, .inl (cI, 8, .inl (nIf so))), (g2, .inl (cI, 8, .inl (nIf wh))), (g3, .inl (cI, 8, .inl (nIf va))), (a0, .inr (2, [.int (nI n), .int (nI m), .int (nI sh), .int (nI 0), .ref a1, .ref a2, .ref a3, .ref a4, .ref a5, .ref a6])), (a1, .inl (cI, 7, .inl (nIf ki))), (a2, .inl (cI, 7, .inl (nIf op))), (a5, .inl (cI, 6, .inl (nIf G)))]) 19 0 zC dX0_takeBack_16 pf_X0_21 rfl (Nat.le_of_ble_eq_true rfl) rfl rfl rfl ?_
  refine v_al_n 20 zC dX0_takeBack_19 0 rfl ?_
  refine v_gf 23 0 zC dX0_takeBack_20 gf_X0_15 rfl rfl ?_
  refine v_al_n 24 zC dX0_takeBack_23 0 rfl ?_
  refine v_gf 27 0 zC dX0_takeBack_24 gf_X0_21 rfl rfl ?_
  refine v_ialn (v := (nI (wh (cs - 1)))) 28 2 zC dX0_takeBack_27 rfl (by omega) rfl ?_
  refine v_is_n (lv2 := [(2, .int (nI (wh (cs - 1)))), (0, .ref g0), (1, .ref a0)]) 29 zC dX0_takeBack_28 (by rw [hnE]; decide) rfl ?_
  refine v_al_n 30 zC dX0_takeBack_29 1 rfl ?_
  refine v_gf 33 0 zC dX0_takeBack_30 gf_X0_18 rfl rfl ?_
  refine v_al_n 34 zC dX0_takeBack_33 1 rfl ?_
  refine v_gf 37 0 zC dX0_takeBack_34 gf_X0_21 rfl rfl ?_
  refine v_ialn (v := (nI (va (cs - 1)))) 38 3 zC dX0_takeBack_37 rfl (by omega) rfl ?_
  refine v_is_n (lv2 := [(3, .int (nI (va (cs - 1)))), (2, .int (nI (wh (cs - 1)))), (0, .ref g0), (1, .ref a0)]) 39 zC dX0_takeBack_38 (by rw [hnE]; decide) rfl ?_
  refine v_al_n 40 zC dX0_takeBack_39 2 rfl ?_
  refine v_gf 43 0 zC dX0_takeBack_40 gf_X0_9 rfl rfl ?_
  refine v_al_n 44 zC dX0_takeBack_43 2 rfl ?_
  refine v_gf 47 0 zC dX0_takeBack_44 gf_X0_21 rfl rfl ?_
  refine v_ialn (v := (nI (so (cs - 1)))) 48 1 zC dX0_takeBack_47 rfl (by omega) rfl ?_
  have h_2 : (so (cs - 1)) = 0 ∨ (so (cs - 1)) = 1 ∨ (so (cs - 1)) = 2 ∨ (so (cs - 1)) = 3 := by omega
  rcases h_2 with h_2 | h_2 | h_2 | h_2
  ·
    rw [h_2]
    have hz9 := h_2
    have hh9 := h0 h_2
    refine v_tsw (off := 28) 76 zC dX0_takeBack_48 (Or.inl (by decide +kernel)) ?_
    refine v_al_n 77 zC dX0_takeBack_76 3 rfl ?_
    refine v_il_n 78 zC dX0_takeBack_77 1 rfl ?_
    refine v_il_n 79 zC dX0_takeBack_78 0 rfl ?_
    refine v_cV (As := [.int (nI (wh (cs - 1))), .int (nI (va (cs - 1)))]) (st := []) 82 4 [4, 6] zC dX0_takeBack_79 hA (c_X2_turnOpen (ev_l E) (ev_D E) cI (a0 := a0) (a1 := a1) (a2 := a2) (a3 := a3) (a4 := a4) (a5 := a5) (a6 := a6) (n := n) (m := m) (sh := sh) (aw := 0) (op := op) (p := (wh (cs - 1))) (h := (va (cs - 1))) (hn := (by first | omega | assumption | rfl | (simp only []; omega) | decide)) (hp := (by first | omega | assumption | rfl | (simp only []; omega) | decide)) (hh := (by first | omega | assumption | rfl | (simp only []; omega) | decide))) cf_X2_turnOpen lk_X0_31 rfl rfl rfl rfl rfl (by decide +kernel) (Nat.le_of_ble_eq_true rfl) (fun rv_3 wv_4 hp_5 hm_6 => ?_)
    clear hm_6
    obtain ⟨rfl, rfl⟩ := hp_5
    show VV E 0 0 82 [(3, .int (nI (va (cs - 1)))), (2, .int (nI (wh (cs - 1)))), (0, .ref g0), (1, .ref a0)] [] [(g0, .inr (0, [.int (nI (cs - 1)), .ref g1, .ref g2, .ref g3])), (g1, .inl (cI, 8, .inl (nIf so))), (g2, .inl (cI, 8, .inl (nIf wh))), (g3, .inl (cI, 8, .inl (nIf va))), (a0, .inr (2, [.int (nI n), .int (nI m), .int (nI sh), .int (nI 0), .ref a1, .ref a2, .ref a3, .ref a4, .ref a5, .ref a6])), (a1, .inl (cI, 7, .inl (nIf ki))), (a2, .inl (cI, 7, .inl (nIf (un op (wh (cs - 1)) (op (wh (cs - 1)) ^^^ 2 ^ (va (cs - 1))))))), (a5, .inl (cI, 6, .inl (nIf G)))]
    refine v_goto 122 zC dX0_takeBack_82 ?_
    refine v_vret zC zT dX0_takeBack_122  ?_
    first | exact Or.inl ⟨hz9, rfl, rfl⟩ | exact Or.inr (Or.inl ⟨hz9, rfl, rfl⟩) | exact Or.inr (Or.inr (Or.inl ⟨hz9, rfl, rfl⟩)) | exact Or.inr (Or.inr (Or.inr ⟨hz9, rfl, rfl⟩))
  ·
    rw [h_2]
    have hz9 := h_2
    have hh9 := h1 h_2
    refine v_tsw (off := 37) 85 zC dX0_takeBack_48 (Or.inl (by decide +kernel)) ?_
    refine v_al_n 86 zC dX0_takeBack_85 3 rfl ?_
    refine v_il_n 87 zC dX0_takeBack_86 1 rfl ?_
    refine v_cV (As := [.int (nI (wh (cs - 1)))]) (st := []) 90 4 [4] zC dX0_takeBack_87 hA (c_X2_turnShut (ev_l E) (ev_D E) cI (a0 := a0) (a1 := a1) (a2 := a2) (a3 := a3) (a4 := a4) (a5 := a5) (a6 := a6) (n := n) (m := m) (sh := sh) (aw := 0) (p := (wh (cs - 1))) (hn := (by first | omega | assumption | rfl | (simp only []; omega) | decide)) (hp := (by first | omega | assumption | rfl | (simp only []; omega) | decide))) cf_X2_turnShut lk_X0_37 rfl rfl rfl rfl rfl (by decide +kernel) (Nat.le_of_ble_eq_true rfl) (fun rv_7 wv_8 hp_9 hm_10 => ?_)
    clear hm_10
    rcases hp_9 with ⟨hq_11, rfl, rfl⟩ | ⟨hp_12, rfl, rfl⟩
    ·
      show VV E 0 0 90 [(3, .int (nI (va (cs - 1)))), (2, .int (nI (wh (cs - 1)))), (0, .ref g0), (1, .ref a0)] [.int (nI 0)] [(g0, .inr (0, [.int (nI (cs - 1)), .ref g1, .ref g2, .ref g3])), (g1, .inl (cI, 8, .inl (nIf so))), (g2, .inl (cI, 8, .inl (nIf wh))), (g3, .inl (cI, 8, .inl (nIf va))), (a0, .inr (2, [.int (nI n), .int (nI m), .int (nI sh), .int (nI 0), .ref a1, .ref a2, .ref a3, .ref a4, .ref a5, .ref a6])), (a1, .inl (cI, 7, .inl (nIf ki))), (a2, .inl (cI, 7, .inl (nIf op))), (a5, .inl (cI, 6, .inl (nIf G)))]
      exfalso; omega
    ·
      show VV E 0 0 90 [(3, .int (nI (va (cs - 1)))), (2, .int (nI (wh (cs - 1)))), (0, .ref g0), (1, .ref a0)] [.int (nI 1)] [(g0, .inr (0, [.int (nI (cs - 1)), .ref g1, .ref g2, .ref g3])), (g1, .inl (cI, 8, .inl (nIf so))), (g2, .inl (cI, 8, .inl (nIf wh))), (g3, .inl (cI, 8, .inl (nIf va))), (a0, .inr (2, [.int (nI n), .int (nI m), .int (nI (sh ^^^ 2 ^ (wh (cs - 1)))), .int (nI 0), .ref a1, .ref a2, .ref a3, .ref a4, .ref a5, .ref a6])), (a1, .inl (cI, 7, .inl (nIf ki))), (a2, .inl (cI, 7, .inl (nIf op))), (a5, .inl (cI, 6, .inl (nIf G)))]
      refine v_pop 91 zC dX0_takeBack_90 rfl ?_
      refine v_goto 122 zC dX0_takeBack_91 ?_
      refine v_vret zC zT dX0_takeBack_122  ?_
      first | exact Or.inl ⟨hz9, rfl, rfl⟩ | exact Or.inr (Or.inl ⟨hz9, rfl, rfl⟩) | exact Or.inr (Or.inr (Or.inl ⟨hz9, rfl, rfl⟩)) | exact Or.inr (Or.inr (Or.inr ⟨hz9, rfl, rfl⟩))
  ·
    rw [h_2]
    have hz9 := h_2
    have hh9 := h2 h_2
    refine v_tsw (off := 46) 94 zC dX0_takeBack_48 (Or.inl (by decide +kernel)) ?_
    refine v_al_n 95 zC dX0_takeBack_94 3 rfl ?_
    refine v_il_n 96 zC dX0_takeBack_95 1 rfl ?_
    refine v_il_n 97 zC dX0_takeBack_96 0 rfl ?_
    refine v_cV (As := [.int (nI (wh (cs - 1))), .int (nI (va (cs - 1)))]) (st := []) 100 4 [4, 5] zC dX0_takeBack_97 hA (c_X2_turnKin (ev_l E) (ev_D E) cI (a0 := a0) (a1 := a1) (a2 := a2) (a3 := a3) (a4 := a4) (a5 := a5) (a6 := a6) (n := n) (m := m) (sh := sh) (aw := 0) (ki := ki) (p := (wh (cs - 1))) (d := (va (cs - 1))) (hn := (by first | omega | assumption | rfl | (simp only []; omega) | decide)) (hp := (by first | omega | assumption | rfl | (simp only []; omega) | decide)) (hd := (by first | omega | assumption | rfl | (simp only []; omega) | decide))) cf_X2_turnKin lk_X0_41 rfl rfl rfl rfl rfl (by decide +kernel) (Nat.le_of_ble_eq_true rfl) (fun rv_13 wv_14 hp_15 hm_16 => ?_)
    clear hm_16
    obtain ⟨rfl, rfl⟩ := hp_15
    show VV E 0 0 100 [(3, .int (nI (va (cs - 1)))), (2, .int (nI (wh (cs - 1)))), (0, .ref g0), (1, .ref a0)] [] [(g0, .inr (0, [.int (nI (cs - 1)), .ref g1, .ref g2, .ref g3])), (g1, .inl (cI, 8, .inl (nIf so))), (g2, .inl (cI, 8, .inl (nIf wh))), (g3, .inl (cI, 8, .inl (nIf va))), (a0, .inr (2, [.int (nI n), .int (nI m), .int (nI sh), .int (nI 0), .ref a1, .ref a2, .ref a3, .ref a4, .ref a5, .ref a6])), (a1, .inl (cI, 7, .inl (nIf (un ki (wh (cs - 1)) (ki (wh (cs - 1)) ^^^ 2 ^ (va (cs - 1))))))), (a2, .inl (cI, 7, .inl (nIf op))), (a5, .inl (cI, 6, .inl (nIf G)))]
    refine v_goto 122 zC dX0_takeBack_100 ?_
    refine v_vret zC zT dX0_takeBack_122  ?_
    first | exact Or.inl ⟨hz9, rfl, rfl⟩ | exact Or.inr (Or.inl ⟨hz9, rfl, rfl⟩) | exact Or.inr (Or.inr (Or.inl ⟨hz9, rfl, rfl⟩)) | exact Or.inr (Or.inr (Or.inr ⟨hz9, rfl, rfl⟩))
  ·
    rw [h_2]
    have hz9 := h_2
    have hh9 := h3 h_2
    refine v_tsw (off := 55) 103 zC dX0_takeBack_48 (Or.inr (by decide +kernel)) ?_
    refine v_il_n 104 zC dX0_takeBack_103 1 rfl ?_
    refine v_ifn_lt 122 107 zC dX0_takeBack_104 (fun z => absurd z (Nat.not_lt_zero _)) (fun _ => ?_)
    refine v_il_n 108 zC dX0_takeBack_107 1 rfl ?_
    refine v_al_n 109 zC dX0_takeBack_108 3 rfl ?_
    refine v_gf 112 4 zC dX0_takeBack_109 gf_X0_44 rfl rfl ?_
    refine v_icmpn_ge 122 115 zC dX0_takeBack_112 (fun h_18 => False.elim (by omega)) (fun h_18 => ?_)
    refine v_al_n 116 zC dX0_takeBack_115 3 rfl ?_
    refine v_gf 119 4 zC dX0_takeBack_116 gf_X0_47 rfl rfl ?_
    refine v_il_n 120 zC dX0_takeBack_119 1 rfl ?_
    refine v_il_n 121 zC dX0_takeBack_120 0 rfl ?_
    refine v_iasn (ws2 := [(g0, .inr (0, [.int (nI (cs - 1)), .ref g1, .ref g2, .ref g3])), (g1, .inl (cI, 8, .inl (nIf so))), (g2, .inl (cI, 8, .inl (nIf wh))), (g3, .inl (cI, 8, .inl (nIf va))), (a0, .inr (2, [.int (nI n), .int (nI m), .int (nI sh), .int (nI 0), .ref a1, .ref a2, .ref a3, .ref a4, .ref a5, .ref a6])), (a1, .inl (cI, 7, .inl (nIf ki))), (a2, .inl (cI, 7, .inl (nIf op))), (a5, .inl (cI, 6, .inl (nIf (un G (wh (cs - 1)) (va (cs - 1))))))]) 122 7 zC dX0_takeBack_121 rfl (by omega) (by rw [upd_nIf]; first | done | rfl) ?_
    refine v_vret zC zT dX0_takeBack_122  ?_
    first | exact Or.inl ⟨hz9, rfl, rfl⟩ | exact Or.inr (Or.inl ⟨hz9, rfl, rfl⟩) | exact Or.inr (Or.inr (Or.inl ⟨hz9, rfl, rfl⟩)) | exact Or.inr (Or.inr (Or.inr ⟨hz9, rfl, rfl⟩))
set_option maxRecDepth 100000 in
set_option maxHeartbeats 4000000 in
theorem c_X4_open (l : Launch) (D : va_G) (cI : ClassId) (x0 xm xp y0 : Nat) (pd : Bool) (rs : Nat) (b0 s0 w0 : Nat) (a0 a1 a2 a3 a4 a5 a6 : Nat) (n m sh : Nat) (ki op fa K G T : Nat → Nat) (g0 g1 g2 g3 : Nat) (cs : Nat) (so wh va : Nat → Nat) (R : Nat → Nat) (p h : Int32) (hw : FW n m sh ki op fa K G T) (hc : cs ≤ 8) : CT l yX4_open cX4_open 3 (some .int) { frames := 2, cells := 0, slots := 0, locals := 63 } D cI [.ref x0, .int p, .int h] [(x0, .inr (4, [.ref a0, .ref xm, .ref xp, .int (bz pd), .ref b0, .ref g0, .ref s0, .ref w0, .int (nI rs), .ref y0])), (a0, .inr (2, [.int (nI n), .int (nI m), .int (nI sh), .int (nI 0), .ref a1, .ref a2, .ref a3, .ref a4, .ref a5, .ref a6])), (a1, .inl (cI, 7, .inl (nIf ki))), (a2, .inl (cI, 7, .inl (nIf op))), (a3, .inl (cI, 7, .inl (nIf fa))), (a4, .inl (cI, 6, .inl (nIf K))), (a5, .inl (cI, 6, .inl (nIf G))), (a6, .inl (cI, 6, .inl (nIf T))), (g0, .inr (0, [.int (nI cs), .ref g1, .ref g2, .ref g3])), (g1, .inl (cI, 8, .inl (nIf so))), (g2, .inl (cI, 8, .inl (nIf wh))), (g3, .inl (cI, 8, .inl (nIf va))), (y0, .inl (cI, 7, .inl (nIf R)))] (fun zr zw => ((IX n p = none ∨ IX 24 h = none) ∧ zr = some (.int (-1)) ∧ zw = [(x0, .inr (4, [.ref a0, .ref xm, .ref xp, .int (bz pd), .ref b0, .ref g0, .ref s0, .ref w0, .int (nI rs), .ref y0])), (a0, .inr (2, [.int (nI n), .int (nI m), .int (nI sh), .int (nI 0), .ref a1, .ref a2, .ref a3, .ref a4, .ref a5, .ref a6])), (a1, .inl (cI, 7, .inl (nIf ki))), (a2, .inl (cI, 7, .inl (nIf op))), (a3, .inl (cI, 7, .inl (nIf fa))), (a4, .inl (cI, 6, .inl (nIf K))), (a5, .inl (cI, 6, .inl (nIf G))), (a6, .inl (cI, 6, .inl (nIf T))), (g0, .inr (0, [.int (nI cs), .ref g1, .ref g2, .ref g3])), (g1, .inl (cI, 8, .inl (nIf so))), (g2, .inl (cI, 8, .inl (nIf wh))), (g3, .inl (cI, 8, .inl (nIf va))), (y0, .inl (cI, 7, .inl (nIf (un R 1 (R 1 + 1)))))]) ∨ (∃ j : Nat, ∃ k : Nat, (IX n p = some j) ∧ (IX 24 h = some k) ∧ zr = some (.int (bz (Nat.testBit (un op j (op j ^^^ 2 ^ k) j) k))) ∧ zw = [(x0, .inr (4, [.ref a0, .ref xm, .ref xp, .int (bz pd), .ref b0, .ref g0, .ref s0, .ref w0, .int (nI rs), .ref y0])), (a0, .inr (2, [.int (nI n), .int (nI m), .int (nI sh), .int (nI 0), .ref a1, .ref a2, .ref a3, .ref a4, .ref a5, .ref a6])), (a1, .inl (cI, 7, .inl (nIf ki))), (a2, .inl (cI, 7, .inl (nIf (un op j (op j ^^^ 2 ^ k))))), (a3, .inl (cI, 7, .inl (nIf fa))), (a4, .inl (cI, 6, .inl (nIf K))), (a5, .inl (cI, 6, .inl (nIf G))), (a6, .inl (cI, 6, .inl (nIf T))), (g0, .inr (0, [.int (nI (csz cs)), .ref g1, .ref g2, .ref g3])), (g1, .inl (cI, 8, .inl (nIf (shp so cs 0)))), (g2, .inl (cI, 8, .inl (nIf (shp wh cs j)))), (g3, .inl (cI, 8, .inl (nIf (shp va cs k)))), (y0, .inl (cI, 7, .inl (nIf R)))])) := by
  refine CT_of RX4 rfl (by decide +kernel) (Nat.le_of_ble_eq_true rfl) (fun E hnE zC zT => ?_)
  have hA : ∀ q, (ev_s E).heap.size ≤ q → ev_A E q := fun q h => by rw [zT.2]; exact Or.inr h
  obtain ⟨hn, hm, hsh, hki, hop, hfa, hK, hG, hT, vki, vop, vfa, vK, vG, vT⟩ := id hw
  show VV E 0 0 0 [(0, .ref x0), (1, .int p), (2, .int h)] [] [(x0, .inr (4, [.ref a0, .ref xm, .ref xp, .int (bz pd), .ref b0, .ref g0, .ref s0, .ref w0, .int (nI rs), .ref y0])), (a0, .inr (2, [.int (nI n), .int (nI m), .int (nI sh), .int (nI 0), .ref a1, .ref a2, .ref a3, .ref a4, .ref a5, .ref a6])), (a1, .inl (cI, 7, .inl (nIf ki))), (a2, .inl (cI, 7, .inl (nIf op))), (a3, .inl (cI, 7, .inl (nIf fa))), (a4, .inl (cI, 6, .inl (nIf K))), (a5, .inl (cI, 6, .inl (nIf G))), (a6, .inl (cI, 6, .inl (nIf T))), (g0, .inr (0, [.int (nI cs), .ref g1, .ref g2, .ref g3])), (g1, .inl (cI, 8, .inl (nIf so))), (g2, .inl (cI, 8, .inl (nIf wh))), (g3, .inl (cI, 8, .inl (nIf va))), (y0, .inl (cI, 7, .inl (nIf R)))]
  refine v_al_n 1 zC dX4_open_0 0 rfl ?_
  refine v_il_n 2 zC dX4_open_1 1 rfl ?_
  refine v_cV (As := [.int p]) (st := []) 5 0 [0, 1] zC dX4_open_2 hA (c_X4_noPerson (ev_l E) (ev_D E) cI (x0 := x0) (xm := xm) (xp := xp) (b0 := b0) (g0 := g0) (s0 := s0) (w0 := w0) (y0 := y0) (pd := pd) (rs := rs) (a0 := a0) (a1 := a1) (a2 := a2) (a3 := a3) (a4 := a4) (a5 := a5) (a6 := a6) (n := n) (m := m) (sh := sh) (p := p) (hn := (by first | omega | assumption | rfl | (simp only []; omega) | decide))) cf_X4_noPerson lk_X4_79 rfl rfl rfl rfl rfl (by decide +kernel) (Nat.le_of_ble_eq_true rfl) (fun rv_1 wv_2 hp_3 hm_4 => ?_)
  clear hm_4
  rcases hp_3 with ⟨hi_5, rfl, rfl⟩ | ⟨j_6, he_7, hi_8, hj_9, rfl, rfl⟩
  ·
    show VV E 0 0 5 [(0, .ref x0), (1, .int p), (2, .int h)] [.int (nI 1)] [(x0, .inr (4, [.ref a0, .ref xm, .ref xp, .int (bz pd), .ref b0, .ref g0, .ref s0, .ref w0, .int (nI rs), .ref y0])), (a0, .inr (2, [.int (nI n), .int (nI m), .int (nI sh), .int (nI 0), .ref a1, .ref a2, .ref a3, .ref a4, .ref a5, .ref a6])), (a1, .inl (cI, 7, .inl (nIf ki))), (a2, .inl (cI, 7, .inl (nIf op))), (a3, .inl (cI, 7, .inl (nIf fa))), (a4, .inl (cI, 6, .inl (nIf K))), (a5, .inl (cI, 6, .inl (nIf G))), (a6, .inl (cI, 6, .inl (nIf T))), (g0, .inr (0, [.int (nI cs), .ref g1, .ref g2, .ref g3])), (g1, .inl (cI, 8, .inl (nIf so))), (g2, .inl (cI, 8, .inl (nIf wh))), (g3, .inl (cI, 8, .inl (nIf va))), (y0, .inl (cI, 7, .inl (nIf R)))]
    refine v_if_ne 15 8 zC dX4_open_5 (fun _ => ?_) (fun z => absurd z (by decide +kernel))
    refine v_al_n 16 zC dX4_open_15 0 rfl ?_
    refine v_ic (v := (-1)) 17 zC dX4_open_16 (by decide +kernel) ?_
    refine v_cV (As := [.int (-1)]) (st := []) 20 0 [0, 12] zC dX4_open_17 hA (c_X4_refuse (ev_l E) (ev_D E) cI (x0 := x0) (xn := a0) (xm := xm) (xp := xp) (b0 := b0) (g0 := g0) (s0 := s0) (w0 := w0) (y0 := y0) (pd := pd) (rs := rs) (R := R) (v := (-1)) (j := 1) (hv := (by first | omega | assumption | rfl | (simp only []; omega) | decide)) (h1 := (by first | omega | assumption | rfl | (simp only []; omega) | decide)) (h6 := (by first | omega | assumption | rfl | (simp only []; omega) | decide))) cf_X4_refuse lk_X4_50 rfl rfl rfl rfl rfl (by decide +kernel) (Nat.le_of_ble_eq_true rfl) (fun rv_11 wv_12 hp_13 hm_14 => ?_)
    clear hm_14
    obtain ⟨rfl, rfl⟩ := hp_13
    show VV E 0 0 20 [(0, .ref x0), (1, .int p), (2, .int h)] [.int (-1)] [(x0, .inr (4, [.ref a0, .ref xm, .ref xp, .int (bz pd), .ref b0, .ref g0, .ref s0, .ref w0, .int (nI rs), .ref y0])), (a0, .inr (2, [.int (nI n), .int (nI m), .int (nI sh), .int (nI 0), .ref a1, .ref a2, .ref a3, .ref a4, .ref a5, .ref a6])), (a1, .inl (cI, 7, .inl (nIf ki))), (a2, .inl (cI, 7, .inl (nIf op))), (a3, .inl (cI, 7, .inl (nIf fa))), (a4, .inl (cI, 6, .inl (nIf K))), (a5, .inl (cI, 6, .inl (nIf G))), (a6, .inl (cI, 6, .inl (nIf T))), (g0, .inr (0, [.int (nI cs), .ref g1, .ref g2, .ref g3])), (g1, .inl (cI, 8, .inl (nIf so))), (g2, .inl (cI, 8, .inl (nIf wh))), (g3, .inl (cI, 8, .inl (nIf va))), (y0, .inl (cI, 7, .inl (nIf (un R 1 (R 1 + 1)))))]
    refine v_iret zC zT dX4_open_20  ?_
    first | exact Or.inl ⟨Or.inl (by assumption), rfl, rfl⟩ | exact Or.inl ⟨Or.inr (by assumption), rfl, rfl⟩ | exact Or.inr ⟨_, _, hi_p, hi_h, sb1 (by assumption), rfl⟩ | exact Or.inr ⟨_, _, hi_p, hi_h, sb0 (by assumption), rfl⟩
  ·
    show VV E 0 0 5 [(0, .ref x0), (1, .int p), (2, .int h)] [.int (nI 0)] [(x0, .inr (4, [.ref a0, .ref xm, .ref xp, .int (bz pd), .ref b0, .ref g0, .ref s0, .ref w0, .int (nI rs), .ref y0])), (a0, .inr (2, [.int (nI n), .int (nI m), .int (nI sh), .int (nI 0), .ref a1, .ref a2, .ref a3, .ref a4, .ref a5, .ref a6])), (a1, .inl (cI, 7, .inl (nIf ki))), (a2, .inl (cI, 7, .inl (nIf op))), (a3, .inl (cI, 7, .inl (nIf fa))), (a4, .inl (cI, 6, .inl (nIf K))), (a5, .inl (cI, 6, .inl (nIf G))), (a6, .inl (cI, 6, .inl (nIf T))), (g0, .inr (0, [.int (nI cs), .ref g1, .ref g2, .ref g3])), (g1, .inl (cI, 8, .inl (nIf so))), (g2, .inl (cI, 8, .inl (nIf wh))), (g3, .inl (cI, 8, .inl (nIf va))), (y0, .inl (cI, 7, .inl (nIf R)))]
    subst he_7
    have hi_p := hi_8
    refine v_if_ne 15 8 zC dX4_open_5 (fun z => absurd (by decide +kernel) z) (fun _ => ?_)
    refine v_il_n 9 zC dX4_open_8 2 rfl ?_
    refine v_cS (As := [.int h]) (st := []) 12 [] zC dX4_open_9 hA (c_X4_noHour (ev_l E) (ev_D E) cI (p := h) ) cf_X4_noHour lk_X4_124 rfl rfl rfl (by decide +kernel) (Nat.le_of_ble_eq_true rfl) (fun rv_16 wv_17 hp_18 hm_19 => ?_)
    clear hm_19
    rcases hp_18 with ⟨hi_20, rfl, rfl⟩ | ⟨j_21, he_22, hi_23, hj_24, rfl, rfl⟩
    ·
      show VV E 0 0 12 [(0, .ref x0), (1, .int (nI j_6)), (2, .int h)] [.int (nI 1)] [(x0, .inr (4, [.ref a0, .ref xm, .ref xp, .int (bz pd), .ref b0, .ref g0, .ref s0, .ref w0, .int (nI rs), .ref y0])), (a0, .inr (2, [.int (nI n), .int (nI m), .int (nI sh), .int (nI 0), .ref a1, .ref a2, .ref a3, .ref a4, .ref a5, .ref a6])), (a1, .inl (cI, 7, .inl (nIf ki))), (a2, .inl (cI, 7, .inl (nIf op))), (a3, .inl (cI, 7, .inl (nIf fa))), (a4, .inl (cI, 6, .inl (nIf K))), (a5, .inl (cI, 6, .inl (nIf G))), (a6, .inl (cI, 6, .inl (nIf T))), (g0, .inr (0, [.int (nI cs), .ref g1, .ref g2, .ref g3])), (g1, .inl (cI, 8, .inl (nIf so))), (g2, .inl (cI, 8, .inl (nIf wh))), (g3, .inl (cI, 8, .inl (nIf va))), (y0, .inl (cI, 7, .inl (nIf R)))]
      refine v_if_eq 21 15 zC dX4_open_12 (fun z => absurd z (by decide +kernel)) (fun _ => ?_)
      refine v_al_n 16 zC dX4_open_15 0 rfl ?_
      refine v_ic (v := (-1)) 17 zC dX4_open_16 (by decide +kernel) ?_
      refine v_cV (As := [.int (-1)]) (st := []) 20 0 [0, 12] zC dX4_open_17 hA (c_X4_refuse (ev_l E) (ev_D E) cI (x0 := x0) (xn := a0) (xm := xm) (xp := xp) (b0 := b0) (g0 := g0) (s0 := s0) (w0 := w0) (y0 := y0) (pd := pd) (rs := rs) (R := R) (v := (-1)) (j := 1) (hv := (by first | omega | assumption | rfl | (simp only []; omega) | decide)) (h1 := (by first | omega | assumption | rfl | (simp only []; omega) | decide)) (h6 := (by first | omega | assumption | rfl | (simp only []; omega) | decide))) cf_X4_refuse lk_X4_50 rfl rfl rfl rfl rfl (by decide +kernel) (Nat.le_of_ble_eq_true rfl) (fun rv_26 wv_27 hp_28 hm_29 => ?_)
      clear hm_29
      obtain ⟨rfl, rfl⟩ := hp_28
      show VV E 0 0 20 [(0, .ref x0), (1, .int (nI j_6)), (2, .int h)] [.int (-1)] [(x0, .inr (4, [.ref a0, .ref xm, .ref xp, .int (bz pd), .ref b0, .ref g0, .ref s0, .ref w0, .int (nI rs), .ref y0])), (a0, .inr (2, [.int (nI n), .int (nI m), .int (nI sh), .int (nI 0), .ref a1, .ref a2, .ref a3, .ref a4, .ref a5, .ref a6])), (a1, .inl (cI, 7, .inl (nIf ki))), (a2, .inl (cI, 7, .inl (nIf op))), (a3, .inl (cI, 7, .inl (nIf fa))), (a4, .inl (cI, 6, .inl (nIf K))), (a5, .inl (cI, 6, .inl (nIf G))), (a6, .inl (cI, 6, .inl (nIf T))), (g0, .inr (0, [.int (nI cs), .ref g1, .ref g2, .ref g3])), (g1, .inl (cI, 8, .inl (nIf so))), (g2, .inl (cI, 8, .inl (nIf wh))), (g3, .inl (cI, 8, .inl (nIf va))), (y0, .inl (cI, 7, .inl (nIf (un R 1 (R 1 + 1)))))]
      refine v_iret zC zT dX4_open_20  ?_
      first | exact Or.inl ⟨Or.inl (by assumption), rfl, rfl⟩ | exact Or.inl ⟨Or.inr (by assumption), rfl, rfl⟩ | exact Or.inr ⟨_, _, hi_p, hi_h, sb1 (by assumption), rfl⟩ | exact Or.inr ⟨_, _, hi_p, hi_h, sb0 (by assumption), rfl⟩
    ·
      show VV E 0 0 12 [(0, .ref x0), (1, .int (nI j_6)), (2, .int h)] [.int (nI 0)] [(x0, .inr (4, [.ref a0, .ref xm, .ref xp, .int (bz pd), .ref b0, .ref g0, .ref s0, .ref w0, .int (nI rs), .ref y0])), (a0, .inr (2, [.int (nI n), .int (nI m), .int (nI sh), .int (nI 0), .ref a1, .ref a2, .ref a3, .ref a4, .ref a5, .ref a6])), (a1, .inl (cI, 7, .inl (nIf ki))), (a2, .inl (cI, 7, .inl (nIf op))), (a3, .inl (cI, 7, .inl (nIf fa))), (a4, .inl (cI, 6, .inl (nIf K))), (a5, .inl (cI, 6, .inl (nIf G))), (a6, .inl (cI, 6, .inl (nIf T))), (g0, .inr (0, [.int (nI cs), .ref g1, .ref g2, .ref g3])), (g1, .inl (cI, 8, .inl (nIf so))), (g2, .inl (cI, 8, .inl (nIf wh))), (g3, .inl (cI, 8, .inl (nIf va))), (y0, .inl (cI, 7, .inl (nIf R)))]
      subst he_22
      have hi_h := hi_23
      refine v_if_eq 21 15 zC dX4_open_12 (fun _ => ?_) (fun z => absurd (by decide +kernel) z)
      refine v_al_n 22 zC dX4_open_21 0 rfl ?_
      refine v_gf 25 0 zC dX4_open_22 gf_X4_12 rfl rfl ?_
      refine v_il_n 26 zC dX4_open_25 1 rfl ?_
      refine v_il_n 27 zC dX4_open_26 2 rfl ?_
      refine v_cV (As := [.int (nI j_6), .int (nI j_21)]) (st := []) 30 1 [1, 3] zC dX4_open_27 hA (c_X2_turnOpen (ev_l E) (ev_D E) cI (a0 := a0) (a1 := a1) (a2 := a2) (a3 := a3) (a4 := a4) (a5 := a5) (a6 := a6) (n := n) (m := m) (sh := sh) (aw := 0) (op := op) (p := j_6) (h := j_21) (hn := (by first | omega | assumption | rfl | (simp only []; omega) | decide)) (hp := (by first | omega | assumption | rfl | (simp only []; omega) | decide)) (hh := (by first | omega | assumption | rfl | (simp only []; omega) | decide))) cf_X2_turnOpen lk_X4_127 rfl rfl rfl rfl rfl (by decide +kernel) (Nat.le_of_ble_eq_true rfl) (fun rv_31 wv_32 hp_33 hm_34 => ?_)
      clear hm_34
      obtain ⟨rfl, rfl⟩ := hp_33
      show VV E 0 0 30 [(0, .ref x0), (1, .int (nI j_6)), (2, .int (nI j_21))] [] [(x0, .inr (4, [.ref a0, .ref xm, .ref xp, .int (bz pd), .ref b0, .ref g0, .ref s0, .ref w0, .int (nI rs), .ref y0])), (a0, .inr (2, [.int (nI n), .int (nI m), .int (nI sh), .int (nI 0), .ref a1, .ref a2, .ref a3, .ref a4, .ref a5, .ref a6])), (a1, .inl (cI, 7, .inl (nIf ki))), (a2, .inl (cI, 7, .inl (nIf (un op j_6 (op j_6 ^^^ 2 ^ j_21))))), (a3, .inl (cI, 7, .inl (nIf fa))), (a4, .inl (cI, 6, .inl (nIf K))), (a5, .inl (cI, 6, .inl (nIf G))), (a6, .inl (cI, 6, .inl (nIf T))), (g0, .inr (0, [.int (nI cs), .ref g1, .ref g2, .ref g3])), (g1, .inl (cI, 8, .inl (nIf so))), (g2, .inl (cI, 8, .inl (nIf wh))), (g3, .inl (cI, 8, .inl (nIf va))), (y0, .inl (cI, 7, .inl (nIf R)))]
      refine v_al_n 31 zC dX4_open_30 0 rfl ?_
      refine v_gf 34 0 zC dX4_open_31 gf_X4_32 rfl rfl ?_
      refine v_ic (v := (nI 0)) 35 zC dX4_open_34 (by decide +kernel) ?_
      refine v_il_n 36 zC dX4_open_35 1 rfl ?_
      refine v_il_n 37 zC dX4_open_36 2 rfl ?_
      refine v_cV (As := [.int (nI 0), .int (nI j_6), .int (nI j_21)]) (st := []) 40 8 [8, 9, 10, 11] zC dX4_open_37 hA (c_X0_add (ev_l E) (ev_D E) cI (g0 := g0) (g1 := g1) (g2 := g2) (g3 := g3) (cs := cs) (so := so) (wh := wh) (va := va) (s := 0) (o := j_6) (v := j_21) (hc := (by first | omega | assumption | rfl | (simp only []; omega) | decide))) cf_X0_add lk_X4_131 rfl rfl rfl rfl rfl (by decide +kernel) (Nat.le_of_ble_eq_true rfl) (fun rv_35 wv_36 hp_37 hm_38 => ?_)
      clear hm_38
      obtain ⟨rfl, rfl⟩ := hp_37
      show VV E 0 0 40 [(0, .ref x0), (1, .int (nI j_6)), (2, .int (nI j_21))] [] [(x0, .inr (4, [.ref a0, .ref xm, .ref xp, .int (bz pd), .ref b0, .ref g0, .ref s0, .ref w0, .int (nI rs), .ref y0])), (a0, .inr (2, [.int (nI n), .int (nI m), .int (nI sh), .int (nI 0), .ref a1, .ref a2, .ref a3, .ref a4, .ref a5, .ref a6])), (a1, .inl (cI, 7, .inl (nIf ki))), (a2, .inl (cI, 7, .inl (nIf (un op j_6 (op j_6 ^^^ 2 ^ j_21))))), (a3, .inl (cI, 7, .inl (nIf fa))), (a4, .inl (cI, 6, .inl (nIf K))), (a5, .inl (cI, 6, .inl (nIf G))), (a6, .inl (cI, 6, .inl (nIf T))), (g0, .inr (0, [.int (nI (csz cs)), .ref g1, .ref g2, .ref g3])), (g1, .inl (cI, 8, .inl (nIf (shp so cs 0)))), (g2, .inl (cI, 8, .inl (nIf (shp wh cs j_6)))), (g3, .inl (cI, 8, .inl (nIf (shp va cs j_21)))), (y0, .inl (cI, 7, .inl (nIf R)))]
      refine v_al_n 41 zC dX4_open_40 0 rfl ?_
      refine v_gf 44 0 zC dX4_open_41 gf_X4_12 rfl rfl ?_
      refine v_il_n 45 zC dX4_open_44 1 rfl ?_
      refine v_il_n 46 zC dX4_open_45 2 rfl ?_
      refine v_cV (As := [.int (nI j_6), .int (nI j_21)]) (st := []) 49 1 [1, 3] zC dX4_open_46 hA (c_X2_isOpen (ev_l E) (ev_D E) cI (a0 := a0) (a1 := a1) (a2 := a2) (a3 := a3) (a4 := a4) (a5 := a5) (a6 := a6) (n := n) (m := m) (sh := sh) (aw := 0) (op := (un op j_6 (op j_6 ^^^ 2 ^ j_21))) (p := j_6) (x := j_21) (hn := (by first | omega | assumption | rfl | (simp only []; omega) | decide)) (hp := (by first | omega | assumption | rfl | (simp only []; omega) | decide)) (hx := (by first | omega | assumption | rfl | (simp only []; omega) | decide))) cf_X2_isOpen lk_X4_134 rfl rfl rfl rfl rfl (by decide +kernel) (Nat.le_of_ble_eq_true rfl) (fun rv_39 wv_40 hp_41 hm_42 => ?_)
      clear hm_42
      obtain ⟨rfl, rfl⟩ := hp_41
      show VV E 0 0 49 [(0, .ref x0), (1, .int (nI j_6)), (2, .int (nI j_21))] [.int (bz (Nat.testBit ((un op j_6 (op j_6 ^^^ 2 ^ j_21)) j_6) j_21))] [(x0, .inr (4, [.ref a0, .ref xm, .ref xp, .int (bz pd), .ref b0, .ref g0, .ref s0, .ref w0, .int (nI rs), .ref y0])), (a0, .inr (2, [.int (nI n), .int (nI m), .int (nI sh), .int (nI 0), .ref a1, .ref a2, .ref a3, .ref a4, .ref a5, .ref a6])), (a1, .inl (cI, 7, .inl (nIf ki))), (a2, .inl (cI, 7, .inl (nIf (un op j_6 (op j_6 ^^^ 2 ^ j_21))))), (a3, .inl (cI, 7, .inl (nIf fa))), (a4, .inl (cI, 6, .inl (nIf K))), (a5, .inl (cI, 6, .inl (nIf G))), (a6, .inl (cI, 6, .inl (nIf T))), (g0, .inr (0, [.int (nI (csz cs)), .ref g1, .ref g2, .ref g3])), (g1, .inl (cI, 8, .inl (nIf (shp so cs 0)))), (g2, .inl (cI, 8, .inl (nIf (shp wh cs j_6)))), (g3, .inl (cI, 8, .inl (nIf (shp va cs j_21)))), (y0, .inl (cI, 7, .inl (nIf R)))]
      refine v_ifb_eq 56 52 zC dX4_open_49 (fun h_43 => ?_) (fun h_43 => ?_)
      ·
        refine v_ic (v := (nI 0)) 57 zC dX4_open_56 (by decide +kernel) ?_
        refine v_iret zC zT dX4_open_57  ?_
        first | exact Or.inl ⟨Or.inl (by assumption), rfl, rfl⟩ | exact Or.inl ⟨Or.inr (by assumption), rfl, rfl⟩ | exact Or.inr ⟨_, _, hi_p, hi_h, sb1 (by assumption), rfl⟩ | exact Or.inr ⟨_, _, hi_p, hi_h, sb0 (by assumption), rfl⟩
      ·
        refine v_ic (v := (nI 1)) 53 zC dX4_open_52 (by decide +kernel) ?_
        refine v_goto 57 zC dX4_open_53 ?_
        refine v_iret zC zT dX4_open_57  ?_
        first | exact Or.inl ⟨Or.inl (by assumption), rfl, rfl⟩ | exact Or.inl ⟨Or.inr (by assumption), rfl, rfl⟩ | exact Or.inr ⟨_, _, hi_p, hi_h, sb1 (by assumption), rfl⟩ | exact Or.inr ⟨_, _, hi_p, hi_h, sb0 (by assumption), rfl⟩
set_option maxRecDepth 100000 in
set_option maxHeartbeats 4000000 in
theorem c_X4_kin (l : Launch) (D : va_G) (cI : ClassId) (x0 xm xp y0 : Nat) (pd : Bool) (rs : Nat) (b0 s0 w0 : Nat) (a0 a1 a2 a3 a4 a5 a6 : Nat) (n m sh : Nat) (ki op fa K G T : Nat → Nat) (g0 g1 g2 g3 : Nat) (cs : Nat) (so wh va : Nat → Nat) (R : Nat → Nat) (p h : Int32) (hw : FW n m sh ki op fa K G T) (hc : cs ≤ 8) : CT l yX4_kin cX4_kin 3 (some .int) { frames := 2, cells := 0, slots := 0, locals := 63 } D cI [.ref x0, .int p, .int h] [(x0, .inr (4, [.ref a0, .ref xm, .ref xp, .int (bz pd), .ref b0, .ref g0, .ref s0, .ref w0, .int (nI rs), .ref y0])), (a0, .inr (2, [.int (nI n), .int (nI m), .int (nI sh), .int (nI 0), .ref a1, .ref a2, .ref a3, .ref a4, .ref a5, .ref a6])), (a1, .inl (cI, 7, .inl (nIf ki))), (a2, .inl (cI, 7, .inl (nIf op))), (a3, .inl (cI, 7, .inl (nIf fa))), (a4, .inl (cI, 6, .inl (nIf K))), (a5, .inl (cI, 6, .inl (nIf G))), (a6, .inl (cI, 6, .inl (nIf T))), (g0, .inr (0, [.int (nI cs), .ref g1, .ref g2, .ref g3])), (g1, .inl (cI, 8, .inl (nIf so))), (g2, .inl (cI, 8, .inl (nIf wh))), (g3, .inl (cI, 8, .inl (nIf va))), (y0, .inl (cI, 7, .inl (nIf R)))] (fun zr zw => ((IX n p = none ∨ IX m h = none) ∧ zr = some (.int (-1)) ∧ zw = [(x0, .inr (4, [.ref a0, .ref xm, .ref xp, .int (bz pd), .ref b0, .ref g0, .ref s0, .ref w0, .int (nI rs), .ref y0])), (a0, .inr (2, [.int (nI n), .int (nI m), .int (nI sh), .int (nI 0), .ref a1, .ref a2, .ref a3, .ref a4, .ref a5, .ref a6])), (a1, .inl (cI, 7, .inl (nIf ki))), (a2, .inl (cI, 7, .inl (nIf op))), (a3, .inl (cI, 7, .inl (nIf fa))), (a4, .inl (cI, 6, .inl (nIf K))), (a5, .inl (cI, 6, .inl (nIf G))), (a6, .inl (cI, 6, .inl (nIf T))), (g0, .inr (0, [.int (nI cs), .ref g1, .ref g2, .ref g3])), (g1, .inl (cI, 8, .inl (nIf so))), (g2, .inl (cI, 8, .inl (nIf wh))), (g3, .inl (cI, 8, .inl (nIf va))), (y0, .inl (cI, 7, .inl (nIf (un R 1 (R 1 + 1)))))]) ∨ (∃ j : Nat, ∃ k : Nat, (IX n p = some j) ∧ (IX m h = some k) ∧ zr = some (.int (bz (Nat.testBit (un ki j (ki j ^^^ 2 ^ k) j) k))) ∧ zw = [(x0, .inr (4, [.ref a0, .ref xm, .ref xp, .int (bz pd), .ref b0, .ref g0, .ref s0, .ref w0, .int (nI rs), .ref y0])), (a0, .inr (2, [.int (nI n), .int (nI m), .int (nI sh), .int (nI 0), .ref a1, .ref a2, .ref a3, .ref a4, .ref a5, .ref a6])), (a1, .inl (cI, 7, .inl (nIf (un ki j (ki j ^^^ 2 ^ k))))), (a2, .inl (cI, 7, .inl (nIf op))), (a3, .inl (cI, 7, .inl (nIf fa))), (a4, .inl (cI, 6, .inl (nIf K))), (a5, .inl (cI, 6, .inl (nIf G))), (a6, .inl (cI, 6, .inl (nIf T))), (g0, .inr (0, [.int (nI (csz cs)), .ref g1, .ref g2, .ref g3])), (g1, .inl (cI, 8, .inl (nIf (shp so cs 2)))), (g2, .inl (cI, 8, .inl (nIf (shp wh cs j)))), (g3, .inl (cI, 8, .inl (nIf (shp va cs k)))), (y0, .inl (cI, 7, .inl (nIf R)))])) := by
  refine CT_of RX4 rfl (by decide +kernel) (Nat.le_of_ble_eq_true rfl) (fun E hnE zC zT => ?_)
  have hA : ∀ q, (ev_s E).heap.size ≤ q → ev_A E q := fun q h => by rw [zT.2]; exact Or.inr h
  obtain ⟨hn, hm, hsh, hki, hop, hfa, hK, hG, hT, vki, vop, vfa, vK, vG, vT⟩ := id hw
  show VV E 0 0 0 [(0, .ref x0), (1, .int p), (2, .int h)] [] [(x0, .inr (4, [.ref a0, .ref xm, .ref xp, .int (bz pd), .ref b0, .ref g0, .ref s0, .ref w0, .int (nI rs), .ref y0])), (a0, .inr (2, [.int (nI n), .int (nI m), .int (nI sh), .int (nI 0), .ref a1, .ref a2, .ref a3, .ref a4, .ref a5, .ref a6])), (a1, .inl (cI, 7, .inl (nIf ki))), (a2, .inl (cI, 7, .inl (nIf op))), (a3, .inl (cI, 7, .inl (nIf fa))), (a4, .inl (cI, 6, .inl (nIf K))), (a5, .inl (cI, 6, .inl (nIf G))), (a6, .inl (cI, 6, .inl (nIf T))), (g0, .inr (0, [.int (nI cs), .ref g1, .ref g2, .ref g3])), (g1, .inl (cI, 8, .inl (nIf so))), (g2, .inl (cI, 8, .inl (nIf wh))), (g3, .inl (cI, 8, .inl (nIf va))), (y0, .inl (cI, 7, .inl (nIf R)))]
  refine v_al_n 1 zC dX4_kin_0 0 rfl ?_
  refine v_il_n 2 zC dX4_kin_1 1 rfl ?_
  refine v_cV (As := [.int p]) (st := []) 5 0 [0, 1] zC dX4_kin_2 hA (c_X4_noPerson (ev_l E) (ev_D E) cI (x0 := x0) (xm := xm) (xp := xp) (b0 := b0) (g0 := g0) (s0 := s0) (w0 := w0) (y0 := y0) (pd := pd) (rs := rs) (a0 := a0) (a1 := a1) (a2 := a2) (a3 := a3) (a4 := a4) (a5 := a5) (a6 := a6) (n := n) (m := m) (sh := sh) (p := p) (hn := (by first | omega | assumption | rfl | (simp only []; omega) | decide))) cf_X4_noPerson lk_X4_79 rfl rfl rfl rfl rfl (by decide +kernel) (Nat.le_of_ble_eq_true rfl) (fun rv_1 wv_2 hp_3 hm_4 => ?_)
  clear hm_4
  rcases hp_3 with ⟨hi_5, rfl, rfl⟩ | ⟨j_6, he_7, hi_8, hj_9, rfl, rfl⟩
  ·
    show VV E 0 0 5 [(0, .ref x0), (1, .int p), (2, .int h)] [.int (nI 1)] [(x0, .inr (4, [.ref a0, .ref xm, .ref xp, .int (bz pd), .ref b0, .ref g0, .ref s0, .ref w0, .int (nI rs), .ref y0])), (a0, .inr (2, [.int (nI n), .int (nI m), .int (nI sh), .int (nI 0), .ref a1, .ref a2, .ref a3, .ref a4, .ref a5, .ref a6])), (a1, .inl (cI, 7, .inl (nIf ki))), (a2, .inl (cI, 7, .inl (nIf op))), (a3, .inl (cI, 7, .inl (nIf fa))), (a4, .inl (cI, 6, .inl (nIf K))), (a5, .inl (cI, 6, .inl (nIf G))), (a6, .inl (cI, 6, .inl (nIf T))), (g0, .inr (0, [.int (nI cs), .ref g1, .ref g2, .ref g3])), (g1, .inl (cI, 8, .inl (nIf so))), (g2, .inl (cI, 8, .inl (nIf wh))), (g3, .inl (cI, 8, .inl (nIf va))), (y0, .inl (cI, 7, .inl (nIf R)))]
    refine v_if_ne 16 8 zC dX4_kin_5 (fun _ => ?_) (fun z => absurd z (by decide +kernel))
    refine v_al_n 17 zC dX4_kin_16 0 rfl ?_
    refine v_ic (v := (-1)) 18 zC dX4_kin_17 (by decide +kernel) ?_
    refine v_cV (As := [.int (-1)]) (st := []) 21 0 [0, 12] zC dX4_kin_18 hA (c_X4_refuse (ev_l E) (ev_D E) cI (x0 := x0) (xn := a0) (xm := xm) (xp := xp) (b0 := b0) (g0 := g0) (s0 := s0) (w0 := w0) (y0 := y0) (pd := pd) (rs := rs) (R := R) (v := (-1)) (j := 1) (hv := (by first | omega | assumption | rfl | (simp only []; omega) | decide)) (h1 := (by first | omega | assumption | rfl | (simp only []; omega) | decide)) (h6 := (by first | omega | assumption | rfl | (simp only []; omega) | decide))) cf_X4_refuse lk_X4_50 rfl rfl rfl rfl rfl (by decide +kernel) (Nat.le_of_ble_eq_true rfl) (fun rv_11 wv_12 hp_13 hm_14 => ?_)
    clear hm_14
    obtain ⟨rfl, rfl⟩ := hp_13
    show VV E 0 0 21 [(0, .ref x0), (1, .int p), (2, .int h)] [.int (-1)] [(x0, .inr (4, [.ref a0, .ref xm, .ref xp, .int (bz pd), .ref b0, .ref g0, .ref s0, .ref w0, .int (nI rs), .ref y0])), (a0, .inr (2, [.int (nI n), .int (nI m), .int (nI sh), .int (nI 0), .ref a1, .ref a2, .ref a3, .ref a4, .ref a5, .ref a6])), (a1, .inl (cI, 7, .inl (nIf ki))), (a2, .inl (cI, 7, .inl (nIf op))), (a3, .inl (cI, 7, .inl (nIf fa))), (a4, .inl (cI, 6, .inl (nIf K))), (a5, .inl (cI, 6, .inl (nIf G))), (a6, .inl (cI, 6, .inl (nIf T))), (g0, .inr (0, [.int (nI cs), .ref g1, .ref g2, .ref g3])), (g1, .inl (cI, 8, .inl (nIf so))), (g2, .inl (cI, 8, .inl (nIf wh))), (g3, .inl (cI, 8, .inl (nIf va))), (y0, .inl (cI, 7, .inl (nIf (un R 1 (R 1 + 1)))))]
    refine v_iret zC zT dX4_kin_21  ?_
    first | exact Or.inl ⟨Or.inl (by assumption), rfl, rfl⟩ | exact Or.inl ⟨Or.inr (by assumption), rfl, rfl⟩ | exact Or.inr ⟨_, _, hi_p, hi_h, sb1 (by assumption), rfl⟩ | exact Or.inr ⟨_, _, hi_p, hi_h, sb0 (by assumption), rfl⟩
  ·
    show VV E 0 0 5 [(0, .ref x0), (1, .int p), (2, .int h)] [.int (nI 0)] [(x0, .inr (4, [.ref a0, .ref xm, .ref xp, .int (bz pd), .ref b0, .ref g0, .ref s0, .ref w0, .int (nI rs), .ref y0])), (a0, .inr (2, [.int (nI n), .int (nI m), .int (nI sh), .int (nI 0), .ref a1, .ref a2, .ref a3, .ref a4, .ref a5, .ref a6])), (a1, .inl (cI, 7, .inl (nIf ki))), (a2, .inl (cI, 7, .inl (nIf op))), (a3, .inl (cI, 7, .inl (nIf fa))), (a4, .inl (cI, 6, .inl (nIf K))), (a5, .inl (cI, 6, .inl (nIf G))), (a6, .inl (cI, 6, .inl (nIf T))), (g0, .inr (0, [.int (nI cs), .ref g1, .ref g2, .ref g3])), (g1, .inl (cI, 8, .inl (nIf so))), (g2, .inl (cI, 8, .inl (nIf wh))), (g3, .inl (cI, 8, .inl (nIf va))), (y0, .inl (cI, 7, .inl (nIf R)))]
    subst he_7
    have hi_p := hi_8
    refine v_if_ne 16 8 zC dX4_kin_5 (fun z => absurd (by decide +kernel) z) (fun _ => ?_)
    refine v_al_n 9 zC dX4_kin_8 0 rfl ?_
    refine v_il_n 10 zC dX4_kin_9 2 rfl ?_
    refine v_cV (As := [.int h]) (st := []) 13 0 [0, 1] zC dX4_kin_10 hA (c_X4_noDead (ev_l E) (ev_D E) cI (x0 := x0) (xm := xm) (xp := xp) (b0 := b0) (g0 := g0) (s0 := s0) (w0 := w0) (y0 := y0) (pd := pd) (rs := rs) (a0 := a0) (a1 := a1) (a2 := a2) (a3 := a3) (a4 := a4) (a5 := a5) (a6 := a6) (n := n) (m := m) (sh := sh) (p := h) (hm := (by first | omega | assumption | rfl | (simp only []; omega) | decide))) cf_X4_noDead lk_X4_99 rfl rfl rfl rfl rfl (by decide +kernel) (Nat.le_of_ble_eq_true rfl) (fun rv_16 wv_17 hp_18 hm_19 => ?_)
    clear hm_19
    rcases hp_18 with ⟨hi_20, rfl, rfl⟩ | ⟨j_21, he_22, hi_23, hj_24, rfl, rfl⟩
    ·
      show VV E 0 0 13 [(0, .ref x0), (1, .int (nI j_6)), (2, .int h)] [.int (nI 1)] [(x0, .inr (4, [.ref a0, .ref xm, .ref xp, .int (bz pd), .ref b0, .ref g0, .ref s0, .ref w0, .int (nI rs), .ref y0])), (a0, .inr (2, [.int (nI n), .int (nI m), .int (nI sh), .int (nI 0), .ref a1, .ref a2, .ref a3, .ref a4, .ref a5, .ref a6])), (a1, .inl (cI, 7, .inl (nIf ki))), (a2, .inl (cI, 7, .inl (nIf op))), (a3, .inl (cI, 7, .inl (nIf fa))), (a4, .inl (cI, 6, .inl (nIf K))), (a5, .inl (cI, 6, .inl (nIf G))), (a6, .inl (cI, 6, .inl (nIf T))), (g0, .inr (0, [.int (nI cs), .ref g1, .ref g2, .ref g3])), (g1, .inl (cI, 8, .inl (nIf so))), (g2, .inl (cI, 8, .inl (nIf wh))), (g3, .inl (cI, 8, .inl (nIf va))), (y0, .inl (cI, 7, .inl (nIf R)))]
      refine v_if_eq 22 16 zC dX4_kin_13 (fun z => absurd z (by decide +kernel)) (fun _ => ?_)
      refine v_al_n 17 zC dX4_kin_16 0 rfl ?_
      refine v_ic (v := (-1)) 18 zC dX4_kin_17 (by decide +kernel) ?_
      refine v_cV (As := [.int (-1)]) (st := []) 21 0 [0, 12] zC dX4_kin_18 hA (c_X4_refuse (ev_l E) (ev_D E) cI (x0 := x0) (xn := a0) (xm := xm) (xp := xp) (b0 := b0) (g0 := g0) (s0 := s0) (w0 := w0) (y0 := y0) (pd := pd) (rs := rs) (R := R) (v := (-1)) (j := 1) (hv := (by first | omega | assumption | rfl | (simp only []; omega) | decide)) (h1 := (by first | omega | assumption | rfl | (simp only []; omega) | decide)) (h6 := (by first | omega | assumption | rfl | (simp only []; omega) | decide))) cf_X4_refuse lk_X4_50 rfl rfl rfl rfl rfl (by decide +kernel) (Nat.le_of_ble_eq_true rfl) (fun rv_26 wv_27 hp_28 hm_29 => ?_)
      clear hm_29
      obtain ⟨rfl, rfl⟩ := hp_28
      show VV E 0 0 21 [(0, .ref x0), (1, .int (nI j_6)), (2, .int h)] [.int (-1)] [(x0, .inr (4, [.ref a0, .ref xm, .ref xp, .int (bz pd), .ref b0, .ref g0, .ref s0, .ref w0, .int (nI rs), .ref y0])), (a0, .inr (2, [.int (nI n), .int (nI m), .int (nI sh), .int (nI 0), .ref a1, .ref a2, .ref a3, .ref a4, .ref a5, .ref a6])), (a1, .inl (cI, 7, .inl (nIf ki))), (a2, .inl (cI, 7, .inl (nIf op))), (a3, .inl (cI, 7, .inl (nIf fa))), (a4, .inl (cI, 6, .inl (nIf K))), (a5, .inl (cI, 6, .inl (nIf G))), (a6, .inl (cI, 6, .inl (nIf T))), (g0, .inr (0, [.int (nI cs), .ref g1, .ref g2, .ref g3])), (g1, .inl (cI, 8, .inl (nIf so))), (g2, .inl (cI, 8, .inl (nIf wh))), (g3, .inl (cI, 8, .inl (nIf va))), (y0, .inl (cI, 7, .inl (nIf (un R 1 (R 1 + 1)))))]
      refine v_iret zC zT dX4_kin_21  ?_
      first | exact Or.inl ⟨Or.inl (by assumption), rfl, rfl⟩ | exact Or.inl ⟨Or.inr (by assumption), rfl, rfl⟩ | exact Or.inr ⟨_, _, hi_p, hi_h, sb1 (by assumption), rfl⟩ | exact Or.inr ⟨_, _, hi_p, hi_h, sb0 (by assumption), rfl⟩
    ·
      show VV E 0 0 13 [(0, .ref x0), (1, .int (nI j_6)), (2, .int h)] [.int (nI 0)] [(x0, .inr (4, [.ref a0, .ref xm, .ref xp, .int (bz pd), .ref b0, .ref g0, .ref s0, .ref w0, .int (nI rs), .ref y0])), (a0, .inr (2, [.int (nI n), .int (nI m), .int (nI sh), .int (nI 0), .ref a1, .ref a2, .ref a3, .ref a4, .ref a5, .ref a6])), (a1, .inl (cI, 7, .inl (nIf ki))), (a2, .inl (cI, 7, .inl (nIf op))), (a3, .inl (cI, 7, .inl (nIf fa))), (a4, .inl (cI, 6, .inl (nIf K))), (a5, .inl (cI, 6, .inl (nIf G))), (a6, .inl (cI, 6, .inl (nIf T))), (g0, .inr (0, [.int (nI cs), .ref g1, .ref g2, .ref g3])), (g1, .inl (cI, 8, .inl (nIf so))), (g2, .inl (cI, 8, .inl (nIf wh))), (g3, .inl (cI, 8, .inl (nIf va))), (y0, .inl (cI, 7, .inl (nIf R)))]
      subst he_22
      have hi_h := hi_23
      refine v_if_eq 22 16 zC dX4_kin_13 (fun _ => ?_) (fun z => absurd (by decide +kernel) z)
      refine v_al_n 23 zC dX4_kin_22 0 rfl ?_
      refine v_gf 26 0 zC dX4_kin_23 gf_X4_12 rfl rfl ?_
      refine v_il_n 27 zC dX4_kin_26 1 rfl ?_
      refine v_il_n 28 zC dX4_kin_27 2 rfl ?_
      refine v_cV (As := [.int (nI j_6), .int (nI j_21)]) (st := []) 31 1 [1, 2] zC dX4_kin_28 hA (c_X2_turnKin (ev_l E) (ev_D E) cI (a0 := a0) (a1 := a1) (a2 := a2) (a3 := a3) (a4 := a4) (a5 := a5) (a6 := a6) (n := n) (m := m) (sh := sh) (aw := 0) (ki := ki) (p := j_6) (d := j_21) (hn := (by first | omega | assumption | rfl | (simp only []; omega) | decide)) (hp := (by first | omega | assumption | rfl | (simp only []; omega) | decide)) (hd := (by first | omega | assumption | rfl | (simp only []; omega) | decide))) cf_X2_turnKin lk_X4_140 rfl rfl rfl rfl rfl (by decide +kernel) (Nat.le_of_ble_eq_true rfl) (fun rv_31 wv_32 hp_33 hm_34 => ?_)
      clear hm_34
      obtain ⟨rfl, rfl⟩ := hp_33
      show VV E 0 0 31 [(0, .ref x0), (1, .int (nI j_6)), (2, .int (nI j_21))] [] [(x0, .inr (4, [.ref a0, .ref xm, .ref xp, .int (bz pd), .ref b0, .ref g0, .ref s0, .ref w0, .int (nI rs), .ref y0])), (a0, .inr (2, [.int (nI n), .int (nI m), .int (nI sh), .int (nI 0), .ref a1, .ref a2, .ref a3, .ref a4, .ref a5, .ref a6])), (a1, .inl (cI, 7, .inl (nIf (un ki j_6 (ki j_6 ^^^ 2 ^ j_21))))), (a2, .inl (cI, 7, .inl (nIf op))), (a3, .inl (cI, 7, .inl (nIf fa))), (a4, .inl (cI, 6, .inl (nIf K))), (a5, .inl (cI, 6, .inl (nIf G))), (a6, .inl (cI, 6, .inl (nIf T))), (g0, .inr (0, [.int (nI cs), .ref g1, .ref g2, .ref g3])), (g1, .inl (cI, 8, .inl (nIf so))), (g2, .inl (cI, 8, .inl (nIf wh))), (g3, .inl (cI, 8, .inl (nIf va))), (y0, .inl (cI, 7, .inl (nIf R)))]
      refine v_al_n 32 zC dX4_kin_31 0 rfl ?_
      refine v_gf 35 0 zC dX4_kin_32 gf_X4_32 rfl rfl ?_
      refine v_ic (v := (nI 2)) 36 zC dX4_kin_35 (by decide +kernel) ?_
      refine v_il_n 37 zC dX4_kin_36 1 rfl ?_
      refine v_il_n 38 zC dX4_kin_37 2 rfl ?_
      refine v_cV (As := [.int (nI 2), .int (nI j_6), .int (nI j_21)]) (st := []) 41 8 [8, 9, 10, 11] zC dX4_kin_38 hA (c_X0_add (ev_l E) (ev_D E) cI (g0 := g0) (g1 := g1) (g2 := g2) (g3 := g3) (cs := cs) (so := so) (wh := wh) (va := va) (s := 2) (o := j_6) (v := j_21) (hc := (by first | omega | assumption | rfl | (simp only []; omega) | decide))) cf_X0_add lk_X4_131 rfl rfl rfl rfl rfl (by decide +kernel) (Nat.le_of_ble_eq_true rfl) (fun rv_35 wv_36 hp_37 hm_38 => ?_)
      clear hm_38
      obtain ⟨rfl, rfl⟩ := hp_37
      show VV E 0 0 41 [(0, .ref x0), (1, .int (nI j_6)), (2, .int (nI j_21))] [] [(x0, .inr (4, [.ref a0, .ref xm, .ref xp, .int (bz pd), .ref b0, .ref g0, .ref s0, .ref w0, .int (nI rs), .ref y0])), (a0, .inr (2, [.int (nI n), .int (nI m), .int (nI sh), .int (nI 0), .ref a1, .ref a2, .ref a3, .ref a4, .ref a5, .ref a6])), (a1, .inl (cI, 7, .inl (nIf (un ki j_6 (ki j_6 ^^^ 2 ^ j_21))))), (a2, .inl (cI, 7, .inl (nIf op))), (a3, .inl (cI, 7, .inl (nIf fa))), (a4, .inl (cI, 6, .inl (nIf K))), (a5, .inl (cI, 6, .inl (nIf G))), (a6, .inl (cI, 6, .inl (nIf T))), (g0, .inr (0, [.int (nI (csz cs)), .ref g1, .ref g2, .ref g3])), (g1, .inl (cI, 8, .inl (nIf (shp so cs 2)))), (g2, .inl (cI, 8, .inl (nIf (shp wh cs j_6)))), (g3, .inl (cI, 8, .inl (nIf (shp va cs j_21)))), (y0, .inl (cI, 7, .inl (nIf R)))]
      refine v_al_n 42 zC dX4_kin_41 0 rfl ?_
      refine v_gf 45 0 zC dX4_kin_42 gf_X4_12 rfl rfl ?_
      refine v_il_n 46 zC dX4_kin_45 1 rfl ?_
      refine v_il_n 47 zC dX4_kin_46 2 rfl ?_
      refine v_cV (As := [.int (nI j_6), .int (nI j_21)]) (st := []) 50 1 [1, 2] zC dX4_kin_47 hA (c_X2_isKin (ev_l E) (ev_D E) cI (a0 := a0) (a1 := a1) (a2 := a2) (a3 := a3) (a4 := a4) (a5 := a5) (a6 := a6) (n := n) (m := m) (sh := sh) (aw := 0) (ki := (un ki j_6 (ki j_6 ^^^ 2 ^ j_21))) (p := j_6) (x := j_21) (hn := (by first | omega | assumption | rfl | (simp only []; omega) | decide)) (hp := (by first | omega | assumption | rfl | (simp only []; omega) | decide)) (hx := (by first | omega | assumption | rfl | (simp only []; omega) | decide))) cf_X2_isKin lk_X4_143 rfl rfl rfl rfl rfl (by decide +kernel) (Nat.le_of_ble_eq_true rfl) (fun rv_39 wv_40 hp_41 hm_42 => ?_)
      clear hm_42
      obtain ⟨rfl, rfl⟩ := hp_41
      show VV E 0 0 50 [(0, .ref x0), (1, .int (nI j_6)), (2, .int (nI j_21))] [.int (bz (Nat.testBit ((un ki j_6 (ki j_6 ^^^ 2 ^ j_21)) j_6) j_21))] [(x0, .inr (4, [.ref a0, .ref xm, .ref xp, .int (bz pd), .ref b0, .ref g0, .ref s0, .ref w0, .int (nI rs), .ref y0])), (a0, .inr (2, [.int (nI n), .int (nI m), .int (nI sh), .int (nI 0), .ref a1, .ref a2, .ref a3, .ref a4, .ref a5, .ref a6])), (a1, .inl (cI, 7, .inl (nIf (un ki j_6 (ki j_6 ^^^ 2 ^ j_21))))), (a2, .inl (cI, 7, .inl (nIf op))), (a3, .inl (cI, 7, .inl (nIf fa))), (a4, .inl (cI, 6, .inl (nIf K))), (a5, .inl (cI, 6, .inl (nIf G))), (a6, .inl (cI, 6, .inl (nIf T))), (g0, .inr (0, [.int (nI (csz cs)), .ref g1, .ref g2, .ref g3])), (g1, .inl (cI, 8, .inl (nIf (shp so cs 2)))), (g2, .inl (cI, 8, .inl (nIf (shp wh cs j_6)))), (g3, .inl (cI, 8, .inl (nIf (shp va cs j_21)))), (y0, .inl (cI, 7, .inl (nIf R)))]
      refine v_ifb_eq 57 53 zC dX4_kin_50 (fun h_43 => ?_) (fun h_43 => ?_)
      ·
        refine v_ic (v := (nI 0)) 58 zC dX4_kin_57 (by decide +kernel) ?_
        refine v_iret zC zT dX4_kin_58  ?_
        first | exact Or.inl ⟨Or.inl (by assumption), rfl, rfl⟩ | exact Or.inl ⟨Or.inr (by assumption), rfl, rfl⟩ | exact Or.inr ⟨_, _, hi_p, hi_h, sb1 (by assumption), rfl⟩ | exact Or.inr ⟨_, _, hi_p, hi_h, sb0 (by assumption), rfl⟩
      ·
        refine v_ic (v := (nI 1)) 54 zC dX4_kin_53 (by decide +kernel) ?_
        refine v_goto 58 zC dX4_kin_54 ?_
        refine v_iret zC zT dX4_kin_58  ?_
        first | exact Or.inl ⟨Or.inl (by assumption), rfl, rfl⟩ | exact Or.inl ⟨Or.inr (by assumption), rfl, rfl⟩ | exact Or.inr ⟨_, _, hi_p, hi_h, sb1 (by assumption), rfl⟩ | exact Or.inr ⟨_, _, hi_p, hi_h, sb0 (by assumption), rfl⟩
set_option maxRecDepth 100000 in
set_option maxHeartbeats 4000000 in
theorem c_X4_shut (l : Launch) (D : va_G) (cI : ClassId) (x0 xm xp y0 : Nat) (pd : Bool) (rs : Nat) (b0 s0 w0 : Nat) (a0 a1 a2 a3 a4 a5 a6 : Nat) (n m sh : Nat) (ki op fa K G T : Nat → Nat) (g0 g1 g2 g3 : Nat) (cs : Nat) (so wh va : Nat → Nat) (R : Nat → Nat) (p : Int32) (hw : FW n m sh ki op fa K G T) (hc : cs ≤ 8) : CT l yX4_shut cX4_shut 2 (some .int) { frames := 2, cells := 0, slots := 0, locals := 63 } D cI [.ref x0, .int p] [(x0, .inr (4, [.ref a0, .ref xm, .ref xp, .int (bz pd), .ref b0, .ref g0, .ref s0, .ref w0, .int (nI rs), .ref y0])), (a0, .inr (2, [.int (nI n), .int (nI m), .int (nI sh), .int (nI 0), .ref a1, .ref a2, .ref a3, .ref a4, .ref a5, .ref a6])), (a1, .inl (cI, 7, .inl (nIf ki))), (a2, .inl (cI, 7, .inl (nIf op))), (a3, .inl (cI, 7, .inl (nIf fa))), (a4, .inl (cI, 6, .inl (nIf K))), (a5, .inl (cI, 6, .inl (nIf G))), (a6, .inl (cI, 6, .inl (nIf T))), (g0, .inr (0, [.int (nI cs), .ref g1, .ref g2, .ref g3])), (g1, .inl (cI, 8, .inl (nIf so))), (g2, .inl (cI, 8, .inl (nIf wh))), (g3, .inl (cI, 8, .inl (nIf va))), (y0, .inl (cI, 7, .inl (nIf R)))] (fun zr zw => ((IX n p = none) ∧ zr = some (.int (-1)) ∧ zw = [(x0, .inr (4, [.ref a0, .ref xm, .ref xp, .int (bz pd), .ref b0, .ref g0, .ref s0, .ref w0, .int (nI rs), .ref y0])), (a0, .inr (2, [.int (nI n), .int (nI m), .int (nI sh), .int (nI 0), .ref a1, .ref a2, .ref a3, .ref a4, .ref a5, .ref a6])), (a1, .inl (cI, 7, .inl (nIf ki))), (a2, .inl (cI, 7, .inl (nIf op))), (a3, .inl (cI, 7, .inl (nIf fa))), (a4, .inl (cI, 6, .inl (nIf K))), (a5, .inl (cI, 6, .inl (nIf G))), (a6, .inl (cI, 6, .inl (nIf T))), (g0, .inr (0, [.int (nI cs), .ref g1, .ref g2, .ref g3])), (g1, .inl (cI, 8, .inl (nIf so))), (g2, .inl (cI, 8, .inl (nIf wh))), (g3, .inl (cI, 8, .inl (nIf va))), (y0, .inl (cI, 7, .inl (nIf (un R 1 (R 1 + 1)))))]) ∨ (∃ j : Nat, (IX n p = some j) ∧ zr = some (.int (bz (Nat.testBit (sh ^^^ 2 ^ j) j))) ∧ zw = [(x0, .inr (4, [.ref a0, .ref xm, .ref xp, .int (bz pd), .ref b0, .ref g0, .ref s0, .ref w0, .int (nI rs), .ref y0])), (a0, .inr (2, [.int (nI n), .int (nI m), .int (nI (sh ^^^ 2 ^ j)), .int (nI 0), .ref a1, .ref a2, .ref a3, .ref a4, .ref a5, .ref a6])), (a1, .inl (cI, 7, .inl (nIf ki))), (a2, .inl (cI, 7, .inl (nIf op))), (a3, .inl (cI, 7, .inl (nIf fa))), (a4, .inl (cI, 6, .inl (nIf K))), (a5, .inl (cI, 6, .inl (nIf G))), (a6, .inl (cI, 6, .inl (nIf T))), (g0, .inr (0, [.int (nI (csz cs)), .ref g1, .ref g2, .ref g3])), (g1, .inl (cI, 8, .inl (nIf (shp so cs 1)))), (g2, .inl (cI, 8, .inl (nIf (shp wh cs j)))), (g3, .inl (cI, 8, .inl (nIf (shp va cs 0)))), (y0, .inl (cI, 7, .inl (nIf R)))])) := by
  refine CT_of RX4 rfl (by decide +kernel) (Nat.le_of_ble_eq_true rfl) (fun E hnE zC zT => ?_)
  have hA : ∀ q, (ev_s E).heap.size ≤ q → ev_A E q := fun q h => by rw [zT.2]; exact Or.inr h
  obtain ⟨hn, hm, hsh, hki, hop, hfa, hK, hG, hT, vki, vop, vfa, vK, vG, vT⟩ := id hw
  show VV E 0 0 0 [(0, .ref x0), (1, .int p)] [] [(x0, .inr (4, [.ref a0, .ref xm, .ref xp, .int (bz pd), .ref b0, .ref g0, .ref s0, .ref w0, .int (nI rs), .ref y0])), (a0, .inr (2, [.int (nI n), .int (nI m), .int (nI sh), .int (nI 0), .ref a1, .ref a2, .ref a3, .ref a4, .ref a5, .ref a6])), (a1, .inl (cI, 7, .inl (nIf ki))), (a2, .inl (cI, 7, .inl (nIf op))), (a3, .inl (cI, 7, .inl (nIf fa))), (a4, .inl (cI, 6, .inl (nIf K))), (a5, .inl (cI, 6, .inl (nIf G))), (a6, .inl (cI, 6, .inl (nIf T))), (g0, .inr (0, [.int (nI cs), .ref g1, .ref g2, .ref g3])), (g1, .inl (cI, 8, .inl (nIf so))), (g2, .inl (cI, 8, .inl (nIf wh))), (g3, .inl (cI, 8, .inl (nIf va))), (y0, .inl (cI, 7, .inl (nIf R)))]
  refine v_al_n 1 zC dX4_shut_0 0 rfl ?_
  refine v_il_n 2 zC dX4_shut_1 1 rfl ?_
  refine v_cV (As := [.int p]) (st := []) 5 0 [0, 1] zC dX4_shut_2 hA (c_X4_noPerson (ev_l E) (ev_D E) cI (x0 := x0) (xm := xm) (xp := xp) (b0 := b0) (g0 := g0) (s0 := s0) (w0 := w0) (y0 := y0) (pd := pd) (rs := rs) (a0 := a0) (a1 := a1) (a2 := a2) (a3 := a3) (a4 := a4) (a5 := a5) (a6 := a6) (n := n) (m := m) (sh := sh) (p := p) (hn := (by first | omega | assumption | rfl | (simp only []; omega) | decide))) cf_X4_noPerson lk_X4_79 rfl rfl rfl rfl rfl (by decide +kernel) (Nat.le_of_ble_eq_true rfl) (fun rv_1 wv_2 hp_3 hm_4 => ?_)
  clear hm_4
  rcases hp_3 with ⟨hi_5, rfl, rfl⟩ | ⟨j_6, he_7, hi_8, hj_9, rfl, rfl⟩
  ·
    show VV E 0 0 5 [(0, .ref x0), (1, .int p)] [.int (nI 1)] [(x0, .inr (4, [.ref a0, .ref xm, .ref xp, .int (bz pd), .ref b0, .ref g0, .ref s0, .ref w0, .int (nI rs), .ref y0])), (a0, .inr (2, [.int (nI n), .int (nI m), .int (nI sh), .int (nI 0), .ref a1, .ref a2, .ref a3, .ref a4, .ref a5, .ref a6])), (a1, .inl (cI, 7, .inl (nIf ki))), (a2, .inl (cI, 7, .inl (nIf op))), (a3, .inl (cI, 7, .inl (nIf fa))), (a4, .inl (cI, 6, .inl (nIf K))), (a5, .inl (cI, 6, .inl (nIf G))), (a6, .inl (cI, 6, .inl (nIf T))), (g0, .inr (0, [.int (nI cs), .ref g1, .ref g2, .ref g3])), (g1, .inl (cI, 8, .inl (nIf so))), (g2, .inl (cI, 8, .inl (nIf wh))), (g3, .inl (cI, 8, .inl (nIf va))), (y0, .inl (cI, 7, .inl (nIf R)))]
    refine v_if_eq 14 8 zC dX4_shut_5 (fun z => absurd z (by decide +kernel)) (fun _ => ?_)
    refine v_al_n 9 zC dX4_shut_8 0 rfl ?_
    refine v_ic (v := (-1)) 10 zC dX4_shut_9 (by decide +kernel) ?_
    refine v_cV (As := [.int (-1)]) (st := []) 13 0 [0, 12] zC dX4_shut_10 hA (c_X4_refuse (ev_l E) (ev_D E) cI (x0 := x0) (xn := a0) (xm := xm) (xp := xp) (b0 := b0) (g0 := g0) (s0 := s0) (w0 := w0) (y0 := y0) (pd := pd) (rs := rs) (R := R) (v := (-1)) (j := 1) (hv := (by first | omega | assumption | rfl | (simp only []; omega) | decide)) (h1 := (by first | omega | assumption | rfl | (simp only []; omega) | decide)) (h6 := (by first | omega | assumption | rfl | (simp only []; omega) | decide))) cf_X4_refuse lk_X4_50 rfl rfl rfl rfl rfl (by decide +kernel) (Nat.le_of_ble_eq_true rfl) (fun rv_11 wv_12 hp_13 hm_14 => ?_)
    clear hm_14
    obtain ⟨rfl, rfl⟩ := hp_13
    show VV E 0 0 13 [(0, .ref x0), (1, .int p)] [.int (-1)] [(x0, .inr (4, [.ref a0, .ref xm, .ref xp, .int (bz pd), .ref b0, .ref g0, .ref s0, .ref w0, .int (nI rs), .ref y0])), (a0, .inr (2, [.int (nI n), .int (nI m), .int (nI sh), .int (nI 0), .ref a1, .ref a2, .ref a3, .ref a4, .ref a5, .ref a6])), (a1, .inl (cI, 7, .inl (nIf ki))), (a2, .inl (cI, 7, .inl (nIf op))), (a3, .inl (cI, 7, .inl (nIf fa))), (a4, .inl (cI, 6, .inl (nIf K))), (a5, .inl (cI, 6, .inl (nIf G))), (a6, .inl (cI, 6, .inl (nIf T))), (g0, .inr (0, [.int (nI cs), .ref g1, .ref g2, .ref g3])), (g1, .inl (cI, 8, .inl (nIf so))), (g2, .inl (cI, 8, .inl (nIf wh))), (g3, .inl (cI, 8, .inl (nIf va))), (y0, .inl (cI, 7, .inl (nIf (un R 1 (R 1 + 1)))))]
    refine v_iret zC zT dX4_shut_13  ?_
    first | exact Or.inl ⟨by assumption, rfl, rfl⟩ | exact Or.inr ⟨_, hi_p, sb1 (by assumption), rfl⟩ | exact Or.inr ⟨_, hi_p, sb0 (by assumption), rfl⟩
  ·
    show VV E 0 0 5 [(0, .ref x0), (1, .int p)] [.int (nI 0)] [(x0, .inr (4, [.ref a0, .ref xm, .ref xp, .int (bz pd), .ref b0, .ref g0, .ref s0, .ref w0, .int (nI rs), .ref y0])), (a0, .inr (2, [.int (nI n), .int (nI m), .int (nI sh), .int (nI 0), .ref a1, .ref a2, .ref a3, .ref a4, .ref a5, .ref a6])), (a1, .inl (cI, 7, .inl (nIf ki))), (a2, .inl (cI, 7, .inl (nIf op))), (a3, .inl (cI, 7, .inl (nIf fa))), (a4, .inl (cI, 6, .inl (nIf K))), (a5, .inl (cI, 6, .inl (nIf G))), (a6, .inl (cI, 6, .inl (nIf T))), (g0, .inr (0, [.int (nI cs), .ref g1, .ref g2, .ref g3])), (g1, .inl (cI, 8, .inl (nIf so))), (g2, .inl (cI, 8, .inl (nIf wh))), (g3, .inl (cI, 8, .inl (nIf va))), (y0, .inl (cI, 7, .inl (nIf R)))]
    subst he_7
    have hi_p := hi_8
    refine v_if_eq 14 8 zC dX4_shut_5 (fun _ => ?_) (fun z => absurd (by decide +kernel) z)
    refine v_al_n 15 zC dX4_shut_14 0 rfl ?_
    refine v_gf 18 0 zC dX4_shut_15 gf_X4_12 rfl rfl ?_
    refine v_il_n 19 zC dX4_shut_18 1 rfl ?_
    refine v_cV (As := [.int (nI j_6)]) (st := []) 22 1 [1] zC dX4_shut_19 hA (c_X2_turnShut (ev_l E) (ev_D E) cI (a0 := a0) (a1 := a1) (a2 := a2) (a3 := a3) (a4 := a4) (a5 := a5) (a6 := a6) (n := n) (m := m) (sh := sh) (aw := 0) (p := j_6) (hn := (by first | omega | assumption | rfl | (simp only []; omega) | decide)) (hp := (by first | omega | assumption | rfl | (simp only []; omega) | decide))) cf_X2_turnShut lk_X4_137 rfl rfl rfl rfl rfl (by decide +kernel) (Nat.le_of_ble_eq_true rfl) (fun rv_16 wv_17 hp_18 hm_19 => ?_)
    clear hm_19
    rcases hp_18 with ⟨hq_20, rfl, rfl⟩ | ⟨hp_21, rfl, rfl⟩
    ·
      show VV E 0 0 22 [(0, .ref x0), (1, .int (nI j_6))] [.int (nI 0)] [(x0, .inr (4, [.ref a0, .ref xm, .ref xp, .int (bz pd), .ref b0, .ref g0, .ref s0, .ref w0, .int (nI rs), .ref y0])), (a0, .inr (2, [.int (nI n), .int (nI m), .int (nI sh), .int (nI 0), .ref a1, .ref a2, .ref a3, .ref a4, .ref a5, .ref a6])), (a1, .inl (cI, 7, .inl (nIf ki))), (a2, .inl (cI, 7, .inl (nIf op))), (a3, .inl (cI, 7, .inl (nIf fa))), (a4, .inl (cI, 6, .inl (nIf K))), (a5, .inl (cI, 6, .inl (nIf G))), (a6, .inl (cI, 6, .inl (nIf T))), (g0, .inr (0, [.int (nI cs), .ref g1, .ref g2, .ref g3])), (g1, .inl (cI, 8, .inl (nIf so))), (g2, .inl (cI, 8, .inl (nIf wh))), (g3, .inl (cI, 8, .inl (nIf va))), (y0, .inl (cI, 7, .inl (nIf R)))]
      exfalso; omega
    ·
      show VV E 0 0 22 [(0, .ref x0), (1, .int (nI j_6))] [.int (nI 1)] [(x0, .inr (4, [.ref a0, .ref xm, .ref xp, .int (bz pd), .ref b0, .ref g0, .ref s0, .ref w0, .int (nI rs), .ref y0])), (a0, .inr (2, [.int (nI n), .int (nI m), .int (nI (sh ^^^ 2 ^ j_6)), .int (nI 0), .ref a1, .ref a2, .ref a3, .ref a4, .ref a5, .ref a6])), (a1, .inl (cI, 7, .inl (nIf ki))), (a2, .inl (cI, 7, .inl (nIf op))), (a3, .inl (cI, 7, .inl (nIf fa))), (a4, .inl (cI, 6, .inl (nIf K))), (a5, .inl (cI, 6, .inl (nIf G))), (a6, .inl (cI, 6, .inl (nIf T))), (g0, .inr (0, [.int (nI cs), .ref g1, .ref g2, .ref g3])), (g1, .inl (cI, 8, .inl (nIf so))), (g2, .inl (cI, 8, .inl (nIf wh))), (g3, .inl (cI, 8, .inl (nIf va))), (y0, .inl (cI, 7, .inl (nIf R)))]
      refine v_pop 23 zC dX4_shut_22 rfl ?_
      refine v_al_n 24 zC dX4_shut_23 0 rfl ?_
      refine v_gf 27 0 zC dX4_shut_24 gf_X4_32 rfl rfl ?_
      refine v_ic (v := (nI 1)) 28 zC dX4_shut_27 (by decide +kernel) ?_
      refine v_il_n 29 zC dX4_shut_28 1 rfl ?_
      refine v_ic (v := (nI 0)) 30 zC dX4_shut_29 (by decide +kernel) ?_
      refine v_cV (As := [.int (nI 1), .int (nI j_6), .int (nI 0)]) (st := []) 33 8 [8, 9, 10, 11] zC dX4_shut_30 hA (c_X0_add (ev_l E) (ev_D E) cI (g0 := g0) (g1 := g1) (g2 := g2) (g3 := g3) (cs := cs) (so := so) (wh := wh) (va := va) (s := 1) (o := j_6) (v := 0) (hc := (by first | omega | assumption | rfl | (simp only []; omega) | decide))) cf_X0_add lk_X4_131 rfl rfl rfl rfl rfl (by decide +kernel) (Nat.le_of_ble_eq_true rfl) (fun rv_22 wv_23 hp_24 hm_25 => ?_)
      clear hm_25
      obtain ⟨rfl, rfl⟩ := hp_24
      show VV E 0 0 33 [(0, .ref x0), (1, .int (nI j_6))] [] [(x0, .inr (4, [.ref a0, .ref xm, .ref xp, .int (bz pd), .ref b0, .ref g0, .ref s0, .ref w0, .int (nI rs), .ref y0])), (a0, .inr (2, [.int (nI n), .int (nI m), .int (nI (sh ^^^ 2 ^ j_6)), .int (nI 0), .ref a1, .ref a2, .ref a3, .ref a4, .ref a5, .ref a6])), (a1, .inl (cI, 7, .inl (nIf ki))), (a2, .inl (cI, 7, .inl (nIf op))), (a3, .inl (cI, 7, .inl (nIf fa))), (a4, .inl (cI, 6, .inl (nIf K))), (a5, .inl (cI, 6, .inl (nIf G))), (a6, .inl (cI, 6, .inl (nIf T))), (g0, .inr (0, [.int (nI (csz cs)), .ref g1, .ref g2, .ref g3])), (g1, .inl (cI, 8, .inl (nIf (shp so cs 1)))), (g2, .inl (cI, 8, .inl (nIf (shp wh cs j_6)))), (g3, .inl (cI, 8, .inl (nIf (shp va cs 0)))), (y0, .inl (cI, 7, .inl (nIf R)))]
      refine v_al_n 34 zC dX4_shut_33 0 rfl ?_
      refine v_gf 37 0 zC dX4_shut_34 gf_X4_12 rfl rfl ?_
      refine v_il_n 38 zC dX4_shut_37 1 rfl ?_
      refine v_cV (As := [.int (nI j_6)]) (st := []) 41 1 [1] zC dX4_shut_38 hA (c_X2_isShut (ev_l E) (ev_D E) cI (a0 := a0) (a1 := a1) (a2 := a2) (a3 := a3) (a4 := a4) (a5 := a5) (a6 := a6) (n := n) (m := m) (sh := (sh ^^^ 2 ^ j_6)) (aw := 0) (p := j_6) (hp := (by first | omega | assumption | rfl | (simp only []; omega) | decide))) cf_X2_isShut lk_X4_93 rfl rfl rfl rfl rfl (by decide +kernel) (Nat.le_of_ble_eq_true rfl) (fun rv_26 wv_27 hp_28 hm_29 => ?_)
      clear hm_29
      obtain ⟨rfl, rfl⟩ := hp_28
      show VV E 0 0 41 [(0, .ref x0), (1, .int (nI j_6))] [.int (bz (Nat.testBit (sh ^^^ 2 ^ j_6) j_6))] [(x0, .inr (4, [.ref a0, .ref xm, .ref xp, .int (bz pd), .ref b0, .ref g0, .ref s0, .ref w0, .int (nI rs), .ref y0])), (a0, .inr (2, [.int (nI n), .int (nI m), .int (nI (sh ^^^ 2 ^ j_6)), .int (nI 0), .ref a1, .ref a2, .ref a3, .ref a4, .ref a5, .ref a6])), (a1, .inl (cI, 7, .inl (nIf ki))), (a2, .inl (cI, 7, .inl (nIf op))), (a3, .inl (cI, 7, .inl (nIf fa))), (a4, .inl (cI, 6, .inl (nIf K))), (a5, .inl (cI, 6, .inl (nIf G))), (a6, .inl (cI, 6, .inl (nIf T))), (g0, .inr (0, [.int (nI (csz cs)), .ref g1, .ref g2, .ref g3])), (g1, .inl (cI, 8, .inl (nIf (shp so cs 1)))), (g2, .inl (cI, 8, .inl (nIf (shp wh cs j_6)))), (g3, .inl (cI, 8, .inl (nIf (shp va cs 0)))), (y0, .inl (cI, 7, .inl (nIf R)))]
      refine v_ifb_eq 48 44 zC dX4_shut_41 (fun h_30 => ?_) (fun h_30 => ?_)
      ·
        refine v_ic (v := (nI 0)) 49 zC dX4_shut_48 (by decide +kernel) ?_
        refine v_iret zC zT dX4_shut_49  ?_
        first | exact Or.inl ⟨by assumption, rfl, rfl⟩ | exact Or.inr ⟨_, hi_p, sb1 (by assumption), rfl⟩ | exact Or.inr ⟨_, hi_p, sb0 (by assumption), rfl⟩
      ·
        refine v_ic (v := (nI 1)) 45 zC dX4_shut_44 (by decide +kernel) ?_
        refine v_goto 49 zC dX4_shut_45 ?_
        refine v_iret zC zT dX4_shut_49  ?_
        first | exact Or.inl ⟨by assumption, rfl, rfl⟩ | exact Or.inr ⟨_, hi_p, sb1 (by assumption), rfl⟩ | exact Or.inr ⟨_, hi_p, sb0 (by assumption), rfl⟩
set_option maxRecDepth 100000 in
set_option maxHeartbeats 4000000 in
theorem c_X4_leans (l : Launch) (D : va_G) (cI : ClassId) (x0 xm xp y0 : Nat) (pd : Bool) (rs : Nat) (b0 s0 w0 : Nat) (a0 a1 a2 a3 a4 a5 a6 : Nat) (n m sh : Nat) (ki op fa K G T : Nat → Nat) (g0 g1 g2 g3 : Nat) (cs : Nat) (so wh va : Nat → Nat) (R : Nat → Nat) (d v : Int32) (hw : FW n m sh ki op fa K G T) (hc : cs ≤ 8) : CT l yX4_leans cX4_leans 4 (some .int) { frames := 2, cells := 0, slots := 0, locals := 63 } D cI [.ref x0, .int d, .int v] [(x0, .inr (4, [.ref a0, .ref xm, .ref xp, .int (bz pd), .ref b0, .ref g0, .ref s0, .ref w0, .int (nI rs), .ref y0])), (a0, .inr (2, [.int (nI n), .int (nI m), .int (nI sh), .int (nI 0), .ref a1, .ref a2, .ref a3, .ref a4, .ref a5, .ref a6])), (a1, .inl (cI, 7, .inl (nIf ki))), (a2, .inl (cI, 7, .inl (nIf op))), (a3, .inl (cI, 7, .inl (nIf fa))), (a4, .inl (cI, 6, .inl (nIf K))), (a5, .inl (cI, 6, .inl (nIf G))), (a6, .inl (cI, 6, .inl (nIf T))), (g0, .inr (0, [.int (nI cs), .ref g1, .ref g2, .ref g3])), (g1, .inl (cI, 8, .inl (nIf so))), (g2, .inl (cI, 8, .inl (nIf wh))), (g3, .inl (cI, 8, .inl (nIf va))), (y0, .inl (cI, 7, .inl (nIf R)))] (fun zr zw => ((IX m d = none) ∧ zr = some (.int (-1)) ∧ zw = [(x0, .inr (4, [.ref a0, .ref xm, .ref xp, .int (bz pd), .ref b0, .ref g0, .ref s0, .ref w0, .int (nI rs), .ref y0])), (a0, .inr (2, [.int (nI n), .int (nI m), .int (nI sh), .int (nI 0), .ref a1, .ref a2, .ref a3, .ref a4, .ref a5, .ref a6])), (a1, .inl (cI, 7, .inl (nIf ki))), (a2, .inl (cI, 7, .inl (nIf op))), (a3, .inl (cI, 7, .inl (nIf fa))), (a4, .inl (cI, 6, .inl (nIf K))), (a5, .inl (cI, 6, .inl (nIf G))), (a6, .inl (cI, 6, .inl (nIf T))), (g0, .inr (0, [.int (nI cs), .ref g1, .ref g2, .ref g3])), (g1, .inl (cI, 8, .inl (nIf so))), (g2, .inl (cI, 8, .inl (nIf wh))), (g3, .inl (cI, 8, .inl (nIf va))), (y0, .inl (cI, 7, .inl (nIf (un R 1 (R 1 + 1)))))]) ∨ ((¬ IX m d = none) ∧ (v < 0) ∧ zr = some (.int (-4)) ∧ zw = [(x0, .inr (4, [.ref a0, .ref xm, .ref xp, .int (bz pd), .ref b0, .ref g0, .ref s0, .ref w0, .int (nI rs), .ref y0])), (a0, .inr (2, [.int (nI n), .int (nI m), .int (nI sh), .int (nI 0), .ref a1, .ref a2, .ref a3, .ref a4, .ref a5, .ref a6])), (a1, .inl (cI, 7, .inl (nIf ki))), (a2, .inl (cI, 7, .inl (nIf op))), (a3, .inl (cI, 7, .inl (nIf fa))), (a4, .inl (cI, 6, .inl (nIf K))), (a5, .inl (cI, 6, .inl (nIf G))), (a6, .inl (cI, 6, .inl (nIf T))), (g0, .inr (0, [.int (nI cs), .ref g1, .ref g2, .ref g3])), (g1, .inl (cI, 8, .inl (nIf so))), (g2, .inl (cI, 8, .inl (nIf wh))), (g3, .inl (cI, 8, .inl (nIf va))), (y0, .inl (cI, 7, .inl (nIf (un R 4 (R 4 + 1)))))]) ∨ ((¬ IX m d = none) ∧ (¬ v < 0) ∧ (IX 10 v = none) ∧ zr = some (.int (-6)) ∧ zw = [(x0, .inr (4, [.ref a0, .ref xm, .ref xp, .int (bz pd), .ref b0, .ref g0, .ref s0, .ref w0, .int (nI rs), .ref y0])), (a0, .inr (2, [.int (nI n), .int (nI m), .int (nI sh), .int (nI 0), .ref a1, .ref a2, .ref a3, .ref a4, .ref a5, .ref a6])), (a1, .inl (cI, 7, .inl (nIf ki))), (a2, .inl (cI, 7, .inl (nIf op))), (a3, .inl (cI, 7, .inl (nIf fa))), (a4, .inl (cI, 6, .inl (nIf K))), (a5, .inl (cI, 6, .inl (nIf G))), (a6, .inl (cI, 6, .inl (nIf T))), (g0, .inr (0, [.int (nI cs), .ref g1, .ref g2, .ref g3])), (g1, .inl (cI, 8, .inl (nIf so))), (g2, .inl (cI, 8, .inl (nIf wh))), (g3, .inl (cI, 8, .inl (nIf va))), (y0, .inl (cI, 7, .inl (nIf (un R 6 (R 6 + 1)))))]) ∨ (∃ j : Nat, ∃ k : Nat, (IX m d = some j) ∧ (IX 10 v = some k) ∧ zr = some (.int (nI (G j))) ∧ zw = [(x0, .inr (4, [.ref a0, .ref xm, .ref xp, .int (bz pd), .ref b0, .ref g0, .ref s0, .ref w0, .int (nI rs), .ref y0])), (a0, .inr (2, [.int (nI n), .int (nI m), .int (nI sh), .int (nI 0), .ref a1, .ref a2, .ref a3, .ref a4, .ref a5, .ref a6])), (a1, .inl (cI, 7, .inl (nIf ki))), (a2, .inl (cI, 7, .inl (nIf op))), (a3, .inl (cI, 7, .inl (nIf fa))), (a4, .inl (cI, 6, .inl (nIf K))), (a5, .inl (cI, 6, .inl (nIf (un G j k)))), (a6, .inl (cI, 6, .inl (nIf T))), (g0, .inr (0, [.int (nI (csz cs)), .ref g1, .ref g2, .ref g3])), (g1, .inl (cI, 8, .inl (nIf (shp so cs 3)))), (g2, .inl (cI, 8, .inl (nIf (shp wh cs j)))), (g3, .inl (cI, 8, .inl (nIf (shp va cs (G j))))), (y0, .inl (cI, 7, .inl (nIf R)))])) := by
  refine CT_of RX4 rfl (by decide +kernel) (Nat.le_of_ble_eq_true rfl) (fun E hnE zC zT => ?_)
  have hA : ∀ q, (ev_s E).heap.size ≤ q → ev_A E q := fun q h => by rw [zT.2]; exact Or.inr h
  obtain ⟨hn, hm, hsh, hki, hop, hfa, hK, hG, hT, vki, vop, vfa, vK, vG, vT⟩ := id hw
  show VV E 0 0 0 [(0, .ref x0), (1, .int d), (2, .int v)] [] [(x0, .inr (4, [.ref a0, .ref xm, .ref xp, .int (bz pd), .ref b0, .ref g0, .ref s0, .ref w0, .int (nI rs), .ref y0])), (a0, .inr (2, [.int (nI n), .int (nI m), .int (nI sh), .int (nI 0), .ref a1, .ref a2, .ref a3, .ref a4, .ref a5, .ref a6])), (a1, .inl (cI, 7, .inl (nIf ki))), (a2, .inl (cI, 7, .inl (nIf op))), (a3, .inl (cI, 7, .inl (nIf fa))), (a4, .inl (cI, 6, .inl (nIf K))), (a5, .inl (cI, 6, .inl (nIf G))), (a6, .inl (cI, 6, .inl (nIf T))), (g0, .inr (0, [.int (nI cs), .ref g1, .ref g2, .ref g3])), (g1, .inl (cI, 8, .inl (nIf so))), (g2, .inl (cI, 8, .inl (nIf wh))), (g3, .inl (cI, 8, .inl (nIf va))), (y0, .inl (cI, 7, .inl (nIf R)))]
  refine v_al_n 1 zC dX4_leans_0 0 rfl ?_
  refine v_il_n 2 zC dX4_leans_1 1 rfl ?_
  refine v_cV (As := [.int d]) (st := []) 5 0 [0, 1] zC dX4_leans_2 hA (c_X4_noDead (ev_l E) (ev_D E) cI (x0 := x0) (xm := xm) (xp := xp) (b0 := b0) (g0 := g0) (s0 := s0) (w0 := w0) (y0 := y0) (pd := pd) (rs := rs) (a0 := a0) (a1 := a1) (a2 := a2) (a3 := a3) (a4 := a4) (a5 := a5) (a6 := a6) (n := n) (m := m) (sh := sh) (p := d) (hm := (by first | omega | assumption | rfl | (simp only []; omega) | decide))) cf_X4_noDead lk_X4_99 rfl rfl rfl rfl rfl (by decide +kernel) (Nat.le_of_ble_eq_true rfl) (fun rv_1 wv_2 hp_3 hm_4 => ?_)
  clear hm_4
  rcases hp_3 with ⟨hi_5, rfl, rfl⟩ | ⟨j_6, he_7, hi_8, hj_9, rfl, rfl⟩
  ·
    show VV E 0 0 5 [(0, .ref x0), (1, .int d), (2, .int v)] [.int (nI 1)] [(x0, .inr (4, [.ref a0, .ref xm, .ref xp, .int (bz pd), .ref b0, .ref g0, .ref s0, .ref w0, .int (nI rs), .ref y0])), (a0, .inr (2, [.int (nI n), .int (nI m), .int (nI sh), .int (nI 0), .ref a1, .ref a2, .ref a3, .ref a4, .ref a5, .ref a6])), (a1, .inl (cI, 7, .inl (nIf ki))), (a2, .inl (cI, 7, .inl (nIf op))), (a3, .inl (cI, 7, .inl (nIf fa))), (a4, .inl (cI, 6, .inl (nIf K))), (a5, .inl (cI, 6, .inl (nIf G))), (a6, .inl (cI, 6, .inl (nIf T))), (g0, .inr (0, [.int (nI cs), .ref g1, .ref g2, .ref g3])), (g1, .inl (cI, 8, .inl (nIf so))), (g2, .inl (cI, 8, .inl (nIf wh))), (g3, .inl (cI, 8, .inl (nIf va))), (y0, .inl (cI, 7, .inl (nIf R)))]
    refine v_if_eq 14 8 zC dX4_leans_5 (fun z => absurd z (by decide +kernel)) (fun _ => ?_)
    refine v_al_n 9 zC dX4_leans_8 0 rfl ?_
    refine v_ic (v := (-1)) 10 zC dX4_leans_9 (by decide +kernel) ?_
    refine v_cV (As := [.int (-1)]) (st := []) 13 0 [0, 12] zC dX4_leans_10 hA (c_X4_refuse (ev_l E) (ev_D E) cI (x0 := x0) (xn := a0) (xm := xm) (xp := xp) (b0 := b0) (g0 := g0) (s0 := s0) (w0 := w0) (y0 := y0) (pd := pd) (rs := rs) (R := R) (v := (-1)) (j := 1) (hv := (by first | omega | assumption | rfl | (simp only []; omega) | decide)) (h1 := (by first | omega | assumption | rfl | (simp only []; omega) | decide)) (h6 := (by first | omega | assumption | rfl | (simp only []; omega) | decide))) cf_X4_refuse lk_X4_50 rfl rfl rfl rfl rfl (by decide +kernel) (Nat.le_of_ble_eq_true rfl) (fun rv_11 wv_12 hp_13 hm_14 => ?_)
    clear hm_14
    obtain ⟨rfl, rfl⟩ := hp_13
    show VV E 0 0 13 [(0, .ref x0), (1, .int d), (2, .int v)] [.int (-1)] [(x0, .inr (4, [.ref a0, .ref xm, .ref xp, .int (bz pd), .ref b0, .ref g0, .ref s0, .ref w0, .int (nI rs), .ref y0])), (a0, .inr (2, [.int (nI n), .int (nI m), .int (nI sh), .int (nI 0), .ref a1, .ref a2, .ref a3, .ref a4, .ref a5, .ref a6])), (a1, .inl (cI, 7, .inl (nIf ki))), (a2, .inl (cI, 7, .inl (nIf op))), (a3, .inl (cI, 7, .inl (nIf fa))), (a4, .inl (cI, 6, .inl (nIf K))), (a5, .inl (cI, 6, .inl (nIf G))), (a6, .inl (cI, 6, .inl (nIf T))), (g0, .inr (0, [.int (nI cs), .ref g1, .ref g2, .ref g3])), (g1, .inl (cI, 8, .inl (nIf so))), (g2, .inl (cI, 8, .inl (nIf wh))), (g3, .inl (cI, 8, .inl (nIf va))), (y0, .inl (cI, 7, .inl (nIf (un R 1 (R 1 + 1)))))]
    refine v_iret zC zT dX4_leans_13  ?_
    first | exact Or.inl ⟨by assumption, rfl, rfl⟩ | exact Or.inr (Or.inl ⟨hnn9, hlt9, rfl, rfl⟩) | exact Or.inr (Or.inr (Or.inl ⟨hnn9, hge, hbi9, rfl, rfl⟩)) | exact Or.inr (Or.inr (Or.inr ⟨_, _, hi_d, hi_v, rfl, rfl⟩))
  ·
    show VV E 0 0 5 [(0, .ref x0), (1, .int d), (2, .int v)] [.int (nI 0)] [(x0, .inr (4, [.ref a0, .ref xm, .ref xp, .int (bz pd), .ref b0, .ref g0, .ref s0, .ref w0, .int (nI rs), .ref y0])), (a0, .inr (2, [.int (nI n), .int (nI m), .int (nI sh), .int (nI 0), .ref a1, .ref a2, .ref a3, .ref a4, .ref a5, .ref a6])), (a1, .inl (cI, 7, .inl (nIf ki))), (a2, .inl (cI, 7, .inl (nIf op))), (a3, .inl (cI, 7, .inl (nIf fa))), (a4, .inl (cI, 6, .inl (nIf K))), (a5, .inl (cI, 6, .inl (nIf G))), (a6, .inl (cI, 6, .inl (nIf T))), (g0, .inr (0, [.int (nI cs), .ref g1, .ref g2, .ref g3])), (g1, .inl (cI, 8, .inl (nIf so))), (g2, .inl (cI, 8, .inl (nIf wh))), (g3, .inl (cI, 8, .inl (nIf va))), (y0, .inl (cI, 7, .inl (nIf R)))]
    subst he_7
    have hi_d := hi_8
    have hnn9 : ¬ IX m (nI j_6) = none := by rw [hi_d]; exact Option.some_ne_none _
    refine v_if_eq 14 8 zC dX4_leans_5 (fun _ => ?_) (fun z => absurd (by decide +kernel) z)
    refine v_il_n 15 zC dX4_leans_14 2 rfl ?_
    refine v_if_ge 25 18 zC dX4_leans_15 (fun h_16 => ?_) (fun h_16 => ?_)
    ·
      have hge : ¬ v < 0 := Int32.not_lt.mpr h_16
      refine v_il_n 26 zC dX4_leans_25 2 rfl ?_
      refine v_bp (v := (nI 10)) 28 zC dX4_leans_26 (by decide +kernel) ?_
      refine v_icmp_lt 38 31 zC dX4_leans_28 (fun h_17 => ?_) (fun h_17 => ?_)
      ·
        obtain ⟨kv, hi_kv, he_kv, hl_kv⟩ := IX_s (N := 10) (by decide) hge (Int32.not_le.mpr h_17)
        have hi_v := hi_kv
        subst he_kv
        refine v_al_n 39 zC dX4_leans_38 0 rfl ?_
        refine v_gf 42 0 zC dX4_leans_39 gf_X4_12 rfl rfl ?_
        refine v_gf 45 1 zC dX4_leans_42 gf_X4_105 rfl rfl ?_
        refine v_il_n 46 zC dX4_leans_45 1 rfl ?_
        refine v_ialn (v := (nI (G j_6))) 47 6 zC dX4_leans_46 rfl (by omega) rfl ?_
        have hb_18 := hG j_6
        refine v_is_n (lv2 := [(3, .int (nI (G j_6))), (0, .ref x0), (1, .int (nI j_6)), (2, .int (nI kv))]) 48 zC dX4_leans_47 (by rw [hnE]; decide) rfl ?_
        refine v_al_n 49 zC dX4_leans_48 1 rfl ?_
        refine v_gf 52 0 zC dX4_leans_49 gf_X4_12 rfl rfl ?_
        refine v_gf 55 1 zC dX4_leans_52 gf_X4_105 rfl rfl ?_
        refine v_il_n 56 zC dX4_leans_55 2 rfl ?_
        refine v_il_n 57 zC dX4_leans_56 3 rfl ?_
        refine v_iasn (ws2 := [(x0, .inr (4, [.ref a0, .ref xm, .ref xp, .int (bz pd), .ref b0, .ref g0, .ref s0, .ref w0, .int (nI rs), .ref y0])), (a0, .inr (2, [.int (nI n), .int (nI m), .int (nI sh), .int (nI 0), .ref a1, .ref a2, .ref a3, .ref a4, .ref a5, .ref a6])), (a1, .inl (cI, 7, .inl (nIf ki))), (a2, .inl (cI, 7, .inl (nIf op))), (a3, .inl (cI, 7, .inl (nIf fa))), (a4, .inl (cI, 6, .inl (nIf K))), (a5, .inl (cI, 6, .inl (nIf (un G j_6 kv)))), (a6, .inl (cI, 6, .inl (nIf T))), (g0, .inr (0, [.int (nI cs), .ref g1, .ref g2, .ref g3])), (g1, .inl (cI, 8, .inl (nIf so))), (g2, .inl (cI, 8, .inl (nIf wh))), (g3, .inl (cI, 8, .inl (nIf va))), (y0, .inl (cI, 7, .inl (nIf R)))]) 58 6 zC dX4_leans_57 rfl (by omega) (by rw [upd_nIf]; first | done | rfl) ?_
        refine v_al_n 59 zC dX4_leans_58 1 rfl ?_
        refine v_gf 62 0 zC dX4_leans_59 gf_X4_32 rfl rfl ?_
        refine v_ic (v := (nI 3)) 63 zC dX4_leans_62 (by decide +kernel) ?_
        refine v_il_n 64 zC dX4_leans_63 2 rfl ?_
        refine v_il_n 65 zC dX4_leans_64 0 rfl ?_
        refine v_cV (As := [.int (nI 3), .int (nI j_6), .int (nI (G j_6))]) (st := []) 68 8 [8, 9, 10, 11] zC dX4_leans_65 hA (c_X0_add (ev_l E) (ev_D E) cI (g0 := g0) (g1 := g1) (g2 := g2) (g3 := g3) (cs := cs) (so := so) (wh := wh) (va := va) (s := 3) (o := j_6) (v := (G j_6)) (hc := (by first | omega | assumption | rfl | (simp only []; omega) | decide))) cf_X0_add lk_X4_131 rfl rfl rfl rfl rfl (by decide +kernel) (Nat.le_of_ble_eq_true rfl) (fun rv_19 wv_20 hp_21 hm_22 => ?_)
        clear hm_22
        obtain ⟨rfl, rfl⟩ := hp_21
        show VV E 0 0 68 [(3, .int (nI (G j_6))), (0, .ref x0), (1, .int (nI j_6)), (2, .int (nI kv))] [] [(x0, .inr (4, [.ref a0, .ref xm, .ref xp, .int (bz pd), .ref b0, .ref g0, .ref s0, .ref w0, .int (nI rs), .ref y0])), (a0, .inr (2, [.int (nI n), .int (nI m), .int (nI sh), .int (nI 0), .ref a1, .ref a2, .ref a3, .ref a4, .ref a5, .ref a6])), (a1, .inl (cI, 7, .inl (nIf ki))), (a2, .inl (cI, 7, .inl (nIf op))), (a3, .inl (cI, 7, .inl (nIf fa))), (a4, .inl (cI, 6, .inl (nIf K))), (a5, .inl (cI, 6, .inl (nIf (un G j_6 kv)))), (a6, .inl (cI, 6, .inl (nIf T))), (g0, .inr (0, [.int (nI (csz cs)), .ref g1, .ref g2, .ref g3])), (g1, .inl (cI, 8, .inl (nIf (shp so cs 3)))), (g2, .inl (cI, 8, .inl (nIf (shp wh cs j_6)))), (g3, .inl (cI, 8, .inl (nIf (shp va cs (G j_6))))), (y0, .inl (cI, 7, .inl (nIf R)))]
        refine v_il_n 69 zC dX4_leans_68 0 rfl ?_
        refine v_iret zC zT dX4_leans_69  ?_
        first | exact Or.inl ⟨by assumption, rfl, rfl⟩ | exact Or.inr (Or.inl ⟨hnn9, hlt9, rfl, rfl⟩) | exact Or.inr (Or.inr (Or.inl ⟨hnn9, hge, hbi9, rfl, rfl⟩)) | exact Or.inr (Or.inr (Or.inr ⟨_, _, hi_d, hi_v, rfl, rfl⟩))
      ·
        have hbi9 : IX 10 v = none := IX_n (Or.inr (Int32.not_lt.mp h_17))
        refine v_al_n 32 zC dX4_leans_31 0 rfl ?_
        refine v_bp (v := (-6)) 34 zC dX4_leans_32 (by decide +kernel) ?_
        refine v_cV (As := [.int (-6)]) (st := []) 37 0 [0, 12] zC dX4_leans_34 hA (c_X4_refuse (ev_l E) (ev_D E) cI (x0 := x0) (xn := a0) (xm := xm) (xp := xp) (b0 := b0) (g0 := g0) (s0 := s0) (w0 := w0) (y0 := y0) (pd := pd) (rs := rs) (R := R) (v := (-6)) (j := 6) (hv := (by first | omega | assumption | rfl | (simp only []; omega) | decide)) (h1 := (by first | omega | assumption | rfl | (simp only []; omega) | decide)) (h6 := (by first | omega | assumption | rfl | (simp only []; omega) | decide))) cf_X4_refuse lk_X4_50 rfl rfl rfl rfl rfl (by decide +kernel) (Nat.le_of_ble_eq_true rfl) (fun rv_23 wv_24 hp_25 hm_26 => ?_)
        clear hm_26
        obtain ⟨rfl, rfl⟩ := hp_25
        show VV E 0 0 37 [(0, .ref x0), (1, .int (nI j_6)), (2, .int v)] [.int (-6)] [(x0, .inr (4, [.ref a0, .ref xm, .ref xp, .int (bz pd), .ref b0, .ref g0, .ref s0, .ref w0, .int (nI rs), .ref y0])), (a0, .inr (2, [.int (nI n), .int (nI m), .int (nI sh), .int (nI 0), .ref a1, .ref a2, .ref a3, .ref a4, .ref a5, .ref a6])), (a1, .inl (cI, 7, .inl (nIf ki))), (a2, .inl (cI, 7, .inl (nIf op))), (a3, .inl (cI, 7, .inl (nIf fa))), (a4, .inl (cI, 6, .inl (nIf K))), (a5, .inl (cI, 6, .inl (nIf G))), (a6, .inl (cI, 6, .inl (nIf T))), (g0, .inr (0, [.int (nI cs), .ref g1, .ref g2, .ref g3])), (g1, .inl (cI, 8, .inl (nIf so))), (g2, .inl (cI, 8, .inl (nIf wh))), (g3, .inl (cI, 8, .inl (nIf va))), (y0, .inl (cI, 7, .inl (nIf (un R 6 (R 6 + 1)))))]
        refine v_iret zC zT dX4_leans_37  ?_
        first | exact Or.inl ⟨by assumption, rfl, rfl⟩ | exact Or.inr (Or.inl ⟨hnn9, hlt9, rfl, rfl⟩) | exact Or.inr (Or.inr (Or.inl ⟨hnn9, hge, hbi9, rfl, rfl⟩)) | exact Or.inr (Or.inr (Or.inr ⟨_, _, hi_d, hi_v, rfl, rfl⟩))
    ·
      have hlt9 := Int32.not_le.mp h_16
      refine v_al_n 19 zC dX4_leans_18 0 rfl ?_
      refine v_bp (v := (-4)) 21 zC dX4_leans_19 (by decide +kernel) ?_
      refine v_cV (As := [.int (-4)]) (st := []) 24 0 [0, 12] zC dX4_leans_21 hA (c_X4_refuse (ev_l E) (ev_D E) cI (x0 := x0) (xn := a0) (xm := xm) (xp := xp) (b0 := b0) (g0 := g0) (s0 := s0) (w0 := w0) (y0 := y0) (pd := pd) (rs := rs) (R := R) (v := (-4)) (j := 4) (hv := (by first | omega | assumption | rfl | (simp only []; omega) | decide)) (h1 := (by first | omega | assumption | rfl | (simp only []; omega) | decide)) (h6 := (by first | omega | assumption | rfl | (simp only []; omega) | decide))) cf_X4_refuse lk_X4_50 rfl rfl rfl rfl rfl (by decide +kernel) (Nat.le_of_ble_eq_true rfl) (fun rv_27 wv_28 hp_29 hm_30 => ?_)
      clear hm_30
      obtain ⟨rfl, rfl⟩ := hp_29
      show VV E 0 0 24 [(0, .ref x0), (1, .int (nI j_6)), (2, .int v)] [.int (-4)] [(x0, .inr (4, [.ref a0, .ref xm, .ref xp, .int (bz pd), .ref b0, .ref g0, .ref s0, .ref w0, .int (nI rs), .ref y0])), (a0, .inr (2, [.int (nI n), .int (nI m), .int (nI sh), .int (nI 0), .ref a1, .ref a2, .ref a3, .ref a4, .ref a5, .ref a6])), (a1, .inl (cI, 7, .inl (nIf ki))), (a2, .inl (cI, 7, .inl (nIf op))), (a3, .inl (cI, 7, .inl (nIf fa))), (a4, .inl (cI, 6, .inl (nIf K))), (a5, .inl (cI, 6, .inl (nIf G))), (a6, .inl (cI, 6, .inl (nIf T))), (g0, .inr (0, [.int (nI cs), .ref g1, .ref g2, .ref g3])), (g1, .inl (cI, 8, .inl (nIf so))), (g2, .inl (cI, 8, .inl (nIf wh))), (g3, .inl (cI, 8, .inl (nIf va))), (y0, .inl (cI, 7, .inl (nIf (un R 4 (R 4 + 1)))))]
      refine v_iret zC zT dX4_leans_24  ?_
      first | exact Or.inl ⟨by assumption, rfl, rfl⟩ | exact Or.inr (Or.inl ⟨hnn9, hlt9, rfl, rfl⟩) | exact Or.inr (Or.inr (Or.inl ⟨hnn9, hge, hbi9, rfl, rfl⟩)) | exact Or.inr (Or.inr (Or.inr ⟨_, _, hi_d, hi_v, rfl, rfl⟩))
set_option maxRecDepth 100000 in
set_option maxHeartbeats 4000000 in
theorem c_X4_learns (l : Launch) (D : va_G) (cI : ClassId) (x0 xm xp y0 : Nat) (pd : Bool) (rs : Nat) (b0 s0 w0 : Nat) (a0 a1 a2 a3 a4 a5 a6 : Nat) (n m sh : Nat) (fa : Nat → Nat) (g0 g1 g2 g3 cs : Nat) (R : Nat → Nat) (p h : Int32) (hn : n ≤ 7) : CT l yX4_learns cX4_learns 4 (some .int) { frames := 1, cells := 0, slots := 0, locals := 22 } D cI [.ref x0, .int p, .int h] [(x0, .inr (4, [.ref a0, .ref xm, .ref xp, .int (bz pd), .ref b0, .ref g0, .ref s0, .ref w0, .int (nI rs), .ref y0])), (a0, .inr (2, [.int (nI n), .int (nI m), .int (nI sh), .int (nI 0), .ref a1, .ref a2, .ref a3, .ref a4, .ref a5, .ref a6])), (a3, .inl (cI, 7, .inl (nIf fa))), (g0, .inr (0, [.int (nI cs), .ref g1, .ref g2, .ref g3])), (y0, .inl (cI, 7, .inl (nIf R)))] (fun zr zw => ((IX n p = none ∨ IX 10 h = none) ∧ zr = some (.int (-1)) ∧ zw = [(x0, .inr (4, [.ref a0, .ref xm, .ref xp, .int (bz pd), .ref b0, .ref g0, .ref s0, .ref w0, .int (nI rs), .ref y0])), (a0, .inr (2, [.int (nI n), .int (nI m), .int (nI sh), .int (nI 0), .ref a1, .ref a2, .ref a3, .ref a4, .ref a5, .ref a6])), (a3, .inl (cI, 7, .inl (nIf fa))), (g0, .inr (0, [.int (nI cs), .ref g1, .ref g2, .ref g3])), (y0, .inl (cI, 7, .inl (nIf (un R 1 (R 1 + 1)))))]) ∨ (∃ j : Nat, ∃ k : Nat, (IX n p = some j) ∧ (IX 10 h = some k) ∧ zr = some (.int (bz (!Nat.testBit (fa j) k))) ∧ zw = [(x0, .inr (4, [.ref a0, .ref xm, .ref xp, .int (bz pd), .ref b0, .ref g0, .ref s0, .ref w0, .int (nI rs), .ref y0])), (a0, .inr (2, [.int (nI n), .int (nI m), .int (nI sh), .int (nI 0), .ref a1, .ref a2, .ref a3, .ref a4, .ref a5, .ref a6])), (a3, .inl (cI, 7, .inl (nIf (un fa j (fa j ||| 2 ^ k))))), (g0, .inr (0, [.int (nI 0), .ref g1, .ref g2, .ref g3])), (y0, .inl (cI, 7, .inl (nIf R)))])) := by
  refine CT_of RX4 rfl (by decide +kernel) (Nat.le_of_ble_eq_true rfl) (fun E hnE zC zT => ?_)
  have hA : ∀ q, (ev_s E).heap.size ≤ q → ev_A E q := fun q h => by rw [zT.2]; exact Or.inr h
  show VV E 0 0 0 [(0, .ref x0), (1, .int p), (2, .int h)] [] [(x0, .inr (4, [.ref a0, .ref xm, .ref xp, .int (bz pd), .ref b0, .ref g0, .ref s0, .ref w0, .int (nI rs), .ref y0])), (a0, .inr (2, [.int (nI n), .int (nI m), .int (nI sh), .int (nI 0), .ref a1, .ref a2, .ref a3, .ref a4, .ref a5, .ref a6])), (a3, .inl (cI, 7, .inl (nIf fa))), (g0, .inr (0, [.int (nI cs), .ref g1, .ref g2, .ref g3])), (y0, .inl (cI, 7, .inl (nIf R)))]
  refine v_al_n 1 zC dX4_learns_0 0 rfl ?_
  refine v_il_n 2 zC dX4_learns_1 1 rfl ?_
  refine v_cV (As := [.int p]) (st := []) 5 0 [0, 1] zC dX4_learns_2 hA (c_X4_noPerson (ev_l E) (ev_D E) cI (x0 := x0) (xm := xm) (xp := xp) (b0 := b0) (g0 := g0) (s0 := s0) (w0 := w0) (y0 := y0) (pd := pd) (rs := rs) (a0 := a0) (a1 := a1) (a2 := a2) (a3 := a3) (a4 := a4) (a5 := a5) (a6 := a6) (n := n) (m := m) (sh := sh) (p := p) (hn := (by first | omega | assumption | rfl | (simp only []; omega) | decide))) cf_X4_noPerson lk_X4_79 rfl rfl rfl rfl rfl (by decide +kernel) (Nat.le_of_ble_eq_true rfl) (fun rv_1 wv_2 hp_3 hm_4 => ?_)
  clear hm_4
  rcases hp_3 with ⟨hi_5, rfl, rfl⟩ | ⟨j_6, he_7, hi_8, hj_9, rfl, rfl⟩
  ·
    show VV E 0 0 5 [(0, .ref x0), (1, .int p), (2, .int h)] [.int (nI 1)] [(x0, .inr (4, [.ref a0, .ref xm, .ref xp, .int (bz pd), .ref b0, .ref g0, .ref s0, .ref w0, .int (nI rs), .ref y0])), (a0, .inr (2, [.int (nI n), .int (nI m), .int (nI sh), .int (nI 0), .ref a1, .ref a2, .ref a3, .ref a4, .ref a5, .ref a6])), (a3, .inl (cI, 7, .inl (nIf fa))), (g0, .inr (0, [.int (nI cs), .ref g1, .ref g2, .ref g3])), (y0, .inl (cI, 7, .inl (nIf R)))]
    refine v_if_ne 15 8 zC dX4_learns_5 (fun _ => ?_) (fun z => absurd z (by decide +kernel))
    refine v_al_n 16 zC dX4_learns_15 0 rfl ?_
    refine v_ic (v := (-1)) 17 zC dX4_learns_16 (by decide +kernel) ?_
    refine v_cV (As := [.int (-1)]) (st := []) 20 0 [0, 4] zC dX4_learns_17 hA (c_X4_refuse (ev_l E) (ev_D E) cI (x0 := x0) (xn := a0) (xm := xm) (xp := xp) (b0 := b0) (g0 := g0) (s0 := s0) (w0 := w0) (y0 := y0) (pd := pd) (rs := rs) (R := R) (v := (-1)) (j := 1) (hv := (by first | omega | assumption | rfl | (simp only []; omega) | decide)) (h1 := (by first | omega | assumption | rfl | (simp only []; omega) | decide)) (h6 := (by first | omega | assumption | rfl | (simp only []; omega) | decide))) cf_X4_refuse lk_X4_50 rfl rfl rfl rfl rfl (by decide +kernel) (Nat.le_of_ble_eq_true rfl) (fun rv_11 wv_12 hp_13 hm_14 => ?_)
    clear hm_14
    obtain ⟨rfl, rfl⟩ := hp_13
    show VV E 0 0 20 [(0, .ref x0), (1, .int p), (2, .int h)] [.int (-1)] [(x0, .inr (4, [.ref a0, .ref xm, .ref xp, .int (bz pd), .ref b0, .ref g0, .ref s0, .ref w0, .int (nI rs), .ref y0])), (a0, .inr (2, [.int (nI n), .int (nI m), .int (nI sh), .int (nI 0), .ref a1, .ref a2, .ref a3, .ref a4, .ref a5, .ref a6])), (a3, .inl (cI, 7, .inl (nIf fa))), (g0, .inr (0, [.int (nI cs), .ref g1, .ref g2, .ref g3])), (y0, .inl (cI, 7, .inl (nIf (un R 1 (R 1 + 1)))))]
    refine v_iret zC zT dX4_learns_20  ?_
    first | exact Or.inl ⟨Or.inl (by assumption), rfl, rfl⟩ | exact Or.inl ⟨Or.inr (by assumption), rfl, rfl⟩ | exact Or.inr ⟨_, _, hi_p, hi_h, sb1 (by simp [*]), rfl⟩ | exact Or.inr ⟨_, _, hi_p, hi_h, sb0 (by simp [*]), rfl⟩
  ·
    show VV E 0 0 5 [(0, .ref x0), (1, .int p), (2, .int h)] [.int (nI 0)] [(x0, .inr (4, [.ref a0, .ref xm, .ref xp, .int (bz pd), .ref b0, .ref g0, .ref s0, .ref w0, .int (nI rs), .ref y0])), (a0, .inr (2, [.int (nI n), .int (nI m), .int (nI sh), .int (nI 0), .ref a1, .ref a2, .ref a3, .ref a4, .ref a5, .ref a6])), (a3, .inl (cI, 7, .inl (nIf fa))), (g0, .inr (0, [.int (nI cs), .ref g1, .ref g2, .ref g3])), (y0, .inl (cI, 7, .inl (nIf R)))]
    subst he_7
    have hi_p := hi_8
    refine v_if_ne 15 8 zC dX4_learns_5 (fun z => absurd (by decide +kernel) z) (fun _ => ?_)
    refine v_il_n 9 zC dX4_learns_8 2 rfl ?_
    refine v_cS (As := [.int h]) (st := []) 12 [] zC dX4_learns_9 hA (c_X4_noFact (ev_l E) (ev_D E) cI (p := h) ) cf_X4_noFact lk_X4_146 rfl rfl rfl (by decide +kernel) (Nat.le_of_ble_eq_true rfl) (fun rv_16 wv_17 hp_18 hm_19 => ?_)
    clear hm_19
    rcases hp_18 with ⟨hi_20, rfl, rfl⟩ | ⟨j_21, he_22, hi_23, hj_24, rfl, rfl⟩
    ·
      show VV E 0 0 12 [(0, .ref x0), (1, .int (nI j_6)), (2, .int h)] [.int (nI 1)] [(x0, .inr (4, [.ref a0, .ref xm, .ref xp, .int (bz pd), .ref b0, .ref g0, .ref s0, .ref w0, .int (nI rs), .ref y0])), (a0, .inr (2, [.int (nI n), .int (nI m), .int (nI sh), .int (nI 0), .ref a1, .ref a2, .ref a3, .ref a4, .ref a5, .ref a6])), (a3, .inl (cI, 7, .inl (nIf fa))), (g0, .inr (0, [.int (nI cs), .ref g1, .ref g2, .ref g3])), (y0, .inl (cI, 7, .inl (nIf R)))]
      refine v_if_eq 21 15 zC dX4_learns_12 (fun z => absurd z (by decide +kernel)) (fun _ => ?_)
      refine v_al_n 16 zC dX4_learns_15 0 rfl ?_
      refine v_ic (v := (-1)) 17 zC dX4_learns_16 (by decide +kernel) ?_
      refine v_cV (As := [.int (-1)]) (st := []) 20 0 [0, 4] zC dX4_learns_17 hA (c_X4_refuse (ev_l E) (ev_D E) cI (x0 := x0) (xn := a0) (xm := xm) (xp := xp) (b0 := b0) (g0 := g0) (s0 := s0) (w0 := w0) (y0 := y0) (pd := pd) (rs := rs) (R := R) (v := (-1)) (j := 1) (hv := (by first | omega | assumption | rfl | (simp only []; omega) | decide)) (h1 := (by first | omega | assumption | rfl | (simp only []; omega) | decide)) (h6 := (by first | omega | assumption | rfl | (simp only []; omega) | decide))) cf_X4_refuse lk_X4_50 rfl rfl rfl rfl rfl (by decide +kernel) (Nat.le_of_ble_eq_true rfl) (fun rv_26 wv_27 hp_28 hm_29 => ?_)
      clear hm_29
      obtain ⟨rfl, rfl⟩ := hp_28
      show VV E 0 0 20 [(0, .ref x0), (1, .int (nI j_6)), (2, .int h)] [.int (-1)] [(x0, .inr (4, [.ref a0, .ref xm, .ref xp, .int (bz pd), .ref b0, .ref g0, .ref s0, .ref w0, .int (nI rs), .ref y0])), (a0, .inr (2, [.int (nI n), .int (nI m), .int (nI sh), .int (nI 0), .ref a1, .ref a2, .ref a3, .ref a4, .ref a5, .ref a6])), (a3, .inl (cI, 7, .inl (nIf fa))), (g0, .inr (0, [.int (nI cs), .ref g1, .ref g2, .ref g3])), (y0, .inl (cI, 7, .inl (nIf (un R 1 (R 1 + 1)))))]
      refine v_iret zC zT dX4_learns_20  ?_
      first | exact Or.inl ⟨Or.inl (by assumption), rfl, rfl⟩ | exact Or.inl ⟨Or.inr (by assumption), rfl, rfl⟩ | exact Or.inr ⟨_, _, hi_p, hi_h, sb1 (by simp [*]), rfl⟩ | exact Or.inr ⟨_, _, hi_p, hi_h, sb0 (by simp [*]), rfl⟩
    ·
      show VV E 0 0 12 [(0, .ref x0), (1, .int (nI j_6)), (2, .int h)] [.int (nI 0)] [(x0, .inr (4, [.ref a0, .ref xm, .ref xp, .int (bz pd), .ref b0, .ref g0, .ref s0, .ref w0, .int (nI rs), .ref y0])), (a0, .inr (2, [.int (nI n), .int (nI m), .int (nI sh), .int (nI 0), .ref a1, .ref a2, .ref a3, .ref a4, .ref a5, .ref a6])), (a3, .inl (cI, 7, .inl (nIf fa))), (g0, .inr (0, [.int (nI cs), .ref g1, .ref g2, .ref g3])), (y0, .inl (cI, 7, .inl (nIf R)))]
      subst he_22
      have hi_h := hi_23
      refine v_if_eq 21 15 zC dX4_learns_12 (fun _ => ?_) (fun z => absurd (by decide +kernel) z)
      refine v_al_n 22 zC dX4_learns_21 0 rfl ?_
      refine v_gf 25 0 zC dX4_learns_22 gf_X4_12 rfl rfl ?_
      refine v_il_n 26 zC dX4_learns_25 1 rfl ?_
      refine v_il_n 27 zC dX4_learns_26 2 rfl ?_
      refine v_cV (As := [.int (nI j_6), .int (nI j_21)]) (st := []) 30 1 [1, 2] zC dX4_learns_27 hA (c_X2_isKnown (ev_l E) (ev_D E) cI (a0 := a0) (a1 := a1) (a2 := a2) (a3 := a3) (a4 := a4) (a5 := a5) (a6 := a6) (n := n) (m := m) (sh := sh) (aw := 0) (fa := fa) (p := j_6) (x := j_21) (hn := (by first | omega | assumption | rfl | (simp only []; omega) | decide)) (hp := (by first | omega | assumption | rfl | (simp only []; omega) | decide)) (hx := (by first | omega | assumption | rfl | (simp only []; omega) | decide))) cf_X2_isKnown lk_X4_149 rfl rfl rfl rfl rfl (by decide +kernel) (Nat.le_of_ble_eq_true rfl) (fun rv_31 wv_32 hp_33 hm_34 => ?_)
      clear hm_34
      obtain ⟨rfl, rfl⟩ := hp_33
      show VV E 0 0 30 [(0, .ref x0), (1, .int (nI j_6)), (2, .int (nI j_21))] [.int (bz (Nat.testBit (fa j_6) j_21))] [(x0, .inr (4, [.ref a0, .ref xm, .ref xp, .int (bz pd), .ref b0, .ref g0, .ref s0, .ref w0, .int (nI rs), .ref y0])), (a0, .inr (2, [.int (nI n), .int (nI m), .int (nI sh), .int (nI 0), .ref a1, .ref a2, .ref a3, .ref a4, .ref a5, .ref a6])), (a3, .inl (cI, 7, .inl (nIf fa))), (g0, .inr (0, [.int (nI cs), .ref g1, .ref g2, .ref g3])), (y0, .inl (cI, 7, .inl (nIf R)))]
      refine v_is_n (lv2 := [(3, .int (bz (Nat.testBit (fa j_6) j_21))), (0, .ref x0), (1, .int (nI j_6)), (2, .int (nI j_21))]) 31 zC dX4_learns_30 (by rw [hnE]; decide) rfl ?_
      refine v_al_n 32 zC dX4_learns_31 1 rfl ?_
      refine v_gf 35 0 zC dX4_learns_32 gf_X4_12 rfl rfl ?_
      refine v_il_n 36 zC dX4_learns_35 2 rfl ?_
      refine v_il_n 37 zC dX4_learns_36 3 rfl ?_
      refine v_cV (As := [.int (nI j_6), .int (nI j_21)]) (st := []) 40 1 [1, 2] zC dX4_learns_37 hA (c_X2_teach (ev_l E) (ev_D E) cI (a0 := a0) (a1 := a1) (a2 := a2) (a3 := a3) (a4 := a4) (a5 := a5) (a6 := a6) (n := n) (m := m) (sh := sh) (aw := 0) (fa := fa) (p := j_6) (f := j_21) (hn := (by first | omega | assumption | rfl | (simp only []; omega) | decide)) (hp := (by first | omega | assumption | rfl | (simp only []; omega) | decide)) (hf := (by first | omega | assumption | rfl | (simp only []; omega) | decide))) cf_X2_teach lk_X4_152 rfl rfl rfl rfl rfl (by decide +kernel) (Nat.le_of_ble_eq_true rfl) (fun rv_35 wv_36 hp_37 hm_38 => ?_)
      clear hm_38
      rcases hp_37 with ⟨hq_39, rfl, rfl⟩ | ⟨hp_40, rfl, rfl⟩
      ·
        show VV E 0 0 40 [(3, .int (bz (Nat.testBit (fa j_6) j_21))), (0, .ref x0), (1, .int (nI j_6)), (2, .int (nI j_21))] [.int (nI 0)] [(x0, .inr (4, [.ref a0, .ref xm, .ref xp, .int (bz pd), .ref b0, .ref g0, .ref s0, .ref w0, .int (nI rs), .ref y0])), (a0, .inr (2, [.int (nI n), .int (nI m), .int (nI sh), .int (nI 0), .ref a1, .ref a2, .ref a3, .ref a4, .ref a5, .ref a6])), (a3, .inl (cI, 7, .inl (nIf fa))), (g0, .inr (0, [.int (nI cs), .ref g1, .ref g2, .ref g3])), (y0, .inl (cI, 7, .inl (nIf R)))]
        exfalso; omega
      ·
        show VV E 0 0 40 [(3, .int (bz (Nat.testBit (fa j_6) j_21))), (0, .ref x0), (1, .int (nI j_6)), (2, .int (nI j_21))] [.int (nI 1)] [(x0, .inr (4, [.ref a0, .ref xm, .ref xp, .int (bz pd), .ref b0, .ref g0, .ref s0, .ref w0, .int (nI rs), .ref y0])), (a0, .inr (2, [.int (nI n), .int (nI m), .int (nI sh), .int (nI 0), .ref a1, .ref a2, .ref a3, .ref a4, .ref a5, .ref a6])), (a3, .inl (cI, 7, .inl (nIf (un fa j_6 (fa j_6 ||| 2 ^ j_21))))), (g0, .inr (0, [.int (nI cs), .ref g1, .ref g2, .ref g3])), (y0, .inl (cI, 7, .inl (nIf R)))]
        refine v_pop 41 zC dX4_learns_40 rfl ?_
        refine v_al_n 42 zC dX4_learns_41 1 rfl ?_
        refine v_gf 45 0 zC dX4_learns_42 gf_X4_32 rfl rfl ?_
        refine v_cV (As := []) (st := []) 48 3 [3] zC dX4_learns_45 hA (c_X0_forget (ev_l E) (ev_D E) cI (g0 := g0) (g1 := g1) (g2 := g2) (g3 := g3) (cs := cs) ) cf_X0_forget lk_X4_76 rfl rfl rfl rfl rfl (by decide +kernel) (Nat.le_of_ble_eq_true rfl) (fun rv_41 wv_42 hp_43 hm_44 => ?_)
        clear hm_44
        obtain ⟨rfl, rfl⟩ := hp_43
        show VV E 0 0 48 [(3, .int (bz (Nat.testBit (fa j_6) j_21))), (0, .ref x0), (1, .int (nI j_6)), (2, .int (nI j_21))] [] [(x0, .inr (4, [.ref a0, .ref xm, .ref xp, .int (bz pd), .ref b0, .ref g0, .ref s0, .ref w0, .int (nI rs), .ref y0])), (a0, .inr (2, [.int (nI n), .int (nI m), .int (nI sh), .int (nI 0), .ref a1, .ref a2, .ref a3, .ref a4, .ref a5, .ref a6])), (a3, .inl (cI, 7, .inl (nIf (un fa j_6 (fa j_6 ||| 2 ^ j_21))))), (g0, .inr (0, [.int (nI 0), .ref g1, .ref g2, .ref g3])), (y0, .inl (cI, 7, .inl (nIf R)))]
        refine v_il_n 49 zC dX4_learns_48 0 rfl ?_
        refine v_ifb_eq 56 52 zC dX4_learns_49 (fun h_45 => ?_) (fun h_45 => ?_)
        ·
          refine v_ic (v := (nI 1)) 57 zC dX4_learns_56 (by decide +kernel) ?_
          refine v_iret zC zT dX4_learns_57  ?_
          first | exact Or.inl ⟨Or.inl (by assumption), rfl, rfl⟩ | exact Or.inl ⟨Or.inr (by assumption), rfl, rfl⟩ | exact Or.inr ⟨_, _, hi_p, hi_h, sb1 (by simp [*]), rfl⟩ | exact Or.inr ⟨_, _, hi_p, hi_h, sb0 (by simp [*]), rfl⟩
        ·
          refine v_ic (v := (nI 0)) 53 zC dX4_learns_52 (by decide +kernel) ?_
          refine v_goto 57 zC dX4_learns_53 ?_
          refine v_iret zC zT dX4_learns_57  ?_
          first | exact Or.inl ⟨Or.inl (by assumption), rfl, rfl⟩ | exact Or.inl ⟨Or.inr (by assumption), rfl, rfl⟩ | exact Or.inr ⟨_, _, hi_p, hi_h, sb1 (by simp [*]), rfl⟩ | exact Or.inr ⟨_, _, hi_p, hi_h, sb0 (by simp [*]), rfl⟩
set_option maxRecDepth 100000 in
set_option maxHeartbeats 4000000 in
theorem c_X4_row (l : Launch) (D : va_G) (cI : ClassId) (x0 xn xm xp b0 g0 s0 w0 y0 : Nat) (pd : Bool) (rs : Nat) (rw R : Nat → Nat) (v : Int32) (hr : rs ≤ 24) : CT l yX4_row cX4_row 2 (some .int) { frames := 1, cells := 0, slots := 0, locals := 21 } D cI [.ref x0, .int v] [(x0, .inr (4, [.ref xn, .ref xm, .ref xp, .int (bz pd), .ref b0, .ref g0, .ref s0, .ref w0, .int (nI rs), .ref y0])), (w0, .inl (cI, 24, .inl (nIf rw))), (y0, .inl (cI, 7, .inl (nIf R)))] (fun zr zw => ((v < 0) ∧ zr = some (.int (-4)) ∧ zw = [(x0, .inr (4, [.ref xn, .ref xm, .ref xp, .int (bz pd), .ref b0, .ref g0, .ref s0, .ref w0, .int (nI rs), .ref y0])), (w0, .inl (cI, 24, .inl (nIf rw))), (y0, .inl (cI, 7, .inl (nIf (un R 4 (R 4 + 1)))))]) ∨ ((¬ v < 0) ∧ (IX 100 v = none ∨ rs = 24) ∧ zr = some (.int (-6)) ∧ zw = [(x0, .inr (4, [.ref xn, .ref xm, .ref xp, .int (bz pd), .ref b0, .ref g0, .ref s0, .ref w0, .int (nI rs), .ref y0])), (w0, .inl (cI, 24, .inl (nIf rw))), (y0, .inl (cI, 7, .inl (nIf (un R 6 (R 6 + 1)))))]) ∨ (∃ k : Nat, (IX 100 v = some k) ∧ (rs < 24) ∧ zr = some (.int (nI (rs + 1))) ∧ zw = [(x0, .inr (4, [.ref xn, .ref xm, .ref xp, .int (bz pd), .ref b0, .ref g0, .ref s0, .ref w0, .int (nI (rs + 1)), .ref y0])), (w0, .inl (cI, 24, .inl (nIf (un rw rs k)))), (y0, .inl (cI, 7, .inl (nIf R)))])) := by
  refine CT_of RX4 rfl (by decide +kernel) (Nat.le_of_ble_eq_true rfl) (fun E hnE zC zT => ?_)
  have hA : ∀ q, (ev_s E).heap.size ≤ q → ev_A E q := fun q h => by rw [zT.2]; exact Or.inr h
  show VV E 0 0 0 [(0, .ref x0), (1, .int v)] [] [(x0, .inr (4, [.ref xn, .ref xm, .ref xp, .int (bz pd), .ref b0, .ref g0, .ref s0, .ref w0, .int (nI rs), .ref y0])), (w0, .inl (cI, 24, .inl (nIf rw))), (y0, .inl (cI, 7, .inl (nIf R)))]
  refine v_il_n 1 zC dX4_row_0 1 rfl ?_
  refine v_if_ge 11 4 zC dX4_row_1 (fun h_1 => ?_) (fun h_1 => ?_)
  ·
    have hge : ¬ v < 0 := Int32.not_lt.mpr h_1
    refine v_il_n 12 zC dX4_row_11 1 rfl ?_
    refine v_bp (v := (nI 99)) 14 zC dX4_row_12 (by decide +kernel) ?_
    refine v_icmp_gt 26 17 zC dX4_row_14 (fun h_2 => ?_) (fun h_2 => ?_)
    ·
      have hbi9 : IX 100 v = none := IX_hi h_2 (by decide)
      refine v_al_n 27 zC dX4_row_26 0 rfl ?_
      refine v_bp (v := (-6)) 29 zC dX4_row_27 (by decide +kernel) ?_
      refine v_cV (As := [.int (-6)]) (st := []) 32 0 [0, 2] zC dX4_row_29 hA (c_X4_refuse (ev_l E) (ev_D E) cI (x0 := x0) (xn := xn) (xm := xm) (xp := xp) (b0 := b0) (g0 := g0) (s0 := s0) (w0 := w0) (y0 := y0) (pd := pd) (rs := rs) (R := R) (v := (-6)) (j := 6) (hv := (by first | omega | assumption | rfl | (simp only []; omega) | decide)) (h1 := (by first | omega | assumption | rfl | (simp only []; omega) | decide)) (h6 := (by first | omega | assumption | rfl | (simp only []; omega) | decide))) cf_X4_refuse lk_X4_50 rfl rfl rfl rfl rfl (by decide +kernel) (Nat.le_of_ble_eq_true rfl) (fun rv_3 wv_4 hp_5 hm_6 => ?_)
      clear hm_6
      obtain ⟨rfl, rfl⟩ := hp_5
      show VV E 0 0 32 [(0, .ref x0), (1, .int v)] [.int (-6)] [(x0, .inr (4, [.ref xn, .ref xm, .ref xp, .int (bz pd), .ref b0, .ref g0, .ref s0, .ref w0, .int (nI rs), .ref y0])), (w0, .inl (cI, 24, .inl (nIf rw))), (y0, .inl (cI, 7, .inl (nIf (un R 6 (R 6 + 1)))))]
      refine v_iret zC zT dX4_row_32  ?_
      first | exact Or.inl ⟨hlt9, rfl, rfl⟩ | exact Or.inr (Or.inl ⟨hge, Or.inl hbi9, rfl, rfl⟩) | exact Or.inr (Or.inl ⟨hge, Or.inr (by omega), rfl, rfl⟩) | exact Or.inr (Or.inr ⟨_, hi_v, by omega, rfl, rfl⟩)
    ·
      have hle := h_2
      obtain ⟨kv, hk_kv, he_kv⟩ := ofR hge hle
      subst he_kv
      have hc_kv := nI_clamp (show kv < 2 ^ 31 by omega)
      have hi_v := IX_nI (N := 100) (by decide) (show kv < 100 by omega)
      refine v_al_n 18 zC dX4_row_17 0 rfl ?_
      refine v_gf 21 0 zC dX4_row_18 gf_X4_221 rfl rfl ?_
      refine v_bp (v := (nI 24)) 23 zC dX4_row_21 (by decide +kernel) ?_
      refine v_icmpn_lt 33 26 zC dX4_row_23 (fun h_7 => ?_) (fun h_7 => ?_)
      ·
        refine v_al_n 34 zC dX4_row_33 0 rfl ?_
        refine v_gf 37 0 zC dX4_row_34 gf_X4_43 rfl rfl ?_
        refine v_al_n 38 zC dX4_row_37 0 rfl ?_
        refine v_gf 41 0 zC dX4_row_38 gf_X4_221 rfl rfl ?_
        refine v_il_n 42 zC dX4_row_41 1 rfl ?_
        refine v_iasn (ws2 := [(x0, .inr (4, [.ref xn, .ref xm, .ref xp, .int (bz pd), .ref b0, .ref g0, .ref s0, .ref w0, .int (nI rs), .ref y0])), (w0, .inl (cI, 24, .inl (nIf (un rw rs kv)))), (y0, .inl (cI, 7, .inl (nIf R)))]) 43 1 zC dX4_row_42 rfl (by omega) (by rw [upd_nIf]; first | done | rfl) ?_
        refine v_al_n 44 zC dX4_row_43 0 rfl ?_
        refine v_dup 45 zC dX4_row_44 rfl ?_
        refine v_gf 48 0 zC dX4_row_45 gf_X4_221 rfl rfl ?_
        refine v_ic (v := (nI 1)) 49 zC dX4_row_48 (by decide +kernel) ?_
        refine v_iadd (v := (nI (rs + 1))) 50 zC dX4_row_49 (nI_add _ _) ?_
        refine v_pf (ws2 := [(x0, .inr (4, [.ref xn, .ref xm, .ref xp, .int (bz pd), .ref b0, .ref g0, .ref s0, .ref w0, .int (nI (rs + 1)), .ref y0])), (w0, .inl (cI, 24, .inl (nIf (un rw rs kv)))), (y0, .inl (cI, 7, .inl (nIf R)))]) 53 0 zC dX4_row_50 pf_X4_221 rfl (Nat.le_of_ble_eq_true rfl) rfl rfl rfl ?_
        refine v_al_n 54 zC dX4_row_53 0 rfl ?_
        refine v_gf 57 0 zC dX4_row_54 gf_X4_221 rfl rfl ?_
        refine v_iret zC zT dX4_row_57  ?_
        first | exact Or.inl ⟨hlt9, rfl, rfl⟩ | exact Or.inr (Or.inl ⟨hge, Or.inl hbi9, rfl, rfl⟩) | exact Or.inr (Or.inl ⟨hge, Or.inr (by omega), rfl, rfl⟩) | exact Or.inr (Or.inr ⟨_, hi_v, by omega, rfl, rfl⟩)
      ·
        refine v_al_n 27 zC dX4_row_26 0 rfl ?_
        refine v_bp (v := (-6)) 29 zC dX4_row_27 (by decide +kernel) ?_
        refine v_cV (As := [.int (-6)]) (st := []) 32 0 [0, 2] zC dX4_row_29 hA (c_X4_refuse (ev_l E) (ev_D E) cI (x0 := x0) (xn := xn) (xm := xm) (xp := xp) (b0 := b0) (g0 := g0) (s0 := s0) (w0 := w0) (y0 := y0) (pd := pd) (rs := rs) (R := R) (v := (-6)) (j := 6) (hv := (by first | omega | assumption | rfl | (simp only []; omega) | decide)) (h1 := (by first | omega | assumption | rfl | (simp only []; omega) | decide)) (h6 := (by first | omega | assumption | rfl | (simp only []; omega) | decide))) cf_X4_refuse lk_X4_50 rfl rfl rfl rfl rfl (by decide +kernel) (Nat.le_of_ble_eq_true rfl) (fun rv_8 wv_9 hp_10 hm_11 => ?_)
        clear hm_11
        obtain ⟨rfl, rfl⟩ := hp_10
        show VV E 0 0 32 [(0, .ref x0), (1, .int (nI kv))] [.int (-6)] [(x0, .inr (4, [.ref xn, .ref xm, .ref xp, .int (bz pd), .ref b0, .ref g0, .ref s0, .ref w0, .int (nI rs), .ref y0])), (w0, .inl (cI, 24, .inl (nIf rw))), (y0, .inl (cI, 7, .inl (nIf (un R 6 (R 6 + 1)))))]
        refine v_iret zC zT dX4_row_32  ?_
        first | exact Or.inl ⟨hlt9, rfl, rfl⟩ | exact Or.inr (Or.inl ⟨hge, Or.inl hbi9, rfl, rfl⟩) | exact Or.inr (Or.inl ⟨hge, Or.inr (by omega), rfl, rfl⟩) | exact Or.inr (Or.inr ⟨_, hi_v, by omega, rfl, rfl⟩)
  ·
    have hlt9 := Int32.not_le.mp h_1
    refine v_al_n 5 zC dX4_row_4 0 rfl ?_
    refine v_bp (v := (-4)) 7 zC dX4_row_5 (by decide +kernel) ?_
    refine v_cV (As := [.int (-4)]) (st := []) 10 0 [0, 2] zC dX4_row_7 hA (c_X4_refuse (ev_l E) (ev_D E) cI (x0 := x0) (xn := xn) (xm := xm) (xp := xp) (b0 := b0) (g0 := g0) (s0 := s0) (w0 := w0) (y0 := y0) (pd := pd) (rs := rs) (R := R) (v := (-4)) (j := 4) (hv := (by first | omega | assumption | rfl | (simp only []; omega) | decide)) (h1 := (by first | omega | assumption | rfl | (simp only []; omega) | decide)) (h6 := (by first | omega | assumption | rfl | (simp only []; omega) | decide))) cf_X4_refuse lk_X4_50 rfl rfl rfl rfl rfl (by decide +kernel) (Nat.le_of_ble_eq_true rfl) (fun rv_12 wv_13 hp_14 hm_15 => ?_)
    clear hm_15
    obtain ⟨rfl, rfl⟩ := hp_14
    show VV E 0 0 10 [(0, .ref x0), (1, .int v)] [.int (-4)] [(x0, .inr (4, [.ref xn, .ref xm, .ref xp, .int (bz pd), .ref b0, .ref g0, .ref s0, .ref w0, .int (nI rs), .ref y0])), (w0, .inl (cI, 24, .inl (nIf rw))), (y0, .inl (cI, 7, .inl (nIf (un R 4 (R 4 + 1)))))]
    refine v_iret zC zT dX4_row_10  ?_
    first | exact Or.inl ⟨hlt9, rfl, rfl⟩ | exact Or.inr (Or.inl ⟨hge, Or.inl hbi9, rfl, rfl⟩) | exact Or.inr (Or.inl ⟨hge, Or.inr (by omega), rfl, rfl⟩) | exact Or.inr (Or.inr ⟨_, hi_v, by omega, rfl, rfl⟩)
set_option maxRecDepth 100000 in
set_option maxHeartbeats 4000000 in
theorem c_X4_clear (l : Launch) (D : va_G) (cI : ClassId) (x0 xn xm xp b0 g0 s0 w0 y0 : Nat) (pd : Bool) (rs : Nat)  : CT l yX4_clear cX4_clear 2 (some .int) { frames := 0, cells := 0, slots := 0, locals := 0 } D cI [.ref x0] [(x0, .inr (4, [.ref xn, .ref xm, .ref xp, .int (bz pd), .ref b0, .ref g0, .ref s0, .ref w0, .int (nI rs), .ref y0]))] (fun zr zw => (zr = some (.int (nI rs)) ∧ zw = [(x0, .inr (4, [.ref xn, .ref xm, .ref xp, .int (bz pd), .ref b0, .ref g0, .ref s0, .ref w0, .int (nI 0), .ref y0]))])) := by
  refine CT_of RX4 rfl (by decide +kernel) (Nat.le_of_ble_eq_true rfl) (fun E hnE zC zT => ?_)
  have hA : ∀ q, (ev_s E).heap.size ≤ q → ev_A E q := fun q h => by rw [zT.2]; exact Or.inr h
  show VV E 0 0 0 [(0, .ref x0)] [] [(x0, .inr (4, [.ref xn, .ref xm, .ref xp, .int (bz pd), .ref b0, .ref g0, .ref s0, .ref w0, .int (nI rs), .ref y0]))]
  refine v_al_n 1 zC dX4_clear_0 0 rfl ?_
  refine v_gf 4 0 zC dX4_clear_1 gf_X4_221 rfl rfl ?_
  refine v_is_n (lv2 := [(1, .int (nI rs)), (0, .ref x0)]) 5 zC dX4_clear_4 (by rw [hnE]; decide) rfl ?_
  refine v_al_n 6 zC dX4_clear_5 1 rfl ?_
  refine v_ic (v := (nI 0)) 7 zC dX4_clear_6 (by decide +kernel) ?_
  refine v_pf (ws2 := [(x0, .inr (4, [.ref xn, .ref xm, .ref xp, .int (bz pd), .ref b0, .ref g0, .ref s0, .ref w0, .int (nI 0), .ref y0]))]) 10 0 zC dX4_clear_7 pf_X4_221 rfl (Nat.le_of_ble_eq_true rfl) rfl rfl rfl ?_
  refine v_il_n 11 zC dX4_clear_10 0 rfl ?_
  refine v_iret zC zT dX4_clear_11  ?_
  first | exact ⟨rfl, rfl⟩ | exact ⟨sb1 (by assumption), rfl⟩ | exact ⟨sb0 (by assumption), rfl⟩ | (exfalso; omega) | exact ⟨sb1 (by simp [*]), rfl⟩ | exact ⟨sb0 (by simp [*]), rfl⟩
