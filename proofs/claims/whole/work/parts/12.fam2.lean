def VZ (k : Nat) (f : Nat → Nat) : Prop := ∀ z, k ≤ z → f z = 0
/-- a family's numbers are as they must be -/
def FW (n m sh : Nat) (ki op fa K G T : Nat → Nat) : Prop := n ≤ 7 ∧ m ≤ 6 ∧ sh < 2 ^ n ∧ (∀ z, ki z < 64) ∧ (∀ z, op z < 2 ^ 24) ∧ (∀ z, fa z < 1024) ∧ (∀ z, K z < 6) ∧ (∀ z, G z < 10) ∧ (∀ z, T z < 10) ∧ VZ 7 ki ∧ VZ 7 op ∧ VZ 7 fa ∧ VZ 6 K ∧ VZ 6 G ∧ VZ 6 T
theorem cpy_v {k : Nat} {f g : Nat → Nat} (hf : VZ k f) (hg : VZ k g) : va_cpy f g 0 0 k = f := by
  funext z
  unfold va_cpy
  by_cases h : 0 ≤ z ∧ z < 0 + k
  · rw [if_pos h, show 0 + (z - 0) = z by omega]
  · rw [if_neg h, hg z (by omega), hf z (by omega)]
theorem andn_self {s n : Nat} (h : s < 2 ^ n) : andn s (2 ^ n) = s := by
  apply Nat.eq_of_testBit_eq
  intro i
  rw [andn, Nat.testBit_xor, Nat.testBit_and, Nat.testBit_two_pow]
  by_cases e : n = i
  · subst e
    rw [Nat.testBit_lt_two_pow h]
    simp
  · simp [e]
theorem un_v {f : Nat → Nat} {k i v : Nat} (hf : VZ k f) (hi : i < k) : VZ k (un f i v) := fun z hz => by rw [un_n (by omega)]; exact hf z hz
theorem un_b {f : Nat → Nat} {i v k : Nat} (hf : ∀ z, f z < k) (hv : v < k) : ∀ z, un f i v z < k := by
  intro z
  unfold un
  split
  · exact hv
  · exact hf z
def sw (f : Nat → Nat) (a b : Nat) : Nat → Nat := un (un f a (f b)) b (f a)
def HR (f l : Nat) : Nat := 2 ^ (l + 1) - 2 ^ f
section VBB
variable {E : EV} {cc : ByteArray} {own : String} {ret : Option FieldType} {cI : ClassId} {rm : Room} {k n pc : Nat} {lv : List (Nat × Value)} {st : List Value} {ws : va_W} {A B : Bool} {off : Int}
theorem bz_inj {A B : Bool} : bz A = bz B ↔ A = B := by cases A <;> cases B <;> decide +kernel
theorem v_icmpbb_eq (t q : Nat) (C : CX E cc own ret cI rm) (hd : decode cc pc = .ok (.if_icmp .eq off, 3)) (kt : A = B → VV E k n t lv st ws) (kf : ¬ A = B → VV E k n q lv st ws) (ht : (pc : Int) + off = (t : Int) := by rfl) (hq : pc + 3 = q := by rfl) : VV E k n pc lv (.int (bz B) :: .int (bz A) :: st) ws :=
  v_icmp_eq t q C hd (fun c => kt (bz_inj.mp c)) (fun c => kf (fun h => c (bz_inj.mpr h))) ht hq
end VBB

set_option maxRecDepth 100000 in
set_option maxHeartbeats 4000000 in
theorem c_X4_hoursFrom (l : Launch) (D : va_G) (cI : ClassId) (f e : Nat) (hf : f ≤ e) (he : e < 24) : CT l yX4_hoursFrom cX4_hoursFrom 2 (some .int) { frames := 0, cells := 0, slots := 0, locals := 0 } D cI [.int (nI f), .int (nI e)] [] (fun zr zw => (zr = some (.int (nI (HR f e))) ∧ zw = [])) := by
  refine CT_of RX4 rfl (by decide +kernel) (Nat.le_of_ble_eq_true rfl) (fun E hnE zC zT => ?_)
  have hA : ∀ q, (ev_s E).heap.size ≤ q → ev_A E q := fun q h => by rw [zT.2]; exact Or.inr h
  show VV E 0 0 0 [(0, .int (nI f)), (1, .int (nI e))] [] []
  refine v_ic (v := (nI 1)) 1 zC dX4_hoursFrom_0 (by decide +kernel) ?_
  refine v_il_n 2 zC dX4_hoursFrom_1 1 rfl ?_
  refine v_ic (v := (nI 1)) 3 zC dX4_hoursFrom_2 (by decide +kernel) ?_
  refine v_iadd (v := (nI (e + 1))) 4 zC dX4_hoursFrom_3 (nI_add _ _) ?_
  refine v_ishl (v := (nI (2 ^ (e + 1)))) 5 zC dX4_hoursFrom_4 (b1n (by omega)) ?_
  refine v_ic (v := (nI 1)) 6 zC dX4_hoursFrom_5 (by decide +kernel) ?_
  refine v_il_n 7 zC dX4_hoursFrom_6 0 rfl ?_
  refine v_ishl (v := (nI (2 ^ f))) 8 zC dX4_hoursFrom_7 (b1n (by omega)) ?_
  refine v_isub (v := (nI (HR f e))) 9 zC dX4_hoursFrom_8 (pk_sub (Nat.pow_le_pow_right (by decide) (by omega))) ?_
  refine v_iret zC zT dX4_hoursFrom_9  ?_
  first | exact ⟨rfl, rfl⟩ | exact ⟨sb1 (by assumption), rfl⟩ | exact ⟨sb0 (by assumption), rfl⟩ | (exfalso; omega) | exact ⟨sb1 (by simp [*]), rfl⟩ | exact ⟨sb0 (by simp [*]), rfl⟩
set_option maxRecDepth 100000 in
set_option maxHeartbeats 4000000 in
theorem c_X2_become (l : Launch) (D : va_G) (cI : ClassId) (a0 a1 a2 a3 a4 a5 a6 : Nat) (n m sh aw : Nat) (ki op fa K G T : Nat → Nat) (c0 c1 c2 c3 c4 c5 c6 : Nat) (n1 m1 sh1 aw1 : Nat) (ki1 op1 fa1 K1 G1 T1 : Nat → Nat) (hw : FW n m sh ki op fa K G T) (hw1 : FW n1 m1 sh1 ki1 op1 fa1 K1 G1 T1) : CT l yX2_become cX2_become 2 none { frames := 1, cells := 0, slots := 0, locals := 40 } D cI [.ref c0, .ref a0] [(c0, .inr (2, [.int (nI n1), .int (nI m1), .int (nI sh1), .int (nI aw1), .ref c1, .ref c2, .ref c3, .ref c4, .ref c5, .ref c6])), (c1, .inl (cI, 7, .inl (nIf ki1))), (c2, .inl (cI, 7, .inl (nIf op1))), (c3, .inl (cI, 7, .inl (nIf fa1))), (c4, .inl (cI, 6, .inl (nIf K1))), (c5, .inl (cI, 6, .inl (nIf G1))), (c6, .inl (cI, 6, .inl (nIf T1))), (a0, .inr (2, [.int (nI n), .int (nI m), .int (nI sh), .int (nI aw), .ref a1, .ref a2, .ref a3, .ref a4, .ref a5, .ref a6])), (a1, .inl (cI, 7, .inl (nIf ki))), (a2, .inl (cI, 7, .inl (nIf op))), (a3, .inl (cI, 7, .inl (nIf fa))), (a4, .inl (cI, 6, .inl (nIf K))), (a5, .inl (cI, 6, .inl (nIf G))), (a6, .inl (cI, 6, .inl (nIf T)))] (fun zr zw => (zr = none ∧ zw = [(c0, .inr (2, [.int (nI n), .int (nI m), .int (nI sh), .int (nI 0), .ref c1, .ref c2, .ref c3, .ref c4, .ref c5, .ref c6])), (c1, .inl (cI, 7, .inl (nIf ki))), (c2, .inl (cI, 7, .inl (nIf op))), (c3, .inl (cI, 7, .inl (nIf fa))), (c4, .inl (cI, 6, .inl (nIf K))), (c5, .inl (cI, 6, .inl (nIf G))), (c6, .inl (cI, 6, .inl (nIf T))), (a0, .inr (2, [.int (nI n), .int (nI m), .int (nI sh), .int (nI aw), .ref a1, .ref a2, .ref a3, .ref a4, .ref a5, .ref a6])), (a1, .inl (cI, 7, .inl (nIf ki))), (a2, .inl (cI, 7, .inl (nIf op))), (a3, .inl (cI, 7, .inl (nIf fa))), (a4, .inl (cI, 6, .inl (nIf K))), (a5, .inl (cI, 6, .inl (nIf G))), (a6, .inl (cI, 6, .inl (nIf T)))])) := by
  refine CT_of RX2 rfl (by decide +kernel) (Nat.le_of_ble_eq_true rfl) (fun E hnE zC zT => ?_)
  have hA : ∀ q, (ev_s E).heap.size ≤ q → ev_A E q := fun q h => by rw [zT.2]; exact Or.inr h
  obtain ⟨hn, hm, hsh, hki, hop, hfa, hK, hG, hT, vki, vop, vfa, vK, vG, vT⟩ := id hw
  obtain ⟨hn1, hm1, hsh1, hki1, hop1, hfa1, hK1, hG1, hT1, vki1, vop1, vfa1, vK1, vG1, vT1⟩ := id hw1
  show VV E 0 0 0 [(0, .ref c0), (1, .ref a0)] [] [(c0, .inr (2, [.int (nI n1), .int (nI m1), .int (nI sh1), .int (nI aw1), .ref c1, .ref c2, .ref c3, .ref c4, .ref c5, .ref c6])), (c1, .inl (cI, 7, .inl (nIf ki1))), (c2, .inl (cI, 7, .inl (nIf op1))), (c3, .inl (cI, 7, .inl (nIf fa1))), (c4, .inl (cI, 6, .inl (nIf K1))), (c5, .inl (cI, 6, .inl (nIf G1))), (c6, .inl (cI, 6, .inl (nIf T1))), (a0, .inr (2, [.int (nI n), .int (nI m), .int (nI sh), .int (nI aw), .ref a1, .ref a2, .ref a3, .ref a4, .ref a5, .ref a6])), (a1, .inl (cI, 7, .inl (nIf ki))), (a2, .inl (cI, 7, .inl (nIf op))), (a3, .inl (cI, 7, .inl (nIf fa))), (a4, .inl (cI, 6, .inl (nIf K))), (a5, .inl (cI, 6, .inl (nIf G))), (a6, .inl (cI, 6, .inl (nIf T)))]
  refine v_al_n 1 zC dX2_become_0 0 rfl ?_
  refine v_al_n 2 zC dX2_become_1 1 rfl ?_
  refine v_gf 5 7 zC dX2_become_2 gf_X2_30 rfl rfl ?_
  refine v_pf (ws2 := [(c0, .inr (2, [.int (nI n), .int (nI m1), .int (nI sh1), .int (nI aw1), .ref c1, .ref c2, .ref c3, .ref c4, .ref c5, .ref c6])), (c1, .inl (cI, 7, .inl (nIf ki1))), (c2, .inl (cI, 7, .inl (nIf op1))), (c3, .inl (cI, 7, .inl (nIf fa1))), (c4, .inl (cI, 6, .inl (nIf K1))), (c5, .inl (cI, 6, .inl (nIf G1))), (c6, .inl (cI, 6, .inl (nIf T1))), (a0, .inr (2, [.int (nI n), .int (nI m), .int (nI sh), .int (nI aw), .ref a1, .ref a2, .ref a3, .ref a4, .ref a5, .ref a6])), (a1, .inl (cI, 7, .inl (nIf ki))), (a2, .inl (cI, 7, .inl (nIf op))), (a3, .inl (cI, 7, .inl (nIf fa))), (a4, .inl (cI, 6, .inl (nIf K))), (a5, .inl (cI, 6, .inl (nIf G))), (a6, .inl (cI, 6, .inl (nIf T)))]) 8 0 zC dX2_become_5 pf_X2_30 rfl (Nat.le_of_ble_eq_true rfl) rfl rfl rfl ?_
  refine v_al_n 9 zC dX2_become_8 0 rfl ?_
  refine v_al_n 10 zC dX2_become_9 1 rfl ?_
  refine v_gf 13 7 zC dX2_become_10 gf_X2_34 rfl rfl ?_
  refine v_pf (ws2 := [(c0, .inr (2, [.int (nI n), .int (nI m), .int (nI sh1), .int (nI aw1), .ref c1, .ref c2, .ref c3, .ref c4, .ref c5, .ref c6])), (c1, .inl (cI, 7, .inl (nIf ki1))), (c2, .inl (cI, 7, .inl (nIf op1))), (c3, .inl (cI, 7, .inl (nIf fa1))), (c4, .inl (cI, 6, .inl (nIf K1))), (c5, .inl (cI, 6, .inl (nIf G1))), (c6, .inl (cI, 6, .inl (nIf T1))), (a0, .inr (2, [.int (nI n), .int (nI m), .int (nI sh), .int (nI aw), .ref a1, .ref a2, .ref a3, .ref a4, .ref a5, .ref a6])), (a1, .inl (cI, 7, .inl (nIf ki))), (a2, .inl (cI, 7, .inl (nIf op))), (a3, .inl (cI, 7, .inl (nIf fa))), (a4, .inl (cI, 6, .inl (nIf K))), (a5, .inl (cI, 6, .inl (nIf G))), (a6, .inl (cI, 6, .inl (nIf T)))]) 16 0 zC dX2_become_13 pf_X2_34 rfl (Nat.le_of_ble_eq_true rfl) rfl rfl rfl ?_
  refine v_al_n 17 zC dX2_become_16 0 rfl ?_
  refine v_al_n 18 zC dX2_become_17 1 rfl ?_
  refine v_gf 21 7 zC dX2_become_18 gf_X2_37 rfl rfl ?_
  refine v_pf (ws2 := [(c0, .inr (2, [.int (nI n), .int (nI m), .int (nI sh), .int (nI aw1), .ref c1, .ref c2, .ref c3, .ref c4, .ref c5, .ref c6])), (c1, .inl (cI, 7, .inl (nIf ki1))), (c2, .inl (cI, 7, .inl (nIf op1))), (c3, .inl (cI, 7, .inl (nIf fa1))), (c4, .inl (cI, 6, .inl (nIf K1))), (c5, .inl (cI, 6, .inl (nIf G1))), (c6, .inl (cI, 6, .inl (nIf T1))), (a0, .inr (2, [.int (nI n), .int (nI m), .int (nI sh), .int (nI aw), .ref a1, .ref a2, .ref a3, .ref a4, .ref a5, .ref a6])), (a1, .inl (cI, 7, .inl (nIf ki))), (a2, .inl (cI, 7, .inl (nIf op))), (a3, .inl (cI, 7, .inl (nIf fa))), (a4, .inl (cI, 6, .inl (nIf K))), (a5, .inl (cI, 6, .inl (nIf G))), (a6, .inl (cI, 6, .inl (nIf T)))]) 24 0 zC dX2_become_21 pf_X2_37 rfl (Nat.le_of_ble_eq_true rfl) rfl rfl rfl ?_
  refine v_al_n 25 zC dX2_become_24 0 rfl ?_
  refine v_ic (v := (nI 0)) 26 zC dX2_become_25 (by decide +kernel) ?_
  refine v_pf (ws2 := [(c0, .inr (2, [.int (nI n), .int (nI m), .int (nI sh), .int (nI 0), .ref c1, .ref c2, .ref c3, .ref c4, .ref c5, .ref c6])), (c1, .inl (cI, 7, .inl (nIf ki1))), (c2, .inl (cI, 7, .inl (nIf op1))), (c3, .inl (cI, 7, .inl (nIf fa1))), (c4, .inl (cI, 6, .inl (nIf K1))), (c5, .inl (cI, 6, .inl (nIf G1))), (c6, .inl (cI, 6, .inl (nIf T1))), (a0, .inr (2, [.int (nI n), .int (nI m), .int (nI sh), .int (nI aw), .ref a1, .ref a2, .ref a3, .ref a4, .ref a5, .ref a6])), (a1, .inl (cI, 7, .inl (nIf ki))), (a2, .inl (cI, 7, .inl (nIf op))), (a3, .inl (cI, 7, .inl (nIf fa))), (a4, .inl (cI, 6, .inl (nIf K))), (a5, .inl (cI, 6, .inl (nIf G))), (a6, .inl (cI, 6, .inl (nIf T)))]) 29 0 zC dX2_become_26 pf_X2_40 rfl (Nat.le_of_ble_eq_true rfl) rfl rfl rfl ?_
  refine v_al_n 30 zC dX2_become_29 1 rfl ?_
  refine v_gf 33 7 zC dX2_become_30 gf_X2_9 rfl rfl ?_
  refine v_ic (v := (nI 0)) 34 zC dX2_become_33 (by decide +kernel) ?_
  refine v_al_n 35 zC dX2_become_34 0 rfl ?_
  refine v_gf 38 0 zC dX2_become_35 gf_X2_9 rfl rfl ?_
  refine v_ic (v := (nI 0)) 39 zC dX2_become_38 (by decide +kernel) ?_
  refine v_bp (v := (nI 7)) 41 zC dX2_become_39 (by decide +kernel) ?_
  refine v_cpy (ws2 := [(c0, .inr (2, [.int (nI n), .int (nI m), .int (nI sh), .int (nI 0), .ref c1, .ref c2, .ref c3, .ref c4, .ref c5, .ref c6])), (c1, .inl (cI, 7, .inl (nIf ki))), (c2, .inl (cI, 7, .inl (nIf op1))), (c3, .inl (cI, 7, .inl (nIf fa1))), (c4, .inl (cI, 6, .inl (nIf K1))), (c5, .inl (cI, 6, .inl (nIf G1))), (c6, .inl (cI, 6, .inl (nIf T1))), (a0, .inr (2, [.int (nI n), .int (nI m), .int (nI sh), .int (nI aw), .ref a1, .ref a2, .ref a3, .ref a4, .ref a5, .ref a6])), (a1, .inl (cI, 7, .inl (nIf ki))), (a2, .inl (cI, 7, .inl (nIf op))), (a3, .inl (cI, 7, .inl (nIf fa))), (a4, .inl (cI, 6, .inl (nIf K))), (a5, .inl (cI, 6, .inl (nIf G))), (a6, .inl (cI, 6, .inl (nIf T)))]) (hsp := (by decide)) (hdp := (by decide)) (hm := (by decide)) 44 8 1 zC dX2_become_41 ac_X2_43 ac_n ac_s ac_i rfl rfl (by omega) (by omega) ⟨Nat.le_of_ble_eq_true rfl, Nat.le_of_ble_eq_true rfl⟩ (by rw [cpy_nIf, cpy_v vki vki1]; first | done | rfl) ?_
  refine v_al_n 45 zC dX2_become_44 1 rfl ?_
  refine v_gf 48 7 zC dX2_become_45 gf_X2_15 rfl rfl ?_
  refine v_ic (v := (nI 0)) 49 zC dX2_become_48 (by decide +kernel) ?_
  refine v_al_n 50 zC dX2_become_49 0 rfl ?_
  refine v_gf 53 0 zC dX2_become_50 gf_X2_15 rfl rfl ?_
  refine v_ic (v := (nI 0)) 54 zC dX2_become_53 (by decide +kernel) ?_
  refine v_bp (v := (nI 7)) 56 zC dX2_become_54 (by decide +kernel) ?_
  refine v_cpy (ws2 := [(c0, .inr (2, [.int (nI n), .int (nI m), .int (nI sh), .int (nI 0), .ref c1, .ref c2, .ref c3, .ref c4, .ref c5, .ref c6])), (c1, .inl (cI, 7, .inl (nIf ki))), (c2, .inl (cI, 7, .inl (nIf op))), (c3, .inl (cI, 7, .inl (nIf fa1))), (c4, .inl (cI, 6, .inl (nIf K1))), (c5, .inl (cI, 6, .inl (nIf G1))), (c6, .inl (cI, 6, .inl (nIf T1))), (a0, .inr (2, [.int (nI n), .int (nI m), .int (nI sh), .int (nI aw), .ref a1, .ref a2, .ref a3, .ref a4, .ref a5, .ref a6])), (a1, .inl (cI, 7, .inl (nIf ki))), (a2, .inl (cI, 7, .inl (nIf op))), (a3, .inl (cI, 7, .inl (nIf fa))), (a4, .inl (cI, 6, .inl (nIf K))), (a5, .inl (cI, 6, .inl (nIf G))), (a6, .inl (cI, 6, .inl (nIf T)))]) (hsp := (by decide)) (hdp := (by decide)) (hm := (by decide)) 59 9 2 zC dX2_become_56 ac_X2_43 ac_n ac_s ac_i rfl rfl (by omega) (by omega) ⟨Nat.le_of_ble_eq_true rfl, Nat.le_of_ble_eq_true rfl⟩ (by rw [cpy_nIf, cpy_v vop vop1]; first | done | rfl) ?_
  refine v_al_n 60 zC dX2_become_59 1 rfl ?_
  refine v_gf 63 7 zC dX2_become_60 gf_X2_18 rfl rfl ?_
  refine v_ic (v := (nI 0)) 64 zC dX2_become_63 (by decide +kernel) ?_
  refine v_al_n 65 zC dX2_become_64 0 rfl ?_
  refine v_gf 68 0 zC dX2_become_65 gf_X2_18 rfl rfl ?_
  refine v_ic (v := (nI 0)) 69 zC dX2_become_68 (by decide +kernel) ?_
  refine v_bp (v := (nI 7)) 71 zC dX2_become_69 (by decide +kernel) ?_
  refine v_cpy (ws2 := [(c0, .inr (2, [.int (nI n), .int (nI m), .int (nI sh), .int (nI 0), .ref c1, .ref c2, .ref c3, .ref c4, .ref c5, .ref c6])), (c1, .inl (cI, 7, .inl (nIf ki))), (c2, .inl (cI, 7, .inl (nIf op))), (c3, .inl (cI, 7, .inl (nIf fa))), (c4, .inl (cI, 6, .inl (nIf K1))), (c5, .inl (cI, 6, .inl (nIf G1))), (c6, .inl (cI, 6, .inl (nIf T1))), (a0, .inr (2, [.int (nI n), .int (nI m), .int (nI sh), .int (nI aw), .ref a1, .ref a2, .ref a3, .ref a4, .ref a5, .ref a6])), (a1, .inl (cI, 7, .inl (nIf ki))), (a2, .inl (cI, 7, .inl (nIf op))), (a3, .inl (cI, 7, .inl (nIf fa))), (a4, .inl (cI, 6, .inl (nIf K))), (a5, .inl (cI, 6, .inl (nIf G))), (a6, .inl (cI, 6, .inl (nIf T)))]) (hsp := (by decide)) (hdp := (by decide)) (hm := (by decide)) 74 10 3 zC dX2_become_71 ac_X2_43 ac_n ac_s ac_i rfl rfl (by omega) (by omega) ⟨Nat.le_of_ble_eq_true rfl, Nat.le_of_ble_eq_true rfl⟩ (by rw [cpy_nIf, cpy_v vfa vfa1]; first | done | rfl) ?_
  refine v_al_n 75 zC dX2_become_74 1 rfl ?_
  refine v_gf 78 7 zC dX2_become_75 gf_X2_21 rfl rfl ?_
  refine v_ic (v := (nI 0)) 79 zC dX2_become_78 (by decide +kernel) ?_
  refine v_al_n 80 zC dX2_become_79 0 rfl ?_
  refine v_gf 83 0 zC dX2_become_80 gf_X2_21 rfl rfl ?_
  refine v_ic (v := (nI 0)) 84 zC dX2_become_83 (by decide +kernel) ?_
  refine v_bp (v := (nI 6)) 86 zC dX2_become_84 (by decide +kernel) ?_
  refine v_cpy (ws2 := [(c0, .inr (2, [.int (nI n), .int (nI m), .int (nI sh), .int (nI 0), .ref c1, .ref c2, .ref c3, .ref c4, .ref c5, .ref c6])), (c1, .inl (cI, 7, .inl (nIf ki))), (c2, .inl (cI, 7, .inl (nIf op))), (c3, .inl (cI, 7, .inl (nIf fa))), (c4, .inl (cI, 6, .inl (nIf K))), (c5, .inl (cI, 6, .inl (nIf G1))), (c6, .inl (cI, 6, .inl (nIf T1))), (a0, .inr (2, [.int (nI n), .int (nI m), .int (nI sh), .int (nI aw), .ref a1, .ref a2, .ref a3, .ref a4, .ref a5, .ref a6])), (a1, .inl (cI, 7, .inl (nIf ki))), (a2, .inl (cI, 7, .inl (nIf op))), (a3, .inl (cI, 7, .inl (nIf fa))), (a4, .inl (cI, 6, .inl (nIf K))), (a5, .inl (cI, 6, .inl (nIf G))), (a6, .inl (cI, 6, .inl (nIf T)))]) (hsp := (by decide)) (hdp := (by decide)) (hm := (by decide)) 89 11 4 zC dX2_become_86 ac_X2_43 ac_n ac_s ac_i rfl rfl (by omega) (by omega) ⟨Nat.le_of_ble_eq_true rfl, Nat.le_of_ble_eq_true rfl⟩ (by rw [cpy_nIf, cpy_v vK vK1]; first | done | rfl) ?_
  refine v_al_n 90 zC dX2_become_89 1 rfl ?_
  refine v_gf 93 7 zC dX2_become_90 gf_X2_24 rfl rfl ?_
  refine v_ic (v := (nI 0)) 94 zC dX2_become_93 (by decide +kernel) ?_
  refine v_al_n 95 zC dX2_become_94 0 rfl ?_
  refine v_gf 98 0 zC dX2_become_95 gf_X2_24 rfl rfl ?_
  refine v_ic (v := (nI 0)) 99 zC dX2_become_98 (by decide +kernel) ?_
  refine v_bp (v := (nI 6)) 101 zC dX2_become_99 (by decide +kernel) ?_
  refine v_cpy (ws2 := [(c0, .inr (2, [.int (nI n), .int (nI m), .int (nI sh), .int (nI 0), .ref c1, .ref c2, .ref c3, .ref c4, .ref c5, .ref c6])), (c1, .inl (cI, 7, .inl (nIf ki))), (c2, .inl (cI, 7, .inl (nIf op))), (c3, .inl (cI, 7, .inl (nIf fa))), (c4, .inl (cI, 6, .inl (nIf K))), (c5, .inl (cI, 6, .inl (nIf G))), (c6, .inl (cI, 6, .inl (nIf T1))), (a0, .inr (2, [.int (nI n), .int (nI m), .int (nI sh), .int (nI aw), .ref a1, .ref a2, .ref a3, .ref a4, .ref a5, .ref a6])), (a1, .inl (cI, 7, .inl (nIf ki))), (a2, .inl (cI, 7, .inl (nIf op))), (a3, .inl (cI, 7, .inl (nIf fa))), (a4, .inl (cI, 6, .inl (nIf K))), (a5, .inl (cI, 6, .inl (nIf G))), (a6, .inl (cI, 6, .inl (nIf T)))]) (hsp := (by decide)) (hdp := (by decide)) (hm := (by decide)) 104 12 5 zC dX2_become_101 ac_X2_43 ac_n ac_s ac_i rfl rfl (by omega) (by omega) ⟨Nat.le_of_ble_eq_true rfl, Nat.le_of_ble_eq_true rfl⟩ (by rw [cpy_nIf, cpy_v vG vG1]; first | done | rfl) ?_
  refine v_al_n 105 zC dX2_become_104 1 rfl ?_
  refine v_gf 108 7 zC dX2_become_105 gf_X2_27 rfl rfl ?_
  refine v_ic (v := (nI 0)) 109 zC dX2_become_108 (by decide +kernel) ?_
  refine v_al_n 110 zC dX2_become_109 0 rfl ?_
  refine v_gf 113 0 zC dX2_become_110 gf_X2_27 rfl rfl ?_
  refine v_ic (v := (nI 0)) 114 zC dX2_become_113 (by decide +kernel) ?_
  refine v_bp (v := (nI 6)) 116 zC dX2_become_114 (by decide +kernel) ?_
  refine v_cpy (ws2 := [(c0, .inr (2, [.int (nI n), .int (nI m), .int (nI sh), .int (nI 0), .ref c1, .ref c2, .ref c3, .ref c4, .ref c5, .ref c6])), (c1, .inl (cI, 7, .inl (nIf ki))), (c2, .inl (cI, 7, .inl (nIf op))), (c3, .inl (cI, 7, .inl (nIf fa))), (c4, .inl (cI, 6, .inl (nIf K))), (c5, .inl (cI, 6, .inl (nIf G))), (c6, .inl (cI, 6, .inl (nIf T))), (a0, .inr (2, [.int (nI n), .int (nI m), .int (nI sh), .int (nI aw), .ref a1, .ref a2, .ref a3, .ref a4, .ref a5, .ref a6])), (a1, .inl (cI, 7, .inl (nIf ki))), (a2, .inl (cI, 7, .inl (nIf op))), (a3, .inl (cI, 7, .inl (nIf fa))), (a4, .inl (cI, 6, .inl (nIf K))), (a5, .inl (cI, 6, .inl (nIf G))), (a6, .inl (cI, 6, .inl (nIf T)))]) (hsp := (by decide)) (hdp := (by decide)) (hm := (by decide)) 119 13 6 zC dX2_become_116 ac_X2_43 ac_n ac_s ac_i rfl rfl (by omega) (by omega) ⟨Nat.le_of_ble_eq_true rfl, Nat.le_of_ble_eq_true rfl⟩ (by rw [cpy_nIf, cpy_v vT vT1]; first | done | rfl) ?_
  refine v_vret zC zT dX2_become_119  ?_
  first | exact ⟨rfl, rfl⟩ | exact ⟨sb1 (by assumption), rfl⟩ | exact ⟨sb0 (by assumption), rfl⟩ | (exfalso; omega) | exact ⟨sb1 (by simp [*]), rfl⟩ | exact ⟨sb0 (by simp [*]), rfl⟩
set_option maxRecDepth 100000 in
set_option maxHeartbeats 4000000 in
theorem c_X2_addPerson (l : Launch) (D : va_G) (cI : ClassId) (a0 a1 a2 a3 a4 a5 a6 : Nat) (n m sh aw : Nat) (ki op fa : Nat → Nat) (k : Nat) (hn : n ≤ 7) (hsh : sh < 2 ^ n) (hk : k < 2 ^ 31) : CT l yX2_addPerson cX2_addPerson 2 (some .boolean) { frames := 0, cells := 0, slots := 0, locals := 0 } D cI [.ref a0, .int (nI k)] [(a0, .inr (2, [.int (nI n), .int (nI m), .int (nI sh), .int (nI aw), .ref a1, .ref a2, .ref a3, .ref a4, .ref a5, .ref a6])), (a1, .inl (cI, 7, .inl (nIf ki))), (a2, .inl (cI, 7, .inl (nIf op))), (a3, .inl (cI, 7, .inl (nIf fa)))] (fun zr zw => ((63 < k ∨ n = 7) ∧ zr = some (.int (nI 0)) ∧ zw = [(a0, .inr (2, [.int (nI n), .int (nI m), .int (nI sh), .int (nI aw), .ref a1, .ref a2, .ref a3, .ref a4, .ref a5, .ref a6])), (a1, .inl (cI, 7, .inl (nIf ki))), (a2, .inl (cI, 7, .inl (nIf op))), (a3, .inl (cI, 7, .inl (nIf fa)))]) ∨ ((k < 64) ∧ (n < 7) ∧ zr = some (.int (nI 1)) ∧ zw = [(a0, .inr (2, [.int (nI (n + 1)), .int (nI m), .int (nI sh), .int (nI aw), .ref a1, .ref a2, .ref a3, .ref a4, .ref a5, .ref a6])), (a1, .inl (cI, 7, .inl (nIf (un ki n k)))), (a2, .inl (cI, 7, .inl (nIf (un op n 0)))), (a3, .inl (cI, 7, .inl (nIf (un fa n 0))))])) := by
  refine CT_of RX2 rfl (by decide +kernel) (Nat.le_of_ble_eq_true rfl) (fun E hnE zC zT => ?_)
  have hA : ∀ q, (ev_s E).heap.size ≤ q → ev_A E q := fun q h => by rw [zT.2]; exact Or.inr h
  have h2n : 2 ^ n ≤ 2 ^ 7 := Nat.pow_le_pow_right (by decide) hn
  show VV E 0 0 0 [(0, .ref a0), (1, .int (nI k))] [] [(a0, .inr (2, [.int (nI n), .int (nI m), .int (nI sh), .int (nI aw), .ref a1, .ref a2, .ref a3, .ref a4, .ref a5, .ref a6])), (a1, .inl (cI, 7, .inl (nIf ki))), (a2, .inl (cI, 7, .inl (nIf op))), (a3, .inl (cI, 7, .inl (nIf fa)))]
  refine v_il_n 1 zC dX2_addPerson_0 1 rfl ?_
  refine v_ifn_lt 19 4 zC dX2_addPerson_1 (fun z => absurd z (Nat.not_lt_zero _)) (fun _ => ?_)
  refine v_il_n 5 zC dX2_addPerson_4 1 rfl ?_
  refine v_bp (v := (nI 63)) 7 zC dX2_addPerson_5 (by decide +kernel) ?_
  refine v_icmpn_gt 19 10 zC dX2_addPerson_7 (fun h_2 => ?_) (fun h_2 => ?_)
  ·
    refine v_ic (v := (nI 0)) 20 zC dX2_addPerson_19 (by decide +kernel) ?_
    refine v_zret zC zT dX2_addPerson_20 (by decide +kernel) ?_
    first | exact Or.inl ⟨by omega, rfl, rfl⟩ | exact Or.inr ⟨by omega, by omega, rfl, rfl⟩
  ·
    refine v_al_n 11 zC dX2_addPerson_10 0 rfl ?_
    refine v_gf 14 0 zC dX2_addPerson_11 gf_X2_30 rfl rfl ?_
    refine v_bp (v := (nI 7)) 16 zC dX2_addPerson_14 (by decide +kernel) ?_
    refine v_icmpn_lt 21 19 zC dX2_addPerson_16 (fun h_3 => ?_) (fun h_3 => ?_)
    ·
      refine v_al_n 22 zC dX2_addPerson_21 0 rfl ?_
      refine v_gf 25 0 zC dX2_addPerson_22 gf_X2_9 rfl rfl ?_
      refine v_al_n 26 zC dX2_addPerson_25 0 rfl ?_
      refine v_gf 29 0 zC dX2_addPerson_26 gf_X2_30 rfl rfl ?_
      refine v_il_n 30 zC dX2_addPerson_29 1 rfl ?_
      refine v_iasn (ws2 := [(a0, .inr (2, [.int (nI n), .int (nI m), .int (nI sh), .int (nI aw), .ref a1, .ref a2, .ref a3, .ref a4, .ref a5, .ref a6])), (a1, .inl (cI, 7, .inl (nIf (un ki n k)))), (a2, .inl (cI, 7, .inl (nIf op))), (a3, .inl (cI, 7, .inl (nIf fa)))]) 31 1 zC dX2_addPerson_30 rfl (by omega) (by rw [upd_nIf]; first | done | rfl) ?_
      refine v_al_n 32 zC dX2_addPerson_31 0 rfl ?_
      refine v_gf 35 0 zC dX2_addPerson_32 gf_X2_15 rfl rfl ?_
      refine v_al_n 36 zC dX2_addPerson_35 0 rfl ?_
      refine v_gf 39 0 zC dX2_addPerson_36 gf_X2_30 rfl rfl ?_
      refine v_ic (v := (nI 0)) 40 zC dX2_addPerson_39 (by decide +kernel) ?_
      refine v_iasn (ws2 := [(a0, .inr (2, [.int (nI n), .int (nI m), .int (nI sh), .int (nI aw), .ref a1, .ref a2, .ref a3, .ref a4, .ref a5, .ref a6])), (a1, .inl (cI, 7, .inl (nIf (un ki n k)))), (a2, .inl (cI, 7, .inl (nIf (un op n 0)))), (a3, .inl (cI, 7, .inl (nIf fa)))]) 41 2 zC dX2_addPerson_40 rfl (by omega) (by rw [upd_nIf]; first | done | rfl) ?_
      refine v_al_n 42 zC dX2_addPerson_41 0 rfl ?_
      refine v_gf 45 0 zC dX2_addPerson_42 gf_X2_18 rfl rfl ?_
      refine v_al_n 46 zC dX2_addPerson_45 0 rfl ?_
      refine v_gf 49 0 zC dX2_addPerson_46 gf_X2_30 rfl rfl ?_
      refine v_ic (v := (nI 0)) 50 zC dX2_addPerson_49 (by decide +kernel) ?_
      refine v_iasn (ws2 := [(a0, .inr (2, [.int (nI n), .int (nI m), .int (nI sh), .int (nI aw), .ref a1, .ref a2, .ref a3, .ref a4, .ref a5, .ref a6])), (a1, .inl (cI, 7, .inl (nIf (un ki n k)))), (a2, .inl (cI, 7, .inl (nIf (un op n 0)))), (a3, .inl (cI, 7, .inl (nIf (un fa n 0))))]) 51 3 zC dX2_addPerson_50 rfl (by omega) (by rw [upd_nIf]; first | done | rfl) ?_
      refine v_al_n 52 zC dX2_addPerson_51 0 rfl ?_
      refine v_dup 53 zC dX2_addPerson_52 rfl ?_
      refine v_gf 56 0 zC dX2_addPerson_53 gf_X2_37 rfl rfl ?_
      refine v_ic (v := (nI 1)) 57 zC dX2_addPerson_56 (by decide +kernel) ?_
      refine v_al_n 58 zC dX2_addPerson_57 0 rfl ?_
      refine v_gf 61 0 zC dX2_addPerson_58 gf_X2_30 rfl rfl ?_
      refine v_ishl (v := (nI (2 ^ n))) 62 zC dX2_addPerson_61 (b1n (by omega)) ?_
      refine v_ic (v := (-1)) 63 zC dX2_addPerson_62 (by decide +kernel) ?_
      refine v_ixor (v := ((nI (2 ^ n)) ^^^ (-1))) 64 zC dX2_addPerson_63 rfl ?_
      refine v_iand (v := (nI sh)) 65 zC dX2_addPerson_64 (by rw [andn_of, andn_self hsh]) ?_
      refine v_pf (ws2 := [(a0, .inr (2, [.int (nI n), .int (nI m), .int (nI sh), .int (nI aw), .ref a1, .ref a2, .ref a3, .ref a4, .ref a5, .ref a6])), (a1, .inl (cI, 7, .inl (nIf (un ki n k)))), (a2, .inl (cI, 7, .inl (nIf (un op n 0)))), (a3, .inl (cI, 7, .inl (nIf (un fa n 0))))]) 68 0 zC dX2_addPerson_65 pf_X2_37 rfl (Nat.le_of_ble_eq_true rfl) rfl rfl rfl ?_
      refine v_al_n 69 zC dX2_addPerson_68 0 rfl ?_
      refine v_dup 70 zC dX2_addPerson_69 rfl ?_
      refine v_gf 73 0 zC dX2_addPerson_70 gf_X2_30 rfl rfl ?_
      refine v_ic (v := (nI 1)) 74 zC dX2_addPerson_73 (by decide +kernel) ?_
      refine v_iadd (v := (nI (n + 1))) 75 zC dX2_addPerson_74 (nI_add _ _) ?_
      refine v_pf (ws2 := [(a0, .inr (2, [.int (nI (n + 1)), .int (nI m), .int (nI sh), .int (nI aw), .ref a1, .ref a2, .ref a3, .ref a4, .ref a5, .ref a6])), (a1, .inl (cI, 7, .inl (nIf (un ki n k)))), (a2, .inl (cI, 7, .inl (nIf (un op n 0)))), (a3, .inl (cI, 7, .inl (nIf (un fa n 0))))]) 78 0 zC dX2_addPerson_75 pf_X2_30 rfl (Nat.le_of_ble_eq_true rfl) rfl rfl rfl ?_
      refine v_ic (v := (nI 1)) 79 zC dX2_addPerson_78 (by decide +kernel) ?_
      refine v_zret zC zT dX2_addPerson_79 (by decide +kernel) ?_
      first | exact Or.inl ⟨by omega, rfl, rfl⟩ | exact Or.inr ⟨by omega, by omega, rfl, rfl⟩
    ·
      refine v_ic (v := (nI 0)) 20 zC dX2_addPerson_19 (by decide +kernel) ?_
      refine v_zret zC zT dX2_addPerson_20 (by decide +kernel) ?_
      first | exact Or.inl ⟨by omega, rfl, rfl⟩ | exact Or.inr ⟨by omega, by omega, rfl, rfl⟩
set_option maxRecDepth 100000 in
set_option maxHeartbeats 4000000 in
theorem c_X2_addDead (l : Launch) (D : va_G) (cI : ClassId) (a0 a1 a2 a3 a4 a5 a6 : Nat) (n m sh aw : Nat) (K G T : Nat → Nat) (k g t : Nat) (hm : m ≤ 6) (hk : k < 2 ^ 31) (hg : g < 2 ^ 31) (ht : t < 2 ^ 31) : CT l yX2_addDead cX2_addDead 5 (some .boolean) { frames := 0, cells := 0, slots := 0, locals := 0 } D cI [.ref a0, .int (nI k), .int (nI g), .int (nI t)] [(a0, .inr (2, [.int (nI n), .int (nI m), .int (nI sh), .int (nI aw), .ref a1, .ref a2, .ref a3, .ref a4, .ref a5, .ref a6])), (a4, .inl (cI, 6, .inl (nIf K))), (a5, .inl (cI, 6, .inl (nIf G))), (a6, .inl (cI, 6, .inl (nIf T)))] (fun zr zw => ((5 < k ∨ 9 < g ∨ 9 < t ∨ m = 6) ∧ zr = some (.int (nI 0)) ∧ zw = [(a0, .inr (2, [.int (nI n), .int (nI m), .int (nI sh), .int (nI aw), .ref a1, .ref a2, .ref a3, .ref a4, .ref a5, .ref a6])), (a4, .inl (cI, 6, .inl (nIf K))), (a5, .inl (cI, 6, .inl (nIf G))), (a6, .inl (cI, 6, .inl (nIf T)))]) ∨ ((k < 6) ∧ (g < 10) ∧ (t < 10) ∧ (m < 6) ∧ zr = some (.int (nI 1)) ∧ zw = [(a0, .inr (2, [.int (nI n), .int (nI (m + 1)), .int (nI sh), .int (nI aw), .ref a1, .ref a2, .ref a3, .ref a4, .ref a5, .ref a6])), (a4, .inl (cI, 6, .inl (nIf (un K m k)))), (a5, .inl (cI, 6, .inl (nIf (un G m g)))), (a6, .inl (cI, 6, .inl (nIf (un T m t))))])) := by
  refine CT_of RX2 rfl (by decide +kernel) (Nat.le_of_ble_eq_true rfl) (fun E hnE zC zT => ?_)
  have hA : ∀ q, (ev_s E).heap.size ≤ q → ev_A E q := fun q h => by rw [zT.2]; exact Or.inr h
  show VV E 0 0 0 [(0, .ref a0), (1, .int (nI k)), (2, .int (nI g)), (3, .int (nI t))] [] [(a0, .inr (2, [.int (nI n), .int (nI m), .int (nI sh), .int (nI aw), .ref a1, .ref a2, .ref a3, .ref a4, .ref a5, .ref a6])), (a4, .inl (cI, 6, .inl (nIf K))), (a5, .inl (cI, 6, .inl (nIf G))), (a6, .inl (cI, 6, .inl (nIf T)))]
  refine v_il_n 1 zC dX2_addDead_0 1 rfl ?_
  refine v_ifn_lt 34 4 zC dX2_addDead_1 (fun z => absurd z (Nat.not_lt_zero _)) (fun _ => ?_)
  refine v_il_n 5 zC dX2_addDead_4 1 rfl ?_
  refine v_bp (v := (nI 6)) 7 zC dX2_addDead_5 (by decide +kernel) ?_
  refine v_icmpn_ge 34 10 zC dX2_addDead_7 (fun h_2 => ?_) (fun h_2 => ?_)
  ·
    refine v_ic (v := (nI 0)) 35 zC dX2_addDead_34 (by decide +kernel) ?_
    refine v_is (lv2 := [(4, .int (nI 0)), (0, .ref a0), (1, .int (nI k)), (2, .int (nI g)), (3, .int (nI t))]) 37 zC dX2_addDead_35 (by rw [hnE]; decide) rfl ?_
    refine v_il 39 zC dX2_addDead_37 0 rfl ?_
    refine v_if_eq 51 42 zC dX2_addDead_39 (fun _ => ?_) (fun z => absurd (by decide +kernel) z)
    refine v_ic (v := (nI 0)) 52 zC dX2_addDead_51 (by decide +kernel) ?_
    refine v_zret zC zT dX2_addDead_52 (by decide +kernel) ?_
    first | exact Or.inl ⟨by omega, rfl, rfl⟩ | exact Or.inr ⟨by omega, by omega, by omega, by omega, rfl, rfl⟩
  ·
    refine v_il_n 11 zC dX2_addDead_10 2 rfl ?_
    refine v_ifn_lt 34 14 zC dX2_addDead_11 (fun z => absurd z (Nat.not_lt_zero _)) (fun _ => ?_)
    refine v_il_n 15 zC dX2_addDead_14 2 rfl ?_
    refine v_bp (v := (nI 10)) 17 zC dX2_addDead_15 (by decide +kernel) ?_
    refine v_icmpn_ge 34 20 zC dX2_addDead_17 (fun h_5 => ?_) (fun h_5 => ?_)
    ·
      refine v_ic (v := (nI 0)) 35 zC dX2_addDead_34 (by decide +kernel) ?_
      refine v_is (lv2 := [(4, .int (nI 0)), (0, .ref a0), (1, .int (nI k)), (2, .int (nI g)), (3, .int (nI t))]) 37 zC dX2_addDead_35 (by rw [hnE]; decide) rfl ?_
      refine v_il 39 zC dX2_addDead_37 0 rfl ?_
      refine v_if_eq 51 42 zC dX2_addDead_39 (fun _ => ?_) (fun z => absurd (by decide +kernel) z)
      refine v_ic (v := (nI 0)) 52 zC dX2_addDead_51 (by decide +kernel) ?_
      refine v_zret zC zT dX2_addDead_52 (by decide +kernel) ?_
      first | exact Or.inl ⟨by omega, rfl, rfl⟩ | exact Or.inr ⟨by omega, by omega, by omega, by omega, rfl, rfl⟩
    ·
      refine v_il_n 21 zC dX2_addDead_20 3 rfl ?_
      refine v_ifn_lt 34 24 zC dX2_addDead_21 (fun z => absurd z (Nat.not_lt_zero _)) (fun _ => ?_)
      refine v_il_n 25 zC dX2_addDead_24 3 rfl ?_
      refine v_bp (v := (nI 10)) 27 zC dX2_addDead_25 (by decide +kernel) ?_
      refine v_icmpn_ge 34 30 zC dX2_addDead_27 (fun h_8 => ?_) (fun h_8 => ?_)
      ·
        refine v_ic (v := (nI 0)) 35 zC dX2_addDead_34 (by decide +kernel) ?_
        refine v_is (lv2 := [(4, .int (nI 0)), (0, .ref a0), (1, .int (nI k)), (2, .int (nI g)), (3, .int (nI t))]) 37 zC dX2_addDead_35 (by rw [hnE]; decide) rfl ?_
        refine v_il 39 zC dX2_addDead_37 0 rfl ?_
        refine v_if_eq 51 42 zC dX2_addDead_39 (fun _ => ?_) (fun z => absurd (by decide +kernel) z)
        refine v_ic (v := (nI 0)) 52 zC dX2_addDead_51 (by decide +kernel) ?_
        refine v_zret zC zT dX2_addDead_52 (by decide +kernel) ?_
        first | exact Or.inl ⟨by omega, rfl, rfl⟩ | exact Or.inr ⟨by omega, by omega, by omega, by omega, rfl, rfl⟩
      ·
        refine v_ic (v := (nI 1)) 31 zC dX2_addDead_30 (by decide +kernel) ?_
        refine v_goto 35 zC dX2_addDead_31 ?_
        refine v_is (lv2 := [(4, .int (nI 1)), (0, .ref a0), (1, .int (nI k)), (2, .int (nI g)), (3, .int (nI t))]) 37 zC dX2_addDead_35 (by rw [hnE]; decide) rfl ?_
        refine v_il 39 zC dX2_addDead_37 0 rfl ?_
        refine v_if_eq 51 42 zC dX2_addDead_39 (fun z => absurd z (by decide +kernel)) (fun _ => ?_)
        refine v_al_n 43 zC dX2_addDead_42 1 rfl ?_
        refine v_gf 46 0 zC dX2_addDead_43 gf_X2_34 rfl rfl ?_
        refine v_bp (v := (nI 6)) 48 zC dX2_addDead_46 (by decide +kernel) ?_
        refine v_icmpn_lt 53 51 zC dX2_addDead_48 (fun h_11 => ?_) (fun h_11 => ?_)
        ·
          refine v_al_n 54 zC dX2_addDead_53 1 rfl ?_
          refine v_gf 57 0 zC dX2_addDead_54 gf_X2_21 rfl rfl ?_
          refine v_al_n 58 zC dX2_addDead_57 1 rfl ?_
          refine v_gf 61 0 zC dX2_addDead_58 gf_X2_34 rfl rfl ?_
          refine v_il_n 62 zC dX2_addDead_61 2 rfl ?_
          refine v_iasn (ws2 := [(a0, .inr (2, [.int (nI n), .int (nI m), .int (nI sh), .int (nI aw), .ref a1, .ref a2, .ref a3, .ref a4, .ref a5, .ref a6])), (a4, .inl (cI, 6, .inl (nIf (un K m k)))), (a5, .inl (cI, 6, .inl (nIf G))), (a6, .inl (cI, 6, .inl (nIf T)))]) 63 1 zC dX2_addDead_62 rfl (by omega) (by rw [upd_nIf]; first | done | rfl) ?_
          refine v_al_n 64 zC dX2_addDead_63 1 rfl ?_
          refine v_gf 67 0 zC dX2_addDead_64 gf_X2_24 rfl rfl ?_
          refine v_al_n 68 zC dX2_addDead_67 1 rfl ?_
          refine v_gf 71 0 zC dX2_addDead_68 gf_X2_34 rfl rfl ?_
          refine v_il_n 72 zC dX2_addDead_71 3 rfl ?_
          refine v_iasn (ws2 := [(a0, .inr (2, [.int (nI n), .int (nI m), .int (nI sh), .int (nI aw), .ref a1, .ref a2, .ref a3, .ref a4, .ref a5, .ref a6])), (a4, .inl (cI, 6, .inl (nIf (un K m k)))), (a5, .inl (cI, 6, .inl (nIf (un G m g)))), (a6, .inl (cI, 6, .inl (nIf T)))]) 73 2 zC dX2_addDead_72 rfl (by omega) (by rw [upd_nIf]; first | done | rfl) ?_
          refine v_al_n 74 zC dX2_addDead_73 1 rfl ?_
          refine v_gf 77 0 zC dX2_addDead_74 gf_X2_27 rfl rfl ?_
          refine v_al_n 78 zC dX2_addDead_77 1 rfl ?_
          refine v_gf 81 0 zC dX2_addDead_78 gf_X2_34 rfl rfl ?_
          refine v_il_n 82 zC dX2_addDead_81 4 rfl ?_
          refine v_iasn (ws2 := [(a0, .inr (2, [.int (nI n), .int (nI m), .int (nI sh), .int (nI aw), .ref a1, .ref a2, .ref a3, .ref a4, .ref a5, .ref a6])), (a4, .inl (cI, 6, .inl (nIf (un K m k)))), (a5, .inl (cI, 6, .inl (nIf (un G m g)))), (a6, .inl (cI, 6, .inl (nIf (un T m t))))]) 83 3 zC dX2_addDead_82 rfl (by omega) (by rw [upd_nIf]; first | done | rfl) ?_
          refine v_al_n 84 zC dX2_addDead_83 1 rfl ?_
          refine v_dup 85 zC dX2_addDead_84 rfl ?_
          refine v_gf 88 0 zC dX2_addDead_85 gf_X2_34 rfl rfl ?_
          refine v_ic (v := (nI 1)) 89 zC dX2_addDead_88 (by decide +kernel) ?_
          refine v_iadd (v := (nI (m + 1))) 90 zC dX2_addDead_89 (nI_add _ _) ?_
          refine v_pf (ws2 := [(a0, .inr (2, [.int (nI n), .int (nI (m + 1)), .int (nI sh), .int (nI aw), .ref a1, .ref a2, .ref a3, .ref a4, .ref a5, .ref a6])), (a4, .inl (cI, 6, .inl (nIf (un K m k)))), (a5, .inl (cI, 6, .inl (nIf (un G m g)))), (a6, .inl (cI, 6, .inl (nIf (un T m t))))]) 93 0 zC dX2_addDead_90 pf_X2_34 rfl (Nat.le_of_ble_eq_true rfl) rfl rfl rfl ?_
          refine v_ic (v := (nI 1)) 94 zC dX2_addDead_93 (by decide +kernel) ?_
          refine v_zret zC zT dX2_addDead_94 (by decide +kernel) ?_
          first | exact Or.inl ⟨by omega, rfl, rfl⟩ | exact Or.inr ⟨by omega, by omega, by omega, by omega, rfl, rfl⟩
        ·
          refine v_ic (v := (nI 0)) 52 zC dX2_addDead_51 (by decide +kernel) ?_
          refine v_zret zC zT dX2_addDead_52 (by decide +kernel) ?_
          first | exact Or.inl ⟨by omega, rfl, rfl⟩ | exact Or.inr ⟨by omega, by omega, by omega, by omega, rfl, rfl⟩
set_option maxRecDepth 100000 in
set_option maxHeartbeats 4000000 in
theorem c_X2_openFrom (l : Launch) (D : va_G) (cI : ClassId) (a0 a1 a2 a3 a4 a5 a6 : Nat) (n m sh aw : Nat) (op : Nat → Nat) (p f e : Nat) (o : Bool) (hn : n ≤ 7) (hp : p < 2 ^ 31) (hf : f < 2 ^ 31) (he : e < 2 ^ 31) : CT l yX2_openFrom cX2_openFrom 6 (some .boolean) { frames := 1, cells := 0, slots := 0, locals := 21 } D cI [.ref a0, .int (nI p), .int (nI f), .int (nI e), .int (bz o)] [(a0, .inr (2, [.int (nI n), .int (nI m), .int (nI sh), .int (nI aw), .ref a1, .ref a2, .ref a3, .ref a4, .ref a5, .ref a6])), (a2, .inl (cI, 7, .inl (nIf op)))] (fun zr zw => ((n ≤ p ∨ e < f ∨ 24 ≤ e) ∧ zr = some (.int (nI 0)) ∧ zw = [(a0, .inr (2, [.int (nI n), .int (nI m), .int (nI sh), .int (nI aw), .ref a1, .ref a2, .ref a3, .ref a4, .ref a5, .ref a6])), (a2, .inl (cI, 7, .inl (nIf op)))]) ∨ ((p < n) ∧ (f ≤ e) ∧ (e < 24) ∧ zr = some (.int (nI 1)) ∧ zw = [(a0, .inr (2, [.int (nI n), .int (nI m), .int (nI sh), .int (nI aw), .ref a1, .ref a2, .ref a3, .ref a4, .ref a5, .ref a6])), (a2, .inl (cI, 7, .inl (nIf (un op p (if o = true then (op p) ||| HR f e else andn (op p) (HR f e))))))])) := by
  refine CT_of RX2 rfl (by decide +kernel) (Nat.le_of_ble_eq_true rfl) (fun E hnE zC zT => ?_)
  have hA : ∀ q, (ev_s E).heap.size ≤ q → ev_A E q := fun q h => by rw [zT.2]; exact Or.inr h
  show VV E 0 0 0 [(0, .ref a0), (1, .int (nI p)), (2, .int (nI f)), (3, .int (nI e)), (4, .int (bz o))] [] [(a0, .inr (2, [.int (nI n), .int (nI m), .int (nI sh), .int (nI aw), .ref a1, .ref a2, .ref a3, .ref a4, .ref a5, .ref a6])), (a2, .inl (cI, 7, .inl (nIf op)))]
  refine v_il_n 1 zC dX2_openFrom_0 1 rfl ?_
  refine v_ifn_lt 27 4 zC dX2_openFrom_1 (fun z => absurd z (Nat.not_lt_zero _)) (fun _ => ?_)
  refine v_il_n 5 zC dX2_openFrom_4 1 rfl ?_
  refine v_al_n 6 zC dX2_openFrom_5 0 rfl ?_
  refine v_gf 9 0 zC dX2_openFrom_6 gf_X2_30 rfl rfl ?_
  refine v_icmpn_ge 27 12 zC dX2_openFrom_9 (fun h_2 => ?_) (fun h_2 => ?_)
  ·
    refine v_ic (v := (nI 0)) 28 zC dX2_openFrom_27 (by decide +kernel) ?_
    refine v_zret zC zT dX2_openFrom_28 (by decide +kernel) ?_
    first | exact Or.inl ⟨by omega, rfl, rfl⟩ | exact Or.inr ⟨by omega, by omega, by omega, rfl, by simp [*]⟩
  ·
    refine v_il_n 13 zC dX2_openFrom_12 2 rfl ?_
    refine v_ifn_lt 27 16 zC dX2_openFrom_13 (fun z => absurd z (Nat.not_lt_zero _)) (fun _ => ?_)
    refine v_il_n 17 zC dX2_openFrom_16 2 rfl ?_
    refine v_il_n 18 zC dX2_openFrom_17 3 rfl ?_
    refine v_icmpn_gt 27 21 zC dX2_openFrom_18 (fun h_4 => ?_) (fun h_4 => ?_)
    ·
      refine v_ic (v := (nI 0)) 28 zC dX2_openFrom_27 (by decide +kernel) ?_
      refine v_zret zC zT dX2_openFrom_28 (by decide +kernel) ?_
      first | exact Or.inl ⟨by omega, rfl, rfl⟩ | exact Or.inr ⟨by omega, by omega, by omega, rfl, by simp [*]⟩
    ·
      refine v_il_n 22 zC dX2_openFrom_21 3 rfl ?_
      refine v_bp (v := (nI 24)) 24 zC dX2_openFrom_22 (by decide +kernel) ?_
      refine v_icmpn_lt 29 27 zC dX2_openFrom_24 (fun h_5 => ?_) (fun h_5 => ?_)
      ·
        refine v_il_n 30 zC dX2_openFrom_29 2 rfl ?_
        refine v_il_n 31 zC dX2_openFrom_30 3 rfl ?_
        refine v_cS (As := [.int (nI f), .int (nI e)]) (st := []) 34 [] zC dX2_openFrom_31 hA (c_X4_hoursFrom (ev_l E) (ev_D E) cI (f := f) (e := e) (hf := (by first | omega | assumption | rfl | (simp only []; omega) | decide)) (he := (by first | omega | assumption | rfl | (simp only []; omega) | decide))) cf_X4_hoursFrom lk_X2_49 rfl rfl rfl (by decide +kernel) (Nat.le_of_ble_eq_true rfl) (fun rv_6 wv_7 hp_8 hm_9 => ?_)
        clear hm_9
        obtain ⟨rfl, rfl⟩ := hp_8
        show VV E 0 0 34 [(0, .ref a0), (1, .int (nI p)), (2, .int (nI f)), (3, .int (nI e)), (4, .int (bz o))] [.int (nI (HR f e))] [(a0, .inr (2, [.int (nI n), .int (nI m), .int (nI sh), .int (nI aw), .ref a1, .ref a2, .ref a3, .ref a4, .ref a5, .ref a6])), (a2, .inl (cI, 7, .inl (nIf op)))]
        refine v_is (lv2 := [(5, .int (nI (HR f e))), (0, .ref a0), (1, .int (nI p)), (2, .int (nI f)), (3, .int (nI e)), (4, .int (bz o))]) 36 zC dX2_openFrom_34 (by rw [hnE]; decide) rfl ?_
        refine v_al_n 37 zC dX2_openFrom_36 1 rfl ?_
        refine v_gf 40 0 zC dX2_openFrom_37 gf_X2_15 rfl rfl ?_
        refine v_il_n 41 zC dX2_openFrom_40 2 rfl ?_
        refine v_il 43 zC dX2_openFrom_41 5 rfl ?_
        refine v_ifb_eq 58 46 zC dX2_openFrom_43 (fun h_10 => ?_) (fun h_10 => ?_)
        ·
          refine v_al_n 59 zC dX2_openFrom_58 1 rfl ?_
          refine v_gf 62 0 zC dX2_openFrom_59 gf_X2_15 rfl rfl ?_
          refine v_il_n 63 zC dX2_openFrom_62 2 rfl ?_
          refine v_ialn (v := (nI (op p))) 64 1 zC dX2_openFrom_63 rfl (by omega) rfl ?_
          refine v_il 66 zC dX2_openFrom_64 0 rfl ?_
          refine v_ic (v := (-1)) 67 zC dX2_openFrom_66 (by decide +kernel) ?_
          refine v_ixor (v := ((nI (HR f e)) ^^^ (-1))) 68 zC dX2_openFrom_67 rfl ?_
          refine v_iand (v := (nI (andn (op p) (HR f e)))) 69 zC dX2_openFrom_68 (andn_of _ _) ?_
          refine v_iasn (ws2 := [(a0, .inr (2, [.int (nI n), .int (nI m), .int (nI sh), .int (nI aw), .ref a1, .ref a2, .ref a3, .ref a4, .ref a5, .ref a6])), (a2, .inl (cI, 7, .inl (nIf (un op p (andn (op p) (HR f e))))))]) 70 1 zC dX2_openFrom_69 rfl (by omega) (by rw [upd_nIf]; first | done | rfl) ?_
          refine v_ic (v := (nI 1)) 71 zC dX2_openFrom_70 (by decide +kernel) ?_
          refine v_zret zC zT dX2_openFrom_71 (by decide +kernel) ?_
          first | exact Or.inl ⟨by omega, rfl, rfl⟩ | exact Or.inr ⟨by omega, by omega, by omega, rfl, by simp [*]⟩
        ·
          refine v_al_n 47 zC dX2_openFrom_46 1 rfl ?_
          refine v_gf 50 0 zC dX2_openFrom_47 gf_X2_15 rfl rfl ?_
          refine v_il_n 51 zC dX2_openFrom_50 2 rfl ?_
          refine v_ialn (v := (nI (op p))) 52 1 zC dX2_openFrom_51 rfl (by omega) rfl ?_
          refine v_il 54 zC dX2_openFrom_52 0 rfl ?_
          refine v_ior (v := (nI ((op p) ||| (HR f e)))) 55 zC dX2_openFrom_54 (fa_or _ _) ?_
          refine v_goto 69 zC dX2_openFrom_55 ?_
          refine v_iasn (ws2 := [(a0, .inr (2, [.int (nI n), .int (nI m), .int (nI sh), .int (nI aw), .ref a1, .ref a2, .ref a3, .ref a4, .ref a5, .ref a6])), (a2, .inl (cI, 7, .inl (nIf (un op p ((op p) ||| (HR f e))))))]) 70 1 zC dX2_openFrom_69 rfl (by omega) (by rw [upd_nIf]; first | done | rfl) ?_
          refine v_ic (v := (nI 1)) 71 zC dX2_openFrom_70 (by decide +kernel) ?_
          refine v_zret zC zT dX2_openFrom_71 (by decide +kernel) ?_
          first | exact Or.inl ⟨by omega, rfl, rfl⟩ | exact Or.inr ⟨by omega, by omega, by omega, rfl, by simp [*]⟩
      ·
        refine v_ic (v := (nI 0)) 28 zC dX2_openFrom_27 (by decide +kernel) ?_
        refine v_zret zC zT dX2_openFrom_28 (by decide +kernel) ?_
        first | exact Or.inl ⟨by omega, rfl, rfl⟩ | exact Or.inr ⟨by omega, by omega, by omega, rfl, by simp [*]⟩
set_option maxRecDepth 100000 in
set_option maxHeartbeats 4000000 in
theorem c_X2_turnOpen (l : Launch) (D : va_G) (cI : ClassId) (a0 a1 a2 a3 a4 a5 a6 : Nat) (n m sh aw : Nat) (op : Nat → Nat) (p h : Nat) (hn : n ≤ 7) (hp : p < n) (hh : h < 24) : CT l yX2_turnOpen cX2_turnOpen 3 none { frames := 0, cells := 0, slots := 0, locals := 0 } D cI [.ref a0, .int (nI p), .int (nI h)] [(a0, .inr (2, [.int (nI n), .int (nI m), .int (nI sh), .int (nI aw), .ref a1, .ref a2, .ref a3, .ref a4, .ref a5, .ref a6])), (a2, .inl (cI, 7, .inl (nIf op)))] (fun zr zw => (zr = none ∧ zw = [(a0, .inr (2, [.int (nI n), .int (nI m), .int (nI sh), .int (nI aw), .ref a1, .ref a2, .ref a3, .ref a4, .ref a5, .ref a6])), (a2, .inl (cI, 7, .inl (nIf (un op p (op p ^^^ 2 ^ h)))))])) := by
  refine CT_of RX2 rfl (by decide +kernel) (Nat.le_of_ble_eq_true rfl) (fun E hnE zC zT => ?_)
  have hA : ∀ q, (ev_s E).heap.size ≤ q → ev_A E q := fun q h => by rw [zT.2]; exact Or.inr h
  show VV E 0 0 0 [(0, .ref a0), (1, .int (nI p)), (2, .int (nI h))] [] [(a0, .inr (2, [.int (nI n), .int (nI m), .int (nI sh), .int (nI aw), .ref a1, .ref a2, .ref a3, .ref a4, .ref a5, .ref a6])), (a2, .inl (cI, 7, .inl (nIf op)))]
  refine v_il_n 1 zC dX2_turnOpen_0 1 rfl ?_
  refine v_ifn_lt 24 4 zC dX2_turnOpen_1 (fun z => absurd z (Nat.not_lt_zero _)) (fun _ => ?_)
  refine v_il_n 5 zC dX2_turnOpen_4 1 rfl ?_
  refine v_al_n 6 zC dX2_turnOpen_5 0 rfl ?_
  refine v_gf 9 0 zC dX2_turnOpen_6 gf_X2_30 rfl rfl ?_
  refine v_icmpn_ge 24 12 zC dX2_turnOpen_9 (fun h_2 => False.elim (by omega)) (fun h_2 => ?_)
  refine v_al_n 13 zC dX2_turnOpen_12 0 rfl ?_
  refine v_gf 16 0 zC dX2_turnOpen_13 gf_X2_15 rfl rfl ?_
  refine v_il_n 17 zC dX2_turnOpen_16 1 rfl ?_
  refine v_dup2 18 zC dX2_turnOpen_17 rfl rfl ?_
  refine v_ialn (v := (nI (op p))) 19 1 zC dX2_turnOpen_18 rfl (by omega) rfl ?_
  refine v_ic (v := (nI 1)) 20 zC dX2_turnOpen_19 (by decide +kernel) ?_
  refine v_il_n 21 zC dX2_turnOpen_20 2 rfl ?_
  refine v_ishl (v := (nI (2 ^ h))) 22 zC dX2_turnOpen_21 (b1n (by omega)) ?_
  refine v_ixor (v := (nI ((op p) ^^^ (2 ^ h)))) 23 zC dX2_turnOpen_22 (fb_xorI _ _) ?_
  refine v_iasn (ws2 := [(a0, .inr (2, [.int (nI n), .int (nI m), .int (nI sh), .int (nI aw), .ref a1, .ref a2, .ref a3, .ref a4, .ref a5, .ref a6])), (a2, .inl (cI, 7, .inl (nIf (un op p ((op p) ^^^ (2 ^ h))))))]) 24 1 zC dX2_turnOpen_23 rfl (by omega) (by rw [upd_nIf]; first | done | rfl) ?_
  refine v_vret zC zT dX2_turnOpen_24  ?_
  first | exact ⟨rfl, rfl⟩ | exact ⟨sb1 (by assumption), rfl⟩ | exact ⟨sb0 (by assumption), rfl⟩ | (exfalso; omega) | exact ⟨sb1 (by simp [*]), rfl⟩ | exact ⟨sb0 (by simp [*]), rfl⟩
set_option maxRecDepth 100000 in
set_option maxHeartbeats 4000000 in
theorem c_X2_turnKin (l : Launch) (D : va_G) (cI : ClassId) (a0 a1 a2 a3 a4 a5 a6 : Nat) (n m sh aw : Nat) (ki : Nat → Nat) (p d : Nat) (hn : n ≤ 7) (hp : p < n) (hd : d < 6) : CT l yX2_turnKin cX2_turnKin 3 none { frames := 0, cells := 0, slots := 0, locals := 0 } D cI [.ref a0, .int (nI p), .int (nI d)] [(a0, .inr (2, [.int (nI n), .int (nI m), .int (nI sh), .int (nI aw), .ref a1, .ref a2, .ref a3, .ref a4, .ref a5, .ref a6])), (a1, .inl (cI, 7, .inl (nIf ki)))] (fun zr zw => (zr = none ∧ zw = [(a0, .inr (2, [.int (nI n), .int (nI m), .int (nI sh), .int (nI aw), .ref a1, .ref a2, .ref a3, .ref a4, .ref a5, .ref a6])), (a1, .inl (cI, 7, .inl (nIf (un ki p (ki p ^^^ 2 ^ d)))))])) := by
  refine CT_of RX2 rfl (by decide +kernel) (Nat.le_of_ble_eq_true rfl) (fun E hnE zC zT => ?_)
  have hA : ∀ q, (ev_s E).heap.size ≤ q → ev_A E q := fun q h => by rw [zT.2]; exact Or.inr h
  show VV E 0 0 0 [(0, .ref a0), (1, .int (nI p)), (2, .int (nI d))] [] [(a0, .inr (2, [.int (nI n), .int (nI m), .int (nI sh), .int (nI aw), .ref a1, .ref a2, .ref a3, .ref a4, .ref a5, .ref a6])), (a1, .inl (cI, 7, .inl (nIf ki)))]
  refine v_il_n 1 zC dX2_turnKin_0 1 rfl ?_
  refine v_ifn_lt 24 4 zC dX2_turnKin_1 (fun z => absurd z (Nat.not_lt_zero _)) (fun _ => ?_)
  refine v_il_n 5 zC dX2_turnKin_4 1 rfl ?_
  refine v_al_n 6 zC dX2_turnKin_5 0 rfl ?_
  refine v_gf 9 0 zC dX2_turnKin_6 gf_X2_30 rfl rfl ?_
  refine v_icmpn_ge 24 12 zC dX2_turnKin_9 (fun h_2 => False.elim (by omega)) (fun h_2 => ?_)
  refine v_al_n 13 zC dX2_turnKin_12 0 rfl ?_
  refine v_gf 16 0 zC dX2_turnKin_13 gf_X2_9 rfl rfl ?_
  refine v_il_n 17 zC dX2_turnKin_16 1 rfl ?_
  refine v_dup2 18 zC dX2_turnKin_17 rfl rfl ?_
  refine v_ialn (v := (nI (ki p))) 19 1 zC dX2_turnKin_18 rfl (by omega) rfl ?_
  refine v_ic (v := (nI 1)) 20 zC dX2_turnKin_19 (by decide +kernel) ?_
  refine v_il_n 21 zC dX2_turnKin_20 2 rfl ?_
  refine v_ishl (v := (nI (2 ^ d))) 22 zC dX2_turnKin_21 (b1n (by omega)) ?_
  refine v_ixor (v := (nI ((ki p) ^^^ (2 ^ d)))) 23 zC dX2_turnKin_22 (fb_xorI _ _) ?_
  refine v_iasn (ws2 := [(a0, .inr (2, [.int (nI n), .int (nI m), .int (nI sh), .int (nI aw), .ref a1, .ref a2, .ref a3, .ref a4, .ref a5, .ref a6])), (a1, .inl (cI, 7, .inl (nIf (un ki p ((ki p) ^^^ (2 ^ d))))))]) 24 1 zC dX2_turnKin_23 rfl (by omega) (by rw [upd_nIf]; first | done | rfl) ?_
  refine v_vret zC zT dX2_turnKin_24  ?_
  first | exact ⟨rfl, rfl⟩ | exact ⟨sb1 (by assumption), rfl⟩ | exact ⟨sb0 (by assumption), rfl⟩ | (exfalso; omega) | exact ⟨sb1 (by simp [*]), rfl⟩ | exact ⟨sb0 (by simp [*]), rfl⟩
set_option maxRecDepth 100000 in
set_option maxHeartbeats 4000000 in
theorem c_X2_turnShut (l : Launch) (D : va_G) (cI : ClassId) (a0 a1 a2 a3 a4 a5 a6 : Nat) (n m sh aw : Nat) (p : Nat) (hn : n ≤ 7) (hp : p < 2 ^ 31) : CT l yX2_turnShut cX2_turnShut 2 (some .boolean) { frames := 0, cells := 0, slots := 0, locals := 0 } D cI [.ref a0, .int (nI p)] [(a0, .inr (2, [.int (nI n), .int (nI m), .int (nI sh), .int (nI aw), .ref a1, .ref a2, .ref a3, .ref a4, .ref a5, .ref a6]))] (fun zr zw => ((n ≤ p) ∧ zr = some (.int (nI 0)) ∧ zw = [(a0, .inr (2, [.int (nI n), .int (nI m), .int (nI sh), .int (nI aw), .ref a1, .ref a2, .ref a3, .ref a4, .ref a5, .ref a6]))]) ∨ ((p < n) ∧ zr = some (.int (nI 1)) ∧ zw = [(a0, .inr (2, [.int (nI n), .int (nI m), .int (nI (sh ^^^ 2 ^ p)), .int (nI aw), .ref a1, .ref a2, .ref a3, .ref a4, .ref a5, .ref a6]))])) := by
  refine CT_of RX2 rfl (by decide +kernel) (Nat.le_of_ble_eq_true rfl) (fun E hnE zC zT => ?_)
  have hA : ∀ q, (ev_s E).heap.size ≤ q → ev_A E q := fun q h => by rw [zT.2]; exact Or.inr h
  show VV E 0 0 0 [(0, .ref a0), (1, .int (nI p))] [] [(a0, .inr (2, [.int (nI n), .int (nI m), .int (nI sh), .int (nI aw), .ref a1, .ref a2, .ref a3, .ref a4, .ref a5, .ref a6]))]
  refine v_il_n 1 zC dX2_turnShut_0 1 rfl ?_
  refine v_ifn_lt 12 4 zC dX2_turnShut_1 (fun z => absurd z (Nat.not_lt_zero _)) (fun _ => ?_)
  refine v_il_n 5 zC dX2_turnShut_4 1 rfl ?_
  refine v_al_n 6 zC dX2_turnShut_5 0 rfl ?_
  refine v_gf 9 0 zC dX2_turnShut_6 gf_X2_30 rfl rfl ?_
  refine v_icmpn_lt 14 12 zC dX2_turnShut_9 (fun h_2 => ?_) (fun h_2 => ?_)
  ·
    refine v_al_n 15 zC dX2_turnShut_14 0 rfl ?_
    refine v_dup 16 zC dX2_turnShut_15 rfl ?_
    refine v_gf 19 0 zC dX2_turnShut_16 gf_X2_37 rfl rfl ?_
    refine v_ic (v := (nI 1)) 20 zC dX2_turnShut_19 (by decide +kernel) ?_
    refine v_il_n 21 zC dX2_turnShut_20 1 rfl ?_
    refine v_ishl (v := (nI (2 ^ p))) 22 zC dX2_turnShut_21 (b1n (by omega)) ?_
    refine v_ixor (v := (nI (sh ^^^ (2 ^ p)))) 23 zC dX2_turnShut_22 (fb_xorI _ _) ?_
    refine v_pf (ws2 := [(a0, .inr (2, [.int (nI n), .int (nI m), .int (nI (sh ^^^ (2 ^ p))), .int (nI aw), .ref a1, .ref a2, .ref a3, .ref a4, .ref a5, .ref a6]))]) 26 0 zC dX2_turnShut_23 pf_X2_37 rfl (Nat.le_of_ble_eq_true rfl) rfl rfl rfl ?_
    refine v_ic (v := (nI 1)) 27 zC dX2_turnShut_26 (by decide +kernel) ?_
    refine v_zret zC zT dX2_turnShut_27 (by decide +kernel) ?_
    first | exact Or.inl ⟨by omega, rfl, rfl⟩ | exact Or.inr ⟨by omega, rfl, rfl⟩
  ·
    refine v_ic (v := (nI 0)) 13 zC dX2_turnShut_12 (by decide +kernel) ?_
    refine v_zret zC zT dX2_turnShut_13 (by decide +kernel) ?_
    first | exact Or.inl ⟨by omega, rfl, rfl⟩ | exact Or.inr ⟨by omega, rfl, rfl⟩
set_option maxRecDepth 100000 in
set_option maxHeartbeats 4000000 in
theorem c_X2_teach (l : Launch) (D : va_G) (cI : ClassId) (a0 a1 a2 a3 a4 a5 a6 : Nat) (n m sh aw : Nat) (fa : Nat → Nat) (p f : Nat) (hn : n ≤ 7) (hp : p < 2 ^ 31) (hf : f < 10) : CT l yX2_teach cX2_teach 3 (some .boolean) { frames := 0, cells := 0, slots := 0, locals := 0 } D cI [.ref a0, .int (nI p), .int (nI f)] [(a0, .inr (2, [.int (nI n), .int (nI m), .int (nI sh), .int (nI aw), .ref a1, .ref a2, .ref a3, .ref a4, .ref a5, .ref a6])), (a3, .inl (cI, 7, .inl (nIf fa)))] (fun zr zw => ((n ≤ p) ∧ zr = some (.int (nI 0)) ∧ zw = [(a0, .inr (2, [.int (nI n), .int (nI m), .int (nI sh), .int (nI aw), .ref a1, .ref a2, .ref a3, .ref a4, .ref a5, .ref a6])), (a3, .inl (cI, 7, .inl (nIf fa)))]) ∨ ((p < n) ∧ zr = some (.int (nI 1)) ∧ zw = [(a0, .inr (2, [.int (nI n), .int (nI m), .int (nI sh), .int (nI aw), .ref a1, .ref a2, .ref a3, .ref a4, .ref a5, .ref a6])), (a3, .inl (cI, 7, .inl (nIf (un fa p (fa p ||| 2 ^ f)))))])) := by
  refine CT_of RX2 rfl (by decide +kernel) (Nat.le_of_ble_eq_true rfl) (fun E hnE zC zT => ?_)
  have hA : ∀ q, (ev_s E).heap.size ≤ q → ev_A E q := fun q h => by rw [zT.2]; exact Or.inr h
  show VV E 0 0 0 [(0, .ref a0), (1, .int (nI p)), (2, .int (nI f))] [] [(a0, .inr (2, [.int (nI n), .int (nI m), .int (nI sh), .int (nI aw), .ref a1, .ref a2, .ref a3, .ref a4, .ref a5, .ref a6])), (a3, .inl (cI, 7, .inl (nIf fa)))]
  refine v_il_n 1 zC dX2_teach_0 1 rfl ?_
  refine v_ifn_lt 12 4 zC dX2_teach_1 (fun z => absurd z (Nat.not_lt_zero _)) (fun _ => ?_)
  refine v_il_n 5 zC dX2_teach_4 1 rfl ?_
  refine v_al_n 6 zC dX2_teach_5 0 rfl ?_
  refine v_gf 9 0 zC dX2_teach_6 gf_X2_30 rfl rfl ?_
  refine v_icmpn_lt 14 12 zC dX2_teach_9 (fun h_2 => ?_) (fun h_2 => ?_)
  ·
    refine v_al_n 15 zC dX2_teach_14 0 rfl ?_
    refine v_gf 18 0 zC dX2_teach_15 gf_X2_18 rfl rfl ?_
    refine v_il_n 19 zC dX2_teach_18 1 rfl ?_
    refine v_dup2 20 zC dX2_teach_19 rfl rfl ?_
    refine v_ialn (v := (nI (fa p))) 21 1 zC dX2_teach_20 rfl (by omega) rfl ?_
    refine v_ic (v := (nI 1)) 22 zC dX2_teach_21 (by decide +kernel) ?_
    refine v_il_n 23 zC dX2_teach_22 2 rfl ?_
    refine v_ishl (v := (nI (2 ^ f))) 24 zC dX2_teach_23 (b1n (by omega)) ?_
    refine v_ior (v := (nI ((fa p) ||| (2 ^ f)))) 25 zC dX2_teach_24 (fa_or _ _) ?_
    refine v_iasn (ws2 := [(a0, .inr (2, [.int (nI n), .int (nI m), .int (nI sh), .int (nI aw), .ref a1, .ref a2, .ref a3, .ref a4, .ref a5, .ref a6])), (a3, .inl (cI, 7, .inl (nIf (un fa p ((fa p) ||| (2 ^ f))))))]) 26 1 zC dX2_teach_25 rfl (by omega) (by rw [upd_nIf]; first | done | rfl) ?_
    refine v_ic (v := (nI 1)) 27 zC dX2_teach_26 (by decide +kernel) ?_
    refine v_zret zC zT dX2_teach_27 (by decide +kernel) ?_
    first | exact Or.inl ⟨by omega, rfl, rfl⟩ | exact Or.inr ⟨by omega, rfl, rfl⟩
  ·
    refine v_ic (v := (nI 0)) 13 zC dX2_teach_12 (by decide +kernel) ?_
    refine v_zret zC zT dX2_teach_13 (by decide +kernel) ?_
    first | exact Or.inl ⟨by omega, rfl, rfl⟩ | exact Or.inr ⟨by omega, rfl, rfl⟩
set_option maxRecDepth 100000 in
set_option maxHeartbeats 4000000 in
theorem c_X2_knownInAll (l : Launch) (D : va_G) (cI : ClassId) (a0 a1 a2 a3 a4 a5 a6 : Nat) (n m sh aw : Nat) (fa : Nat → Nat) (hn : n ≤ 7) (hb : ∀ z, fa z < 1024) : CT l yX2_knownInAll cX2_knownInAll 3 (some .int) { frames := 1, cells := 0, slots := 0, locals := 20 } D cI [.ref a0] [(a0, .inr (2, [.int (nI n), .int (nI m), .int (nI sh), .int (nI aw), .ref a1, .ref a2, .ref a3, .ref a4, .ref a5, .ref a6])), (a3, .inl (cI, 7, .inl (nIf fa)))] (fun zr zw => (zr = some (.int (nI (sm (fun p => pcn (fa p)) n))) ∧ zw = [(a0, .inr (2, [.int (nI n), .int (nI m), .int (nI sh), .int (nI aw), .ref a1, .ref a2, .ref a3, .ref a4, .ref a5, .ref a6])), (a3, .inl (cI, 7, .inl (nIf fa)))])) := by
  refine CT_of RX2 rfl (by decide +kernel) (Nat.le_of_ble_eq_true rfl) (fun E hnE zC zT => ?_)
  have hA : ∀ q, (ev_s E).heap.size ≤ q → ev_A E q := fun q h => by rw [zT.2]; exact Or.inr h
  show VV E 0 0 0 [(0, .ref a0)] [] [(a0, .inr (2, [.int (nI n), .int (nI m), .int (nI sh), .int (nI aw), .ref a1, .ref a2, .ref a3, .ref a4, .ref a5, .ref a6])), (a3, .inl (cI, 7, .inl (nIf fa)))]
  refine v_ic (v := (nI 0)) 1 zC dX2_knownInAll_0 (by decide +kernel) ?_
  refine v_is_n (lv2 := [(1, .int (nI 0)), (0, .ref a0)]) 2 zC dX2_knownInAll_1 (by rw [hnE]; decide) rfl ?_
  refine v_ic (v := (nI 0)) 3 zC dX2_knownInAll_2 (by decide +kernel) ?_
  refine v_is_n (lv2 := [(2, .int (nI 0)), (1, .int (nI 0)), (0, .ref a0)]) 4 zC dX2_knownInAll_3 (by rw [hnE]; decide) rfl ?_
  have lp4 : ∀ (mz : Nat) (x : Nat) (p : Nat), (x = sm (fun p => pcn (fa p)) p) → (p ≤ n) → n - p = mz → VV E 0 0 4 [(2, .int (nI p)), (1, .int (nI x)), (0, .ref a0)] [] [(a0, .inr (2, [.int (nI n), .int (nI m), .int (nI sh), .int (nI aw), .ref a1, .ref a2, .ref a3, .ref a4, .ref a5, .ref a6])), (a3, .inl (cI, 7, .inl (nIf fa)))] := by
    intro mz
    induction mz using Nat.strongRecOn with
    | _ mz ih4 =>
    intro x p hx hp hm4
    refine v_il_n 5 zC dX2_knownInAll_4 0 rfl ?_
    refine v_al_n 6 zC dX2_knownInAll_5 2 rfl ?_
    refine v_gf 9 0 zC dX2_knownInAll_6 gf_X2_30 rfl rfl ?_
    refine v_icmpn_ge 30 12 zC dX2_knownInAll_9 (fun h_1 => ?_) (fun h_1 => ?_)
    ·
      refine v_il_n 31 zC dX2_knownInAll_30 1 rfl ?_
      refine v_iret zC zT dX2_knownInAll_31  ?_
      exact ⟨sn (by rw [hx, show p = n by omega]), rfl⟩
    ·
      refine v_il_n 13 zC dX2_knownInAll_12 1 rfl ?_
      refine v_al_n 14 zC dX2_knownInAll_13 2 rfl ?_
      refine v_gf 17 0 zC dX2_knownInAll_14 gf_X2_18 rfl rfl ?_
      refine v_il_n 18 zC dX2_knownInAll_17 0 rfl ?_
      refine v_ialn (v := (nI (fa p))) 19 1 zC dX2_knownInAll_18 rfl (by omega) rfl ?_
      refine v_cS (As := [.int (nI (fa p))]) (st := [.int (nI x)]) 22 [] zC dX2_knownInAll_19 hA (c_J6_bitCount_0f7a4 (ev_l E) (ev_D E) cI (x := (fa p)) (hx := (Nat.lt_trans (hb _) (by decide)))) cf_J6_bitCount_0f7a4 lk_X2_53 rfl rfl rfl (by decide +kernel) (Nat.le_of_ble_eq_true rfl) (fun rv_2 wv_3 hp_4 hm_5 => ?_)
      clear hm_5
      obtain ⟨rfl, rfl⟩ := hp_4
      show VV E 0 0 22 [(2, .int (nI p)), (1, .int (nI x)), (0, .ref a0)] [.int (nI (pcn (fa p))), .int (nI x)] [(a0, .inr (2, [.int (nI n), .int (nI m), .int (nI sh), .int (nI aw), .ref a1, .ref a2, .ref a3, .ref a4, .ref a5, .ref a6])), (a3, .inl (cI, 7, .inl (nIf fa)))]
      refine v_iadd (v := (nI (x + (pcn (fa p))))) 23 zC dX2_knownInAll_22 (nI_add _ _) ?_
      refine v_is_n (lv2 := [(1, .int (nI (x + (pcn (fa p))))), (2, .int (nI p)), (0, .ref a0)]) 24 zC dX2_knownInAll_23 (by rw [hnE]; decide) rfl ?_
      refine v_inc (v := (nI (p + 1))) (lv2 := [(2, .int (nI (p + 1))), (1, .int (nI (x + (pcn (fa p))))), (0, .ref a0)]) 27 zC dX2_knownInAll_24 (j := 1) rfl (nI_add _ 1) (by rw [hnE]; decide) rfl ?_
      refine v_goto 4 zC dX2_knownInAll_27 ?_
      refine v_lvs (lv2 := [(2, .int (nI (p + 1))), (1, .int (nI (x + (pcn (fa p))))), (0, .ref a0)]) [0, 1, 2] rfl ?_
      exact ih4 _ (by omega) (x + (pcn (fa p))) (p + 1) (by rw [hx]; rfl) (by first | omega | assumption | rfl | (simp only []; omega) | decide) rfl
  refine v_lvs (lv2 := [(2, .int (nI 0)), (1, .int (nI 0)), (0, .ref a0)]) [0, 1, 2] rfl ?_
  exact lp4 _ 0 0 (by first | omega | assumption | rfl | (simp only []; omega) | decide) (by first | omega | assumption | rfl | (simp only []; omega) | decide) rfl
set_option maxRecDepth 100000 in
set_option maxHeartbeats 4000000 in
theorem c_X2_openInAll (l : Launch) (D : va_G) (cI : ClassId) (a0 a1 a2 a3 a4 a5 a6 : Nat) (n m sh aw : Nat) (op : Nat → Nat) (hn : n ≤ 7) (hb : ∀ z, op z < 2 ^ 24) : CT l yX2_openInAll cX2_openInAll 3 (some .int) { frames := 1, cells := 0, slots := 0, locals := 20 } D cI [.ref a0] [(a0, .inr (2, [.int (nI n), .int (nI m), .int (nI sh), .int (nI aw), .ref a1, .ref a2, .ref a3, .ref a4, .ref a5, .ref a6])), (a2, .inl (cI, 7, .inl (nIf op)))] (fun zr zw => (zr = some (.int (nI (sm (fun p => pcn (op p)) n))) ∧ zw = [(a0, .inr (2, [.int (nI n), .int (nI m), .int (nI sh), .int (nI aw), .ref a1, .ref a2, .ref a3, .ref a4, .ref a5, .ref a6])), (a2, .inl (cI, 7, .inl (nIf op)))])) := by
  refine CT_of RX2 rfl (by decide +kernel) (Nat.le_of_ble_eq_true rfl) (fun E hnE zC zT => ?_)
  have hA : ∀ q, (ev_s E).heap.size ≤ q → ev_A E q := fun q h => by rw [zT.2]; exact Or.inr h
  show VV E 0 0 0 [(0, .ref a0)] [] [(a0, .inr (2, [.int (nI n), .int (nI m), .int (nI sh), .int (nI aw), .ref a1, .ref a2, .ref a3, .ref a4, .ref a5, .ref a6])), (a2, .inl (cI, 7, .inl (nIf op)))]
  refine v_ic (v := (nI 0)) 1 zC dX2_openInAll_0 (by decide +kernel) ?_
  refine v_is_n (lv2 := [(1, .int (nI 0)), (0, .ref a0)]) 2 zC dX2_openInAll_1 (by rw [hnE]; decide) rfl ?_
  refine v_ic (v := (nI 0)) 3 zC dX2_openInAll_2 (by decide +kernel) ?_
  refine v_is_n (lv2 := [(2, .int (nI 0)), (1, .int (nI 0)), (0, .ref a0)]) 4 zC dX2_openInAll_3 (by rw [hnE]; decide) rfl ?_
  have lp4 : ∀ (mz : Nat) (x : Nat) (p : Nat), (x = sm (fun p => pcn (op p)) p) → (p ≤ n) → n - p = mz → VV E 0 0 4 [(2, .int (nI p)), (1, .int (nI x)), (0, .ref a0)] [] [(a0, .inr (2, [.int (nI n), .int (nI m), .int (nI sh), .int (nI aw), .ref a1, .ref a2, .ref a3, .ref a4, .ref a5, .ref a6])), (a2, .inl (cI, 7, .inl (nIf op)))] := by
    intro mz
    induction mz using Nat.strongRecOn with
    | _ mz ih4 =>
    intro x p hx hp hm4
    refine v_il_n 5 zC dX2_openInAll_4 0 rfl ?_
    refine v_al_n 6 zC dX2_openInAll_5 2 rfl ?_
    refine v_gf 9 0 zC dX2_openInAll_6 gf_X2_30 rfl rfl ?_
    refine v_icmpn_ge 30 12 zC dX2_openInAll_9 (fun h_1 => ?_) (fun h_1 => ?_)
    ·
      refine v_il_n 31 zC dX2_openInAll_30 1 rfl ?_
      refine v_iret zC zT dX2_openInAll_31  ?_
      exact ⟨sn (by rw [hx, show p = n by omega]), rfl⟩
    ·
      refine v_il_n 13 zC dX2_openInAll_12 1 rfl ?_
      refine v_al_n 14 zC dX2_openInAll_13 2 rfl ?_
      refine v_gf 17 0 zC dX2_openInAll_14 gf_X2_15 rfl rfl ?_
      refine v_il_n 18 zC dX2_openInAll_17 0 rfl ?_
      refine v_ialn (v := (nI (op p))) 19 1 zC dX2_openInAll_18 rfl (by omega) rfl ?_
      refine v_cS (As := [.int (nI (op p))]) (st := [.int (nI x)]) 22 [] zC dX2_openInAll_19 hA (c_J6_bitCount_0f7a4 (ev_l E) (ev_D E) cI (x := (op p)) (hx := (Nat.lt_trans (hb _) (by decide)))) cf_J6_bitCount_0f7a4 lk_X2_53 rfl rfl rfl (by decide +kernel) (Nat.le_of_ble_eq_true rfl) (fun rv_2 wv_3 hp_4 hm_5 => ?_)
      clear hm_5
      obtain ⟨rfl, rfl⟩ := hp_4
      show VV E 0 0 22 [(2, .int (nI p)), (1, .int (nI x)), (0, .ref a0)] [.int (nI (pcn (op p))), .int (nI x)] [(a0, .inr (2, [.int (nI n), .int (nI m), .int (nI sh), .int (nI aw), .ref a1, .ref a2, .ref a3, .ref a4, .ref a5, .ref a6])), (a2, .inl (cI, 7, .inl (nIf op)))]
      refine v_iadd (v := (nI (x + (pcn (op p))))) 23 zC dX2_openInAll_22 (nI_add _ _) ?_
      refine v_is_n (lv2 := [(1, .int (nI (x + (pcn (op p))))), (2, .int (nI p)), (0, .ref a0)]) 24 zC dX2_openInAll_23 (by rw [hnE]; decide) rfl ?_
      refine v_inc (v := (nI (p + 1))) (lv2 := [(2, .int (nI (p + 1))), (1, .int (nI (x + (pcn (op p))))), (0, .ref a0)]) 27 zC dX2_openInAll_24 (j := 1) rfl (nI_add _ 1) (by rw [hnE]; decide) rfl ?_
      refine v_goto 4 zC dX2_openInAll_27 ?_
      refine v_lvs (lv2 := [(2, .int (nI (p + 1))), (1, .int (nI (x + (pcn (op p))))), (0, .ref a0)]) [0, 1, 2] rfl ?_
      exact ih4 _ (by omega) (x + (pcn (op p))) (p + 1) (by rw [hx]; rfl) (by first | omega | assumption | rfl | (simp only []; omega) | decide) rfl
  refine v_lvs (lv2 := [(2, .int (nI 0)), (1, .int (nI 0)), (0, .ref a0)]) [0, 1, 2] rfl ?_
  exact lp4 _ 0 0 (by first | omega | assumption | rfl | (simp only []; omega) | decide) (by first | omega | assumption | rfl | (simp only []; omega) | decide) rfl
set_option maxRecDepth 100000 in
set_option maxHeartbeats 4000000 in
theorem c_X2_ofKind (l : Launch) (D : va_G) (cI : ClassId) (a0 a1 a2 a3 a4 a5 a6 : Nat) (n m sh aw : Nat) (K : Nat → Nat) (k : Nat) (hm : m ≤ 6) (hk : k < 6) (hK : ∀ z, K z < 6) : CT l yX2_ofKind cX2_ofKind 4 (some .int) { frames := 0, cells := 0, slots := 0, locals := 0 } D cI [.ref a0, .int (nI k)] [(a0, .inr (2, [.int (nI n), .int (nI m), .int (nI sh), .int (nI aw), .ref a1, .ref a2, .ref a3, .ref a4, .ref a5, .ref a6])), (a4, .inl (cI, 6, .inl (nIf K)))] (fun zr zw => (zr = some (.int (nI (mkn (fun d => decide (K d = k)) m))) ∧ zw = [(a0, .inr (2, [.int (nI n), .int (nI m), .int (nI sh), .int (nI aw), .ref a1, .ref a2, .ref a3, .ref a4, .ref a5, .ref a6])), (a4, .inl (cI, 6, .inl (nIf K)))])) := by
  refine CT_of RX2 rfl (by decide +kernel) (Nat.le_of_ble_eq_true rfl) (fun E hnE zC zT => ?_)
  have hA : ∀ q, (ev_s E).heap.size ≤ q → ev_A E q := fun q h => by rw [zT.2]; exact Or.inr h
  show VV E 0 0 0 [(0, .ref a0), (1, .int (nI k))] [] [(a0, .inr (2, [.int (nI n), .int (nI m), .int (nI sh), .int (nI aw), .ref a1, .ref a2, .ref a3, .ref a4, .ref a5, .ref a6])), (a4, .inl (cI, 6, .inl (nIf K)))]
  refine v_ic (v := (nI 0)) 1 zC dX2_ofKind_0 (by decide +kernel) ?_
  refine v_is_n (lv2 := [(2, .int (nI 0)), (0, .ref a0), (1, .int (nI k))]) 2 zC dX2_ofKind_1 (by rw [hnE]; decide) rfl ?_
  refine v_ic (v := (nI 0)) 3 zC dX2_ofKind_2 (by decide +kernel) ?_
  refine v_is_n (lv2 := [(3, .int (nI 0)), (2, .int (nI 0)), (0, .ref a0), (1, .int (nI k))]) 4 zC dX2_ofKind_3 (by rw [hnE]; decide) rfl ?_
  have lp4 : ∀ (mz : Nat) (x : Nat) (p : Nat), (x = mkn (fun d => decide (K d = k)) p) → (p ≤ m) → m - p = mz → VV E 0 0 4 [(3, .int (nI p)), (2, .int (nI x)), (0, .ref a0), (1, .int (nI k))] [] [(a0, .inr (2, [.int (nI n), .int (nI m), .int (nI sh), .int (nI aw), .ref a1, .ref a2, .ref a3, .ref a4, .ref a5, .ref a6])), (a4, .inl (cI, 6, .inl (nIf K)))] := by
    intro mz
    induction mz using Nat.strongRecOn with
    | _ mz ih4 =>
    intro x p hx hp hm4
    refine v_il_n 5 zC dX2_ofKind_4 0 rfl ?_
    refine v_al_n 6 zC dX2_ofKind_5 2 rfl ?_
    refine v_gf 9 0 zC dX2_ofKind_6 gf_X2_34 rfl rfl ?_
    refine v_icmpn_ge 34 12 zC dX2_ofKind_9 (fun h_1 => ?_) (fun h_1 => ?_)
    ·
      refine v_il_n 35 zC dX2_ofKind_34 1 rfl ?_
      refine v_iret zC zT dX2_ofKind_35  ?_
      exact ⟨sn (by rw [hx, show p = m by omega]), rfl⟩
    ·
      refine v_al_n 13 zC dX2_ofKind_12 2 rfl ?_
      refine v_gf 16 0 zC dX2_ofKind_13 gf_X2_21 rfl rfl ?_
      refine v_il_n 17 zC dX2_ofKind_16 0 rfl ?_
      refine v_ialn (v := (nI (K p))) 18 1 zC dX2_ofKind_17 rfl (by omega) rfl ?_
      have hb_2 := hK p
      refine v_il_n 19 zC dX2_ofKind_18 3 rfl ?_
      refine v_icmpn_ne 28 22 zC dX2_ofKind_19 (fun h_3 => ?_) (fun h_3 => ?_)
      ·
        refine v_inc (v := (nI (p + 1))) (lv2 := [(3, .int (nI (p + 1))), (2, .int (nI x)), (0, .ref a0), (1, .int (nI k))]) 31 zC dX2_ofKind_28 (j := 0) rfl (nI_add _ 1) (by rw [hnE]; decide) rfl ?_
        refine v_goto 4 zC dX2_ofKind_31 ?_
        refine v_lvs (lv2 := [(3, .int (nI (p + 1))), (2, .int (nI x)), (0, .ref a0), (1, .int (nI k))]) [0, 1, 2, 3] rfl ?_
        exact ih4 _ (by omega) x (p + 1) (by first | exact (by rw [hx]; exact (mkn_1 (decide_eq_true (by assumption))).symm) | exact (by rw [hx]; exact (mkn_0 (decide_eq_false (by assumption))).symm)) (by first | omega | assumption | rfl | (simp only []; omega) | decide) rfl
      ·
        refine v_il_n 23 zC dX2_ofKind_22 1 rfl ?_
        refine v_ic (v := (nI 1)) 24 zC dX2_ofKind_23 (by decide +kernel) ?_
        refine v_il_n 25 zC dX2_ofKind_24 0 rfl ?_
        refine v_ishl (v := (nI (2 ^ p))) 26 zC dX2_ofKind_25 (b1n (by omega)) ?_
        refine v_ior (v := (nI (x ||| (2 ^ p)))) 27 zC dX2_ofKind_26 (fa_or _ _) ?_
        refine v_is_n (lv2 := [(2, .int (nI (x ||| (2 ^ p)))), (3, .int (nI p)), (0, .ref a0), (1, .int (nI k))]) 28 zC dX2_ofKind_27 (by rw [hnE]; decide) rfl ?_
        refine v_inc (v := (nI (p + 1))) (lv2 := [(3, .int (nI (p + 1))), (2, .int (nI (x ||| (2 ^ p)))), (0, .ref a0), (1, .int (nI k))]) 31 zC dX2_ofKind_28 (j := 1) rfl (nI_add _ 1) (by rw [hnE]; decide) rfl ?_
        refine v_goto 4 zC dX2_ofKind_31 ?_
        refine v_lvs (lv2 := [(3, .int (nI (p + 1))), (2, .int (nI (x ||| (2 ^ p)))), (0, .ref a0), (1, .int (nI k))]) [0, 1, 2, 3] rfl ?_
        exact ih4 _ (by omega) (x ||| (2 ^ p)) (p + 1) (by first | exact (by rw [hx]; exact (mkn_1 (decide_eq_true (by assumption))).symm) | exact (by rw [hx]; exact (mkn_0 (decide_eq_false (by assumption))).symm)) (by first | omega | assumption | rfl | (simp only []; omega) | decide) rfl
  refine v_lvs (lv2 := [(3, .int (nI 0)), (2, .int (nI 0)), (0, .ref a0), (1, .int (nI k))]) [0, 1, 2, 3] rfl ?_
  exact lp4 _ 0 0 (by first | omega | assumption | rfl | (simp only []; omega) | decide) (by first | omega | assumption | rfl | (simp only []; omega) | decide) rfl
set_option maxRecDepth 100000 in
set_option maxHeartbeats 4000000 in
theorem c_X2_swap (l : Launch) (D : va_G) (cI : ClassId) (z0 : Nat) (f : Nat → Nat) (a b : Nat) (ha : a < 7) (hb : b < 7) : CT l yX2_swap cX2_swap 4 none { frames := 0, cells := 0, slots := 0, locals := 0 } D cI [.ref z0, .int (nI a), .int (nI b)] [(z0, .inl (cI, 7, .inl (nIf f)))] (fun zr zw => (zr = none ∧ zw = [(z0, .inl (cI, 7, .inl (nIf (sw f a b))))])) := by
  refine CT_of RX2 rfl (by decide +kernel) (Nat.le_of_ble_eq_true rfl) (fun E hnE zC zT => ?_)
  have hA : ∀ q, (ev_s E).heap.size ≤ q → ev_A E q := fun q h => by rw [zT.2]; exact Or.inr h
  show VV E 0 0 0 [(0, .ref z0), (1, .int (nI a)), (2, .int (nI b))] [] [(z0, .inl (cI, 7, .inl (nIf f)))]
  refine v_al_n 1 zC dX2_swap_0 0 rfl ?_
  refine v_il_n 2 zC dX2_swap_1 1 rfl ?_
  refine v_ialn (v := (nI (f a))) 3 0 zC dX2_swap_2 rfl (by omega) rfl ?_
  refine v_is_n (lv2 := [(3, .int (nI (f a))), (0, .ref z0), (1, .int (nI a)), (2, .int (nI b))]) 4 zC dX2_swap_3 (by rw [hnE]; decide) rfl ?_
  refine v_al_n 5 zC dX2_swap_4 1 rfl ?_
  refine v_il_n 6 zC dX2_swap_5 2 rfl ?_
  refine v_al_n 7 zC dX2_swap_6 1 rfl ?_
  refine v_il_n 8 zC dX2_swap_7 3 rfl ?_
  refine v_ialn (v := (nI (f b))) 9 0 zC dX2_swap_8 rfl (by omega) rfl ?_
  refine v_iasn (ws2 := [(z0, .inl (cI, 7, .inl (nIf (un f a (f b)))))]) 10 0 zC dX2_swap_9 rfl (by omega) (by rw [upd_nIf]; first | done | rfl) ?_
  refine v_al_n 11 zC dX2_swap_10 1 rfl ?_
  refine v_il_n 12 zC dX2_swap_11 3 rfl ?_
  refine v_il_n 13 zC dX2_swap_12 0 rfl ?_
  refine v_iasn (ws2 := [(z0, .inl (cI, 7, .inl (nIf (un (un f a (f b)) b (f a)))))]) 14 0 zC dX2_swap_13 rfl (by omega) (by rw [upd_nIf]; first | done | rfl) ?_
  refine v_vret zC zT dX2_swap_14  ?_
  first | exact ⟨rfl, rfl⟩ | exact ⟨sb1 (by assumption), rfl⟩ | exact ⟨sb0 (by assumption), rfl⟩ | (exfalso; omega) | exact ⟨sb1 (by simp [*]), rfl⟩ | exact ⟨sb0 (by simp [*]), rfl⟩
set_option maxRecDepth 100000 in
set_option maxHeartbeats 4000000 in
theorem c_X2_changeSeats (l : Launch) (D : va_G) (cI : ClassId) (a0 a1 a2 a3 a4 a5 a6 : Nat) (n m sh aw : Nat) (ki op fa : Nat → Nat) (a b : Nat) (hn : n ≤ 7) (ha : a < n) (hb : b < n) : CT l yX2_changeSeats cX2_changeSeats 3 none { frames := 1, cells := 0, slots := 0, locals := 23 } D cI [.ref a0, .int (nI a), .int (nI b)] [(a0, .inr (2, [.int (nI n), .int (nI m), .int (nI sh), .int (nI aw), .ref a1, .ref a2, .ref a3, .ref a4, .ref a5, .ref a6])), (a1, .inl (cI, 7, .inl (nIf ki))), (a2, .inl (cI, 7, .inl (nIf op))), (a3, .inl (cI, 7, .inl (nIf fa)))] (fun zr zw => (zr = none ∧ zw = [(a0, .inr (2, [.int (nI n), .int (nI m), .int (nI (if Nat.testBit sh a = Nat.testBit sh b then sh else sh ^^^ (2 ^ a ||| 2 ^ b))), .int (nI aw), .ref a1, .ref a2, .ref a3, .ref a4, .ref a5, .ref a6])), (a1, .inl (cI, 7, .inl (nIf (sw ki a b)))), (a2, .inl (cI, 7, .inl (nIf (sw op a b)))), (a3, .inl (cI, 7, .inl (nIf (sw fa a b))))])) := by
  refine CT_of RX2 rfl (by decide +kernel) (Nat.le_of_ble_eq_true rfl) (fun E hnE zC zT => ?_)
  have hA : ∀ q, (ev_s E).heap.size ≤ q → ev_A E q := fun q h => by rw [zT.2]; exact Or.inr h
  show VV E 0 0 0 [(0, .ref a0), (1, .int (nI a)), (2, .int (nI b))] [] [(a0, .inr (2, [.int (nI n), .int (nI m), .int (nI sh), .int (nI aw), .ref a1, .ref a2, .ref a3, .ref a4, .ref a5, .ref a6])), (a1, .inl (cI, 7, .inl (nIf ki))), (a2, .inl (cI, 7, .inl (nIf op))), (a3, .inl (cI, 7, .inl (nIf fa)))]
  refine v_il_n 1 zC dX2_changeSeats_0 1 rfl ?_
  refine v_ifn_lt 24 4 zC dX2_changeSeats_1 (fun z => absurd z (Nat.not_lt_zero _)) (fun _ => ?_)
  refine v_il_n 5 zC dX2_changeSeats_4 1 rfl ?_
  refine v_al_n 6 zC dX2_changeSeats_5 0 rfl ?_
  refine v_gf 9 0 zC dX2_changeSeats_6 gf_X2_30 rfl rfl ?_
  refine v_icmpn_ge 24 12 zC dX2_changeSeats_9 (fun h_2 => False.elim (by omega)) (fun h_2 => ?_)
  refine v_il_n 13 zC dX2_changeSeats_12 2 rfl ?_
  refine v_ifn_lt 24 16 zC dX2_changeSeats_13 (fun z => absurd z (Nat.not_lt_zero _)) (fun _ => ?_)
  refine v_il_n 17 zC dX2_changeSeats_16 2 rfl ?_
  refine v_al_n 18 zC dX2_changeSeats_17 0 rfl ?_
  refine v_gf 21 0 zC dX2_changeSeats_18 gf_X2_30 rfl rfl ?_
  refine v_icmpn_lt 25 24 zC dX2_changeSeats_21 (fun h_4 => ?_) (fun h_4 => False.elim (by omega))
  refine v_al_n 26 zC dX2_changeSeats_25 0 rfl ?_
  refine v_gf 29 0 zC dX2_changeSeats_26 gf_X2_9 rfl rfl ?_
  refine v_il_n 30 zC dX2_changeSeats_29 1 rfl ?_
  refine v_il_n 31 zC dX2_changeSeats_30 2 rfl ?_
  refine v_cS (As := [.ref a1, .int (nI a), .int (nI b)]) (st := []) 34 [1] zC dX2_changeSeats_31 hA (c_X2_swap (ev_l E) (ev_D E) cI (z0 := a1) (f := ki) (a := a) (b := b) (ha := (by first | omega | assumption | rfl | (simp only []; omega) | decide)) (hb := (by first | omega | assumption | rfl | (simp only []; omega) | decide))) cf_X2_swap lk_X2_59 rfl rfl rfl (by decide +kernel) (Nat.le_of_ble_eq_true rfl) (fun rv_5 wv_6 hp_7 hm_8 => ?_)
  clear hm_8
  obtain ⟨rfl, rfl⟩ := hp_7
  show VV E 0 0 34 [(0, .ref a0), (1, .int (nI a)), (2, .int (nI b))] [] [(a0, .inr (2, [.int (nI n), .int (nI m), .int (nI sh), .int (nI aw), .ref a1, .ref a2, .ref a3, .ref a4, .ref a5, .ref a6])), (a1, .inl (cI, 7, .inl (nIf (sw ki a b)))), (a2, .inl (cI, 7, .inl (nIf op))), (a3, .inl (cI, 7, .inl (nIf fa)))]
  refine v_al_n 35 zC dX2_changeSeats_34 0 rfl ?_
  refine v_gf 38 0 zC dX2_changeSeats_35 gf_X2_15 rfl rfl ?_
  refine v_il_n 39 zC dX2_changeSeats_38 1 rfl ?_
  refine v_il_n 40 zC dX2_changeSeats_39 2 rfl ?_
  refine v_cS (As := [.ref a2, .int (nI a), .int (nI b)]) (st := []) 43 [2] zC dX2_changeSeats_40 hA (c_X2_swap (ev_l E) (ev_D E) cI (z0 := a2) (f := op) (a := a) (b := b) (ha := (by first | omega | assumption | rfl | (simp only []; omega) | decide)) (hb := (by first | omega | assumption | rfl | (simp only []; omega) | decide))) cf_X2_swap lk_X2_59 rfl rfl rfl (by decide +kernel) (Nat.le_of_ble_eq_true rfl) (fun rv_9 wv_10 hp_11 hm_12 => ?_)
  clear hm_12
  obtain ⟨rfl, rfl⟩ := hp_11
  show VV E 0 0 43 [(0, .ref a0), (1, .int (nI a)), (2, .int (nI b))] [] [(a0, .inr (2, [.int (nI n), .int (nI m), .int (nI sh), .int (nI aw), .ref a1, .ref a2, .ref a3, .ref a4, .ref a5, .ref a6])), (a1, .inl (cI, 7, .inl (nIf (sw ki a b)))), (a2, .inl (cI, 7, .inl (nIf (sw op a b)))), (a3, .inl (cI, 7, .inl (nIf fa)))]
  refine v_al_n 44 zC dX2_changeSeats_43 0 rfl ?_
  refine v_gf 47 0 zC dX2_changeSeats_44 gf_X2_18 rfl rfl ?_
  refine v_il_n 48 zC dX2_changeSeats_47 1 rfl ?_
  refine v_il_n 49 zC dX2_changeSeats_48 2 rfl ?_
  refine v_cS (As := [.ref a3, .int (nI a), .int (nI b)]) (st := []) 52 [3] zC dX2_changeSeats_49 hA (c_X2_swap (ev_l E) (ev_D E) cI (z0 := a3) (f := fa) (a := a) (b := b) (ha := (by first | omega | assumption | rfl | (simp only []; omega) | decide)) (hb := (by first | omega | assumption | rfl | (simp only []; omega) | decide))) cf_X2_swap lk_X2_59 rfl rfl rfl (by decide +kernel) (Nat.le_of_ble_eq_true rfl) (fun rv_13 wv_14 hp_15 hm_16 => ?_)
  clear hm_16
  obtain ⟨rfl, rfl⟩ := hp_15
  show VV E 0 0 52 [(0, .ref a0), (1, .int (nI a)), (2, .int (nI b))] [] [(a0, .inr (2, [.int (nI n), .int (nI m), .int (nI sh), .int (nI aw), .ref a1, .ref a2, .ref a3, .ref a4, .ref a5, .ref a6])), (a1, .inl (cI, 7, .inl (nIf (sw ki a b)))), (a2, .inl (cI, 7, .inl (nIf (sw op a b)))), (a3, .inl (cI, 7, .inl (nIf (sw fa a b))))]
  refine v_al_n 53 zC dX2_changeSeats_52 0 rfl ?_
  refine v_il_n 54 zC dX2_changeSeats_53 1 rfl ?_
  refine v_cV (As := [.int (nI a)]) (st := []) 57 0 [0] zC dX2_changeSeats_54 hA (c_X2_isShut (ev_l E) (ev_D E) cI (a0 := a0) (a1 := a1) (a2 := a2) (a3 := a3) (a4 := a4) (a5 := a5) (a6 := a6) (n := n) (m := m) (sh := sh) (aw := aw) (p := a) (hp := (by first | omega | assumption | rfl | (simp only []; omega) | decide))) cf_X2_isShut lk_X2_63 rfl rfl rfl rfl rfl (by decide +kernel) (Nat.le_of_ble_eq_true rfl) (fun rv_17 wv_18 hp_19 hm_20 => ?_)
  clear hm_20
  obtain ⟨rfl, rfl⟩ := hp_19
  show VV E 0 0 57 [(0, .ref a0), (1, .int (nI a)), (2, .int (nI b))] [.int (bz (Nat.testBit sh a))] [(a0, .inr (2, [.int (nI n), .int (nI m), .int (nI sh), .int (nI aw), .ref a1, .ref a2, .ref a3, .ref a4, .ref a5, .ref a6])), (a1, .inl (cI, 7, .inl (nIf (sw ki a b)))), (a2, .inl (cI, 7, .inl (nIf (sw op a b)))), (a3, .inl (cI, 7, .inl (nIf (sw fa a b))))]
  refine v_al_n 58 zC dX2_changeSeats_57 0 rfl ?_
  refine v_il_n 59 zC dX2_changeSeats_58 2 rfl ?_
  refine v_cV (As := [.int (nI b)]) (st := [.int (bz (Nat.testBit sh a))]) 62 0 [0] zC dX2_changeSeats_59 hA (c_X2_isShut (ev_l E) (ev_D E) cI (a0 := a0) (a1 := a1) (a2 := a2) (a3 := a3) (a4 := a4) (a5 := a5) (a6 := a6) (n := n) (m := m) (sh := sh) (aw := aw) (p := b) (hp := (by first | omega | assumption | rfl | (simp only []; omega) | decide))) cf_X2_isShut lk_X2_63 rfl rfl rfl rfl rfl (by decide +kernel) (Nat.le_of_ble_eq_true rfl) (fun rv_21 wv_22 hp_23 hm_24 => ?_)
  clear hm_24
  obtain ⟨rfl, rfl⟩ := hp_23
  show VV E 0 0 62 [(0, .ref a0), (1, .int (nI a)), (2, .int (nI b))] [.int (bz (Nat.testBit sh b)), .int (bz (Nat.testBit sh a))] [(a0, .inr (2, [.int (nI n), .int (nI m), .int (nI sh), .int (nI aw), .ref a1, .ref a2, .ref a3, .ref a4, .ref a5, .ref a6])), (a1, .inl (cI, 7, .inl (nIf (sw ki a b)))), (a2, .inl (cI, 7, .inl (nIf (sw op a b)))), (a3, .inl (cI, 7, .inl (nIf (sw fa a b))))]
  refine v_icmpbb_eq 81 65 zC dX2_changeSeats_62 (fun h_25 => ?_) (fun h_25 => ?_)
  ·
    refine v_vret zC zT dX2_changeSeats_81  ?_
    exact ⟨rfl, by simp [*]⟩
  ·
    refine v_al_n 66 zC dX2_changeSeats_65 0 rfl ?_
    refine v_dup 67 zC dX2_changeSeats_66 rfl ?_
    refine v_gf 70 0 zC dX2_changeSeats_67 gf_X2_37 rfl rfl ?_
    refine v_ic (v := (nI 1)) 71 zC dX2_changeSeats_70 (by decide +kernel) ?_
    refine v_il_n 72 zC dX2_changeSeats_71 1 rfl ?_
    refine v_ishl (v := (nI (2 ^ a))) 73 zC dX2_changeSeats_72 (b1n (by omega)) ?_
    refine v_ic (v := (nI 1)) 74 zC dX2_changeSeats_73 (by decide +kernel) ?_
    refine v_il_n 75 zC dX2_changeSeats_74 2 rfl ?_
    refine v_ishl (v := (nI (2 ^ b))) 76 zC dX2_changeSeats_75 (b1n (by omega)) ?_
    refine v_ior (v := (nI ((2 ^ a) ||| (2 ^ b)))) 77 zC dX2_changeSeats_76 (fa_or _ _) ?_
    refine v_ixor (v := (nI (sh ^^^ ((2 ^ a) ||| (2 ^ b))))) 78 zC dX2_changeSeats_77 (fb_xorI _ _) ?_
    refine v_pf (ws2 := [(a0, .inr (2, [.int (nI n), .int (nI m), .int (nI (sh ^^^ ((2 ^ a) ||| (2 ^ b)))), .int (nI aw), .ref a1, .ref a2, .ref a3, .ref a4, .ref a5, .ref a6])), (a1, .inl (cI, 7, .inl (nIf (sw ki a b)))), (a2, .inl (cI, 7, .inl (nIf (sw op a b)))), (a3, .inl (cI, 7, .inl (nIf (sw fa a b))))]) 81 0 zC dX2_changeSeats_78 pf_X2_37 rfl (Nat.le_of_ble_eq_true rfl) rfl rfl rfl ?_
    refine v_vret zC zT dX2_changeSeats_81  ?_
    exact ⟨rfl, by simp [*]⟩
