/-! all that there is, carried -/
def ENC (s : SG) : Nat → Nat := fun z => if z = 0 then g_n s else if z = 1 then g_m s else if z < 30 then (if (z - 2) % 4 = 0 then g_ki s ((z - 2) / 4) else if (z - 2) % 4 = 1 then g_op s ((z - 2) / 4) else if (z - 2) % 4 = 2 then shF (g_sh s) ((z - 2) / 4) else g_fa s ((z - 2) / 4))
  else (if (z - 30) % 3 = 0 then g_K s ((z - 30) / 3) else if (z - 30) % 3 = 1 then g_G s ((z - 30) / 3) else g_T s ((z - 30) / 3))
theorem enc_0 {s : SG} : ENC s 0 = g_n s := rfl
theorem enc_1 {s : SG} : ENC s 1 = g_m s := rfl
theorem enc_p {s : SG} {p w : Nat} (hp : p < 7) (hw : w = 2 + 4 * p) : ENC s w = g_ki s p ∧ ENC s (w + 1) = g_op s p ∧ ENC s (w + 1 + 1) = shF (g_sh s) p ∧ ENC s (w + 1 + 1 + 1) = g_fa s p := by
  subst hw
  unfold ENC
  refine ⟨?_, ?_, ?_, ?_⟩
  · rw [if_neg (by omega), if_neg (by omega), if_pos (by omega), if_pos (by omega), show (2 + 4 * p - 2) / 4 = p by omega]
  · rw [if_neg (by omega), if_neg (by omega), if_pos (by omega), if_neg (by omega), if_pos (by omega), show (2 + 4 * p + 1 - 2) / 4 = p by omega]
  · rw [if_neg (by omega), if_neg (by omega), if_pos (by omega), if_neg (by omega), if_neg (by omega), if_pos (by omega), show (2 + 4 * p + 1 + 1 - 2) / 4 = p by omega]
  · rw [if_neg (by omega), if_neg (by omega), if_pos (by omega), if_neg (by omega), if_neg (by omega), if_neg (by omega), show (2 + 4 * p + 1 + 1 + 1 - 2) / 4 = p by omega]
theorem enc_d {s : SG} {d w : Nat} (hd : d < 6) (hw : w = 30 + 3 * d) : ENC s w = g_K s d ∧ ENC s (w + 1) = g_G s d ∧ ENC s (w + 1 + 1) = g_T s d := by
  subst hw
  unfold ENC
  refine ⟨?_, ?_, ?_⟩
  · rw [if_neg (by omega), if_neg (by omega), if_neg (by omega), if_pos (by omega), show (30 + 3 * d - 30) / 3 = d by omega]
  · rw [if_neg (by omega), if_neg (by omega), if_neg (by omega), if_neg (by omega), if_pos (by omega), show (30 + 3 * d + 1 - 30) / 3 = d by omega]
  · rw [if_neg (by omega), if_neg (by omega), if_neg (by omega), if_neg (by omega), if_neg (by omega), show (30 + 3 * d + 1 + 1 - 30) / 3 = d by omega]
theorem enc_2s {s : SG} {E : Nat → Nat} : ∀ z, z < 2 → un (un E 0 (g_n s)) 1 (g_m s) z = ENC s z := fun z hz => by
  have h : z = 0 ∨ z = 1 := by omega
  rcases h with rfl | rfl
  · rw [un_n (by decide), un_s, enc_0]
  · rw [un_s, enc_1]
theorem enc_ps {s : SG} {E : Nat → Nat} {p w : Nat} (hp : p < 7) (hw : w = 2 + 4 * p) (hE : ∀ z, z < w → E z = ENC s z) : ∀ z, z < w + 1 + 1 + 1 + 1 → un (un (un (un E w (g_ki s p)) (w + 1) (g_op s p)) (w + 1 + 1) (shF (g_sh s) p)) (w + 1 + 1 + 1) (g_fa s p) z = ENC s z := by
  intro z hz
  obtain ⟨e0, e1, e2, e3⟩ := enc_p (s := s) hp hw
  by_cases c3 : z = w + 1 + 1 + 1
  · rw [c3, un_s, e3]
  · rw [un_n c3]
    by_cases c2 : z = w + 1 + 1
    · rw [c2, un_s, e2]
    · rw [un_n c2]
      by_cases c1 : z = w + 1
      · rw [c1, un_s, e1]
      · rw [un_n c1]
        by_cases c0 : z = w
        · rw [c0, un_s, e0]
        · rw [un_n c0]
          exact hE z (by omega)
theorem enc_ds {s : SG} {E : Nat → Nat} {d w : Nat} (hd : d < 6) (hw : w = 30 + 3 * d) (hE : ∀ z, z < w → E z = ENC s z) : ∀ z, z < w + 1 + 1 + 1 → un (un (un E w (g_K s d)) (w + 1) (g_G s d)) (w + 1 + 1) (g_T s d) z = ENC s z := by
  intro z hz
  obtain ⟨e0, e1, e2⟩ := enc_d (s := s) hd hw
  by_cases c2 : z = w + 1 + 1
  · rw [c2, un_s, e2]
  · rw [un_n c2]
    by_cases c1 : z = w + 1
    · rw [c1, un_s, e1]
    · rw [un_n c1]
      by_cases c0 : z = w
      · rw [c0, un_s, e0]
      · rw [un_n c0]
        exact hE z (by omega)
theorem car_v {A f g : Nat → Nat} {k : Nat} (hA : ∀ z, A z = if z < k then f z else g z) (hf : VZ k f) (hg : VZ k g) : A = f := by
  funext z
  rw [hA z]
  split
  · rfl
  · rw [hf z (by omega), hg z (by omega)]
theorem shf_v {s n : Nat} (h : s < 2 ^ n) (hn : n ≤ 7) : VZ 7 (shF s) := fun z hz => shf_z h (by omega)

set_option maxRecDepth 100000 in
set_option maxHeartbeats 4000000 in
theorem c_X5_carry__T (l : Launch) (D : va_G) (cI : ClassId) (r0 k1 k2 k3 k4 k6 k7 k8 k10 k12 k13 k14 k15 k16 k21 k22 k23 k24 k25 k30 k31 k33 : Nat) (n m aw ls ap sq pl tz rs : Nat) (bd pd : Bool) (sd : Int32) (q : Nat) (En : Nat → Nat) (v : Nat) (hp : pl < 48) : CT l yX5_carry cX5_carry 2 (some .int) { frames := 0, cells := 0, slots := 0, locals := 0 } D cI [.ref r0, .int (nI v)] [(r0, .inr (5, [.int (nI n), .ref k1, .ref k2, .ref k3, .ref k4, .int (nI m), .ref k6, .ref k7, .ref k8, .int (nI 0), .ref k10, .int (nI aw), .ref k12, .ref k13, .ref k14, .ref k15, .ref k16, .int (nI ls), .int (nI ap), .int (bz bd), .int (nI sq), .ref k21, .ref k22, .ref k23, .ref k24, .ref k25, .int (bz pd), .int (nI pl), .int (nI 1), .ref q, .ref k30, .ref k31, .int (nI tz), .ref k33, .int (nI rs), .int sd])), (q, .inl (cI, 48, .inl (nIf En)))] (fun zr zw => (zr = some (.int (nI v)) ∧ zw = [(r0, .inr (5, [.int (nI n), .ref k1, .ref k2, .ref k3, .ref k4, .int (nI m), .ref k6, .ref k7, .ref k8, .int (nI 0), .ref k10, .int (nI aw), .ref k12, .ref k13, .ref k14, .ref k15, .ref k16, .int (nI ls), .int (nI ap), .int (bz bd), .int (nI sq), .ref k21, .ref k22, .ref k23, .ref k24, .ref k25, .int (bz pd), .int (nI (pl + 1)), .int (nI 1), .ref q, .ref k30, .ref k31, .int (nI tz), .ref k33, .int (nI rs), .int sd])), (q, .inl (cI, 48, .inl (nIf (un En pl v))))])) := by
  refine CT_of RX5 rfl (by decide +kernel) (Nat.le_of_ble_eq_true rfl) (fun E hnE zC zT => ?_)
  have hA : ∀ q, (ev_s E).heap.size ≤ q → ev_A E q := fun q h => by rw [zT.2]; exact Or.inr h
  show VV E 0 0 0 [(0, .ref r0), (1, .int (nI v))] [] [(r0, .inr (5, [.int (nI n), .ref k1, .ref k2, .ref k3, .ref k4, .int (nI m), .ref k6, .ref k7, .ref k8, .int (nI 0), .ref k10, .int (nI aw), .ref k12, .ref k13, .ref k14, .ref k15, .ref k16, .int (nI ls), .int (nI ap), .int (bz bd), .int (nI sq), .ref k21, .ref k22, .ref k23, .ref k24, .ref k25, .int (bz pd), .int (nI pl), .int (nI 1), .ref q, .ref k30, .ref k31, .int (nI tz), .ref k33, .int (nI rs), .int sd])), (q, .inl (cI, 48, .inl (nIf En)))]
  refine v_al_n 1 zC dX5_carry_0 0 rfl ?_
  refine v_gf 4 0 zC dX5_carry_1 gf_X5_191 rfl rfl ?_
  refine v_if_eq 17 7 zC dX5_carry_4 (fun z => absurd z (by decide +kernel)) (fun _ => ?_)
  refine v_al_n 8 zC dX5_carry_7 0 rfl ?_
  refine v_gf 11 0 zC dX5_carry_8 gf_X5_194 rfl rfl ?_
  refine v_al_n 12 zC dX5_carry_11 0 rfl ?_
  refine v_gf 15 0 zC dX5_carry_12 gf_X5_197 rfl rfl ?_
  refine v_il_n 16 zC dX5_carry_15 1 rfl ?_
  refine v_iasn (ws2 := [(r0, .inr (5, [.int (nI n), .ref k1, .ref k2, .ref k3, .ref k4, .int (nI m), .ref k6, .ref k7, .ref k8, .int (nI 0), .ref k10, .int (nI aw), .ref k12, .ref k13, .ref k14, .ref k15, .ref k16, .int (nI ls), .int (nI ap), .int (bz bd), .int (nI sq), .ref k21, .ref k22, .ref k23, .ref k24, .ref k25, .int (bz pd), .int (nI pl), .int (nI 1), .ref q, .ref k30, .ref k31, .int (nI tz), .ref k33, .int (nI rs), .int sd])), (q, .inl (cI, 48, .inl (nIf (un En pl v))))]) 17 1 zC dX5_carry_16 rfl (by omega) (by rw [upd_nIf]; first | done | rfl) ?_
  refine v_al_n 18 zC dX5_carry_17 0 rfl ?_
  refine v_dup 19 zC dX5_carry_18 rfl ?_
  refine v_gf 22 0 zC dX5_carry_19 gf_X5_197 rfl rfl ?_
  refine v_ic (v := (nI 1)) 23 zC dX5_carry_22 (by decide +kernel) ?_
  refine v_iadd (v := (nI (pl + 1))) 24 zC dX5_carry_23 (nI_add _ _) ?_
  refine v_pf (ws2 := [(r0, .inr (5, [.int (nI n), .ref k1, .ref k2, .ref k3, .ref k4, .int (nI m), .ref k6, .ref k7, .ref k8, .int (nI 0), .ref k10, .int (nI aw), .ref k12, .ref k13, .ref k14, .ref k15, .ref k16, .int (nI ls), .int (nI ap), .int (bz bd), .int (nI sq), .ref k21, .ref k22, .ref k23, .ref k24, .ref k25, .int (bz pd), .int (nI (pl + 1)), .int (nI 1), .ref q, .ref k30, .ref k31, .int (nI tz), .ref k33, .int (nI rs), .int sd])), (q, .inl (cI, 48, .inl (nIf (un En pl v))))]) 27 0 zC dX5_carry_24 pf_X5_197 rfl (Nat.le_of_ble_eq_true rfl) rfl rfl rfl ?_
  refine v_al_n 28 zC dX5_carry_27 0 rfl ?_
  refine v_gf 31 0 zC dX5_carry_28 gf_X5_194 rfl rfl ?_
  refine v_al_n 32 zC dX5_carry_31 0 rfl ?_
  refine v_gf 35 0 zC dX5_carry_32 gf_X5_197 rfl rfl ?_
  refine v_ic (v := (nI 1)) 36 zC dX5_carry_35 (by decide +kernel) ?_
  refine v_isub (v := (nI pl)) 37 zC dX5_carry_36 (by rw [pk_sub (by omega), Nat.add_sub_cancel]) ?_
  refine v_ialn (v := (nI v)) 38 1 zC dX5_carry_37 rfl (by omega) (congrArg nI un_s) ?_
  refine v_iret zC zT dX5_carry_38  ?_
  first | exact ⟨rfl, rfl⟩ | exact ⟨sb1 (by assumption), rfl⟩ | exact ⟨sb0 (by assumption), rfl⟩ | (exfalso; omega) | exact ⟨sb1 (by simp [*]), rfl⟩ | exact ⟨sb0 (by simp [*]), rfl⟩
set_option maxRecDepth 100000 in
set_option maxHeartbeats 4000000 in
theorem c_X5_carry__F (l : Launch) (D : va_G) (cI : ClassId) (r0 k1 k2 k3 k4 k6 k7 k8 k10 k12 k13 k14 k15 k16 k21 k22 k23 k24 k25 k30 k31 k33 : Nat) (n m aw ls ap sq pl tz rs : Nat) (bd pd : Bool) (sd : Int32) (q : Nat) (En : Nat → Nat) (v : Nat) (hp : pl < 48) : CT l yX5_carry cX5_carry 2 (some .int) { frames := 0, cells := 0, slots := 0, locals := 0 } D cI [.ref r0, .int (nI v)] [(r0, .inr (5, [.int (nI n), .ref k1, .ref k2, .ref k3, .ref k4, .int (nI m), .ref k6, .ref k7, .ref k8, .int (nI 0), .ref k10, .int (nI aw), .ref k12, .ref k13, .ref k14, .ref k15, .ref k16, .int (nI ls), .int (nI ap), .int (bz bd), .int (nI sq), .ref k21, .ref k22, .ref k23, .ref k24, .ref k25, .int (bz pd), .int (nI pl), .int (nI 0), .ref q, .ref k30, .ref k31, .int (nI tz), .ref k33, .int (nI rs), .int sd])), (q, .inl (cI, 48, .inl (nIf En)))] (fun zr zw => (zr = some (.int (nI (En pl))) ∧ zw = [(r0, .inr (5, [.int (nI n), .ref k1, .ref k2, .ref k3, .ref k4, .int (nI m), .ref k6, .ref k7, .ref k8, .int (nI 0), .ref k10, .int (nI aw), .ref k12, .ref k13, .ref k14, .ref k15, .ref k16, .int (nI ls), .int (nI ap), .int (bz bd), .int (nI sq), .ref k21, .ref k22, .ref k23, .ref k24, .ref k25, .int (bz pd), .int (nI (pl + 1)), .int (nI 0), .ref q, .ref k30, .ref k31, .int (nI tz), .ref k33, .int (nI rs), .int sd])), (q, .inl (cI, 48, .inl (nIf En)))])) := by
  refine CT_of RX5 rfl (by decide +kernel) (Nat.le_of_ble_eq_true rfl) (fun E hnE zC zT => ?_)
  have hA : ∀ q, (ev_s E).heap.size ≤ q → ev_A E q := fun q h => by rw [zT.2]; exact Or.inr h
  show VV E 0 0 0 [(0, .ref r0), (1, .int (nI v))] [] [(r0, .inr (5, [.int (nI n), .ref k1, .ref k2, .ref k3, .ref k4, .int (nI m), .ref k6, .ref k7, .ref k8, .int (nI 0), .ref k10, .int (nI aw), .ref k12, .ref k13, .ref k14, .ref k15, .ref k16, .int (nI ls), .int (nI ap), .int (bz bd), .int (nI sq), .ref k21, .ref k22, .ref k23, .ref k24, .ref k25, .int (bz pd), .int (nI pl), .int (nI 0), .ref q, .ref k30, .ref k31, .int (nI tz), .ref k33, .int (nI rs), .int sd])), (q, .inl (cI, 48, .inl (nIf En)))]
  refine v_al_n 1 zC dX5_carry_0 0 rfl ?_
  refine v_gf 4 0 zC dX5_carry_1 gf_X5_191 rfl rfl ?_
  refine v_if_eq 17 7 zC dX5_carry_4 (fun _ => ?_) (fun z => absurd (by decide +kernel) z)
  refine v_al_n 18 zC dX5_carry_17 0 rfl ?_
  refine v_dup 19 zC dX5_carry_18 rfl ?_
  refine v_gf 22 0 zC dX5_carry_19 gf_X5_197 rfl rfl ?_
  refine v_ic (v := (nI 1)) 23 zC dX5_carry_22 (by decide +kernel) ?_
  refine v_iadd (v := (nI (pl + 1))) 24 zC dX5_carry_23 (nI_add _ _) ?_
  refine v_pf (ws2 := [(r0, .inr (5, [.int (nI n), .ref k1, .ref k2, .ref k3, .ref k4, .int (nI m), .ref k6, .ref k7, .ref k8, .int (nI 0), .ref k10, .int (nI aw), .ref k12, .ref k13, .ref k14, .ref k15, .ref k16, .int (nI ls), .int (nI ap), .int (bz bd), .int (nI sq), .ref k21, .ref k22, .ref k23, .ref k24, .ref k25, .int (bz pd), .int (nI (pl + 1)), .int (nI 0), .ref q, .ref k30, .ref k31, .int (nI tz), .ref k33, .int (nI rs), .int sd])), (q, .inl (cI, 48, .inl (nIf En)))]) 27 0 zC dX5_carry_24 pf_X5_197 rfl (Nat.le_of_ble_eq_true rfl) rfl rfl rfl ?_
  refine v_al_n 28 zC dX5_carry_27 0 rfl ?_
  refine v_gf 31 0 zC dX5_carry_28 gf_X5_194 rfl rfl ?_
  refine v_al_n 32 zC dX5_carry_31 0 rfl ?_
  refine v_gf 35 0 zC dX5_carry_32 gf_X5_197 rfl rfl ?_
  refine v_ic (v := (nI 1)) 36 zC dX5_carry_35 (by decide +kernel) ?_
  refine v_isub (v := (nI pl)) 37 zC dX5_carry_36 (by rw [pk_sub (by omega), Nat.add_sub_cancel]) ?_
  refine v_ialn (v := (nI (En pl))) 38 1 zC dX5_carry_37 rfl (by omega) rfl ?_
  refine v_iret zC zT dX5_carry_38  ?_
  first | exact ⟨rfl, rfl⟩ | exact ⟨sb1 (by assumption), rfl⟩ | exact ⟨sb0 (by assumption), rfl⟩ | (exfalso; omega) | exact ⟨sb1 (by simp [*]), rfl⟩ | exact ⟨sb0 (by simp [*]), rfl⟩
set_option maxRecDepth 100000 in
set_option maxHeartbeats 4000000 in
theorem c_X5_carryAll__T (l : Launch) (D : va_G) (cI : ClassId) (r0 k1 k2 k3 k4 k6 k7 k8 k10 k12 k13 k14 k15 k16 k21 k22 k23 k24 k25 k30 k31 k33 : Nat) (n m aw ls ap sq pl tz rs : Nat) (bd pd tk : Bool) (kv : Value) (sd : Int32) (ki op fa K G T : Nat → Nat) (sh : Nat) (q : Nat) (En : Nat → Nat)  : CT l yX5_carryAll cX5_carryAll 4 none { frames := 1, cells := 0, slots := 0, locals := 21 } D cI [.ref r0, .ref q, .int (nI 1)] [(r0, .inr (5, [.int (nI n), .ref k1, .ref k2, .ref k3, .ref k4, .int (nI m), .ref k6, .ref k7, .ref k8, .int (nI 0), .ref k10, .int (nI aw), .ref k12, .ref k13, .ref k14, .ref k15, .ref k16, .int (nI ls), .int (nI ap), .int (bz bd), .int (nI sq), .ref k21, .ref k22, .ref k23, .ref k24, .ref k25, .int (bz pd), .int (nI pl), .int (bz tk), kv, .ref k30, .ref k31, .int (nI tz), .ref k33, .int (nI rs), .int sd])), (k1, .inl (cI, 7, .inl (nIf ki))), (k2, .inl (cI, 7, .inl (nIf op))), (k3, .inl (cI, 7, .inl (nIf (shF sh)))), (k4, .inl (cI, 7, .inl (nIf fa))), (k6, .inl (cI, 6, .inl (nIf K))), (k7, .inl (cI, 6, .inl (nIf G))), (k8, .inl (cI, 6, .inl (nIf T))), (q, .inl (cI, 48, .inl (nIf En)))] (fun zr zw => (∃ E1 : Nat → Nat, (∀ z, z < 48 → E1 z = ENC (n, m, sh, aw, ki, op, fa, K, G, T) z) ∧ zr = none ∧ zw = [(r0, .inr (5, [.int (nI n), .ref k1, .ref k2, .ref k3, .ref k4, .int (nI m), .ref k6, .ref k7, .ref k8, .int (nI 0), .ref k10, .int (nI aw), .ref k12, .ref k13, .ref k14, .ref k15, .ref k16, .int (nI ls), .int (nI ap), .int (bz bd), .int (nI sq), .ref k21, .ref k22, .ref k23, .ref k24, .ref k25, .int (bz pd), .int (nI 48), .int (nI 1), .ref q, .ref k30, .ref k31, .int (nI tz), .ref k33, .int (nI rs), .int sd])), (k1, .inl (cI, 7, .inl (nIf ki))), (k2, .inl (cI, 7, .inl (nIf op))), (k3, .inl (cI, 7, .inl (nIf (shF sh)))), (k4, .inl (cI, 7, .inl (nIf fa))), (k6, .inl (cI, 6, .inl (nIf K))), (k7, .inl (cI, 6, .inl (nIf G))), (k8, .inl (cI, 6, .inl (nIf T))), (q, .inl (cI, 48, .inl (nIf E1)))])) := by
  refine CT_of RX5 rfl (by decide +kernel) (Nat.le_of_ble_eq_true rfl) (fun E hnE zC zT => ?_)
  have hA : ∀ q, (ev_s E).heap.size ≤ q → ev_A E q := fun q h => by rw [zT.2]; exact Or.inr h
  show VV E 0 0 0 [(0, .ref r0), (1, .ref q), (2, .int (nI 1))] [] [(r0, .inr (5, [.int (nI n), .ref k1, .ref k2, .ref k3, .ref k4, .int (nI m), .ref k6, .ref k7, .ref k8, .int (nI 0), .ref k10, .int (nI aw), .ref k12, .ref k13, .ref k14, .ref k15, .ref k16, .int (nI ls), .int (nI ap), .int (bz bd), .int (nI sq), .ref k21, .ref k22, .ref k23, .ref k24, .ref k25, .int (bz pd), .int (nI pl), .int (bz tk), kv, .ref k30, .ref k31, .int (nI tz), .ref k33, .int (nI rs), .int sd])), (k1, .inl (cI, 7, .inl (nIf ki))), (k2, .inl (cI, 7, .inl (nIf op))), (k3, .inl (cI, 7, .inl (nIf (shF sh)))), (k4, .inl (cI, 7, .inl (nIf fa))), (k6, .inl (cI, 6, .inl (nIf K))), (k7, .inl (cI, 6, .inl (nIf G))), (k8, .inl (cI, 6, .inl (nIf T))), (q, .inl (cI, 48, .inl (nIf En)))]
  refine v_al_n 1 zC dX5_carryAll_0 0 rfl ?_
  refine v_al_n 2 zC dX5_carryAll_1 1 rfl ?_
  refine v_pf (ws2 := [(r0, .inr (5, [.int (nI n), .ref k1, .ref k2, .ref k3, .ref k4, .int (nI m), .ref k6, .ref k7, .ref k8, .int (nI 0), .ref k10, .int (nI aw), .ref k12, .ref k13, .ref k14, .ref k15, .ref k16, .int (nI ls), .int (nI ap), .int (bz bd), .int (nI sq), .ref k21, .ref k22, .ref k23, .ref k24, .ref k25, .int (bz pd), .int (nI pl), .int (bz tk), .ref q, .ref k30, .ref k31, .int (nI tz), .ref k33, .int (nI rs), .int sd])), (k1, .inl (cI, 7, .inl (nIf ki))), (k2, .inl (cI, 7, .inl (nIf op))), (k3, .inl (cI, 7, .inl (nIf (shF sh)))), (k4, .inl (cI, 7, .inl (nIf fa))), (k6, .inl (cI, 6, .inl (nIf K))), (k7, .inl (cI, 6, .inl (nIf G))), (k8, .inl (cI, 6, .inl (nIf T))), (q, .inl (cI, 48, .inl (nIf En)))]) 5 0 zC dX5_carryAll_2 pf_X5_194 rfl (Nat.le_of_ble_eq_true rfl) rfl rfl rfl ?_
  refine v_al_n 6 zC dX5_carryAll_5 0 rfl ?_
  refine v_il_n 7 zC dX5_carryAll_6 2 rfl ?_
  refine v_pf (ws2 := [(r0, .inr (5, [.int (nI n), .ref k1, .ref k2, .ref k3, .ref k4, .int (nI m), .ref k6, .ref k7, .ref k8, .int (nI 0), .ref k10, .int (nI aw), .ref k12, .ref k13, .ref k14, .ref k15, .ref k16, .int (nI ls), .int (nI ap), .int (bz bd), .int (nI sq), .ref k21, .ref k22, .ref k23, .ref k24, .ref k25, .int (bz pd), .int (nI pl), .int (nI 1), .ref q, .ref k30, .ref k31, .int (nI tz), .ref k33, .int (nI rs), .int sd])), (k1, .inl (cI, 7, .inl (nIf ki))), (k2, .inl (cI, 7, .inl (nIf op))), (k3, .inl (cI, 7, .inl (nIf (shF sh)))), (k4, .inl (cI, 7, .inl (nIf fa))), (k6, .inl (cI, 6, .inl (nIf K))), (k7, .inl (cI, 6, .inl (nIf G))), (k8, .inl (cI, 6, .inl (nIf T))), (q, .inl (cI, 48, .inl (nIf En)))]) 10 0 zC dX5_carryAll_7 pf_X5_191 rfl (Nat.le_of_ble_eq_true rfl) (by decide +kernel) (by decide +kernel) rfl ?_
  refine v_al_n 11 zC dX5_carryAll_10 0 rfl ?_
  refine v_ic (v := (nI 0)) 12 zC dX5_carryAll_11 (by decide +kernel) ?_
  refine v_pf (ws2 := [(r0, .inr (5, [.int (nI n), .ref k1, .ref k2, .ref k3, .ref k4, .int (nI m), .ref k6, .ref k7, .ref k8, .int (nI 0), .ref k10, .int (nI aw), .ref k12, .ref k13, .ref k14, .ref k15, .ref k16, .int (nI ls), .int (nI ap), .int (bz bd), .int (nI sq), .ref k21, .ref k22, .ref k23, .ref k24, .ref k25, .int (bz pd), .int (nI 0), .int (nI 1), .ref q, .ref k30, .ref k31, .int (nI tz), .ref k33, .int (nI rs), .int sd])), (k1, .inl (cI, 7, .inl (nIf ki))), (k2, .inl (cI, 7, .inl (nIf op))), (k3, .inl (cI, 7, .inl (nIf (shF sh)))), (k4, .inl (cI, 7, .inl (nIf fa))), (k6, .inl (cI, 6, .inl (nIf K))), (k7, .inl (cI, 6, .inl (nIf G))), (k8, .inl (cI, 6, .inl (nIf T))), (q, .inl (cI, 48, .inl (nIf En)))]) 15 0 zC dX5_carryAll_12 pf_X5_197 rfl (Nat.le_of_ble_eq_true rfl) rfl rfl rfl ?_
  refine v_al_n 16 zC dX5_carryAll_15 0 rfl ?_
  refine v_al_n 17 zC dX5_carryAll_16 0 rfl ?_
  refine v_al_n 18 zC dX5_carryAll_17 0 rfl ?_
  refine v_gf 21 0 zC dX5_carryAll_18 gf_X5_77 rfl rfl ?_
  refine v_cV (As := [.int (nI n)]) (st := [.ref r0]) 24 0 [0, 8] zC dX5_carryAll_21 hA (c_X5_carry__T (ev_l E) (ev_D E) cI (r0 := r0) (k1 := k1) (k2 := k2) (k3 := k3) (k4 := k4) (k6 := k6) (k7 := k7) (k8 := k8) (k10 := k10) (k12 := k12) (k13 := k13) (k14 := k14) (k15 := k15) (k16 := k16) (k21 := k21) (k22 := k22) (k23 := k23) (k24 := k24) (k25 := k25) (k30 := k30) (k31 := k31) (k33 := k33) (n := n) (m := m) (aw := aw) (ls := ls) (ap := ap) (sq := sq) (pl := 0) (tz := tz) (rs := rs) (bd := bd) (pd := pd) (sd := sd) (q := q) (En := En) (v := n) (hp := (by first | omega | assumption | rfl | (simp only []; omega) | decide))) cf_X5_carry lk_X5_200 rfl rfl rfl rfl rfl (by decide +kernel) (Nat.le_of_ble_eq_true rfl) (fun rv_1 wv_2 hp_3 hm_4 => ?_)
  clear hm_4
  obtain ⟨rfl, rfl⟩ := hp_3
  show VV E 0 0 24 [(0, .ref r0), (1, .ref q), (2, .int (nI 1))] [.int (nI n), .ref r0] [(r0, .inr (5, [.int (nI n), .ref k1, .ref k2, .ref k3, .ref k4, .int (nI m), .ref k6, .ref k7, .ref k8, .int (nI 0), .ref k10, .int (nI aw), .ref k12, .ref k13, .ref k14, .ref k15, .ref k16, .int (nI ls), .int (nI ap), .int (bz bd), .int (nI sq), .ref k21, .ref k22, .ref k23, .ref k24, .ref k25, .int (bz pd), .int (nI (0 + 1)), .int (nI 1), .ref q, .ref k30, .ref k31, .int (nI tz), .ref k33, .int (nI rs), .int sd])), (k1, .inl (cI, 7, .inl (nIf ki))), (k2, .inl (cI, 7, .inl (nIf op))), (k3, .inl (cI, 7, .inl (nIf (shF sh)))), (k4, .inl (cI, 7, .inl (nIf fa))), (k6, .inl (cI, 6, .inl (nIf K))), (k7, .inl (cI, 6, .inl (nIf G))), (k8, .inl (cI, 6, .inl (nIf T))), (q, .inl (cI, 48, .inl (nIf (un En 0 n))))]
  refine v_pf (ws2 := [(r0, .inr (5, [.int (nI n), .ref k1, .ref k2, .ref k3, .ref k4, .int (nI m), .ref k6, .ref k7, .ref k8, .int (nI 0), .ref k10, .int (nI aw), .ref k12, .ref k13, .ref k14, .ref k15, .ref k16, .int (nI ls), .int (nI ap), .int (bz bd), .int (nI sq), .ref k21, .ref k22, .ref k23, .ref k24, .ref k25, .int (bz pd), .int (nI (0 + 1)), .int (nI 1), .ref q, .ref k30, .ref k31, .int (nI tz), .ref k33, .int (nI rs), .int sd])), (k1, .inl (cI, 7, .inl (nIf ki))), (k2, .inl (cI, 7, .inl (nIf op))), (k3, .inl (cI, 7, .inl (nIf (shF sh)))), (k4, .inl (cI, 7, .inl (nIf fa))), (k6, .inl (cI, 6, .inl (nIf K))), (k7, .inl (cI, 6, .inl (nIf G))), (k8, .inl (cI, 6, .inl (nIf T))), (q, .inl (cI, 48, .inl (nIf (un En 0 n))))]) 27 0 zC dX5_carryAll_24 pf_X5_77 rfl (Nat.le_of_ble_eq_true rfl) rfl rfl rfl ?_
  refine v_al_n 28 zC dX5_carryAll_27 0 rfl ?_
  refine v_al_n 29 zC dX5_carryAll_28 0 rfl ?_
  refine v_al_n 30 zC dX5_carryAll_29 0 rfl ?_
  refine v_gf 33 0 zC dX5_carryAll_30 gf_X5_84 rfl rfl ?_
  refine v_cV (As := [.int (nI m)]) (st := [.ref r0]) 36 0 [0, 8] zC dX5_carryAll_33 hA (c_X5_carry__T (ev_l E) (ev_D E) cI (r0 := r0) (k1 := k1) (k2 := k2) (k3 := k3) (k4 := k4) (k6 := k6) (k7 := k7) (k8 := k8) (k10 := k10) (k12 := k12) (k13 := k13) (k14 := k14) (k15 := k15) (k16 := k16) (k21 := k21) (k22 := k22) (k23 := k23) (k24 := k24) (k25 := k25) (k30 := k30) (k31 := k31) (k33 := k33) (n := n) (m := m) (aw := aw) (ls := ls) (ap := ap) (sq := sq) (pl := (0 + 1)) (tz := tz) (rs := rs) (bd := bd) (pd := pd) (sd := sd) (q := q) (En := (un En 0 n)) (v := m) (hp := (by first | omega | assumption | rfl | (simp only []; omega) | decide))) cf_X5_carry lk_X5_200 rfl rfl rfl rfl rfl (by decide +kernel) (Nat.le_of_ble_eq_true rfl) (fun rv_5 wv_6 hp_7 hm_8 => ?_)
  clear hm_8
  obtain ⟨rfl, rfl⟩ := hp_7
  show VV E 0 0 36 [(0, .ref r0), (1, .ref q), (2, .int (nI 1))] [.int (nI m), .ref r0] [(r0, .inr (5, [.int (nI n), .ref k1, .ref k2, .ref k3, .ref k4, .int (nI m), .ref k6, .ref k7, .ref k8, .int (nI 0), .ref k10, .int (nI aw), .ref k12, .ref k13, .ref k14, .ref k15, .ref k16, .int (nI ls), .int (nI ap), .int (bz bd), .int (nI sq), .ref k21, .ref k22, .ref k23, .ref k24, .ref k25, .int (bz pd), .int (nI ((0 + 1) + 1)), .int (nI 1), .ref q, .ref k30, .ref k31, .int (nI tz), .ref k33, .int (nI rs), .int sd])), (k1, .inl (cI, 7, .inl (nIf ki))), (k2, .inl (cI, 7, .inl (nIf op))), (k3, .inl (cI, 7, .inl (nIf (shF sh)))), (k4, .inl (cI, 7, .inl (nIf fa))), (k6, .inl (cI, 6, .inl (nIf K))), (k7, .inl (cI, 6, .inl (nIf G))), (k8, .inl (cI, 6, .inl (nIf T))), (q, .inl (cI, 48, .inl (nIf (un (un En 0 n) (0 + 1) m))))]
  refine v_pf (ws2 := [(r0, .inr (5, [.int (nI n), .ref k1, .ref k2, .ref k3, .ref k4, .int (nI m), .ref k6, .ref k7, .ref k8, .int (nI 0), .ref k10, .int (nI aw), .ref k12, .ref k13, .ref k14, .ref k15, .ref k16, .int (nI ls), .int (nI ap), .int (bz bd), .int (nI sq), .ref k21, .ref k22, .ref k23, .ref k24, .ref k25, .int (bz pd), .int (nI ((0 + 1) + 1)), .int (nI 1), .ref q, .ref k30, .ref k31, .int (nI tz), .ref k33, .int (nI rs), .int sd])), (k1, .inl (cI, 7, .inl (nIf ki))), (k2, .inl (cI, 7, .inl (nIf op))), (k3, .inl (cI, 7, .inl (nIf (shF sh)))), (k4, .inl (cI, 7, .inl (nIf fa))), (k6, .inl (cI, 6, .inl (nIf K))), (k7, .inl (cI, 6, .inl (nIf G))), (k8, .inl (cI, 6, .inl (nIf T))), (q, .inl (cI, 48, .inl (nIf (un (un En 0 n) (0 + 1) m))))]) 39 0 zC dX5_carryAll_36 pf_X5_84 rfl (Nat.le_of_ble_eq_true rfl) rfl rfl rfl ?_
  refine v_ic (v := (nI 0)) 40 zC dX5_carryAll_39 (by decide +kernel) ?_
  refine v_is_n (lv2 := [(3, .int (nI 0)), (0, .ref r0), (1, .ref q), (2, .int (nI 1))]) 41 zC dX5_carryAll_40 (by rw [hnE]; decide) rfl ?_
  have lp41 : ∀ (mz : Nat) (F : Nat → Nat) (w : Nat) (p : Nat), (∀ z, z < w → F z = ENC (n, m, sh, aw, ki, op, fa, K, G, T) z) → (w = 2 + 4 * p) → (p ≤ 7) → 7 - p = mz → VV E 0 0 41 [(3, .int (nI p)), (0, .ref r0), (1, .ref q), (2, .int (nI 1))] [] [(r0, .inr (5, [.int (nI n), .ref k1, .ref k2, .ref k3, .ref k4, .int (nI m), .ref k6, .ref k7, .ref k8, .int (nI 0), .ref k10, .int (nI aw), .ref k12, .ref k13, .ref k14, .ref k15, .ref k16, .int (nI ls), .int (nI ap), .int (bz bd), .int (nI sq), .ref k21, .ref k22, .ref k23, .ref k24, .ref k25, .int (bz pd), .int (nI w), .int (nI 1), .ref q, .ref k30, .ref k31, .int (nI tz), .ref k33, .int (nI rs), .int sd])), (k1, .inl (cI, 7, .inl (nIf ki))), (k2, .inl (cI, 7, .inl (nIf op))), (k3, .inl (cI, 7, .inl (nIf (shF sh)))), (k4, .inl (cI, 7, .inl (nIf fa))), (k6, .inl (cI, 6, .inl (nIf K))), (k7, .inl (cI, 6, .inl (nIf G))), (k8, .inl (cI, 6, .inl (nIf T))), (q, .inl (cI, 48, .inl (nIf F)))] := by
    intro mz
    induction mz using Nat.strongRecOn with
    | _ mz ih41 =>
    intro F w p hF hw hp hm41
    refine v_il_n 42 zC dX5_carryAll_41 0 rfl ?_
    refine v_bp (v := (nI 7)) 44 zC dX5_carryAll_42 (by decide +kernel) ?_
    refine v_icmpn_ge 117 47 zC dX5_carryAll_44 (fun h_9 => ?_) (fun h_9 => ?_)
    ·
      refine v_ic (v := (nI 0)) 118 zC dX5_carryAll_117 (by decide +kernel) ?_
      refine v_is_n (lv2 := [(3, .int (nI 0)), (0, .ref r0), (1, .ref q), (2, .int (nI 1))]) 119 zC dX5_carryAll_118 (by rw [hnE]; decide) rfl ?_
      have lp119 : ∀ (mz : Nat) (F : Nat → Nat) (w : Nat) (d : Nat), (∀ z, z < w → F z = ENC (n, m, sh, aw, ki, op, fa, K, G, T) z) → (w = 30 + 3 * d) → (d ≤ 6) → 6 - d = mz → VV E 0 0 119 [(3, .int (nI d)), (0, .ref r0), (1, .ref q), (2, .int (nI 1))] [] [(r0, .inr (5, [.int (nI n), .ref k1, .ref k2, .ref k3, .ref k4, .int (nI m), .ref k6, .ref k7, .ref k8, .int (nI 0), .ref k10, .int (nI aw), .ref k12, .ref k13, .ref k14, .ref k15, .ref k16, .int (nI ls), .int (nI ap), .int (bz bd), .int (nI sq), .ref k21, .ref k22, .ref k23, .ref k24, .ref k25, .int (bz pd), .int (nI w), .int (nI 1), .ref q, .ref k30, .ref k31, .int (nI tz), .ref k33, .int (nI rs), .int sd])), (k1, .inl (cI, 7, .inl (nIf ki))), (k2, .inl (cI, 7, .inl (nIf op))), (k3, .inl (cI, 7, .inl (nIf (shF sh)))), (k4, .inl (cI, 7, .inl (nIf fa))), (k6, .inl (cI, 6, .inl (nIf K))), (k7, .inl (cI, 6, .inl (nIf G))), (k8, .inl (cI, 6, .inl (nIf T))), (q, .inl (cI, 48, .inl (nIf F)))] := by
        intro mz
        induction mz using Nat.strongRecOn with
        | _ mz ih119 =>
        intro F w d hF hw hd hm119
        refine v_il_n 120 zC dX5_carryAll_119 0 rfl ?_
        refine v_bp (v := (nI 6)) 122 zC dX5_carryAll_120 (by decide +kernel) ?_
        refine v_icmpn_ge 179 125 zC dX5_carryAll_122 (fun h_10 => ?_) (fun h_10 => ?_)
        ·
          refine v_vret zC zT dX5_carryAll_179  ?_
          have e9 : w = 48 := by omega
          subst e9
          exact ⟨F, fun z hz => hF z hz, rfl, rfl⟩
        ·
          refine v_al_n 126 zC dX5_carryAll_125 1 rfl ?_
          refine v_gf 129 0 zC dX5_carryAll_126 gf_X5_22 rfl rfl ?_
          refine v_il_n 130 zC dX5_carryAll_129 0 rfl ?_
          refine v_al_n 131 zC dX5_carryAll_130 1 rfl ?_
          refine v_al_n 132 zC dX5_carryAll_131 1 rfl ?_
          refine v_gf 135 0 zC dX5_carryAll_132 gf_X5_22 rfl rfl ?_
          refine v_il_n 136 zC dX5_carryAll_135 0 rfl ?_
          refine v_ialn (v := (nI (K d))) 137 5 zC dX5_carryAll_136 rfl (by omega) rfl ?_
          refine v_cV (As := [.int (nI (K d))]) (st := [.int (nI d), .ref k6]) 140 0 [0, 8] zC dX5_carryAll_137 hA (c_X5_carry__T (ev_l E) (ev_D E) cI (r0 := r0) (k1 := k1) (k2 := k2) (k3 := k3) (k4 := k4) (k6 := k6) (k7 := k7) (k8 := k8) (k10 := k10) (k12 := k12) (k13 := k13) (k14 := k14) (k15 := k15) (k16 := k16) (k21 := k21) (k22 := k22) (k23 := k23) (k24 := k24) (k25 := k25) (k30 := k30) (k31 := k31) (k33 := k33) (n := n) (m := m) (aw := aw) (ls := ls) (ap := ap) (sq := sq) (pl := w) (tz := tz) (rs := rs) (bd := bd) (pd := pd) (sd := sd) (q := q) (En := F) (v := (K d)) (hp := (by first | omega | assumption | rfl | (simp only []; omega) | decide))) cf_X5_carry lk_X5_200 rfl rfl rfl rfl rfl (by decide +kernel) (Nat.le_of_ble_eq_true rfl) (fun rv_11 wv_12 hp_13 hm_14 => ?_)
          clear hm_14
          obtain ⟨rfl, rfl⟩ := hp_13
          show VV E 0 0 140 [(3, .int (nI d)), (0, .ref r0), (1, .ref q), (2, .int (nI 1))] [.int (nI (K d)), .int (nI d), .ref k6] [(r0, .inr (5, [.int (nI n), .ref k1, .ref k2, .ref k3, .ref k4, .int (nI m), .ref k6, .ref k7, .ref k8, .int (nI 0), .ref k10, .int (nI aw), .ref k12, .ref k13, .ref k14, .ref k15, .ref k16, .int (nI ls), .int (nI ap), .int (bz bd), .int (nI sq), .ref k21, .ref k22, .ref k23, .ref k24, .ref k25, .int (bz pd), .int (nI (w + 1)), .int (nI 1), .ref q, .ref k30, .ref k31, .int (nI tz), .ref k33, .int (nI rs), .int sd])), (k1, .inl (cI, 7, .inl (nIf ki))), (k2, .inl (cI, 7, .inl (nIf op))), (k3, .inl (cI, 7, .inl (nIf (shF sh)))), (k4, .inl (cI, 7, .inl (nIf fa))), (k6, .inl (cI, 6, .inl (nIf K))), (k7, .inl (cI, 6, .inl (nIf G))), (k8, .inl (cI, 6, .inl (nIf T))), (q, .inl (cI, 48, .inl (nIf (un F w (K d)))))]
          refine v_iasn (ws2 := [(r0, .inr (5, [.int (nI n), .ref k1, .ref k2, .ref k3, .ref k4, .int (nI m), .ref k6, .ref k7, .ref k8, .int (nI 0), .ref k10, .int (nI aw), .ref k12, .ref k13, .ref k14, .ref k15, .ref k16, .int (nI ls), .int (nI ap), .int (bz bd), .int (nI sq), .ref k21, .ref k22, .ref k23, .ref k24, .ref k25, .int (bz pd), .int (nI (w + 1)), .int (nI 1), .ref q, .ref k30, .ref k31, .int (nI tz), .ref k33, .int (nI rs), .int sd])), (k1, .inl (cI, 7, .inl (nIf ki))), (k2, .inl (cI, 7, .inl (nIf op))), (k3, .inl (cI, 7, .inl (nIf (shF sh)))), (k4, .inl (cI, 7, .inl (nIf fa))), (k6, .inl (cI, 6, .inl (nIf (un K d (K d))))), (k7, .inl (cI, 6, .inl (nIf G))), (k8, .inl (cI, 6, .inl (nIf T))), (q, .inl (cI, 48, .inl (nIf (un F w (K d)))))]) 141 5 zC dX5_carryAll_140 rfl (by omega) (by rw [upd_nIf]; first | done | rfl) ?_
          rw [un_id]
          refine v_al_n 142 zC dX5_carryAll_141 1 rfl ?_
          refine v_gf 145 0 zC dX5_carryAll_142 gf_X5_25 rfl rfl ?_
          refine v_il_n 146 zC dX5_carryAll_145 0 rfl ?_
          refine v_al_n 147 zC dX5_carryAll_146 1 rfl ?_
          refine v_al_n 148 zC dX5_carryAll_147 1 rfl ?_
          refine v_gf 151 0 zC dX5_carryAll_148 gf_X5_25 rfl rfl ?_
          refine v_il_n 152 zC dX5_carryAll_151 0 rfl ?_
          refine v_ialn (v := (nI (G d))) 153 6 zC dX5_carryAll_152 rfl (by omega) rfl ?_
          refine v_cV (As := [.int (nI (G d))]) (st := [.int (nI d), .ref k7]) 156 0 [0, 8] zC dX5_carryAll_153 hA (c_X5_carry__T (ev_l E) (ev_D E) cI (r0 := r0) (k1 := k1) (k2 := k2) (k3 := k3) (k4 := k4) (k6 := k6) (k7 := k7) (k8 := k8) (k10 := k10) (k12 := k12) (k13 := k13) (k14 := k14) (k15 := k15) (k16 := k16) (k21 := k21) (k22 := k22) (k23 := k23) (k24 := k24) (k25 := k25) (k30 := k30) (k31 := k31) (k33 := k33) (n := n) (m := m) (aw := aw) (ls := ls) (ap := ap) (sq := sq) (pl := (w + 1)) (tz := tz) (rs := rs) (bd := bd) (pd := pd) (sd := sd) (q := q) (En := (un F w (K d))) (v := (G d)) (hp := (by first | omega | assumption | rfl | (simp only []; omega) | decide))) cf_X5_carry lk_X5_200 rfl rfl rfl rfl rfl (by decide +kernel) (Nat.le_of_ble_eq_true rfl) (fun rv_15 wv_16 hp_17 hm_18 => ?_)
          clear hm_18
          obtain ⟨rfl, rfl⟩ := hp_17
          show VV E 0 0 156 [(3, .int (nI d)), (0, .ref r0), (1, .ref q), (2, .int (nI 1))] [.int (nI (G d)), .int (nI d), .ref k7] [(r0, .inr (5, [.int (nI n), .ref k1, .ref k2, .ref k3, .ref k4, .int (nI m), .ref k6, .ref k7, .ref k8, .int (nI 0), .ref k10, .int (nI aw), .ref k12, .ref k13, .ref k14, .ref k15, .ref k16, .int (nI ls), .int (nI ap), .int (bz bd), .int (nI sq), .ref k21, .ref k22, .ref k23, .ref k24, .ref k25, .int (bz pd), .int (nI ((w + 1) + 1)), .int (nI 1), .ref q, .ref k30, .ref k31, .int (nI tz), .ref k33, .int (nI rs), .int sd])), (k1, .inl (cI, 7, .inl (nIf ki))), (k2, .inl (cI, 7, .inl (nIf op))), (k3, .inl (cI, 7, .inl (nIf (shF sh)))), (k4, .inl (cI, 7, .inl (nIf fa))), (k6, .inl (cI, 6, .inl (nIf K))), (k7, .inl (cI, 6, .inl (nIf G))), (k8, .inl (cI, 6, .inl (nIf T))), (q, .inl (cI, 48, .inl (nIf (un (un F w (K d)) (w + 1) (G d)))))]
          refine v_iasn (ws2 := [(r0, .inr (5, [.int (nI n), .ref k1, .ref k2, .ref k3, .ref k4, .int (nI m), .ref k6, .ref k7, .ref k8, .int (nI 0), .ref k10, .int (nI aw), .ref k12, .ref k13, .ref k14, .ref k15, .ref k16, .int (nI ls), .int (nI ap), .int (bz bd), .int (nI sq), .ref k21, .ref k22, .ref k23, .ref k24, .ref k25, .int (bz pd), .int (nI ((w + 1) + 1)), .int (nI 1), .ref q, .ref k30, .ref k31, .int (nI tz), .ref k33, .int (nI rs), .int sd])), (k1, .inl (cI, 7, .inl (nIf ki))), (k2, .inl (cI, 7, .inl (nIf op))), (k3, .inl (cI, 7, .inl (nIf (shF sh)))), (k4, .inl (cI, 7, .inl (nIf fa))), (k6, .inl (cI, 6, .inl (nIf K))), (k7, .inl (cI, 6, .inl (nIf (un G d (G d))))), (k8, .inl (cI, 6, .inl (nIf T))), (q, .inl (cI, 48, .inl (nIf (un (un F w (K d)) (w + 1) (G d)))))]) 157 6 zC dX5_carryAll_156 rfl (by omega) (by rw [upd_nIf]; first | done | rfl) ?_
          rw [un_id]
          refine v_al_n 158 zC dX5_carryAll_157 1 rfl ?_
          refine v_gf 161 0 zC dX5_carryAll_158 gf_X5_28 rfl rfl ?_
          refine v_il_n 162 zC dX5_carryAll_161 0 rfl ?_
          refine v_al_n 163 zC dX5_carryAll_162 1 rfl ?_
          refine v_al_n 164 zC dX5_carryAll_163 1 rfl ?_
          refine v_gf 167 0 zC dX5_carryAll_164 gf_X5_28 rfl rfl ?_
          refine v_il_n 168 zC dX5_carryAll_167 0 rfl ?_
          refine v_ialn (v := (nI (T d))) 169 7 zC dX5_carryAll_168 rfl (by omega) rfl ?_
          refine v_cV (As := [.int (nI (T d))]) (st := [.int (nI d), .ref k8]) 172 0 [0, 8] zC dX5_carryAll_169 hA (c_X5_carry__T (ev_l E) (ev_D E) cI (r0 := r0) (k1 := k1) (k2 := k2) (k3 := k3) (k4 := k4) (k6 := k6) (k7 := k7) (k8 := k8) (k10 := k10) (k12 := k12) (k13 := k13) (k14 := k14) (k15 := k15) (k16 := k16) (k21 := k21) (k22 := k22) (k23 := k23) (k24 := k24) (k25 := k25) (k30 := k30) (k31 := k31) (k33 := k33) (n := n) (m := m) (aw := aw) (ls := ls) (ap := ap) (sq := sq) (pl := ((w + 1) + 1)) (tz := tz) (rs := rs) (bd := bd) (pd := pd) (sd := sd) (q := q) (En := (un (un F w (K d)) (w + 1) (G d))) (v := (T d)) (hp := (by first | omega | assumption | rfl | (simp only []; omega) | decide))) cf_X5_carry lk_X5_200 rfl rfl rfl rfl rfl (by decide +kernel) (Nat.le_of_ble_eq_true rfl) (fun rv_19 wv_20 hp_21 hm_22 => ?_)
          clear hm_22
          obtain ⟨rfl, rfl⟩ := hp_21
          show VV E 0 0 172 [(3, .int (nI d)), (0, .ref r0), (1, .ref q), (2, .int (nI 1))] [.int (nI (T d)), .int (nI d), .ref k8] [(r0, .inr (5, [.int (nI n), .ref k1, .ref k2, .ref k3, .ref k4, .int (nI m), .ref k6, .ref k7, .ref k8, .int (nI 0), .ref k10, .int (nI aw), .ref k12, .ref k13, .ref k14, .ref k15, .ref k16, .int (nI ls), .int (nI ap), .int (bz bd), .int (nI sq), .ref k21, .ref k22, .ref k23, .ref k24, .ref k25, .int (bz pd), .int (nI (((w + 1) + 1) + 1)), .int (nI 1), .ref q, .ref k30, .ref k31, .int (nI tz), .ref k33, .int (nI rs), .int sd])), (k1, .inl (cI, 7, .inl (nIf ki))), (k2, .inl (cI, 7, .inl (nIf op))), (k3, .inl (cI, 7, .inl (nIf (shF sh)))), (k4, .inl (cI, 7, .inl (nIf fa))), (k6, .inl (cI, 6, .inl (nIf K))), (k7, .inl (cI, 6, .inl (nIf G))), (k8, .inl (cI, 6, .inl (nIf T))), (q, .inl (cI, 48, .inl (nIf (un (un (un F w (K d)) (w + 1) (G d)) ((w + 1) + 1) (T d)))))]
          refine v_iasn (ws2 := [(r0, .inr (5, [.int (nI n), .ref k1, .ref k2, .ref k3, .ref k4, .int (nI m), .ref k6, .ref k7, .ref k8, .int (nI 0), .ref k10, .int (nI aw), .ref k12, .ref k13, .ref k14, .ref k15, .ref k16, .int (nI ls), .int (nI ap), .int (bz bd), .int (nI sq), .ref k21, .ref k22, .ref k23, .ref k24, .ref k25, .int (bz pd), .int (nI (((w + 1) + 1) + 1)), .int (nI 1), .ref q, .ref k30, .ref k31, .int (nI tz), .ref k33, .int (nI rs), .int sd])), (k1, .inl (cI, 7, .inl (nIf ki))), (k2, .inl (cI, 7, .inl (nIf op))), (k3, .inl (cI, 7, .inl (nIf (shF sh)))), (k4, .inl (cI, 7, .inl (nIf fa))), (k6, .inl (cI, 6, .inl (nIf K))), (k7, .inl (cI, 6, .inl (nIf G))), (k8, .inl (cI, 6, .inl (nIf (un T d (T d))))), (q, .inl (cI, 48, .inl (nIf (un (un (un F w (K d)) (w + 1) (G d)) ((w + 1) + 1) (T d)))))]) 173 7 zC dX5_carryAll_172 rfl (by omega) (by rw [upd_nIf]; first | done | rfl) ?_
          rw [un_id]
          refine v_inc (v := (nI (d + 1))) (lv2 := [(3, .int (nI (d + 1))), (0, .ref r0), (1, .ref q), (2, .int (nI 1))]) 176 zC dX5_carryAll_173 (j := 0) rfl (nI_add _ 1) (by rw [hnE]; decide) rfl ?_
          refine v_goto 119 zC dX5_carryAll_176 ?_
          refine v_lvs (lv2 := [(3, .int (nI (d + 1))), (0, .ref r0), (1, .ref q), (2, .int (nI 1))]) [0, 1, 2, 3] rfl ?_
          exact ih119 _ (by omega) (un (un (un F w (K d)) (w + 1) (G d)) ((w + 1) + 1) (T d)) (((w + 1) + 1) + 1) (d + 1) (enc_ds (s := (n, m, sh, aw, ki, op, fa, K, G, T)) (by omega) hw hF) (by first | omega | assumption | rfl | (simp only []; omega) | decide) (by first | omega | assumption | rfl | (simp only []; omega) | decide) rfl
      refine v_lvs (lv2 := [(3, .int (nI 0)), (0, .ref r0), (1, .ref q), (2, .int (nI 1))]) [0, 1, 2, 3] rfl ?_
      exact lp119 _ F w 0 hF (by first | omega | assumption | rfl | (simp only []; omega) | decide) (by first | omega | assumption | rfl | (simp only []; omega) | decide) rfl
    ·
      refine v_al_n 48 zC dX5_carryAll_47 1 rfl ?_
      refine v_gf 51 0 zC dX5_carryAll_48 gf_X5_7 rfl rfl ?_
      refine v_il_n 52 zC dX5_carryAll_51 0 rfl ?_
      refine v_al_n 53 zC dX5_carryAll_52 1 rfl ?_
      refine v_al_n 54 zC dX5_carryAll_53 1 rfl ?_
      refine v_gf 57 0 zC dX5_carryAll_54 gf_X5_7 rfl rfl ?_
      refine v_il_n 58 zC dX5_carryAll_57 0 rfl ?_
      refine v_ialn (v := (nI (ki p))) 59 1 zC dX5_carryAll_58 rfl (by omega) rfl ?_
      refine v_cV (As := [.int (nI (ki p))]) (st := [.int (nI p), .ref k1]) 62 0 [0, 8] zC dX5_carryAll_59 hA (c_X5_carry__T (ev_l E) (ev_D E) cI (r0 := r0) (k1 := k1) (k2 := k2) (k3 := k3) (k4 := k4) (k6 := k6) (k7 := k7) (k8 := k8) (k10 := k10) (k12 := k12) (k13 := k13) (k14 := k14) (k15 := k15) (k16 := k16) (k21 := k21) (k22 := k22) (k23 := k23) (k24 := k24) (k25 := k25) (k30 := k30) (k31 := k31) (k33 := k33) (n := n) (m := m) (aw := aw) (ls := ls) (ap := ap) (sq := sq) (pl := w) (tz := tz) (rs := rs) (bd := bd) (pd := pd) (sd := sd) (q := q) (En := F) (v := (ki p)) (hp := (by first | omega | assumption | rfl | (simp only []; omega) | decide))) cf_X5_carry lk_X5_200 rfl rfl rfl rfl rfl (by decide +kernel) (Nat.le_of_ble_eq_true rfl) (fun rv_23 wv_24 hp_25 hm_26 => ?_)
      clear hm_26
      obtain ⟨rfl, rfl⟩ := hp_25
      show VV E 0 0 62 [(3, .int (nI p)), (0, .ref r0), (1, .ref q), (2, .int (nI 1))] [.int (nI (ki p)), .int (nI p), .ref k1] [(r0, .inr (5, [.int (nI n), .ref k1, .ref k2, .ref k3, .ref k4, .int (nI m), .ref k6, .ref k7, .ref k8, .int (nI 0), .ref k10, .int (nI aw), .ref k12, .ref k13, .ref k14, .ref k15, .ref k16, .int (nI ls), .int (nI ap), .int (bz bd), .int (nI sq), .ref k21, .ref k22, .ref k23, .ref k24, .ref k25, .int (bz pd), .int (nI (w + 1)), .int (nI 1), .ref q, .ref k30, .ref k31, .int (nI tz), .ref k33, .int (nI rs), .int sd])), (k1, .inl (cI, 7, .inl (nIf ki))), (k2, .inl (cI, 7, .inl (nIf op))), (k3, .inl (cI, 7, .inl (nIf (shF sh)))), (k4, .inl (cI, 7, .inl (nIf fa))), (k6, .inl (cI, 6, .inl (nIf K))), (k7, .inl (cI, 6, .inl (nIf G))), (k8, .inl (cI, 6, .inl (nIf T))), (q, .inl (cI, 48, .inl (nIf (un F w (ki p)))))]
      refine v_iasn (ws2 := [(r0, .inr (5, [.int (nI n), .ref k1, .ref k2, .ref k3, .ref k4, .int (nI m), .ref k6, .ref k7, .ref k8, .int (nI 0), .ref k10, .int (nI aw), .ref k12, .ref k13, .ref k14, .ref k15, .ref k16, .int (nI ls), .int (nI ap), .int (bz bd), .int (nI sq), .ref k21, .ref k22, .ref k23, .ref k24, .ref k25, .int (bz pd), .int (nI (w + 1)), .int (nI 1), .ref q, .ref k30, .ref k31, .int (nI tz), .ref k33, .int (nI rs), .int sd])), (k1, .inl (cI, 7, .inl (nIf (un ki p (ki p))))), (k2, .inl (cI, 7, .inl (nIf op))), (k3, .inl (cI, 7, .inl (nIf (shF sh)))), (k4, .inl (cI, 7, .inl (nIf fa))), (k6, .inl (cI, 6, .inl (nIf K))), (k7, .inl (cI, 6, .inl (nIf G))), (k8, .inl (cI, 6, .inl (nIf T))), (q, .inl (cI, 48, .inl (nIf (un F w (ki p)))))]) 63 1 zC dX5_carryAll_62 rfl (by omega) (by rw [upd_nIf]; first | done | rfl) ?_
      rw [un_id]
      refine v_al_n 64 zC dX5_carryAll_63 1 rfl ?_
      refine v_gf 67 0 zC dX5_carryAll_64 gf_X5_13 rfl rfl ?_
      refine v_il_n 68 zC dX5_carryAll_67 0 rfl ?_
      refine v_al_n 69 zC dX5_carryAll_68 1 rfl ?_
      refine v_al_n 70 zC dX5_carryAll_69 1 rfl ?_
      refine v_gf 73 0 zC dX5_carryAll_70 gf_X5_13 rfl rfl ?_
      refine v_il_n 74 zC dX5_carryAll_73 0 rfl ?_
      refine v_ialn (v := (nI (op p))) 75 2 zC dX5_carryAll_74 rfl (by omega) rfl ?_
      refine v_cV (As := [.int (nI (op p))]) (st := [.int (nI p), .ref k2]) 78 0 [0, 8] zC dX5_carryAll_75 hA (c_X5_carry__T (ev_l E) (ev_D E) cI (r0 := r0) (k1 := k1) (k2 := k2) (k3 := k3) (k4 := k4) (k6 := k6) (k7 := k7) (k8 := k8) (k10 := k10) (k12 := k12) (k13 := k13) (k14 := k14) (k15 := k15) (k16 := k16) (k21 := k21) (k22 := k22) (k23 := k23) (k24 := k24) (k25 := k25) (k30 := k30) (k31 := k31) (k33 := k33) (n := n) (m := m) (aw := aw) (ls := ls) (ap := ap) (sq := sq) (pl := (w + 1)) (tz := tz) (rs := rs) (bd := bd) (pd := pd) (sd := sd) (q := q) (En := (un F w (ki p))) (v := (op p)) (hp := (by first | omega | assumption | rfl | (simp only []; omega) | decide))) cf_X5_carry lk_X5_200 rfl rfl rfl rfl rfl (by decide +kernel) (Nat.le_of_ble_eq_true rfl) (fun rv_27 wv_28 hp_29 hm_30 => ?_)
      clear hm_30
      obtain ⟨rfl, rfl⟩ := hp_29
      show VV E 0 0 78 [(3, .int (nI p)), (0, .ref r0), (1, .ref q), (2, .int (nI 1))] [.int (nI (op p)), .int (nI p), .ref k2] [(r0, .inr (5, [.int (nI n), .ref k1, .ref k2, .ref k3, .ref k4, .int (nI m), .ref k6, .ref k7, .ref k8, .int (nI 0), .ref k10, .int (nI aw), .ref k12, .ref k13, .ref k14, .ref k15, .ref k16, .int (nI ls), .int (nI ap), .int (bz bd), .int (nI sq), .ref k21, .ref k22, .ref k23, .ref k24, .ref k25, .int (bz pd), .int (nI ((w + 1) + 1)), .int (nI 1), .ref q, .ref k30, .ref k31, .int (nI tz), .ref k33, .int (nI rs), .int sd])), (k1, .inl (cI, 7, .inl (nIf ki))), (k2, .inl (cI, 7, .inl (nIf op))), (k3, .inl (cI, 7, .inl (nIf (shF sh)))), (k4, .inl (cI, 7, .inl (nIf fa))), (k6, .inl (cI, 6, .inl (nIf K))), (k7, .inl (cI, 6, .inl (nIf G))), (k8, .inl (cI, 6, .inl (nIf T))), (q, .inl (cI, 48, .inl (nIf (un (un F w (ki p)) (w + 1) (op p)))))]
      refine v_iasn (ws2 := [(r0, .inr (5, [.int (nI n), .ref k1, .ref k2, .ref k3, .ref k4, .int (nI m), .ref k6, .ref k7, .ref k8, .int (nI 0), .ref k10, .int (nI aw), .ref k12, .ref k13, .ref k14, .ref k15, .ref k16, .int (nI ls), .int (nI ap), .int (bz bd), .int (nI sq), .ref k21, .ref k22, .ref k23, .ref k24, .ref k25, .int (bz pd), .int (nI ((w + 1) + 1)), .int (nI 1), .ref q, .ref k30, .ref k31, .int (nI tz), .ref k33, .int (nI rs), .int sd])), (k1, .inl (cI, 7, .inl (nIf ki))), (k2, .inl (cI, 7, .inl (nIf (un op p (op p))))), (k3, .inl (cI, 7, .inl (nIf (shF sh)))), (k4, .inl (cI, 7, .inl (nIf fa))), (k6, .inl (cI, 6, .inl (nIf K))), (k7, .inl (cI, 6, .inl (nIf G))), (k8, .inl (cI, 6, .inl (nIf T))), (q, .inl (cI, 48, .inl (nIf (un (un F w (ki p)) (w + 1) (op p)))))]) 79 2 zC dX5_carryAll_78 rfl (by omega) (by rw [upd_nIf]; first | done | rfl) ?_
      rw [un_id]
      refine v_al_n 80 zC dX5_carryAll_79 1 rfl ?_
      refine v_gf 83 0 zC dX5_carryAll_80 gf_X5_16 rfl rfl ?_
      refine v_il_n 84 zC dX5_carryAll_83 0 rfl ?_
      refine v_al_n 85 zC dX5_carryAll_84 1 rfl ?_
      refine v_al_n 86 zC dX5_carryAll_85 1 rfl ?_
      refine v_gf 89 0 zC dX5_carryAll_86 gf_X5_16 rfl rfl ?_
      refine v_il_n 90 zC dX5_carryAll_89 0 rfl ?_
      refine v_ialn (v := (nI ((shF sh) p))) 91 3 zC dX5_carryAll_90 rfl (by omega) rfl ?_
      refine v_cV (As := [.int (nI ((shF sh) p))]) (st := [.int (nI p), .ref k3]) 94 0 [0, 8] zC dX5_carryAll_91 hA (c_X5_carry__T (ev_l E) (ev_D E) cI (r0 := r0) (k1 := k1) (k2 := k2) (k3 := k3) (k4 := k4) (k6 := k6) (k7 := k7) (k8 := k8) (k10 := k10) (k12 := k12) (k13 := k13) (k14 := k14) (k15 := k15) (k16 := k16) (k21 := k21) (k22 := k22) (k23 := k23) (k24 := k24) (k25 := k25) (k30 := k30) (k31 := k31) (k33 := k33) (n := n) (m := m) (aw := aw) (ls := ls) (ap := ap) (sq := sq) (pl := ((w + 1) + 1)) (tz := tz) (rs := rs) (bd := bd) (pd := pd) (sd := sd) (q := q) (En := (un (un F w (ki p)) (w + 1) (op p))) (v := ((shF sh) p)) (hp := (by first | omega | assumption | rfl | (simp only []; omega) | decide))) cf_X5_carry lk_X5_200 rfl rfl rfl rfl rfl (by decide +kernel) (Nat.le_of_ble_eq_true rfl) (fun rv_31 wv_32 hp_33 hm_34 => ?_)
      clear hm_34
      obtain ⟨rfl, rfl⟩ := hp_33
      show VV E 0 0 94 [(3, .int (nI p)), (0, .ref r0), (1, .ref q), (2, .int (nI 1))] [.int (nI ((shF sh) p)), .int (nI p), .ref k3] [(r0, .inr (5, [.int (nI n), .ref k1, .ref k2, .ref k3, .ref k4, .int (nI m), .ref k6, .ref k7, .ref k8, .int (nI 0), .ref k10, .int (nI aw), .ref k12, .ref k13, .ref k14, .ref k15, .ref k16, .int (nI ls), .int (nI ap), .int (bz bd), .int (nI sq), .ref k21, .ref k22, .ref k23, .ref k24, .ref k25, .int (bz pd), .int (nI (((w + 1) + 1) + 1)), .int (nI 1), .ref q, .ref k30, .ref k31, .int (nI tz), .ref k33, .int (nI rs), .int sd])), (k1, .inl (cI, 7, .inl (nIf ki))), (k2, .inl (cI, 7, .inl (nIf op))), (k3, .inl (cI, 7, .inl (nIf (shF sh)))), (k4, .inl (cI, 7, .inl (nIf fa))), (k6, .inl (cI, 6, .inl (nIf K))), (k7, .inl (cI, 6, .inl (nIf G))), (k8, .inl (cI, 6, .inl (nIf T))), (q, .inl (cI, 48, .inl (nIf (un (un (un F w (ki p)) (w + 1) (op p)) ((w + 1) + 1) ((shF sh) p)))))]
      refine v_iasn (ws2 := [(r0, .inr (5, [.int (nI n), .ref k1, .ref k2, .ref k3, .ref k4, .int (nI m), .ref k6, .ref k7, .ref k8, .int (nI 0), .ref k10, .int (nI aw), .ref k12, .ref k13, .ref k14, .ref k15, .ref k16, .int (nI ls), .int (nI ap), .int (bz bd), .int (nI sq), .ref k21, .ref k22, .ref k23, .ref k24, .ref k25, .int (bz pd), .int (nI (((w + 1) + 1) + 1)), .int (nI 1), .ref q, .ref k30, .ref k31, .int (nI tz), .ref k33, .int (nI rs), .int sd])), (k1, .inl (cI, 7, .inl (nIf ki))), (k2, .inl (cI, 7, .inl (nIf op))), (k3, .inl (cI, 7, .inl (nIf (un (shF sh) p ((shF sh) p))))), (k4, .inl (cI, 7, .inl (nIf fa))), (k6, .inl (cI, 6, .inl (nIf K))), (k7, .inl (cI, 6, .inl (nIf G))), (k8, .inl (cI, 6, .inl (nIf T))), (q, .inl (cI, 48, .inl (nIf (un (un (un F w (ki p)) (w + 1) (op p)) ((w + 1) + 1) ((shF sh) p)))))]) 95 3 zC dX5_carryAll_94 rfl (by omega) (by rw [upd_nIf]; first | done | rfl) ?_
      rw [un_id]
      refine v_al_n 96 zC dX5_carryAll_95 1 rfl ?_
      refine v_gf 99 0 zC dX5_carryAll_96 gf_X5_19 rfl rfl ?_
      refine v_il_n 100 zC dX5_carryAll_99 0 rfl ?_
      refine v_al_n 101 zC dX5_carryAll_100 1 rfl ?_
      refine v_al_n 102 zC dX5_carryAll_101 1 rfl ?_
      refine v_gf 105 0 zC dX5_carryAll_102 gf_X5_19 rfl rfl ?_
      refine v_il_n 106 zC dX5_carryAll_105 0 rfl ?_
      refine v_ialn (v := (nI (fa p))) 107 4 zC dX5_carryAll_106 rfl (by omega) rfl ?_
      refine v_cV (As := [.int (nI (fa p))]) (st := [.int (nI p), .ref k4]) 110 0 [0, 8] zC dX5_carryAll_107 hA (c_X5_carry__T (ev_l E) (ev_D E) cI (r0 := r0) (k1 := k1) (k2 := k2) (k3 := k3) (k4 := k4) (k6 := k6) (k7 := k7) (k8 := k8) (k10 := k10) (k12 := k12) (k13 := k13) (k14 := k14) (k15 := k15) (k16 := k16) (k21 := k21) (k22 := k22) (k23 := k23) (k24 := k24) (k25 := k25) (k30 := k30) (k31 := k31) (k33 := k33) (n := n) (m := m) (aw := aw) (ls := ls) (ap := ap) (sq := sq) (pl := (((w + 1) + 1) + 1)) (tz := tz) (rs := rs) (bd := bd) (pd := pd) (sd := sd) (q := q) (En := (un (un (un F w (ki p)) (w + 1) (op p)) ((w + 1) + 1) ((shF sh) p))) (v := (fa p)) (hp := (by first | omega | assumption | rfl | (simp only []; omega) | decide))) cf_X5_carry lk_X5_200 rfl rfl rfl rfl rfl (by decide +kernel) (Nat.le_of_ble_eq_true rfl) (fun rv_35 wv_36 hp_37 hm_38 => ?_)
      clear hm_38
      obtain ⟨rfl, rfl⟩ := hp_37
      show VV E 0 0 110 [(3, .int (nI p)), (0, .ref r0), (1, .ref q), (2, .int (nI 1))] [.int (nI (fa p)), .int (nI p), .ref k4] [(r0, .inr (5, [.int (nI n), .ref k1, .ref k2, .ref k3, .ref k4, .int (nI m), .ref k6, .ref k7, .ref k8, .int (nI 0), .ref k10, .int (nI aw), .ref k12, .ref k13, .ref k14, .ref k15, .ref k16, .int (nI ls), .int (nI ap), .int (bz bd), .int (nI sq), .ref k21, .ref k22, .ref k23, .ref k24, .ref k25, .int (bz pd), .int (nI ((((w + 1) + 1) + 1) + 1)), .int (nI 1), .ref q, .ref k30, .ref k31, .int (nI tz), .ref k33, .int (nI rs), .int sd])), (k1, .inl (cI, 7, .inl (nIf ki))), (k2, .inl (cI, 7, .inl (nIf op))), (k3, .inl (cI, 7, .inl (nIf (shF sh)))), (k4, .inl (cI, 7, .inl (nIf fa))), (k6, .inl (cI, 6, .inl (nIf K))), (k7, .inl (cI, 6, .inl (nIf G))), (k8, .inl (cI, 6, .inl (nIf T))), (q, .inl (cI, 48, .inl (nIf (un (un (un (un F w (ki p)) (w + 1) (op p)) ((w + 1) + 1) ((shF sh) p)) (((w + 1) + 1) + 1) (fa p)))))]
      refine v_iasn (ws2 := [(r0, .inr (5, [.int (nI n), .ref k1, .ref k2, .ref k3, .ref k4, .int (nI m), .ref k6, .ref k7, .ref k8, .int (nI 0), .ref k10, .int (nI aw), .ref k12, .ref k13, .ref k14, .ref k15, .ref k16, .int (nI ls), .int (nI ap), .int (bz bd), .int (nI sq), .ref k21, .ref k22, .ref k23, .ref k24, .ref k25, .int (bz pd), .int (nI ((((w + 1) + 1) + 1) + 1)), .int (nI 1), .ref q, .ref k30, .ref k31, .int (nI tz), .ref k33, .int (nI rs), .int sd])), (k1, .inl (cI, 7, .inl (nIf ki))), (k2, .inl (cI, 7, .inl (nIf op))), (k3, .inl (cI, 7, .inl (nIf (shF sh)))), (k4, .inl (cI, 7, .inl (nIf (un fa p (fa p))))), (k6, .inl (cI, 6, .inl (nIf K))), (k7, .inl (cI, 6, .inl (nIf G))), (k8, .inl (cI, 6, .inl (nIf T))), (q, .inl (cI, 48, .inl (nIf (un (un (un (un F w (ki p)) (w + 1) (op p)) ((w + 1) + 1) ((shF sh) p)) (((w + 1) + 1) + 1) (fa p)))))]) 111 4 zC dX5_carryAll_110 rfl (by omega) (by rw [upd_nIf]; first | done | rfl) ?_
      rw [un_id]
      refine v_inc (v := (nI (p + 1))) (lv2 := [(3, .int (nI (p + 1))), (0, .ref r0), (1, .ref q), (2, .int (nI 1))]) 114 zC dX5_carryAll_111 (j := 0) rfl (nI_add _ 1) (by rw [hnE]; decide) rfl ?_
      refine v_goto 41 zC dX5_carryAll_114 ?_
      refine v_lvs (lv2 := [(3, .int (nI (p + 1))), (0, .ref r0), (1, .ref q), (2, .int (nI 1))]) [0, 1, 2, 3] rfl ?_
      exact ih41 _ (by omega) (un (un (un (un F w (ki p)) (w + 1) (op p)) ((w + 1) + 1) ((shF sh) p)) (((w + 1) + 1) + 1) (fa p)) ((((w + 1) + 1) + 1) + 1) (p + 1) (enc_ps (s := (n, m, sh, aw, ki, op, fa, K, G, T)) (by omega) hw hF) (by first | omega | assumption | rfl | (simp only []; omega) | decide) (by first | omega | assumption | rfl | (simp only []; omega) | decide) rfl
  refine v_lvs (lv2 := [(3, .int (nI 0)), (0, .ref r0), (1, .ref q), (2, .int (nI 1))]) [0, 1, 2, 3] rfl ?_
  exact lp41 _ (un (un En 0 n) (0 + 1) m) ((0 + 1) + 1) 0 (enc_2s (s := (n, m, sh, aw, ki, op, fa, K, G, T))) (by first | omega | assumption | rfl | (simp only []; omega) | decide) (by first | omega | assumption | rfl | (simp only []; omega) | decide) rfl
set_option maxRecDepth 100000 in
set_option maxHeartbeats 4000000 in
theorem c_X5_carryAll__F (l : Launch) (D : va_G) (cI : ClassId) (r0 k1 k2 k3 k4 k6 k7 k8 k10 k12 k13 k14 k15 k16 k21 k22 k23 k24 k25 k30 k31 k33 : Nat) (n m aw ls ap sq pl tz rs : Nat) (bd pd tk : Bool) (kv : Value) (sd : Int32) (ki op fa K G T : Nat → Nat) (sh : Nat) (q : Nat) (En : Nat → Nat) (n1 m1 sh1 aw1 : Nat) (ki1 op1 fa1 K1 G1 T1 : Nat → Nat) (hw : FW n m sh ki op fa K G T) (hw1 : FW n1 m1 sh1 ki1 op1 fa1 K1 G1 T1) (hE : ∀ z, z < 48 → En z = ENC (n1, m1, sh1, aw1, ki1, op1, fa1, K1, G1, T1) z) : CT l yX5_carryAll cX5_carryAll 4 none { frames := 1, cells := 0, slots := 0, locals := 21 } D cI [.ref r0, .ref q, .int (nI 0)] [(r0, .inr (5, [.int (nI n), .ref k1, .ref k2, .ref k3, .ref k4, .int (nI m), .ref k6, .ref k7, .ref k8, .int (nI 0), .ref k10, .int (nI aw), .ref k12, .ref k13, .ref k14, .ref k15, .ref k16, .int (nI ls), .int (nI ap), .int (bz bd), .int (nI sq), .ref k21, .ref k22, .ref k23, .ref k24, .ref k25, .int (bz pd), .int (nI pl), .int (bz tk), kv, .ref k30, .ref k31, .int (nI tz), .ref k33, .int (nI rs), .int sd])), (k1, .inl (cI, 7, .inl (nIf ki))), (k2, .inl (cI, 7, .inl (nIf op))), (k3, .inl (cI, 7, .inl (nIf (shF sh)))), (k4, .inl (cI, 7, .inl (nIf fa))), (k6, .inl (cI, 6, .inl (nIf K))), (k7, .inl (cI, 6, .inl (nIf G))), (k8, .inl (cI, 6, .inl (nIf T))), (q, .inl (cI, 48, .inl (nIf En)))] (fun zr zw => (zr = none ∧ zw = [(r0, .inr (5, [.int (nI n1), .ref k1, .ref k2, .ref k3, .ref k4, .int (nI m1), .ref k6, .ref k7, .ref k8, .int (nI 0), .ref k10, .int (nI aw), .ref k12, .ref k13, .ref k14, .ref k15, .ref k16, .int (nI ls), .int (nI ap), .int (bz bd), .int (nI sq), .ref k21, .ref k22, .ref k23, .ref k24, .ref k25, .int (bz pd), .int (nI 48), .int (nI 0), .ref q, .ref k30, .ref k31, .int (nI tz), .ref k33, .int (nI rs), .int sd])), (k1, .inl (cI, 7, .inl (nIf ki1))), (k2, .inl (cI, 7, .inl (nIf op1))), (k3, .inl (cI, 7, .inl (nIf (shF sh1)))), (k4, .inl (cI, 7, .inl (nIf fa1))), (k6, .inl (cI, 6, .inl (nIf K1))), (k7, .inl (cI, 6, .inl (nIf G1))), (k8, .inl (cI, 6, .inl (nIf T1))), (q, .inl (cI, 48, .inl (nIf En)))])) := by
  refine CT_of RX5 rfl (by decide +kernel) (Nat.le_of_ble_eq_true rfl) (fun E hnE zC zT => ?_)
  have hA : ∀ q, (ev_s E).heap.size ≤ q → ev_A E q := fun q h => by rw [zT.2]; exact Or.inr h
  obtain ⟨hn, hm, hsh, hki, hop, hfa, hK, hG, hT, vki, vop, vfa, vK, vG, vT⟩ := id hw
  obtain ⟨hn1, hm1, hsh1, hki1, hop1, hfa1, hK1, hG1, hT1, vki1, vop1, vfa1, vK1, vG1, vT1⟩ := id hw1
  show VV E 0 0 0 [(0, .ref r0), (1, .ref q), (2, .int (nI 0))] [] [(r0, .inr (5, [.int (nI n), .ref k1, .ref k2, .ref k3, .ref k4, .int (nI m), .ref k6, .ref k7, .ref k8, .int (nI 0), .ref k10, .int (nI aw), .ref k12, .ref k13, .ref k14, .ref k15, .ref k16, .int (nI ls), .int (nI ap), .int (bz bd), .int (nI sq), .ref k21, .ref k22, .ref k23, .ref k24, .ref k25, .int (bz pd), .int (nI pl), .int (bz tk), kv, .ref k30, .ref k31, .int (nI tz), .ref k33, .int (nI rs), .int sd])), (k1, .inl (cI, 7, .inl (nIf ki))), (k2, .inl (cI, 7, .inl (nIf op))), (k3, .inl (cI, 7, .inl (nIf (shF sh)))), (k4, .inl (cI, 7, .inl (nIf fa))), (k6, .inl (cI, 6, .inl (nIf K))), (k7, .inl (cI, 6, .inl (nIf G))), (k8, .inl (cI, 6, .inl (nIf T))), (q, .inl (cI, 48, .inl (nIf En)))]
  refine v_al_n 1 zC dX5_carryAll_0 0 rfl ?_
  refine v_al_n 2 zC dX5_carryAll_1 1 rfl ?_
  refine v_pf (ws2 := [(r0, .inr (5, [.int (nI n), .ref k1, .ref k2, .ref k3, .ref k4, .int (nI m), .ref k6, .ref k7, .ref k8, .int (nI 0), .ref k10, .int (nI aw), .ref k12, .ref k13, .ref k14, .ref k15, .ref k16, .int (nI ls), .int (nI ap), .int (bz bd), .int (nI sq), .ref k21, .ref k22, .ref k23, .ref k24, .ref k25, .int (bz pd), .int (nI pl), .int (bz tk), .ref q, .ref k30, .ref k31, .int (nI tz), .ref k33, .int (nI rs), .int sd])), (k1, .inl (cI, 7, .inl (nIf ki))), (k2, .inl (cI, 7, .inl (nIf op))), (k3, .inl (cI, 7, .inl (nIf (shF sh)))), (k4, .inl (cI, 7, .inl (nIf fa))), (k6, .inl (cI, 6, .inl (nIf K))), (k7, .inl (cI, 6, .inl (nIf G))), (k8, .inl (cI, 6, .inl (nIf T))), (q, .inl (cI, 48, .inl (nIf En)))]) 5 0 zC dX5_carryAll_2 pf_X5_194 rfl (Nat.le_of_ble_eq_true rfl) rfl rfl rfl ?_
  refine v_al_n 6 zC dX5_carryAll_5 0 rfl ?_
  refine v_il_n 7 zC dX5_carryAll_6 2 rfl ?_
  refine v_pf (ws2 := [(r0, .inr (5, [.int (nI n), .ref k1, .ref k2, .ref k3, .ref k4, .int (nI m), .ref k6, .ref k7, .ref k8, .int (nI 0), .ref k10, .int (nI aw), .ref k12, .ref k13, .ref k14, .ref k15, .ref k16, .int (nI ls), .int (nI ap), .int (bz bd), .int (nI sq), .ref k21, .ref k22, .ref k23, .ref k24, .ref k25, .int (bz pd), .int (nI pl), .int (nI 0), .ref q, .ref k30, .ref k31, .int (nI tz), .ref k33, .int (nI rs), .int sd])), (k1, .inl (cI, 7, .inl (nIf ki))), (k2, .inl (cI, 7, .inl (nIf op))), (k3, .inl (cI, 7, .inl (nIf (shF sh)))), (k4, .inl (cI, 7, .inl (nIf fa))), (k6, .inl (cI, 6, .inl (nIf K))), (k7, .inl (cI, 6, .inl (nIf G))), (k8, .inl (cI, 6, .inl (nIf T))), (q, .inl (cI, 48, .inl (nIf En)))]) 10 0 zC dX5_carryAll_7 pf_X5_191 rfl (Nat.le_of_ble_eq_true rfl) (by decide +kernel) (by decide +kernel) rfl ?_
  refine v_al_n 11 zC dX5_carryAll_10 0 rfl ?_
  refine v_ic (v := (nI 0)) 12 zC dX5_carryAll_11 (by decide +kernel) ?_
  refine v_pf (ws2 := [(r0, .inr (5, [.int (nI n), .ref k1, .ref k2, .ref k3, .ref k4, .int (nI m), .ref k6, .ref k7, .ref k8, .int (nI 0), .ref k10, .int (nI aw), .ref k12, .ref k13, .ref k14, .ref k15, .ref k16, .int (nI ls), .int (nI ap), .int (bz bd), .int (nI sq), .ref k21, .ref k22, .ref k23, .ref k24, .ref k25, .int (bz pd), .int (nI 0), .int (nI 0), .ref q, .ref k30, .ref k31, .int (nI tz), .ref k33, .int (nI rs), .int sd])), (k1, .inl (cI, 7, .inl (nIf ki))), (k2, .inl (cI, 7, .inl (nIf op))), (k3, .inl (cI, 7, .inl (nIf (shF sh)))), (k4, .inl (cI, 7, .inl (nIf fa))), (k6, .inl (cI, 6, .inl (nIf K))), (k7, .inl (cI, 6, .inl (nIf G))), (k8, .inl (cI, 6, .inl (nIf T))), (q, .inl (cI, 48, .inl (nIf En)))]) 15 0 zC dX5_carryAll_12 pf_X5_197 rfl (Nat.le_of_ble_eq_true rfl) rfl rfl rfl ?_
  refine v_al_n 16 zC dX5_carryAll_15 0 rfl ?_
  refine v_al_n 17 zC dX5_carryAll_16 0 rfl ?_
  refine v_al_n 18 zC dX5_carryAll_17 0 rfl ?_
  refine v_gf 21 0 zC dX5_carryAll_18 gf_X5_77 rfl rfl ?_
  refine v_cV (As := [.int (nI n)]) (st := [.ref r0]) 24 0 [0, 8] zC dX5_carryAll_21 hA (c_X5_carry__F (ev_l E) (ev_D E) cI (r0 := r0) (k1 := k1) (k2 := k2) (k3 := k3) (k4 := k4) (k6 := k6) (k7 := k7) (k8 := k8) (k10 := k10) (k12 := k12) (k13 := k13) (k14 := k14) (k15 := k15) (k16 := k16) (k21 := k21) (k22 := k22) (k23 := k23) (k24 := k24) (k25 := k25) (k30 := k30) (k31 := k31) (k33 := k33) (n := n) (m := m) (aw := aw) (ls := ls) (ap := ap) (sq := sq) (pl := 0) (tz := tz) (rs := rs) (bd := bd) (pd := pd) (sd := sd) (q := q) (En := En) (v := n) (hp := (by first | omega | assumption | rfl | (simp only []; omega) | decide))) cf_X5_carry lk_X5_200 rfl rfl rfl rfl rfl (by decide +kernel) (Nat.le_of_ble_eq_true rfl) (fun rv_1 wv_2 hp_3 hm_4 => ?_)
  clear hm_4
  obtain ⟨rfl, rfl⟩ := hp_3
  show VV E 0 0 24 [(0, .ref r0), (1, .ref q), (2, .int (nI 0))] [.int (nI (En 0)), .ref r0] [(r0, .inr (5, [.int (nI n), .ref k1, .ref k2, .ref k3, .ref k4, .int (nI m), .ref k6, .ref k7, .ref k8, .int (nI 0), .ref k10, .int (nI aw), .ref k12, .ref k13, .ref k14, .ref k15, .ref k16, .int (nI ls), .int (nI ap), .int (bz bd), .int (nI sq), .ref k21, .ref k22, .ref k23, .ref k24, .ref k25, .int (bz pd), .int (nI (0 + 1)), .int (nI 0), .ref q, .ref k30, .ref k31, .int (nI tz), .ref k33, .int (nI rs), .int sd])), (k1, .inl (cI, 7, .inl (nIf ki))), (k2, .inl (cI, 7, .inl (nIf op))), (k3, .inl (cI, 7, .inl (nIf (shF sh)))), (k4, .inl (cI, 7, .inl (nIf fa))), (k6, .inl (cI, 6, .inl (nIf K))), (k7, .inl (cI, 6, .inl (nIf G))), (k8, .inl (cI, 6, .inl (nIf T))), (q, .inl (cI, 48, .inl (nIf En)))]
  rw [show (En 0) = n1 from (hE _ (by omega)).trans enc_0]
  refine v_pf (ws2 := [(r0, .inr (5, [.int (nI n1), .ref k1, .ref k2, .ref k3, .ref k4, .int (nI m), .ref k6, .ref k7, .ref k8, .int (nI 0), .ref k10, .int (nI aw), .ref k12, .ref k13, .ref k14, .ref k15, .ref k16, .int (nI ls), .int (nI ap), .int (bz bd), .int (nI sq), .ref k21, .ref k22, .ref k23, .ref k24, .ref k25, .int (bz pd), .int (nI (0 + 1)), .int (nI 0), .ref q, .ref k30, .ref k31, .int (nI tz), .ref k33, .int (nI rs), .int sd])), (k1, .inl (cI, 7, .inl (nIf ki))), (k2, .inl (cI, 7, .inl (nIf op))), (k3, .inl (cI, 7, .inl (nIf (shF sh)))), (k4, .inl (cI, 7, .inl (nIf fa))), (k6, .inl (cI, 6, .inl (nIf K))), (k7, .inl (cI, 6, .inl (nIf G))), (k8, .inl (cI, 6, .inl (nIf T))), (q, .inl (cI, 48, .inl (nIf En)))]) 27 0 zC dX5_carryAll_24 pf_X5_77 rfl (Nat.le_of_ble_eq_true rfl) rfl rfl rfl ?_
  refine v_al_n 28 zC dX5_carryAll_27 0 rfl ?_
  refine v_al_n 29 zC dX5_carryAll_28 0 rfl ?_
  refine v_al_n 30 zC dX5_carryAll_29 0 rfl ?_
  refine v_gf 33 0 zC dX5_carryAll_30 gf_X5_84 rfl rfl ?_
  refine v_cV (As := [.int (nI m)]) (st := [.ref r0]) 36 0 [0, 8] zC dX5_carryAll_33 hA (c_X5_carry__F (ev_l E) (ev_D E) cI (r0 := r0) (k1 := k1) (k2 := k2) (k3 := k3) (k4 := k4) (k6 := k6) (k7 := k7) (k8 := k8) (k10 := k10) (k12 := k12) (k13 := k13) (k14 := k14) (k15 := k15) (k16 := k16) (k21 := k21) (k22 := k22) (k23 := k23) (k24 := k24) (k25 := k25) (k30 := k30) (k31 := k31) (k33 := k33) (n := n1) (m := m) (aw := aw) (ls := ls) (ap := ap) (sq := sq) (pl := (0 + 1)) (tz := tz) (rs := rs) (bd := bd) (pd := pd) (sd := sd) (q := q) (En := En) (v := m) (hp := (by first | omega | assumption | rfl | (simp only []; omega) | decide))) cf_X5_carry lk_X5_200 rfl rfl rfl rfl rfl (by decide +kernel) (Nat.le_of_ble_eq_true rfl) (fun rv_5 wv_6 hp_7 hm_8 => ?_)
  clear hm_8
  obtain ⟨rfl, rfl⟩ := hp_7
  show VV E 0 0 36 [(0, .ref r0), (1, .ref q), (2, .int (nI 0))] [.int (nI (En (0 + 1))), .ref r0] [(r0, .inr (5, [.int (nI n1), .ref k1, .ref k2, .ref k3, .ref k4, .int (nI m), .ref k6, .ref k7, .ref k8, .int (nI 0), .ref k10, .int (nI aw), .ref k12, .ref k13, .ref k14, .ref k15, .ref k16, .int (nI ls), .int (nI ap), .int (bz bd), .int (nI sq), .ref k21, .ref k22, .ref k23, .ref k24, .ref k25, .int (bz pd), .int (nI ((0 + 1) + 1)), .int (nI 0), .ref q, .ref k30, .ref k31, .int (nI tz), .ref k33, .int (nI rs), .int sd])), (k1, .inl (cI, 7, .inl (nIf ki))), (k2, .inl (cI, 7, .inl (nIf op))), (k3, .inl (cI, 7, .inl (nIf (shF sh)))), (k4, .inl (cI, 7, .inl (nIf fa))), (k6, .inl (cI, 6, .inl (nIf K))), (k7, .inl (cI, 6, .inl (nIf G))), (k8, .inl (cI, 6, .inl (nIf T))), (q, .inl (cI, 48, .inl (nIf En)))]
  rw [show (En (0 + 1)) = m1 from (hE _ (by omega)).trans enc_1]
  refine v_pf (ws2 := [(r0, .inr (5, [.int (nI n1), .ref k1, .ref k2, .ref k3, .ref k4, .int (nI m1), .ref k6, .ref k7, .ref k8, .int (nI 0), .ref k10, .int (nI aw), .ref k12, .ref k13, .ref k14, .ref k15, .ref k16, .int (nI ls), .int (nI ap), .int (bz bd), .int (nI sq), .ref k21, .ref k22, .ref k23, .ref k24, .ref k25, .int (bz pd), .int (nI ((0 + 1) + 1)), .int (nI 0), .ref q, .ref k30, .ref k31, .int (nI tz), .ref k33, .int (nI rs), .int sd])), (k1, .inl (cI, 7, .inl (nIf ki))), (k2, .inl (cI, 7, .inl (nIf op))), (k3, .inl (cI, 7, .inl (nIf (shF sh)))), (k4, .inl (cI, 7, .inl (nIf fa))), (k6, .inl (cI, 6, .inl (nIf K))), (k7, .inl (cI, 6, .inl (nIf G))), (k8, .inl (cI, 6, .inl (nIf T))), (q, .inl (cI, 48, .inl (nIf En)))]) 39 0 zC dX5_carryAll_36 pf_X5_84 rfl (Nat.le_of_ble_eq_true rfl) rfl rfl rfl ?_
  refine v_ic (v := (nI 0)) 40 zC dX5_carryAll_39 (by decide +kernel) ?_
  refine v_is_n (lv2 := [(3, .int (nI 0)), (0, .ref r0), (1, .ref q), (2, .int (nI 0))]) 41 zC dX5_carryAll_40 (by rw [hnE]; decide) rfl ?_
  have lp41 : ∀ (mz : Nat) (A1 : Nat → Nat) (A2 : Nat → Nat) (A3 : Nat → Nat) (A4 : Nat → Nat) (w : Nat) (p : Nat), (∀ z, A1 z = if z < p then ki1 z else ki z) → (∀ z, A2 z = if z < p then op1 z else op z) → (∀ z, A3 z = if z < p then shF sh1 z else shF sh z) → (∀ z, A4 z = if z < p then fa1 z else fa z) → (w = 2 + 4 * p) → (p ≤ 7) → 7 - p = mz → VV E 0 0 41 [(3, .int (nI p)), (0, .ref r0), (1, .ref q), (2, .int (nI 0))] [] [(r0, .inr (5, [.int (nI n1), .ref k1, .ref k2, .ref k3, .ref k4, .int (nI m1), .ref k6, .ref k7, .ref k8, .int (nI 0), .ref k10, .int (nI aw), .ref k12, .ref k13, .ref k14, .ref k15, .ref k16, .int (nI ls), .int (nI ap), .int (bz bd), .int (nI sq), .ref k21, .ref k22, .ref k23, .ref k24, .ref k25, .int (bz pd), .int (nI w), .int (nI 0), .ref q, .ref k30, .ref k31, .int (nI tz), .ref k33, .int (nI rs), .int sd])), (k1, .inl (cI, 7, .inl (nIf A1))), (k2, .inl (cI, 7, .inl (nIf A2))), (k3, .inl (cI, 7, .inl (nIf A3))), (k4, .inl (cI, 7, .inl (nIf A4))), (k6, .inl (cI, 6, .inl (nIf K))), (k7, .inl (cI, 6, .inl (nIf G))), (k8, .inl (cI, 6, .inl (nIf T))), (q, .inl (cI, 48, .inl (nIf En)))] := by
    intro mz
    induction mz using Nat.strongRecOn with
    | _ mz ih41 =>
    intro A1 A2 A3 A4 w p h1 h2 h3 h4 hwp hp hm41
    refine v_il_n 42 zC dX5_carryAll_41 0 rfl ?_
    refine v_bp (v := (nI 7)) 44 zC dX5_carryAll_42 (by decide +kernel) ?_
    refine v_icmpn_ge 117 47 zC dX5_carryAll_44 (fun h_9 => ?_) (fun h_9 => ?_)
    ·
      have e9 : p = 7 := by omega
      subst e9
      have e1 : ki1 = A1 := (car_v h1 vki1 vki).symm
      subst e1
      have e2 : op1 = A2 := (car_v h2 vop1 vop).symm
      subst e2
      have e4 : fa1 = A4 := (car_v h4 vfa1 vfa).symm
      subst e4
      have e3 : A3 = shF sh1 := car_v h3 (shf_v hsh1 hn1) (shf_v hsh hn)
      subst e3
      refine v_ic (v := (nI 0)) 118 zC dX5_carryAll_117 (by decide +kernel) ?_
      refine v_is_n (lv2 := [(3, .int (nI 0)), (0, .ref r0), (1, .ref q), (2, .int (nI 0))]) 119 zC dX5_carryAll_118 (by rw [hnE]; decide) rfl ?_
      have lp119 : ∀ (mz : Nat) (B1 : Nat → Nat) (B2 : Nat → Nat) (B3 : Nat → Nat) (w : Nat) (d : Nat), (∀ z, B1 z = if z < d then K1 z else K z) → (∀ z, B2 z = if z < d then G1 z else G z) → (∀ z, B3 z = if z < d then T1 z else T z) → (w = 30 + 3 * d) → (d ≤ 6) → 6 - d = mz → VV E 0 0 119 [(3, .int (nI d)), (0, .ref r0), (1, .ref q), (2, .int (nI 0))] [] [(r0, .inr (5, [.int (nI n1), .ref k1, .ref k2, .ref k3, .ref k4, .int (nI m1), .ref k6, .ref k7, .ref k8, .int (nI 0), .ref k10, .int (nI aw), .ref k12, .ref k13, .ref k14, .ref k15, .ref k16, .int (nI ls), .int (nI ap), .int (bz bd), .int (nI sq), .ref k21, .ref k22, .ref k23, .ref k24, .ref k25, .int (bz pd), .int (nI w), .int (nI 0), .ref q, .ref k30, .ref k31, .int (nI tz), .ref k33, .int (nI rs), .int sd])), (k1, .inl (cI, 7, .inl (nIf ki1))), (k2, .inl (cI, 7, .inl (nIf op1))), (k3, .inl (cI, 7, .inl (nIf (shF sh1)))), (k4, .inl (cI, 7, .inl (nIf fa1))), (k6, .inl (cI, 6, .inl (nIf B1))), (k7, .inl (cI, 6, .inl (nIf B2))), (k8, .inl (cI, 6, .inl (nIf B3))), (q, .inl (cI, 48, .inl (nIf En)))] := by
        intro mz
        induction mz using Nat.strongRecOn with
        | _ mz ih119 =>
        intro B1 B2 B3 w d h1 h2 h3 hwp hd hm119
        refine v_il_n 120 zC dX5_carryAll_119 0 rfl ?_
        refine v_bp (v := (nI 6)) 122 zC dX5_carryAll_120 (by decide +kernel) ?_
        refine v_icmpn_ge 179 125 zC dX5_carryAll_122 (fun h_10 => ?_) (fun h_10 => ?_)
        ·
          have e9 : d = 6 := by omega
          subst e9
          have e1 : K1 = B1 := (car_v h1 vK1 vK).symm
          subst e1
          have e2 : G1 = B2 := (car_v h2 vG1 vG).symm
          subst e2
          have e3 : T1 = B3 := (car_v h3 vT1 vT).symm
          subst e3
          have e8 : w = 48 := by omega
          subst e8
          refine v_vret zC zT dX5_carryAll_179  ?_
          exact ⟨rfl, rfl⟩
        ·
          refine v_al_n 126 zC dX5_carryAll_125 1 rfl ?_
          refine v_gf 129 0 zC dX5_carryAll_126 gf_X5_22 rfl rfl ?_
          refine v_il_n 130 zC dX5_carryAll_129 0 rfl ?_
          refine v_al_n 131 zC dX5_carryAll_130 1 rfl ?_
          refine v_al_n 132 zC dX5_carryAll_131 1 rfl ?_
          refine v_gf 135 0 zC dX5_carryAll_132 gf_X5_22 rfl rfl ?_
          refine v_il_n 136 zC dX5_carryAll_135 0 rfl ?_
          refine v_ialn (v := (nI (B1 d))) 137 5 zC dX5_carryAll_136 rfl (by omega) rfl ?_
          refine v_cV (As := [.int (nI (B1 d))]) (st := [.int (nI d), .ref k6]) 140 0 [0, 8] zC dX5_carryAll_137 hA (c_X5_carry__F (ev_l E) (ev_D E) cI (r0 := r0) (k1 := k1) (k2 := k2) (k3 := k3) (k4 := k4) (k6 := k6) (k7 := k7) (k8 := k8) (k10 := k10) (k12 := k12) (k13 := k13) (k14 := k14) (k15 := k15) (k16 := k16) (k21 := k21) (k22 := k22) (k23 := k23) (k24 := k24) (k25 := k25) (k30 := k30) (k31 := k31) (k33 := k33) (n := n1) (m := m1) (aw := aw) (ls := ls) (ap := ap) (sq := sq) (pl := w) (tz := tz) (rs := rs) (bd := bd) (pd := pd) (sd := sd) (q := q) (En := En) (v := (B1 d)) (hp := (by first | omega | assumption | rfl | (simp only []; omega) | decide))) cf_X5_carry lk_X5_200 rfl rfl rfl rfl rfl (by decide +kernel) (Nat.le_of_ble_eq_true rfl) (fun rv_11 wv_12 hp_13 hm_14 => ?_)
          clear hm_14
          obtain ⟨rfl, rfl⟩ := hp_13
          show VV E 0 0 140 [(3, .int (nI d)), (0, .ref r0), (1, .ref q), (2, .int (nI 0))] [.int (nI (En w)), .int (nI d), .ref k6] [(r0, .inr (5, [.int (nI n1), .ref k1, .ref k2, .ref k3, .ref k4, .int (nI m1), .ref k6, .ref k7, .ref k8, .int (nI 0), .ref k10, .int (nI aw), .ref k12, .ref k13, .ref k14, .ref k15, .ref k16, .int (nI ls), .int (nI ap), .int (bz bd), .int (nI sq), .ref k21, .ref k22, .ref k23, .ref k24, .ref k25, .int (bz pd), .int (nI (w + 1)), .int (nI 0), .ref q, .ref k30, .ref k31, .int (nI tz), .ref k33, .int (nI rs), .int sd])), (k1, .inl (cI, 7, .inl (nIf ki1))), (k2, .inl (cI, 7, .inl (nIf op1))), (k3, .inl (cI, 7, .inl (nIf (shF sh1)))), (k4, .inl (cI, 7, .inl (nIf fa1))), (k6, .inl (cI, 6, .inl (nIf B1))), (k7, .inl (cI, 6, .inl (nIf B2))), (k8, .inl (cI, 6, .inl (nIf B3))), (q, .inl (cI, 48, .inl (nIf En)))]
          rw [show (En w) = (K1 d) from (hE _ (by omega)).trans (enc_d (s := (n1, m1, sh1, aw1, ki1, op1, fa1, K1, G1, T1)) (by omega) hwp).1]
          refine v_iasn (ws2 := [(r0, .inr (5, [.int (nI n1), .ref k1, .ref k2, .ref k3, .ref k4, .int (nI m1), .ref k6, .ref k7, .ref k8, .int (nI 0), .ref k10, .int (nI aw), .ref k12, .ref k13, .ref k14, .ref k15, .ref k16, .int (nI ls), .int (nI ap), .int (bz bd), .int (nI sq), .ref k21, .ref k22, .ref k23, .ref k24, .ref k25, .int (bz pd), .int (nI (w + 1)), .int (nI 0), .ref q, .ref k30, .ref k31, .int (nI tz), .ref k33, .int (nI rs), .int sd])), (k1, .inl (cI, 7, .inl (nIf ki1))), (k2, .inl (cI, 7, .inl (nIf op1))), (k3, .inl (cI, 7, .inl (nIf (shF sh1)))), (k4, .inl (cI, 7, .inl (nIf fa1))), (k6, .inl (cI, 6, .inl (nIf (un B1 d (K1 d))))), (k7, .inl (cI, 6, .inl (nIf B2))), (k8, .inl (cI, 6, .inl (nIf B3))), (q, .inl (cI, 48, .inl (nIf En)))]) 141 5 zC dX5_carryAll_140 rfl (by omega) (by rw [upd_nIf]; first | done | rfl) ?_
          refine v_al_n 142 zC dX5_carryAll_141 1 rfl ?_
          refine v_gf 145 0 zC dX5_carryAll_142 gf_X5_25 rfl rfl ?_
          refine v_il_n 146 zC dX5_carryAll_145 0 rfl ?_
          refine v_al_n 147 zC dX5_carryAll_146 1 rfl ?_
          refine v_al_n 148 zC dX5_carryAll_147 1 rfl ?_
          refine v_gf 151 0 zC dX5_carryAll_148 gf_X5_25 rfl rfl ?_
          refine v_il_n 152 zC dX5_carryAll_151 0 rfl ?_
          refine v_ialn (v := (nI (B2 d))) 153 6 zC dX5_carryAll_152 rfl (by omega) rfl ?_
          refine v_cV (As := [.int (nI (B2 d))]) (st := [.int (nI d), .ref k7]) 156 0 [0, 8] zC dX5_carryAll_153 hA (c_X5_carry__F (ev_l E) (ev_D E) cI (r0 := r0) (k1 := k1) (k2 := k2) (k3 := k3) (k4 := k4) (k6 := k6) (k7 := k7) (k8 := k8) (k10 := k10) (k12 := k12) (k13 := k13) (k14 := k14) (k15 := k15) (k16 := k16) (k21 := k21) (k22 := k22) (k23 := k23) (k24 := k24) (k25 := k25) (k30 := k30) (k31 := k31) (k33 := k33) (n := n1) (m := m1) (aw := aw) (ls := ls) (ap := ap) (sq := sq) (pl := (w + 1)) (tz := tz) (rs := rs) (bd := bd) (pd := pd) (sd := sd) (q := q) (En := En) (v := (B2 d)) (hp := (by first | omega | assumption | rfl | (simp only []; omega) | decide))) cf_X5_carry lk_X5_200 rfl rfl rfl rfl rfl (by decide +kernel) (Nat.le_of_ble_eq_true rfl) (fun rv_15 wv_16 hp_17 hm_18 => ?_)
          clear hm_18
          obtain ⟨rfl, rfl⟩ := hp_17
          show VV E 0 0 156 [(3, .int (nI d)), (0, .ref r0), (1, .ref q), (2, .int (nI 0))] [.int (nI (En (w + 1))), .int (nI d), .ref k7] [(r0, .inr (5, [.int (nI n1), .ref k1, .ref k2, .ref k3, .ref k4, .int (nI m1), .ref k6, .ref k7, .ref k8, .int (nI 0), .ref k10, .int (nI aw), .ref k12, .ref k13, .ref k14, .ref k15, .ref k16, .int (nI ls), .int (nI ap), .int (bz bd), .int (nI sq), .ref k21, .ref k22, .ref k23, .ref k24, .ref k25, .int (bz pd), .int (nI ((w + 1) + 1)), .int (nI 0), .ref q, .ref k30, .ref k31, .int (nI tz), .ref k33, .int (nI rs), .int sd])), (k1, .inl (cI, 7, .inl (nIf ki1))), (k2, .inl (cI, 7, .inl (nIf op1))), (k3, .inl (cI, 7, .inl (nIf (shF sh1)))), (k4, .inl (cI, 7, .inl (nIf fa1))), (k6, .inl (cI, 6, .inl (nIf (un B1 d (K1 d))))), (k7, .inl (cI, 6, .inl (nIf B2))), (k8, .inl (cI, 6, .inl (nIf B3))), (q, .inl (cI, 48, .inl (nIf En)))]
          rw [show (En (w + 1)) = (G1 d) from (hE _ (by omega)).trans (enc_d (s := (n1, m1, sh1, aw1, ki1, op1, fa1, K1, G1, T1)) (by omega) hwp).2.1]
          refine v_iasn (ws2 := [(r0, .inr (5, [.int (nI n1), .ref k1, .ref k2, .ref k3, .ref k4, .int (nI m1), .ref k6, .ref k7, .ref k8, .int (nI 0), .ref k10, .int (nI aw), .ref k12, .ref k13, .ref k14, .ref k15, .ref k16, .int (nI ls), .int (nI ap), .int (bz bd), .int (nI sq), .ref k21, .ref k22, .ref k23, .ref k24, .ref k25, .int (bz pd), .int (nI ((w + 1) + 1)), .int (nI 0), .ref q, .ref k30, .ref k31, .int (nI tz), .ref k33, .int (nI rs), .int sd])), (k1, .inl (cI, 7, .inl (nIf ki1))), (k2, .inl (cI, 7, .inl (nIf op1))), (k3, .inl (cI, 7, .inl (nIf (shF sh1)))), (k4, .inl (cI, 7, .inl (nIf fa1))), (k6, .inl (cI, 6, .inl (nIf (un B1 d (K1 d))))), (k7, .inl (cI, 6, .inl (nIf (un B2 d (G1 d))))), (k8, .inl (cI, 6, .inl (nIf B3))), (q, .inl (cI, 48, .inl (nIf En)))]) 157 6 zC dX5_carryAll_156 rfl (by omega) (by rw [upd_nIf]; first | done | rfl) ?_
          refine v_al_n 158 zC dX5_carryAll_157 1 rfl ?_
          refine v_gf 161 0 zC dX5_carryAll_158 gf_X5_28 rfl rfl ?_
          refine v_il_n 162 zC dX5_carryAll_161 0 rfl ?_
          refine v_al_n 163 zC dX5_carryAll_162 1 rfl ?_
          refine v_al_n 164 zC dX5_carryAll_163 1 rfl ?_
          refine v_gf 167 0 zC dX5_carryAll_164 gf_X5_28 rfl rfl ?_
          refine v_il_n 168 zC dX5_carryAll_167 0 rfl ?_
          refine v_ialn (v := (nI (B3 d))) 169 7 zC dX5_carryAll_168 rfl (by omega) rfl ?_
          refine v_cV (As := [.int (nI (B3 d))]) (st := [.int (nI d), .ref k8]) 172 0 [0, 8] zC dX5_carryAll_169 hA (c_X5_carry__F (ev_l E) (ev_D E) cI (r0 := r0) (k1 := k1) (k2 := k2) (k3 := k3) (k4 := k4) (k6 := k6) (k7 := k7) (k8 := k8) (k10 := k10) (k12 := k12) (k13 := k13) (k14 := k14) (k15 := k15) (k16 := k16) (k21 := k21) (k22 := k22) (k23 := k23) (k24 := k24) (k25 := k25) (k30 := k30) (k31 := k31) (k33 := k33) (n := n1) (m := m1) (aw := aw) (ls := ls) (ap := ap) (sq := sq) (pl := ((w + 1) + 1)) (tz := tz) (rs := rs) (bd := bd) (pd := pd) (sd := sd) (q := q) (En := En) (v := (B3 d)) (hp := (by first | omega | assumption | rfl | (simp only []; omega) | decide))) cf_X5_carry lk_X5_200 rfl rfl rfl rfl rfl (by decide +kernel) (Nat.le_of_ble_eq_true rfl) (fun rv_19 wv_20 hp_21 hm_22 => ?_)
          clear hm_22
          obtain ⟨rfl, rfl⟩ := hp_21
          show VV E 0 0 172 [(3, .int (nI d)), (0, .ref r0), (1, .ref q), (2, .int (nI 0))] [.int (nI (En ((w + 1) + 1))), .int (nI d), .ref k8] [(r0, .inr (5, [.int (nI n1), .ref k1, .ref k2, .ref k3, .ref k4, .int (nI m1), .ref k6, .ref k7, .ref k8, .int (nI 0), .ref k10, .int (nI aw), .ref k12, .ref k13, .ref k14, .ref k15, .ref k16, .int (nI ls), .int (nI ap), .int (bz bd), .int (nI sq), .ref k21, .ref k22, .ref k23, .ref k24, .ref k25, .int (bz pd), .int (nI (((w + 1) + 1) + 1)), .int (nI 0), .ref q, .ref k30, .ref k31, .int (nI tz), .ref k33, .int (nI rs), .int sd])), (k1, .inl (cI, 7, .inl (nIf ki1))), (k2, .inl (cI, 7, .inl (nIf op1))), (k3, .inl (cI, 7, .inl (nIf (shF sh1)))), (k4, .inl (cI, 7, .inl (nIf fa1))), (k6, .inl (cI, 6, .inl (nIf (un B1 d (K1 d))))), (k7, .inl (cI, 6, .inl (nIf (un B2 d (G1 d))))), (k8, .inl (cI, 6, .inl (nIf B3))), (q, .inl (cI, 48, .inl (nIf En)))]
          rw [show (En ((w + 1) + 1)) = (T1 d) from (hE _ (by omega)).trans (enc_d (s := (n1, m1, sh1, aw1, ki1, op1, fa1, K1, G1, T1)) (by omega) hwp).2.2]
          refine v_iasn (ws2 := [(r0, .inr (5, [.int (nI n1), .ref k1, .ref k2, .ref k3, .ref k4, .int (nI m1), .ref k6, .ref k7, .ref k8, .int (nI 0), .ref k10, .int (nI aw), .ref k12, .ref k13, .ref k14, .ref k15, .ref k16, .int (nI ls), .int (nI ap), .int (bz bd), .int (nI sq), .ref k21, .ref k22, .ref k23, .ref k24, .ref k25, .int (bz pd), .int (nI (((w + 1) + 1) + 1)), .int (nI 0), .ref q, .ref k30, .ref k31, .int (nI tz), .ref k33, .int (nI rs), .int sd])), (k1, .inl (cI, 7, .inl (nIf ki1))), (k2, .inl (cI, 7, .inl (nIf op1))), (k3, .inl (cI, 7, .inl (nIf (shF sh1)))), (k4, .inl (cI, 7, .inl (nIf fa1))), (k6, .inl (cI, 6, .inl (nIf (un B1 d (K1 d))))), (k7, .inl (cI, 6, .inl (nIf (un B2 d (G1 d))))), (k8, .inl (cI, 6, .inl (nIf (un B3 d (T1 d))))), (q, .inl (cI, 48, .inl (nIf En)))]) 173 7 zC dX5_carryAll_172 rfl (by omega) (by rw [upd_nIf]; first | done | rfl) ?_
          refine v_inc (v := (nI (d + 1))) (lv2 := [(3, .int (nI (d + 1))), (0, .ref r0), (1, .ref q), (2, .int (nI 0))]) 176 zC dX5_carryAll_173 (j := 0) rfl (nI_add _ 1) (by rw [hnE]; decide) rfl ?_
          refine v_goto 119 zC dX5_carryAll_176 ?_
          refine v_lvs (lv2 := [(3, .int (nI (d + 1))), (0, .ref r0), (1, .ref q), (2, .int (nI 0))]) [0, 1, 2, 3] rfl ?_
          exact ih119 _ (by omega) (un B1 d (K1 d)) (un B2 d (G1 d)) (un B3 d (T1 d)) (((w + 1) + 1) + 1) (d + 1) (tf_s h1 rfl) (tf_s h2 rfl) (tf_s h3 rfl) (by first | omega | assumption | rfl | (simp only []; omega) | decide) (by first | omega | assumption | rfl | (simp only []; omega) | decide) rfl
      refine v_lvs (lv2 := [(3, .int (nI 0)), (0, .ref r0), (1, .ref q), (2, .int (nI 0))]) [0, 1, 2, 3] rfl ?_
      exact lp119 _ K G T w 0 (fun z => by rw [if_neg (Nat.not_lt_zero _)]) (fun z => by rw [if_neg (Nat.not_lt_zero _)]) (fun z => by rw [if_neg (Nat.not_lt_zero _)]) (by first | omega | assumption | rfl | (simp only []; omega) | decide) (by first | omega | assumption | rfl | (simp only []; omega) | decide) rfl
    ·
      refine v_al_n 48 zC dX5_carryAll_47 1 rfl ?_
      refine v_gf 51 0 zC dX5_carryAll_48 gf_X5_7 rfl rfl ?_
      refine v_il_n 52 zC dX5_carryAll_51 0 rfl ?_
      refine v_al_n 53 zC dX5_carryAll_52 1 rfl ?_
      refine v_al_n 54 zC dX5_carryAll_53 1 rfl ?_
      refine v_gf 57 0 zC dX5_carryAll_54 gf_X5_7 rfl rfl ?_
      refine v_il_n 58 zC dX5_carryAll_57 0 rfl ?_
      refine v_ialn (v := (nI (A1 p))) 59 1 zC dX5_carryAll_58 rfl (by omega) rfl ?_
      refine v_cV (As := [.int (nI (A1 p))]) (st := [.int (nI p), .ref k1]) 62 0 [0, 8] zC dX5_carryAll_59 hA (c_X5_carry__F (ev_l E) (ev_D E) cI (r0 := r0) (k1 := k1) (k2 := k2) (k3 := k3) (k4 := k4) (k6 := k6) (k7 := k7) (k8 := k8) (k10 := k10) (k12 := k12) (k13 := k13) (k14 := k14) (k15 := k15) (k16 := k16) (k21 := k21) (k22 := k22) (k23 := k23) (k24 := k24) (k25 := k25) (k30 := k30) (k31 := k31) (k33 := k33) (n := n1) (m := m1) (aw := aw) (ls := ls) (ap := ap) (sq := sq) (pl := w) (tz := tz) (rs := rs) (bd := bd) (pd := pd) (sd := sd) (q := q) (En := En) (v := (A1 p)) (hp := (by first | omega | assumption | rfl | (simp only []; omega) | decide))) cf_X5_carry lk_X5_200 rfl rfl rfl rfl rfl (by decide +kernel) (Nat.le_of_ble_eq_true rfl) (fun rv_23 wv_24 hp_25 hm_26 => ?_)
      clear hm_26
      obtain ⟨rfl, rfl⟩ := hp_25
      show VV E 0 0 62 [(3, .int (nI p)), (0, .ref r0), (1, .ref q), (2, .int (nI 0))] [.int (nI (En w)), .int (nI p), .ref k1] [(r0, .inr (5, [.int (nI n1), .ref k1, .ref k2, .ref k3, .ref k4, .int (nI m1), .ref k6, .ref k7, .ref k8, .int (nI 0), .ref k10, .int (nI aw), .ref k12, .ref k13, .ref k14, .ref k15, .ref k16, .int (nI ls), .int (nI ap), .int (bz bd), .int (nI sq), .ref k21, .ref k22, .ref k23, .ref k24, .ref k25, .int (bz pd), .int (nI (w + 1)), .int (nI 0), .ref q, .ref k30, .ref k31, .int (nI tz), .ref k33, .int (nI rs), .int sd])), (k1, .inl (cI, 7, .inl (nIf A1))), (k2, .inl (cI, 7, .inl (nIf A2))), (k3, .inl (cI, 7, .inl (nIf A3))), (k4, .inl (cI, 7, .inl (nIf A4))), (k6, .inl (cI, 6, .inl (nIf K))), (k7, .inl (cI, 6, .inl (nIf G))), (k8, .inl (cI, 6, .inl (nIf T))), (q, .inl (cI, 48, .inl (nIf En)))]
      rw [show (En w) = (ki1 p) from (hE _ (by omega)).trans (enc_p (s := (n1, m1, sh1, aw1, ki1, op1, fa1, K1, G1, T1)) (by omega) hwp).1]
      refine v_iasn (ws2 := [(r0, .inr (5, [.int (nI n1), .ref k1, .ref k2, .ref k3, .ref k4, .int (nI m1), .ref k6, .ref k7, .ref k8, .int (nI 0), .ref k10, .int (nI aw), .ref k12, .ref k13, .ref k14, .ref k15, .ref k16, .int (nI ls), .int (nI ap), .int (bz bd), .int (nI sq), .ref k21, .ref k22, .ref k23, .ref k24, .ref k25, .int (bz pd), .int (nI (w + 1)), .int (nI 0), .ref q, .ref k30, .ref k31, .int (nI tz), .ref k33, .int (nI rs), .int sd])), (k1, .inl (cI, 7, .inl (nIf (un A1 p (ki1 p))))), (k2, .inl (cI, 7, .inl (nIf A2))), (k3, .inl (cI, 7, .inl (nIf A3))), (k4, .inl (cI, 7, .inl (nIf A4))), (k6, .inl (cI, 6, .inl (nIf K))), (k7, .inl (cI, 6, .inl (nIf G))), (k8, .inl (cI, 6, .inl (nIf T))), (q, .inl (cI, 48, .inl (nIf En)))]) 63 1 zC dX5_carryAll_62 rfl (by omega) (by rw [upd_nIf]; first | done | rfl) ?_
      refine v_al_n 64 zC dX5_carryAll_63 1 rfl ?_
      refine v_gf 67 0 zC dX5_carryAll_64 gf_X5_13 rfl rfl ?_
      refine v_il_n 68 zC dX5_carryAll_67 0 rfl ?_
      refine v_al_n 69 zC dX5_carryAll_68 1 rfl ?_
      refine v_al_n 70 zC dX5_carryAll_69 1 rfl ?_
      refine v_gf 73 0 zC dX5_carryAll_70 gf_X5_13 rfl rfl ?_
      refine v_il_n 74 zC dX5_carryAll_73 0 rfl ?_
      refine v_ialn (v := (nI (A2 p))) 75 2 zC dX5_carryAll_74 rfl (by omega) rfl ?_
      refine v_cV (As := [.int (nI (A2 p))]) (st := [.int (nI p), .ref k2]) 78 0 [0, 8] zC dX5_carryAll_75 hA (c_X5_carry__F (ev_l E) (ev_D E) cI (r0 := r0) (k1 := k1) (k2 := k2) (k3 := k3) (k4 := k4) (k6 := k6) (k7 := k7) (k8 := k8) (k10 := k10) (k12 := k12) (k13 := k13) (k14 := k14) (k15 := k15) (k16 := k16) (k21 := k21) (k22 := k22) (k23 := k23) (k24 := k24) (k25 := k25) (k30 := k30) (k31 := k31) (k33 := k33) (n := n1) (m := m1) (aw := aw) (ls := ls) (ap := ap) (sq := sq) (pl := (w + 1)) (tz := tz) (rs := rs) (bd := bd) (pd := pd) (sd := sd) (q := q) (En := En) (v := (A2 p)) (hp := (by first | omega | assumption | rfl | (simp only []; omega) | decide))) cf_X5_carry lk_X5_200 rfl rfl rfl rfl rfl (by decide +kernel) (Nat.le_of_ble_eq_true rfl) (fun rv_27 wv_28 hp_29 hm_30 => ?_)
      clear hm_30
      obtain ⟨rfl, rfl⟩ := hp_29
      show VV E 0 0 78 [(3, .int (nI p)), (0, .ref r0), (1, .ref q), (2, .int (nI 0))] [.int (nI (En (w + 1))), .int (nI p), .ref k2] [(r0, .inr (5, [.int (nI n1), .ref k1, .ref k2, .ref k3, .ref k4, .int (nI m1), .ref k6, .ref k7, .ref k8, .int (nI 0), .ref k10, .int (nI aw), .ref k12, .ref k13, .ref k14, .ref k15, .ref k16, .int (nI ls), .int (nI ap), .int (bz bd), .int (nI sq), .ref k21, .ref k22, .ref k23, .ref k24, .ref k25, .int (bz pd), .int (nI ((w + 1) + 1)), .int (nI 0), .ref q, .ref k30, .ref k31, .int (nI tz), .ref k33, .int (nI rs), .int sd])), (k1, .inl (cI, 7, .inl (nIf (un A1 p (ki1 p))))), (k2, .inl (cI, 7, .inl (nIf A2))), (k3, .inl (cI, 7, .inl (nIf A3))), (k4, .inl (cI, 7, .inl (nIf A4))), (k6, .inl (cI, 6, .inl (nIf K))), (k7, .inl (cI, 6, .inl (nIf G))), (k8, .inl (cI, 6, .inl (nIf T))), (q, .inl (cI, 48, .inl (nIf En)))]
      rw [show (En (w + 1)) = (op1 p) from (hE _ (by omega)).trans (enc_p (s := (n1, m1, sh1, aw1, ki1, op1, fa1, K1, G1, T1)) (by omega) hwp).2.1]
      refine v_iasn (ws2 := [(r0, .inr (5, [.int (nI n1), .ref k1, .ref k2, .ref k3, .ref k4, .int (nI m1), .ref k6, .ref k7, .ref k8, .int (nI 0), .ref k10, .int (nI aw), .ref k12, .ref k13, .ref k14, .ref k15, .ref k16, .int (nI ls), .int (nI ap), .int (bz bd), .int (nI sq), .ref k21, .ref k22, .ref k23, .ref k24, .ref k25, .int (bz pd), .int (nI ((w + 1) + 1)), .int (nI 0), .ref q, .ref k30, .ref k31, .int (nI tz), .ref k33, .int (nI rs), .int sd])), (k1, .inl (cI, 7, .inl (nIf (un A1 p (ki1 p))))), (k2, .inl (cI, 7, .inl (nIf (un A2 p (op1 p))))), (k3, .inl (cI, 7, .inl (nIf A3))), (k4, .inl (cI, 7, .inl (nIf A4))), (k6, .inl (cI, 6, .inl (nIf K))), (k7, .inl (cI, 6, .inl (nIf G))), (k8, .inl (cI, 6, .inl (nIf T))), (q, .inl (cI, 48, .inl (nIf En)))]) 79 2 zC dX5_carryAll_78 rfl (by omega) (by rw [upd_nIf]; first | done | rfl) ?_
      refine v_al_n 80 zC dX5_carryAll_79 1 rfl ?_
      refine v_gf 83 0 zC dX5_carryAll_80 gf_X5_16 rfl rfl ?_
      refine v_il_n 84 zC dX5_carryAll_83 0 rfl ?_
      refine v_al_n 85 zC dX5_carryAll_84 1 rfl ?_
      refine v_al_n 86 zC dX5_carryAll_85 1 rfl ?_
      refine v_gf 89 0 zC dX5_carryAll_86 gf_X5_16 rfl rfl ?_
      refine v_il_n 90 zC dX5_carryAll_89 0 rfl ?_
      refine v_ialn (v := (nI (A3 p))) 91 3 zC dX5_carryAll_90 rfl (by omega) rfl ?_
      refine v_cV (As := [.int (nI (A3 p))]) (st := [.int (nI p), .ref k3]) 94 0 [0, 8] zC dX5_carryAll_91 hA (c_X5_carry__F (ev_l E) (ev_D E) cI (r0 := r0) (k1 := k1) (k2 := k2) (k3 := k3) (k4 := k4) (k6 := k6) (k7 := k7) (k8 := k8) (k10 := k10) (k12 := k12) (k13 := k13) (k14 := k14) (k15 := k15) (k16 := k16) (k21 := k21) (k22 := k22) (k23 := k23) (k24 := k24) (k25 := k25) (k30 := k30) (k31 := k31) (k33 := k33) (n := n1) (m := m1) (aw := aw) (ls := ls) (ap := ap) (sq := sq) (pl := ((w + 1) + 1)) (tz := tz) (rs := rs) (bd := bd) (pd := pd) (sd := sd) (q := q) (En := En) (v := (A3 p)) (hp := (by first | omega | assumption | rfl | (simp only []; omega) | decide))) cf_X5_carry lk_X5_200 rfl rfl rfl rfl rfl (by decide +kernel) (Nat.le_of_ble_eq_true rfl) (fun rv_31 wv_32 hp_33 hm_34 => ?_)
      clear hm_34
      obtain ⟨rfl, rfl⟩ := hp_33
      show VV E 0 0 94 [(3, .int (nI p)), (0, .ref r0), (1, .ref q), (2, .int (nI 0))] [.int (nI (En ((w + 1) + 1))), .int (nI p), .ref k3] [(r0, .inr (5, [.int (nI n1), .ref k1, .ref k2, .ref k3, .ref k4, .int (nI m1), .ref k6, .ref k7, .ref k8, .int (nI 0), .ref k10, .int (nI aw), .ref k12, .ref k13, .ref k14, .ref k15, .ref k16, .int (nI ls), .int (nI ap), .int (bz bd), .int (nI sq), .ref k21, .ref k22, .ref k23, .ref k24, .ref k25, .int (bz pd), .int (nI (((w + 1) + 1) + 1)), .int (nI 0), .ref q, .ref k30, .ref k31, .int (nI tz), .ref k33, .int (nI rs), .int sd])), (k1, .inl (cI, 7, .inl (nIf (un A1 p (ki1 p))))), (k2, .inl (cI, 7, .inl (nIf (un A2 p (op1 p))))), (k3, .inl (cI, 7, .inl (nIf A3))), (k4, .inl (cI, 7, .inl (nIf A4))), (k6, .inl (cI, 6, .inl (nIf K))), (k7, .inl (cI, 6, .inl (nIf G))), (k8, .inl (cI, 6, .inl (nIf T))), (q, .inl (cI, 48, .inl (nIf En)))]
      rw [show (En ((w + 1) + 1)) = (shF sh1 p) from (hE _ (by omega)).trans (enc_p (s := (n1, m1, sh1, aw1, ki1, op1, fa1, K1, G1, T1)) (by omega) hwp).2.2.1]
      refine v_iasn (ws2 := [(r0, .inr (5, [.int (nI n1), .ref k1, .ref k2, .ref k3, .ref k4, .int (nI m1), .ref k6, .ref k7, .ref k8, .int (nI 0), .ref k10, .int (nI aw), .ref k12, .ref k13, .ref k14, .ref k15, .ref k16, .int (nI ls), .int (nI ap), .int (bz bd), .int (nI sq), .ref k21, .ref k22, .ref k23, .ref k24, .ref k25, .int (bz pd), .int (nI (((w + 1) + 1) + 1)), .int (nI 0), .ref q, .ref k30, .ref k31, .int (nI tz), .ref k33, .int (nI rs), .int sd])), (k1, .inl (cI, 7, .inl (nIf (un A1 p (ki1 p))))), (k2, .inl (cI, 7, .inl (nIf (un A2 p (op1 p))))), (k3, .inl (cI, 7, .inl (nIf (un A3 p (shF sh1 p))))), (k4, .inl (cI, 7, .inl (nIf A4))), (k6, .inl (cI, 6, .inl (nIf K))), (k7, .inl (cI, 6, .inl (nIf G))), (k8, .inl (cI, 6, .inl (nIf T))), (q, .inl (cI, 48, .inl (nIf En)))]) 95 3 zC dX5_carryAll_94 rfl (by omega) (by rw [upd_nIf]; first | done | rfl) ?_
      refine v_al_n 96 zC dX5_carryAll_95 1 rfl ?_
      refine v_gf 99 0 zC dX5_carryAll_96 gf_X5_19 rfl rfl ?_
      refine v_il_n 100 zC dX5_carryAll_99 0 rfl ?_
      refine v_al_n 101 zC dX5_carryAll_100 1 rfl ?_
      refine v_al_n 102 zC dX5_carryAll_101 1 rfl ?_
      refine v_gf 105 0 zC dX5_carryAll_102 gf_X5_19 rfl rfl ?_
      refine v_il_n 106 zC dX5_carryAll_105 0 rfl ?_
      refine v_ialn (v := (nI (A4 p))) 107 4 zC dX5_carryAll_106 rfl (by omega) rfl ?_
      refine v_cV (As := [.int (nI (A4 p))]) (st := [.int (nI p), .ref k4]) 110 0 [0, 8] zC dX5_carryAll_107 hA (c_X5_carry__F (ev_l E) (ev_D E) cI (r0 := r0) (k1 := k1) (k2 := k2) (k3 := k3) (k4 := k4) (k6 := k6) (k7 := k7) (k8 := k8) (k10 := k10) (k12 := k12) (k13 := k13) (k14 := k14) (k15 := k15) (k16 := k16) (k21 := k21) (k22 := k22) (k23 := k23) (k24 := k24) (k25 := k25) (k30 := k30) (k31 := k31) (k33 := k33) (n := n1) (m := m1) (aw := aw) (ls := ls) (ap := ap) (sq := sq) (pl := (((w + 1) + 1) + 1)) (tz := tz) (rs := rs) (bd := bd) (pd := pd) (sd := sd) (q := q) (En := En) (v := (A4 p)) (hp := (by first | omega | assumption | rfl | (simp only []; omega) | decide))) cf_X5_carry lk_X5_200 rfl rfl rfl rfl rfl (by decide +kernel) (Nat.le_of_ble_eq_true rfl) (fun rv_35 wv_36 hp_37 hm_38 => ?_)
      clear hm_38
      obtain ⟨rfl, rfl⟩ := hp_37
      show VV E 0 0 110 [(3, .int (nI p)), (0, .ref r0), (1, .ref q), (2, .int (nI 0))] [.int (nI (En (((w + 1) + 1) + 1))), .int (nI p), .ref k4] [(r0, .inr (5, [.int (nI n1), .ref k1, .ref k2, .ref k3, .ref k4, .int (nI m1), .ref k6, .ref k7, .ref k8, .int (nI 0), .ref k10, .int (nI aw), .ref k12, .ref k13, .ref k14, .ref k15, .ref k16, .int (nI ls), .int (nI ap), .int (bz bd), .int (nI sq), .ref k21, .ref k22, .ref k23, .ref k24, .ref k25, .int (bz pd), .int (nI ((((w + 1) + 1) + 1) + 1)), .int (nI 0), .ref q, .ref k30, .ref k31, .int (nI tz), .ref k33, .int (nI rs), .int sd])), (k1, .inl (cI, 7, .inl (nIf (un A1 p (ki1 p))))), (k2, .inl (cI, 7, .inl (nIf (un A2 p (op1 p))))), (k3, .inl (cI, 7, .inl (nIf (un A3 p (shF sh1 p))))), (k4, .inl (cI, 7, .inl (nIf A4))), (k6, .inl (cI, 6, .inl (nIf K))), (k7, .inl (cI, 6, .inl (nIf G))), (k8, .inl (cI, 6, .inl (nIf T))), (q, .inl (cI, 48, .inl (nIf En)))]
      rw [show (En (((w + 1) + 1) + 1)) = (fa1 p) from (hE _ (by omega)).trans (enc_p (s := (n1, m1, sh1, aw1, ki1, op1, fa1, K1, G1, T1)) (by omega) hwp).2.2.2]
      refine v_iasn (ws2 := [(r0, .inr (5, [.int (nI n1), .ref k1, .ref k2, .ref k3, .ref k4, .int (nI m1), .ref k6, .ref k7, .ref k8, .int (nI 0), .ref k10, .int (nI aw), .ref k12, .ref k13, .ref k14, .ref k15, .ref k16, .int (nI ls), .int (nI ap), .int (bz bd), .int (nI sq), .ref k21, .ref k22, .ref k23, .ref k24, .ref k25, .int (bz pd), .int (nI ((((w + 1) + 1) + 1) + 1)), .int (nI 0), .ref q, .ref k30, .ref k31, .int (nI tz), .ref k33, .int (nI rs), .int sd])), (k1, .inl (cI, 7, .inl (nIf (un A1 p (ki1 p))))), (k2, .inl (cI, 7, .inl (nIf (un A2 p (op1 p))))), (k3, .inl (cI, 7, .inl (nIf (un A3 p (shF sh1 p))))), (k4, .inl (cI, 7, .inl (nIf (un A4 p (fa1 p))))), (k6, .inl (cI, 6, .inl (nIf K))), (k7, .inl (cI, 6, .inl (nIf G))), (k8, .inl (cI, 6, .inl (nIf T))), (q, .inl (cI, 48, .inl (nIf En)))]) 111 4 zC dX5_carryAll_110 rfl (by omega) (by rw [upd_nIf]; first | done | rfl) ?_
      refine v_inc (v := (nI (p + 1))) (lv2 := [(3, .int (nI (p + 1))), (0, .ref r0), (1, .ref q), (2, .int (nI 0))]) 114 zC dX5_carryAll_111 (j := 0) rfl (nI_add _ 1) (by rw [hnE]; decide) rfl ?_
      refine v_goto 41 zC dX5_carryAll_114 ?_
      refine v_lvs (lv2 := [(3, .int (nI (p + 1))), (0, .ref r0), (1, .ref q), (2, .int (nI 0))]) [0, 1, 2, 3] rfl ?_
      exact ih41 _ (by omega) (un A1 p (ki1 p)) (un A2 p (op1 p)) (un A3 p (shF sh1 p)) (un A4 p (fa1 p)) ((((w + 1) + 1) + 1) + 1) (p + 1) (tf_s h1 rfl) (tf_s h2 rfl) (tf_s h3 rfl) (tf_s h4 rfl) (by first | omega | assumption | rfl | (simp only []; omega) | decide) (by first | omega | assumption | rfl | (simp only []; omega) | decide) rfl
  refine v_lvs (lv2 := [(3, .int (nI 0)), (0, .ref r0), (1, .ref q), (2, .int (nI 0))]) [0, 1, 2, 3] rfl ?_
  exact lp41 _ ki op (shF sh) fa ((0 + 1) + 1) 0 (fun z => by rw [if_neg (Nat.not_lt_zero _)]) (fun z => by rw [if_neg (Nat.not_lt_zero _)]) (fun z => by rw [if_neg (Nat.not_lt_zero _)]) (fun z => by rw [if_neg (Nat.not_lt_zero _)]) (by first | omega | assumption | rfl | (simp only []; omega) | decide) (by first | omega | assumption | rfl | (simp only []; omega) | decide) rfl
set_option maxRecDepth 100000 in
set_option maxHeartbeats 4000000 in
theorem c_X5_think (l : Launch) (D : va_G) (cI : ClassId) (r0 k1 k2 k3 k4 k6 k7 k8 k10 k12 k13 k14 k15 k16 k21 k22 k23 k24 k25 k30 k31 k33 : Nat) (n m aw ls ap sq pl tz rs : Nat) (bd pd tk : Bool) (kv : Value) (sd : Int32) (ki op fa K G T : Nat → Nat) (sh : Nat) (kp : Nat → Nat)  : CT l yX5_think cX5_think 1 none { frames := 2, cells := 0, slots := 0, locals := 44 } D cI [.ref r0] [(r0, .inr (5, [.int (nI n), .ref k1, .ref k2, .ref k3, .ref k4, .int (nI m), .ref k6, .ref k7, .ref k8, .int (nI 0), .ref k10, .int (nI aw), .ref k12, .ref k13, .ref k14, .ref k15, .ref k16, .int (nI ls), .int (nI ap), .int (bz bd), .int (nI sq), .ref k21, .ref k22, .ref k23, .ref k24, .ref k25, .int (bz pd), .int (nI pl), .int (bz tk), kv, .ref k30, .ref k31, .int (nI tz), .ref k33, .int (nI rs), .int sd])), (k1, .inl (cI, 7, .inl (nIf ki))), (k2, .inl (cI, 7, .inl (nIf op))), (k3, .inl (cI, 7, .inl (nIf (shF sh)))), (k4, .inl (cI, 7, .inl (nIf fa))), (k6, .inl (cI, 6, .inl (nIf K))), (k7, .inl (cI, 6, .inl (nIf G))), (k8, .inl (cI, 6, .inl (nIf T))), (k24, .inl (cI, 48, .inl (nIf kp)))] (fun zr zw => (∃ kp1 : Nat → Nat, (∀ z, z < 48 → kp1 z = ENC (n, m, sh, aw, ki, op, fa, K, G, T) z) ∧ zr = none ∧ zw = [(r0, .inr (5, [.int (nI n), .ref k1, .ref k2, .ref k3, .ref k4, .int (nI m), .ref k6, .ref k7, .ref k8, .int (nI 0), .ref k10, .int (nI aw), .ref k12, .ref k13, .ref k14, .ref k15, .ref k16, .int (nI ls), .int (nI ap), .int (bz bd), .int (nI sq), .ref k21, .ref k22, .ref k23, .ref k24, .ref k25, .int (bz pd), .int (nI 48), .int (bz true), .ref k24, .ref k30, .ref k31, .int (nI tz), .ref k33, .int (nI rs), .int sd])), (k1, .inl (cI, 7, .inl (nIf ki))), (k2, .inl (cI, 7, .inl (nIf op))), (k3, .inl (cI, 7, .inl (nIf (shF sh)))), (k4, .inl (cI, 7, .inl (nIf fa))), (k6, .inl (cI, 6, .inl (nIf K))), (k7, .inl (cI, 6, .inl (nIf G))), (k8, .inl (cI, 6, .inl (nIf T))), (k24, .inl (cI, 48, .inl (nIf kp1)))])) := by
  refine CT_of RX5 rfl (by decide +kernel) (Nat.le_of_ble_eq_true rfl) (fun E hnE zC zT => ?_)
  have hA : ∀ q, (ev_s E).heap.size ≤ q → ev_A E q := fun q h => by rw [zT.2]; exact Or.inr h
  show VV E 0 0 0 [(0, .ref r0)] [] [(r0, .inr (5, [.int (nI n), .ref k1, .ref k2, .ref k3, .ref k4, .int (nI m), .ref k6, .ref k7, .ref k8, .int (nI 0), .ref k10, .int (nI aw), .ref k12, .ref k13, .ref k14, .ref k15, .ref k16, .int (nI ls), .int (nI ap), .int (bz bd), .int (nI sq), .ref k21, .ref k22, .ref k23, .ref k24, .ref k25, .int (bz pd), .int (nI pl), .int (bz tk), kv, .ref k30, .ref k31, .int (nI tz), .ref k33, .int (nI rs), .int sd])), (k1, .inl (cI, 7, .inl (nIf ki))), (k2, .inl (cI, 7, .inl (nIf op))), (k3, .inl (cI, 7, .inl (nIf (shF sh)))), (k4, .inl (cI, 7, .inl (nIf fa))), (k6, .inl (cI, 6, .inl (nIf K))), (k7, .inl (cI, 6, .inl (nIf G))), (k8, .inl (cI, 6, .inl (nIf T))), (k24, .inl (cI, 48, .inl (nIf kp)))]
  refine v_al_n 1 zC dX5_think_0 0 rfl ?_
  refine v_al_n 2 zC dX5_think_1 0 rfl ?_
  refine v_gf 5 0 zC dX5_think_2 gf_X5_58 rfl rfl ?_
  refine v_ic (v := (nI 1)) 6 zC dX5_think_5 (by decide +kernel) ?_
  refine v_cV (As := [.ref k24, .int (nI 1)]) (st := []) 9 0 [0, 1, 2, 3, 4, 5, 6, 7, 8] zC dX5_think_6 hA (c_X5_carryAll__T (ev_l E) (ev_D E) cI (r0 := r0) (k1 := k1) (k2 := k2) (k3 := k3) (k4 := k4) (k6 := k6) (k7 := k7) (k8 := k8) (k10 := k10) (k12 := k12) (k13 := k13) (k14 := k14) (k15 := k15) (k16 := k16) (k21 := k21) (k22 := k22) (k23 := k23) (k24 := k24) (k25 := k25) (k30 := k30) (k31 := k31) (k33 := k33) (n := n) (m := m) (aw := aw) (ls := ls) (ap := ap) (sq := sq) (pl := pl) (tz := tz) (rs := rs) (bd := bd) (pd := pd) (tk := tk) (kv := kv) (sd := sd) (ki := ki) (op := op) (fa := fa) (K := K) (G := G) (T := T) (sh := sh) (q := k24) (En := kp) ) cf_X5_carryAll lk_X5_181 rfl rfl rfl rfl rfl (by decide +kernel) (Nat.le_of_ble_eq_true rfl) (fun rv_1 wv_2 hp_3 hm_4 => ?_)
  clear hm_4
  obtain ⟨E1_5, hE_6, rfl, rfl⟩ := hp_3
  show VV E 0 0 9 [(0, .ref r0)] [] [(r0, .inr (5, [.int (nI n), .ref k1, .ref k2, .ref k3, .ref k4, .int (nI m), .ref k6, .ref k7, .ref k8, .int (nI 0), .ref k10, .int (nI aw), .ref k12, .ref k13, .ref k14, .ref k15, .ref k16, .int (nI ls), .int (nI ap), .int (bz bd), .int (nI sq), .ref k21, .ref k22, .ref k23, .ref k24, .ref k25, .int (bz pd), .int (nI 48), .int (nI 1), .ref k24, .ref k30, .ref k31, .int (nI tz), .ref k33, .int (nI rs), .int sd])), (k1, .inl (cI, 7, .inl (nIf ki))), (k2, .inl (cI, 7, .inl (nIf op))), (k3, .inl (cI, 7, .inl (nIf (shF sh)))), (k4, .inl (cI, 7, .inl (nIf fa))), (k6, .inl (cI, 6, .inl (nIf K))), (k7, .inl (cI, 6, .inl (nIf G))), (k8, .inl (cI, 6, .inl (nIf T))), (k24, .inl (cI, 48, .inl (nIf E1_5)))]
  have hE9 := hE_6
  refine v_vret zC zT dX5_think_9  ?_
  exact ⟨_, hE9, rfl, rfl⟩
set_option maxRecDepth 100000 in
set_option maxHeartbeats 4000000 in
theorem c_X5_again (l : Launch) (D : va_G) (cI : ClassId) (r0 k1 k2 k3 k4 k6 k7 k8 k10 k12 k13 k14 k15 k16 k21 k22 k23 k24 k25 k30 k31 k33 : Nat) (n m aw ls ap sq pl tz rs : Nat) (bd pd tk : Bool) (kv : Value) (sd : Int32) (ki op fa K G T : Nat → Nat) (sh : Nat) (kp : Nat → Nat) (n1 m1 sh1 aw1 : Nat) (ki1 op1 fa1 K1 G1 T1 : Nat → Nat) (hw : FW n m sh ki op fa K G T) (hw1 : FW n1 m1 sh1 ki1 op1 fa1 K1 G1 T1) (hE : ∀ z, z < 48 → kp z = ENC (n1, m1, sh1, aw1, ki1, op1, fa1, K1, G1, T1) z) : CT l yX5_again cX5_again 1 none { frames := 2, cells := 0, slots := 0, locals := 44 } D cI [.ref r0] [(r0, .inr (5, [.int (nI n), .ref k1, .ref k2, .ref k3, .ref k4, .int (nI m), .ref k6, .ref k7, .ref k8, .int (nI 0), .ref k10, .int (nI aw), .ref k12, .ref k13, .ref k14, .ref k15, .ref k16, .int (nI ls), .int (nI ap), .int (bz bd), .int (nI sq), .ref k21, .ref k22, .ref k23, .ref k24, .ref k25, .int (bz pd), .int (nI pl), .int (bz tk), kv, .ref k30, .ref k31, .int (nI tz), .ref k33, .int (nI rs), .int sd])), (k1, .inl (cI, 7, .inl (nIf ki))), (k2, .inl (cI, 7, .inl (nIf op))), (k3, .inl (cI, 7, .inl (nIf (shF sh)))), (k4, .inl (cI, 7, .inl (nIf fa))), (k6, .inl (cI, 6, .inl (nIf K))), (k7, .inl (cI, 6, .inl (nIf G))), (k8, .inl (cI, 6, .inl (nIf T))), (k24, .inl (cI, 48, .inl (nIf kp)))] (fun zr zw => (zr = none ∧ zw = [(r0, .inr (5, [.int (nI n1), .ref k1, .ref k2, .ref k3, .ref k4, .int (nI m1), .ref k6, .ref k7, .ref k8, .int (nI 0), .ref k10, .int (nI 0), .ref k12, .ref k13, .ref k14, .ref k15, .ref k16, .int (nI ls), .int (nI ap), .int (bz bd), .int (nI sq), .ref k21, .ref k22, .ref k23, .ref k24, .ref k25, .int (bz pd), .int (nI 48), .int (bz false), .ref k24, .ref k30, .ref k31, .int (nI tz), .ref k33, .int (nI rs), .int sd])), (k1, .inl (cI, 7, .inl (nIf ki1))), (k2, .inl (cI, 7, .inl (nIf op1))), (k3, .inl (cI, 7, .inl (nIf (shF sh1)))), (k4, .inl (cI, 7, .inl (nIf fa1))), (k6, .inl (cI, 6, .inl (nIf K1))), (k7, .inl (cI, 6, .inl (nIf G1))), (k8, .inl (cI, 6, .inl (nIf T1))), (k24, .inl (cI, 48, .inl (nIf kp)))])) := by
  refine CT_of RX5 rfl (by decide +kernel) (Nat.le_of_ble_eq_true rfl) (fun E hnE zC zT => ?_)
  have hA : ∀ q, (ev_s E).heap.size ≤ q → ev_A E q := fun q h => by rw [zT.2]; exact Or.inr h
  show VV E 0 0 0 [(0, .ref r0)] [] [(r0, .inr (5, [.int (nI n), .ref k1, .ref k2, .ref k3, .ref k4, .int (nI m), .ref k6, .ref k7, .ref k8, .int (nI 0), .ref k10, .int (nI aw), .ref k12, .ref k13, .ref k14, .ref k15, .ref k16, .int (nI ls), .int (nI ap), .int (bz bd), .int (nI sq), .ref k21, .ref k22, .ref k23, .ref k24, .ref k25, .int (bz pd), .int (nI pl), .int (bz tk), kv, .ref k30, .ref k31, .int (nI tz), .ref k33, .int (nI rs), .int sd])), (k1, .inl (cI, 7, .inl (nIf ki))), (k2, .inl (cI, 7, .inl (nIf op))), (k3, .inl (cI, 7, .inl (nIf (shF sh)))), (k4, .inl (cI, 7, .inl (nIf fa))), (k6, .inl (cI, 6, .inl (nIf K))), (k7, .inl (cI, 6, .inl (nIf G))), (k8, .inl (cI, 6, .inl (nIf T))), (k24, .inl (cI, 48, .inl (nIf kp)))]
  refine v_al_n 1 zC dX5_again_0 0 rfl ?_
  refine v_al_n 2 zC dX5_again_1 0 rfl ?_
  refine v_gf 5 0 zC dX5_again_2 gf_X5_58 rfl rfl ?_
  refine v_ic (v := (nI 0)) 6 zC dX5_again_5 (by decide +kernel) ?_
  refine v_cV (As := [.ref k24, .int (nI 0)]) (st := []) 9 0 [0, 1, 2, 3, 4, 5, 6, 7, 8] zC dX5_again_6 hA (c_X5_carryAll__F (ev_l E) (ev_D E) cI (r0 := r0) (k1 := k1) (k2 := k2) (k3 := k3) (k4 := k4) (k6 := k6) (k7 := k7) (k8 := k8) (k10 := k10) (k12 := k12) (k13 := k13) (k14 := k14) (k15 := k15) (k16 := k16) (k21 := k21) (k22 := k22) (k23 := k23) (k24 := k24) (k25 := k25) (k30 := k30) (k31 := k31) (k33 := k33) (n := n) (m := m) (aw := aw) (ls := ls) (ap := ap) (sq := sq) (pl := pl) (tz := tz) (rs := rs) (bd := bd) (pd := pd) (tk := tk) (kv := kv) (sd := sd) (ki := ki) (op := op) (fa := fa) (K := K) (G := G) (T := T) (sh := sh) (q := k24) (En := kp) (n1 := n1) (m1 := m1) (sh1 := sh1) (aw1 := aw1) (ki1 := ki1) (op1 := op1) (fa1 := fa1) (K1 := K1) (G1 := G1) (T1 := T1) (hw := hw) (hw1 := hw1) (hE := hE)) cf_X5_carryAll lk_X5_181 rfl rfl rfl rfl rfl (by decide +kernel) (Nat.le_of_ble_eq_true rfl) (fun rv_1 wv_2 hp_3 hm_4 => ?_)
  clear hm_4
  obtain ⟨rfl, rfl⟩ := hp_3
  show VV E 0 0 9 [(0, .ref r0)] [] [(r0, .inr (5, [.int (nI n1), .ref k1, .ref k2, .ref k3, .ref k4, .int (nI m1), .ref k6, .ref k7, .ref k8, .int (nI 0), .ref k10, .int (nI aw), .ref k12, .ref k13, .ref k14, .ref k15, .ref k16, .int (nI ls), .int (nI ap), .int (bz bd), .int (nI sq), .ref k21, .ref k22, .ref k23, .ref k24, .ref k25, .int (bz pd), .int (nI 48), .int (nI 0), .ref k24, .ref k30, .ref k31, .int (nI tz), .ref k33, .int (nI rs), .int sd])), (k1, .inl (cI, 7, .inl (nIf ki1))), (k2, .inl (cI, 7, .inl (nIf op1))), (k3, .inl (cI, 7, .inl (nIf (shF sh1)))), (k4, .inl (cI, 7, .inl (nIf fa1))), (k6, .inl (cI, 6, .inl (nIf K1))), (k7, .inl (cI, 6, .inl (nIf G1))), (k8, .inl (cI, 6, .inl (nIf T1))), (k24, .inl (cI, 48, .inl (nIf kp)))]
  refine v_al_n 10 zC dX5_again_9 0 rfl ?_
  refine v_ic (v := (nI 0)) 11 zC dX5_again_10 (by decide +kernel) ?_
  refine v_pf (ws2 := [(r0, .inr (5, [.int (nI n1), .ref k1, .ref k2, .ref k3, .ref k4, .int (nI m1), .ref k6, .ref k7, .ref k8, .int (nI 0), .ref k10, .int (nI 0), .ref k12, .ref k13, .ref k14, .ref k15, .ref k16, .int (nI ls), .int (nI ap), .int (bz bd), .int (nI sq), .ref k21, .ref k22, .ref k23, .ref k24, .ref k25, .int (bz pd), .int (nI 48), .int (nI 0), .ref k24, .ref k30, .ref k31, .int (nI tz), .ref k33, .int (nI rs), .int sd])), (k1, .inl (cI, 7, .inl (nIf ki1))), (k2, .inl (cI, 7, .inl (nIf op1))), (k3, .inl (cI, 7, .inl (nIf (shF sh1)))), (k4, .inl (cI, 7, .inl (nIf fa1))), (k6, .inl (cI, 6, .inl (nIf K1))), (k7, .inl (cI, 6, .inl (nIf G1))), (k8, .inl (cI, 6, .inl (nIf T1))), (k24, .inl (cI, 48, .inl (nIf kp)))]) 14 0 zC dX5_again_11 pf_X5_109 rfl (Nat.le_of_ble_eq_true rfl) rfl rfl rfl ?_
  refine v_vret zC zT dX5_again_14  ?_
  first | exact ⟨rfl, rfl⟩ | exact ⟨sb1 (by assumption), rfl⟩ | exact ⟨sb0 (by assumption), rfl⟩ | (exfalso; omega) | exact ⟨sb1 (by simp [*]), rfl⟩ | exact ⟨sb0 (by simp [*]), rfl⟩
