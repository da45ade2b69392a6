theorem it_r {α : Type} {f : Nat → α → α} {a s t : α} {lo b : Nat} (h : s = it f a (b - lo)) (hl : lo ≤ b) (e : f (b - lo) s = t) : t = it f a (b + 1 - lo) := by
  rw [show b + 1 - lo = (b - lo) + 1 by omega]
  exact it_s h e
theorem it_z {α : Type} {f : Nat → α → α} {a : α} {k : Nat} : a = it f a (k - k) := by
  rw [Nat.sub_self]
  rfl
theorem orn_lt {f : Nat → Nat} {e : Nat} : ∀ {n : Nat}, (∀ k, k < n → f k < 2 ^ e) → orn f n < 2 ^ e
  | 0, _ => Nat.pow_pos (by decide)
  | n + 1, h => Nat.or_lt_two_pow (orn_lt (fun k hk => h k (Nat.lt_succ_of_lt hk))) (h n (Nat.lt_succ_self n))
theorem kto_lt {n m sh aw : Nat} {ki op fa K G T X : Nat → Nat} {Y : Nat → Option Nat} (h : DOK n m sh aw ki op fa K G T X Y) (hn : n ≤ 7) {t : Nat} : KTO (n, m, sh, aw, ki, op, fa, K, G, T) t < 1024 := by
  rw [← dk_kto h hn]
  refine orn_lt (e := 10) (fun k _ => ?_)
  split
  · exact h.2.2.1 _
  · decide
theorem twi_1 {s : SG} {a b x : Nat} {B : Option Nat} (hb : a + 1 ≤ b) (e : x < TOGE s a b) : twiS s a (b - (a + 1)) (B, x) = (some (10 * a + b), TOGE s a b) := by
  unfold twiS
  rw [show a + 1 + (b - (a + 1)) = b by omega, if_pos e]
theorem twi_0 {s : SG} {a b x : Nat} {B : Option Nat} (hb : a + 1 ≤ b) (e : TOGE s a b ≤ x) : twiS s a (b - (a + 1)) (B, x) = (B, x) := by
  unfold twiS
  rw [show a + 1 + (b - (a + 1)) = b by omega, if_neg (Nat.not_lt.mpr e)]
theorem syn_1 {s : SG} {t b : Nat} (h1 : FEW t (some b) = true) (h2 : KTO s t = KTO s (2 ^ g_n s - 1)) : synS s t b = t := if_pos ⟨of_decide_eq_true h1, h2⟩
theorem syn_2 {s : SG} {t b : Nat} (h1 : FEW t (some b) = false) : synS s t b = b := if_neg (fun q => of_decide_eq_false h1 q.1)
theorem syn_3 {s : SG} {t b : Nat} (h2 : KTO s t ≠ KTO s (2 ^ g_n s - 1)) : synS s t b = b := if_neg (fun q => h2 q.2)
def briS (s : SG) (a i : Nat) (x : Option Nat × Nat) : Option Nat × Nat := if x.1.isSome = false ∨ ALL (waw s (2 ^ a ||| 2 ^ (a + 1 + i))) < x.2 then (some (10 * a + (a + 1 + i)), ALL (waw s (2 ^ a ||| 2 ^ (a + 1 + i)))) else x
def BRID (s : SG) : Option Nat × Nat := it (fun a x => it (briS s a) x (g_m s - (a + 1))) (none, 0) (g_m s)
theorem bri_1 {s : SG} {a b x : Nat} {B : Option Nat} (hb : a + 1 ≤ b) (e : B.isSome = false) : briS s a (b - (a + 1)) (B, x) = (some (10 * a + b), ALL (waw s (2 ^ a ||| 2 ^ b))) := by
  unfold briS
  rw [show a + 1 + (b - (a + 1)) = b by omega, if_pos (Or.inl e)]
theorem bri_2 {s : SG} {a b x : Nat} {B : Option Nat} (hb : a + 1 ≤ b) (e : ALL (waw s (2 ^ a ||| 2 ^ b)) < x) : briS s a (b - (a + 1)) (B, x) = (some (10 * a + b), ALL (waw s (2 ^ a ||| 2 ^ b))) := by
  unfold briS
  rw [show a + 1 + (b - (a + 1)) = b by omega, if_pos (Or.inr e)]
theorem bri_0 {s : SG} {a b x : Nat} {B : Option Nat} (hb : a + 1 ≤ b) (e1 : B.isSome = true) (e2 : x ≤ ALL (waw s (2 ^ a ||| 2 ^ b))) : briS s a (b - (a + 1)) (B, x) = (B, x) := by
  unfold briS
  rw [show a + 1 + (b - (a + 1)) = b by omega, if_neg (fun q => q.elim (fun w => by rw [e1] at w; exact absurd w (by decide)) (fun w => by dsimp only at w; omega))]

set_option maxRecDepth 100000 in
set_option maxHeartbeats 4000000 in
theorem c_X4_twin (l : Launch) (D : va_G) (cI : ClassId) (x0 xm xp g0 s0 w0 y0 : Nat) (pd : Bool) (rs : Nat) (b0 b1 b2 b3 : Nat) (P Q : Nat) (mf : Nat → Nat) (M : Nat → Option Nat) (kn : Nat → Nat) (a0 a1 a2 a3 a4 a5 a6 : Nat) (n m sh : Nat) (ki op fa K G T : Nat → Nat) (hw : FW n m sh ki op fa K G T) (hB : ∀ z, kn z < 1024) (hM : ∀ z v, M z = some v → v < 7) : CT l yX4_twin cX4_twin 6 (some .int) { frames := 4, cells := 0, slots := 0, locals := 99 } D cI [.ref x0] [(x0, .inr (4, [.ref a0, .ref xm, .ref xp, .int (bz pd), .ref b0, .ref g0, .ref s0, .ref w0, .int (nI rs), .ref y0])), (a0, .inr (2, [.int (nI n), .int (nI m), .int (nI sh), .int (nI 0), .ref a1, .ref a2, .ref a3, .ref a4, .ref a5, .ref a6])), (a1, .inl (cI, 7, .inl (nIf ki))), (a2, .inl (cI, 7, .inl (nIf op))), (a3, .inl (cI, 7, .inl (nIf fa))), (a4, .inl (cI, 6, .inl (nIf K))), (a5, .inl (cI, 6, .inl (nIf G))), (a6, .inl (cI, 6, .inl (nIf T))), (b0, .inr (1, [.int (nI P), .int (nI Q), .ref b1, .ref b2, .ref b3])), (b1, .inl (cI, 6, .inl (nIf mf))), (b2, .inl (cI, 144, .inl (mIf M))), (b3, .inl (cI, 175, .inl (nIf kn)))] (fun zr zw => (∃ P1 : Nat, ∃ Q1 : Nat, ∃ mg : Nat → Nat, ∃ X : Nat → Nat, ∃ Y : Nat → Option Nat, (∀ z, X z < 1024) ∧ (∀ z v, Y z = some v → v < 7) ∧ zr = some (.int (mI ((TWIN (n, m, sh, 0, ki, op, fa, K, G, T)).1))) ∧ zw = [(x0, .inr (4, [.ref a0, .ref xm, .ref xp, .int (bz pd), .ref b0, .ref g0, .ref s0, .ref w0, .int (nI rs), .ref y0])), (a0, .inr (2, [.int (nI n), .int (nI m), .int (nI sh), .int (nI 0), .ref a1, .ref a2, .ref a3, .ref a4, .ref a5, .ref a6])), (a1, .inl (cI, 7, .inl (nIf ki))), (a2, .inl (cI, 7, .inl (nIf op))), (a3, .inl (cI, 7, .inl (nIf fa))), (a4, .inl (cI, 6, .inl (nIf K))), (a5, .inl (cI, 6, .inl (nIf G))), (a6, .inl (cI, 6, .inl (nIf T))), (b0, .inr (1, [.int (nI P1), .int (nI Q1), .ref b1, .ref b2, .ref b3])), (b1, .inl (cI, 6, .inl (nIf mg))), (b2, .inl (cI, 144, .inl (mIf Y))), (b3, .inl (cI, 175, .inl (nIf X)))])) := by
  refine CT_of RX4 rfl (by decide +kernel) (Nat.le_of_ble_eq_true rfl) (fun E hnE zC zT => ?_)
  have hA : ∀ q, (ev_s E).heap.size ≤ q → ev_A E q := fun q h => by rw [zT.2]; exact Or.inr h
  obtain ⟨hn, hm, hsh, hki, hop, hfa, hK, hG, hT, vki, vop, vfa, vK, vG, vT⟩ := id hw
  show VV E 0 0 0 [(0, .ref x0)] [] [(x0, .inr (4, [.ref a0, .ref xm, .ref xp, .int (bz pd), .ref b0, .ref g0, .ref s0, .ref w0, .int (nI rs), .ref y0])), (a0, .inr (2, [.int (nI n), .int (nI m), .int (nI sh), .int (nI 0), .ref a1, .ref a2, .ref a3, .ref a4, .ref a5, .ref a6])), (a1, .inl (cI, 7, .inl (nIf ki))), (a2, .inl (cI, 7, .inl (nIf op))), (a3, .inl (cI, 7, .inl (nIf fa))), (a4, .inl (cI, 6, .inl (nIf K))), (a5, .inl (cI, 6, .inl (nIf G))), (a6, .inl (cI, 6, .inl (nIf T))), (b0, .inr (1, [.int (nI P), .int (nI Q), .ref b1, .ref b2, .ref b3])), (b1, .inl (cI, 6, .inl (nIf mf))), (b2, .inl (cI, 144, .inl (mIf M))), (b3, .inl (cI, 175, .inl (nIf kn)))]
  refine v_al_n 1 zC dX4_twin_0 0 rfl ?_
  refine v_gf 4 0 zC dX4_twin_1 gf_X4_25 rfl rfl ?_
  refine v_al_n 5 zC dX4_twin_4 0 rfl ?_
  refine v_gf 8 0 zC dX4_twin_5 gf_X4_12 rfl rfl ?_
  refine v_cV (As := [.ref a0]) (st := []) 11 8 [8, 9, 10, 11, 1, 2, 3, 4, 5, 6, 7] zC dX4_twin_8 hA (c_X1_live (ev_l E) (ev_D E) cI (b0 := b0) (b1 := b1) (b2 := b2) (b3 := b3) (P := P) (Q := Q) (mf := mf) (M := M) (kn := kn) (a0 := a0) (a1 := a1) (a2 := a2) (a3 := a3) (a4 := a4) (a5 := a5) (a6 := a6) (n := n) (m := m) (sh := sh) (aw := 0) (ki := ki) (op := op) (fa := fa) (K := K) (G := G) (T := T) (hn := (by first | omega | assumption | rfl | (simp only []; omega) | decide)) (hm := (by first | omega | assumption | rfl | (simp only []; omega) | decide)) (hK := (by first | omega | assumption | rfl | (simp only []; omega) | decide)) (hG := (by first | omega | assumption | rfl | (simp only []; omega) | decide)) (hT := (by first | omega | assumption | rfl | (simp only []; omega) | decide)) (hA2 := (by first | omega | assumption | rfl | (simp only []; omega) | decide)) (hB := (by first | omega | assumption | rfl | (simp only []; omega) | decide)) (hM := (by first | omega | assumption | rfl | (simp only []; omega) | decide))) cf_X1_live lk_X4_158 rfl rfl rfl rfl rfl (by decide +kernel) (Nat.le_of_ble_eq_true rfl) (fun rv_1 wv_2 hp_3 hm_4 => ?_)
  clear hm_4
  obtain ⟨mg_5, X_6, Y_7, hD_8, rfl, rfl⟩ := hp_3
  show VV E 0 0 11 [(0, .ref x0)] [] [(x0, .inr (4, [.ref a0, .ref xm, .ref xp, .int (bz pd), .ref b0, .ref g0, .ref s0, .ref w0, .int (nI rs), .ref y0])), (a0, .inr (2, [.int (nI n), .int (nI m), .int (nI sh), .int (nI 0), .ref a1, .ref a2, .ref a3, .ref a4, .ref a5, .ref a6])), (a1, .inl (cI, 7, .inl (nIf ki))), (a2, .inl (cI, 7, .inl (nIf op))), (a3, .inl (cI, 7, .inl (nIf fa))), (a4, .inl (cI, 6, .inl (nIf K))), (a5, .inl (cI, 6, .inl (nIf G))), (a6, .inl (cI, 6, .inl (nIf T))), (b0, .inr (1, [.int (nI n), .int (nI m), .ref b1, .ref b2, .ref b3])), (b1, .inl (cI, 6, .inl (nIf mg_5))), (b2, .inl (cI, 144, .inl (mIf Y_7))), (b3, .inl (cI, 175, .inl (nIf X_6)))]
  have hD9 := hD_8
  refine v_bp (v := (-9)) 13 zC dX4_twin_11 (by decide +kernel) ?_
  refine v_is_n (lv2 := [(1, .int (-9)), (0, .ref x0)]) 14 zC dX4_twin_13 (by rw [hnE]; decide) rfl ?_
  refine v_ic (v := (nI 0)) 15 zC dX4_twin_14 (by decide +kernel) ?_
  refine v_is_n (lv2 := [(2, .int (nI 0)), (1, .int (-9)), (0, .ref x0)]) 16 zC dX4_twin_15 (by rw [hnE]; decide) rfl ?_
  refine v_ic (v := (nI 0)) 17 zC dX4_twin_16 (by decide +kernel) ?_
  refine v_is_n (lv2 := [(3, .int (nI 0)), (2, .int (nI 0)), (1, .int (-9)), (0, .ref x0)]) 18 zC dX4_twin_17 (by rw [hnE]; decide) rfl ?_
  have lp18 : ∀ (mz : Nat) (B : Option Nat) (x : Nat) (a : Nat), ((B, x) = it (fun a x => it (twiS (n, m, sh, 0, ki, op, fa, K, G, T) a) x (g_m (n, m, sh, 0, ki, op, fa, K, G, T) - (a + 1))) (none, 0) a) → (a ≤ m) → (x ≤ 24) → m - a = mz → VV E 0 0 18 [(3, .int (nI a)), (2, .int (nI x)), (1, .int (mI B)), (0, .ref x0)] [] [(x0, .inr (4, [.ref a0, .ref xm, .ref xp, .int (bz pd), .ref b0, .ref g0, .ref s0, .ref w0, .int (nI rs), .ref y0])), (a0, .inr (2, [.int (nI n), .int (nI m), .int (nI sh), .int (nI 0), .ref a1, .ref a2, .ref a3, .ref a4, .ref a5, .ref a6])), (a1, .inl (cI, 7, .inl (nIf ki))), (a2, .inl (cI, 7, .inl (nIf op))), (a3, .inl (cI, 7, .inl (nIf fa))), (a4, .inl (cI, 6, .inl (nIf K))), (a5, .inl (cI, 6, .inl (nIf G))), (a6, .inl (cI, 6, .inl (nIf T))), (b0, .inr (1, [.int (nI n), .int (nI m), .ref b1, .ref b2, .ref b3])), (b1, .inl (cI, 6, .inl (nIf mg_5))), (b2, .inl (cI, 144, .inl (mIf Y_7))), (b3, .inl (cI, 175, .inl (nIf X_6)))] := by
    intro mz
    induction mz using Nat.strongRecOn with
    | _ mz ih18 =>
    intro B x a hs ha hx hm18
    refine v_il_n 19 zC dX4_twin_18 0 rfl ?_
    refine v_al_n 20 zC dX4_twin_19 3 rfl ?_
    refine v_gf 23 0 zC dX4_twin_20 gf_X4_12 rfl rfl ?_
    refine v_gf 26 1 zC dX4_twin_23 gf_X4_121 rfl rfl ?_
    refine v_icmpn_ge 87 29 zC dX4_twin_26 (fun h_9 => ?_) (fun h_9 => ?_)
    ·
      refine v_il_n 88 zC dX4_twin_87 2 rfl ?_
      refine v_iret zC zT dX4_twin_88  ?_
      exact ⟨_, _, _, _, _, hD9.2.2.1, hD9.2.2.2, by have e9 : m = a := (by omega); subst e9; exact congrArg (fun z => some (Value.int (mI z.1))) hs, rfl⟩
    ·
      refine v_il_n 30 zC dX4_twin_29 0 rfl ?_
      refine v_ic (v := (nI 1)) 31 zC dX4_twin_30 (by decide +kernel) ?_
      refine v_iadd (v := (nI (a + 1))) 32 zC dX4_twin_31 (nI_add _ _) ?_
      refine v_is (lv2 := [(4, .int (nI (a + 1))), (3, .int (nI a)), (2, .int (nI x)), (1, .int (mI B)), (0, .ref x0)]) 34 zC dX4_twin_32 (by rw [hnE]; decide) rfl ?_
      have lp34 : ∀ (mz : Nat) (B2 : Option Nat) (x2 : Nat) (b : Nat), ((B2, x2) = it (twiS (n, m, sh, 0, ki, op, fa, K, G, T) a) (B, x) (b - (a + 1))) → (a + 1 ≤ b) → (b ≤ m) → (x2 ≤ 24) → m - b = mz → VV E 0 0 34 [(4, .int (nI b)), (3, .int (nI a)), (2, .int (nI x2)), (1, .int (mI B2)), (0, .ref x0)] [] [(x0, .inr (4, [.ref a0, .ref xm, .ref xp, .int (bz pd), .ref b0, .ref g0, .ref s0, .ref w0, .int (nI rs), .ref y0])), (a0, .inr (2, [.int (nI n), .int (nI m), .int (nI sh), .int (nI 0), .ref a1, .ref a2, .ref a3, .ref a4, .ref a5, .ref a6])), (a1, .inl (cI, 7, .inl (nIf ki))), (a2, .inl (cI, 7, .inl (nIf op))), (a3, .inl (cI, 7, .inl (nIf fa))), (a4, .inl (cI, 6, .inl (nIf K))), (a5, .inl (cI, 6, .inl (nIf G))), (a6, .inl (cI, 6, .inl (nIf T))), (b0, .inr (1, [.int (nI n), .int (nI m), .ref b1, .ref b2, .ref b3])), (b1, .inl (cI, 6, .inl (nIf mg_5))), (b2, .inl (cI, 144, .inl (mIf Y_7))), (b3, .inl (cI, 175, .inl (nIf X_6)))] := by
        intro mz
        induction mz using Nat.strongRecOn with
        | _ mz ih34 =>
        intro B2 x2 b hs2 hb1 hbm hx2 hm34
        refine v_il 36 zC dX4_twin_34 0 rfl ?_
        refine v_al_n 37 zC dX4_twin_36 4 rfl ?_
        refine v_gf 40 0 zC dX4_twin_37 gf_X4_12 rfl rfl ?_
        refine v_gf 43 1 zC dX4_twin_40 gf_X4_121 rfl rfl ?_
        refine v_icmpn_ge 81 46 zC dX4_twin_43 (fun h_10 => ?_) (fun h_10 => ?_)
        ·
          refine v_inc (v := (nI (a + 1))) (lv2 := [(3, .int (nI (a + 1))), (4, .int (nI b)), (2, .int (nI x2)), (1, .int (mI B2)), (0, .ref x0)]) 84 zC dX4_twin_81 (j := 1) rfl (nI_add _ 1) (by rw [hnE]; decide) rfl ?_
          refine v_goto 18 zC dX4_twin_84 ?_
          refine v_lvs (lv2 := [(3, .int (nI (a + 1))), (2, .int (nI x2)), (1, .int (mI B2)), (0, .ref x0)]) [0, 2, 3, 4] rfl ?_
          exact ih18 _ (by omega) B2 x2 (a + 1) (it_s hs (by show it (twiS (n, m, sh, 0, ki, op, fa, K, G, T) a) (B, x) (g_m (n, m, sh, 0, ki, op, fa, K, G, T) - (a + 1)) = _; rw [show g_m (n, m, sh, 0, ki, op, fa, K, G, T) = b from (by show m = b; omega)]; exact hs2.symm)) (by first | omega | assumption | rfl | (simp only []; omega) | decide) (by first | omega | assumption | rfl | (simp only []; omega) | decide) rfl
        ·
          refine v_al_n 47 zC dX4_twin_46 4 rfl ?_
          refine v_gf 50 0 zC dX4_twin_47 gf_X4_25 rfl rfl ?_
          refine v_il_n 51 zC dX4_twin_50 1 rfl ?_
          refine v_il 53 zC dX4_twin_51 0 rfl ?_
          refine v_cV (As := [.int (nI a), .int (nI b)]) (st := []) 56 8 [8, 10] zC dX4_twin_53 hA (c_X1_timesTogether (ev_l E) (ev_D E) cI (b0 := b0) (b1 := b1) (b2 := b2) (b3 := b3) (P := n) (Q := m) (M := Y_7) (a := a) (b := b) (hQ := (by first | omega | assumption | rfl | (simp only []; omega) | decide)) (ha := (by first | omega | assumption | rfl | (simp only []; omega) | decide)) (hb := (by first | omega | assumption | rfl | (simp only []; omega) | decide)) (hM := hD9.2.2.2)) cf_X1_timesTogether lk_X4_263 rfl rfl rfl rfl rfl (by decide +kernel) (Nat.le_of_ble_eq_true rfl) (fun rv_11 wv_12 hp_13 hm_14 => ?_)
          clear hm_14
          obtain ⟨rfl, rfl⟩ := hp_13
          show VV E 0 0 56 [(4, .int (nI b)), (3, .int (nI a)), (2, .int (nI x2)), (1, .int (mI B2)), (0, .ref x0)] [.int (nI (ctn (fun z => (Y_7 (z * 6 + a)).isSome && (Y_7 (z * 6 + b)).isSome) 24))] [(x0, .inr (4, [.ref a0, .ref xm, .ref xp, .int (bz pd), .ref b0, .ref g0, .ref s0, .ref w0, .int (nI rs), .ref y0])), (a0, .inr (2, [.int (nI n), .int (nI m), .int (nI sh), .int (nI 0), .ref a1, .ref a2, .ref a3, .ref a4, .ref a5, .ref a6])), (a1, .inl (cI, 7, .inl (nIf ki))), (a2, .inl (cI, 7, .inl (nIf op))), (a3, .inl (cI, 7, .inl (nIf fa))), (a4, .inl (cI, 6, .inl (nIf K))), (a5, .inl (cI, 6, .inl (nIf G))), (a6, .inl (cI, 6, .inl (nIf T))), (b0, .inr (1, [.int (nI n), .int (nI m), .ref b1, .ref b2, .ref b3])), (b1, .inl (cI, 6, .inl (nIf mg_5))), (b2, .inl (cI, 144, .inl (mIf Y_7))), (b3, .inl (cI, 175, .inl (nIf X_6)))]
          rw [dk_toge hD9 (by omega) (by omega)]
          have hc9 : TOGE (n, m, sh, 0, ki, op, fa, K, G, T) a b ≤ 24 := ctn_le _ _
          refine v_is (lv2 := [(5, .int (nI (TOGE (n, m, sh, 0, ki, op, fa, K, G, T) a b))), (4, .int (nI b)), (3, .int (nI a)), (2, .int (nI x2)), (1, .int (mI B2)), (0, .ref x0)]) 58 zC dX4_twin_56 (by rw [hnE]; decide) rfl ?_
          refine v_il 60 zC dX4_twin_58 0 rfl ?_
          refine v_il_n 61 zC dX4_twin_60 3 rfl ?_
          refine v_icmpn_le 75 64 zC dX4_twin_61 (fun h_15 => ?_) (fun h_15 => ?_)
          ·
            have hv9 := h_15
            refine v_inc (v := (nI (b + 1))) (lv2 := [(4, .int (nI (b + 1))), (5, .int (nI (TOGE (n, m, sh, 0, ki, op, fa, K, G, T) a b))), (3, .int (nI a)), (2, .int (nI x2)), (1, .int (mI B2)), (0, .ref x0)]) 78 zC dX4_twin_75 (j := 1) rfl (nI_add _ 1) (by rw [hnE]; decide) rfl ?_
            refine v_goto 34 zC dX4_twin_78 ?_
            refine v_lvs (lv2 := [(4, .int (nI (b + 1))), (3, .int (nI a)), (2, .int (nI x2)), (1, .int (mI B2)), (0, .ref x0)]) [0, 2, 3, 4, 5] rfl ?_
            exact ih34 _ (by omega) B2 x2 (b + 1) (it_r hs2 hb1 (by first | exact twi_1 hb1 hu9 | exact twi_0 hb1 hv9)) (by first | omega | assumption | rfl | (simp only []; omega) | decide) (by first | omega | assumption | rfl | (simp only []; omega) | decide) (by first | omega | assumption | rfl | (simp only []; omega) | decide) rfl
          ·
            have hu9 := h_15
            refine v_il 66 zC dX4_twin_64 0 rfl ?_
            refine v_is_n (lv2 := [(2, .int (nI (TOGE (n, m, sh, 0, ki, op, fa, K, G, T) a b))), (5, .int (nI (TOGE (n, m, sh, 0, ki, op, fa, K, G, T) a b))), (4, .int (nI b)), (3, .int (nI a)), (1, .int (mI B2)), (0, .ref x0)]) 67 zC dX4_twin_66 (by rw [hnE]; decide) rfl ?_
            refine v_bp (v := (nI 10)) 69 zC dX4_twin_67 (by decide +kernel) ?_
            refine v_il_n 70 zC dX4_twin_69 3 rfl ?_
            refine v_imul (v := (nI (10 * a))) 71 zC dX4_twin_70 (pk_mul _ _) ?_
            refine v_il 73 zC dX4_twin_71 2 rfl ?_
            refine v_iadd (v := (nI ((10 * a) + b))) 74 zC dX4_twin_73 (nI_add _ _) ?_
            refine v_is_n (lv2 := [(1, .int (nI ((10 * a) + b))), (2, .int (nI (TOGE (n, m, sh, 0, ki, op, fa, K, G, T) a b))), (5, .int (nI (TOGE (n, m, sh, 0, ki, op, fa, K, G, T) a b))), (4, .int (nI b)), (3, .int (nI a)), (0, .ref x0)]) 75 zC dX4_twin_74 (by rw [hnE]; decide) rfl ?_
            refine v_inc (v := (nI (b + 1))) (lv2 := [(4, .int (nI (b + 1))), (1, .int (nI ((10 * a) + b))), (2, .int (nI (TOGE (n, m, sh, 0, ki, op, fa, K, G, T) a b))), (5, .int (nI (TOGE (n, m, sh, 0, ki, op, fa, K, G, T) a b))), (3, .int (nI a)), (0, .ref x0)]) 78 zC dX4_twin_75 (j := 3) rfl (nI_add _ 1) (by rw [hnE]; decide) rfl ?_
            refine v_goto 34 zC dX4_twin_78 ?_
            refine v_lvs (lv2 := [(4, .int (nI (b + 1))), (3, .int (nI a)), (2, .int (nI (TOGE (n, m, sh, 0, ki, op, fa, K, G, T) a b))), (1, .int (mI (some ((10 * a) + b)))), (0, .ref x0)]) [0, 4, 2, 1, 5] rfl ?_
            exact ih34 _ (by omega) (some ((10 * a) + b)) (TOGE (n, m, sh, 0, ki, op, fa, K, G, T) a b) (b + 1) (it_r hs2 hb1 (by first | exact twi_1 hb1 hu9 | exact twi_0 hb1 hv9)) (by first | omega | assumption | rfl | (simp only []; omega) | decide) (by first | omega | assumption | rfl | (simp only []; omega) | decide) (by first | omega | assumption | rfl | (simp only []; omega) | decide) rfl
      refine v_lvs (lv2 := [(4, .int (nI (a + 1))), (3, .int (nI a)), (2, .int (nI x)), (1, .int (mI B)), (0, .ref x0)]) [0, 1, 2, 3, 4] rfl ?_
      exact lp34 _ B x (a + 1) it_z (by first | omega | assumption | rfl | (simp only []; omega) | decide) (by first | omega | assumption | rfl | (simp only []; omega) | decide) (by first | omega | assumption | rfl | (simp only []; omega) | decide) rfl
  refine v_lvs (lv2 := [(3, .int (nI 0)), (2, .int (nI 0)), (1, .int (mI none)), (0, .ref x0)]) [0, 1, 2, 3] rfl ?_
  exact lp18 _ none 0 0 (by first | omega | assumption | rfl | (simp only []; omega) | decide) (by first | omega | assumption | rfl | (simp only []; omega) | decide) (by first | omega | assumption | rfl | (simp only []; omega) | decide) rfl
set_option maxRecDepth 100000 in
set_option maxHeartbeats 4000000 in
theorem c_X4_synod (l : Launch) (D : va_G) (cI : ClassId) (x0 xm xp g0 s0 w0 y0 : Nat) (pd : Bool) (rs : Nat) (b0 b1 b2 b3 : Nat) (P Q : Nat) (mf : Nat → Nat) (M : Nat → Option Nat) (kn : Nat → Nat) (a0 a1 a2 a3 a4 a5 a6 : Nat) (n m sh : Nat) (ki op fa K G T : Nat → Nat) (hw : FW n m sh ki op fa K G T) (hB : ∀ z, kn z < 1024) (hM : ∀ z v, M z = some v → v < 7) : CT l yX4_synod cX4_synod 5 (some .int) { frames := 4, cells := 0, slots := 0, locals := 99 } D cI [.ref x0] [(x0, .inr (4, [.ref a0, .ref xm, .ref xp, .int (bz pd), .ref b0, .ref g0, .ref s0, .ref w0, .int (nI rs), .ref y0])), (a0, .inr (2, [.int (nI n), .int (nI m), .int (nI sh), .int (nI 0), .ref a1, .ref a2, .ref a3, .ref a4, .ref a5, .ref a6])), (a1, .inl (cI, 7, .inl (nIf ki))), (a2, .inl (cI, 7, .inl (nIf op))), (a3, .inl (cI, 7, .inl (nIf fa))), (a4, .inl (cI, 6, .inl (nIf K))), (a5, .inl (cI, 6, .inl (nIf G))), (a6, .inl (cI, 6, .inl (nIf T))), (b0, .inr (1, [.int (nI P), .int (nI Q), .ref b1, .ref b2, .ref b3])), (b1, .inl (cI, 6, .inl (nIf mf))), (b2, .inl (cI, 144, .inl (mIf M))), (b3, .inl (cI, 175, .inl (nIf kn)))] (fun zr zw => (∃ P1 : Nat, ∃ Q1 : Nat, ∃ mg : Nat → Nat, ∃ X : Nat → Nat, ∃ Y : Nat → Option Nat, (∀ z, X z < 1024) ∧ (∀ z v, Y z = some v → v < 7) ∧ zr = some (.int (nI (SYNO (n, m, sh, 0, ki, op, fa, K, G, T)))) ∧ zw = [(x0, .inr (4, [.ref a0, .ref xm, .ref xp, .int (bz pd), .ref b0, .ref g0, .ref s0, .ref w0, .int (nI rs), .ref y0])), (a0, .inr (2, [.int (nI n), .int (nI m), .int (nI sh), .int (nI 0), .ref a1, .ref a2, .ref a3, .ref a4, .ref a5, .ref a6])), (a1, .inl (cI, 7, .inl (nIf ki))), (a2, .inl (cI, 7, .inl (nIf op))), (a3, .inl (cI, 7, .inl (nIf fa))), (a4, .inl (cI, 6, .inl (nIf K))), (a5, .inl (cI, 6, .inl (nIf G))), (a6, .inl (cI, 6, .inl (nIf T))), (b0, .inr (1, [.int (nI P1), .int (nI Q1), .ref b1, .ref b2, .ref b3])), (b1, .inl (cI, 6, .inl (nIf mg))), (b2, .inl (cI, 144, .inl (mIf Y))), (b3, .inl (cI, 175, .inl (nIf X)))])) := by
  refine CT_of RX4 rfl (by decide +kernel) (Nat.le_of_ble_eq_true rfl) (fun E hnE zC zT => ?_)
  have hA : ∀ q, (ev_s E).heap.size ≤ q → ev_A E q := fun q h => by rw [zT.2]; exact Or.inr h
  obtain ⟨hn, hm, hsh, hki, hop, hfa, hK, hG, hT, vki, vop, vfa, vK, vG, vT⟩ := id hw
  have h2n : 2 ^ n ≤ 2 ^ 7 := Nat.pow_le_pow_right (by decide) hn
  have h2p : 0 < 2 ^ n := Nat.pow_pos (by decide)
  show VV E 0 0 0 [(0, .ref x0)] [] [(x0, .inr (4, [.ref a0, .ref xm, .ref xp, .int (bz pd), .ref b0, .ref g0, .ref s0, .ref w0, .int (nI rs), .ref y0])), (a0, .inr (2, [.int (nI n), .int (nI m), .int (nI sh), .int (nI 0), .ref a1, .ref a2, .ref a3, .ref a4, .ref a5, .ref a6])), (a1, .inl (cI, 7, .inl (nIf ki))), (a2, .inl (cI, 7, .inl (nIf op))), (a3, .inl (cI, 7, .inl (nIf fa))), (a4, .inl (cI, 6, .inl (nIf K))), (a5, .inl (cI, 6, .inl (nIf G))), (a6, .inl (cI, 6, .inl (nIf T))), (b0, .inr (1, [.int (nI P), .int (nI Q), .ref b1, .ref b2, .ref b3])), (b1, .inl (cI, 6, .inl (nIf mf))), (b2, .inl (cI, 144, .inl (mIf M))), (b3, .inl (cI, 175, .inl (nIf kn)))]
  refine v_al_n 1 zC dX4_synod_0 0 rfl ?_
  refine v_gf 4 0 zC dX4_synod_1 gf_X4_25 rfl rfl ?_
  refine v_al_n 5 zC dX4_synod_4 0 rfl ?_
  refine v_gf 8 0 zC dX4_synod_5 gf_X4_12 rfl rfl ?_
  refine v_cV (As := [.ref a0]) (st := []) 11 8 [8, 9, 10, 11, 1, 2, 3, 4, 5, 6, 7] zC dX4_synod_8 hA (c_X1_live (ev_l E) (ev_D E) cI (b0 := b0) (b1 := b1) (b2 := b2) (b3 := b3) (P := P) (Q := Q) (mf := mf) (M := M) (kn := kn) (a0 := a0) (a1 := a1) (a2 := a2) (a3 := a3) (a4 := a4) (a5 := a5) (a6 := a6) (n := n) (m := m) (sh := sh) (aw := 0) (ki := ki) (op := op) (fa := fa) (K := K) (G := G) (T := T) (hn := (by first | omega | assumption | rfl | (simp only []; omega) | decide)) (hm := (by first | omega | assumption | rfl | (simp only []; omega) | decide)) (hK := (by first | omega | assumption | rfl | (simp only []; omega) | decide)) (hG := (by first | omega | assumption | rfl | (simp only []; omega) | decide)) (hT := (by first | omega | assumption | rfl | (simp only []; omega) | decide)) (hA2 := (by first | omega | assumption | rfl | (simp only []; omega) | decide)) (hB := (by first | omega | assumption | rfl | (simp only []; omega) | decide)) (hM := (by first | omega | assumption | rfl | (simp only []; omega) | decide))) cf_X1_live lk_X4_158 rfl rfl rfl rfl rfl (by decide +kernel) (Nat.le_of_ble_eq_true rfl) (fun rv_1 wv_2 hp_3 hm_4 => ?_)
  clear hm_4
  obtain ⟨mg_5, X_6, Y_7, hD_8, rfl, rfl⟩ := hp_3
  show VV E 0 0 11 [(0, .ref x0)] [] [(x0, .inr (4, [.ref a0, .ref xm, .ref xp, .int (bz pd), .ref b0, .ref g0, .ref s0, .ref w0, .int (nI rs), .ref y0])), (a0, .inr (2, [.int (nI n), .int (nI m), .int (nI sh), .int (nI 0), .ref a1, .ref a2, .ref a3, .ref a4, .ref a5, .ref a6])), (a1, .inl (cI, 7, .inl (nIf ki))), (a2, .inl (cI, 7, .inl (nIf op))), (a3, .inl (cI, 7, .inl (nIf fa))), (a4, .inl (cI, 6, .inl (nIf K))), (a5, .inl (cI, 6, .inl (nIf G))), (a6, .inl (cI, 6, .inl (nIf T))), (b0, .inr (1, [.int (nI n), .int (nI m), .ref b1, .ref b2, .ref b3])), (b1, .inl (cI, 6, .inl (nIf mg_5))), (b2, .inl (cI, 144, .inl (mIf Y_7))), (b3, .inl (cI, 175, .inl (nIf X_6)))]
  have hD9 := hD_8
  refine v_ic (v := (nI 1)) 12 zC dX4_synod_11 (by decide +kernel) ?_
  refine v_al_n 13 zC dX4_synod_12 0 rfl ?_
  refine v_gf 16 0 zC dX4_synod_13 gf_X4_12 rfl rfl ?_
  refine v_gf 19 1 zC dX4_synod_16 gf_X4_114 rfl rfl ?_
  refine v_ishl (v := (nI (2 ^ n))) 20 zC dX4_synod_19 (b1n (by omega)) ?_
  refine v_ic (v := (nI 1)) 21 zC dX4_synod_20 (by decide +kernel) ?_
  refine v_isub (v := (nI ((2 ^ n) - 1))) 22 zC dX4_synod_21 (pk_sub (by first | omega | exact Nat.one_le_two_pow)) ?_
  refine v_is_n (lv2 := [(1, .int (nI ((2 ^ n) - 1))), (0, .ref x0)]) 23 zC dX4_synod_22 (by rw [hnE]; decide) rfl ?_
  refine v_al_n 24 zC dX4_synod_23 1 rfl ?_
  refine v_gf 27 0 zC dX4_synod_24 gf_X4_25 rfl rfl ?_
  refine v_il_n 28 zC dX4_synod_27 0 rfl ?_
  refine v_cV (As := [.int (nI ((2 ^ n) - 1))]) (st := []) 31 8 [8, 11] zC dX4_synod_28 hA (c_X1_knownTogether (ev_l E) (ev_D E) cI (b0 := b0) (b1 := b1) (b2 := b2) (b3 := b3) (P := n) (Q := m) (kn := X_6) (s := ((2 ^ n) - 1)) (hP := (by first | omega | assumption | rfl | (simp only []; omega) | decide)) (hs := (show 2 ^ n - 1 < 128 by omega))) cf_X1_knownTogether lk_X4_266 rfl rfl rfl rfl rfl (by decide +kernel) (Nat.le_of_ble_eq_true rfl) (fun rv_9 wv_10 hp_11 hm_12 => ?_)
  clear hm_12
  obtain ⟨rfl, rfl⟩ := hp_11
  show VV E 0 0 31 [(1, .int (nI ((2 ^ n) - 1))), (0, .ref x0)] [.int (nI (orn (fun p => if Nat.testBit ((2 ^ n) - 1) p = true then X_6 (24 * 7 + p) else 0) n))] [(x0, .inr (4, [.ref a0, .ref xm, .ref xp, .int (bz pd), .ref b0, .ref g0, .ref s0, .ref w0, .int (nI rs), .ref y0])), (a0, .inr (2, [.int (nI n), .int (nI m), .int (nI sh), .int (nI 0), .ref a1, .ref a2, .ref a3, .ref a4, .ref a5, .ref a6])), (a1, .inl (cI, 7, .inl (nIf ki))), (a2, .inl (cI, 7, .inl (nIf op))), (a3, .inl (cI, 7, .inl (nIf fa))), (a4, .inl (cI, 6, .inl (nIf K))), (a5, .inl (cI, 6, .inl (nIf G))), (a6, .inl (cI, 6, .inl (nIf T))), (b0, .inr (1, [.int (nI n), .int (nI m), .ref b1, .ref b2, .ref b3])), (b1, .inl (cI, 6, .inl (nIf mg_5))), (b2, .inl (cI, 144, .inl (mIf Y_7))), (b3, .inl (cI, 175, .inl (nIf X_6)))]
  rw [dk_kto hD9 hn]
  have hk9a : KTO (n, m, sh, 0, ki, op, fa, K, G, T) (2 ^ n - 1) < 1024 := kto_lt hD9 hn
  refine v_is_n (lv2 := [(2, .int (nI (KTO (n, m, sh, 0, ki, op, fa, K, G, T) (2 ^ n - 1)))), (1, .int (nI ((2 ^ n) - 1))), (0, .ref x0)]) 32 zC dX4_synod_31 (by rw [hnE]; decide) rfl ?_
  refine v_il_n 33 zC dX4_synod_32 1 rfl ?_
  refine v_is_n (lv2 := [(3, .int (nI ((2 ^ n) - 1))), (2, .int (nI (KTO (n, m, sh, 0, ki, op, fa, K, G, T) (2 ^ n - 1)))), (1, .int (nI ((2 ^ n) - 1))), (0, .ref x0)]) 34 zC dX4_synod_33 (by rw [hnE]; decide) rfl ?_
  refine v_ic (v := (nI 0)) 35 zC dX4_synod_34 (by decide +kernel) ?_
  refine v_is (lv2 := [(4, .int (nI 0)), (3, .int (nI ((2 ^ n) - 1))), (2, .int (nI (KTO (n, m, sh, 0, ki, op, fa, K, G, T) (2 ^ n - 1)))), (1, .int (nI ((2 ^ n) - 1))), (0, .ref x0)]) 37 zC dX4_synod_35 (by rw [hnE]; decide) rfl ?_
  have lp37 : ∀ (mz : Nat) (b : Nat) (t : Nat), (b = it (synS (n, m, sh, 0, ki, op, fa, K, G, T)) (2 ^ n - 1) t) → (t ≤ 2 ^ n - 1) → (b ≤ 2 ^ n - 1) → 2 ^ n - 1 - t = mz → VV E 0 0 37 [(4, .int (nI t)), (3, .int (nI b)), (2, .int (nI (KTO (n, m, sh, 0, ki, op, fa, K, G, T) (2 ^ n - 1)))), (1, .int (nI ((2 ^ n) - 1))), (0, .ref x0)] [] [(x0, .inr (4, [.ref a0, .ref xm, .ref xp, .int (bz pd), .ref b0, .ref g0, .ref s0, .ref w0, .int (nI rs), .ref y0])), (a0, .inr (2, [.int (nI n), .int (nI m), .int (nI sh), .int (nI 0), .ref a1, .ref a2, .ref a3, .ref a4, .ref a5, .ref a6])), (a1, .inl (cI, 7, .inl (nIf ki))), (a2, .inl (cI, 7, .inl (nIf op))), (a3, .inl (cI, 7, .inl (nIf fa))), (a4, .inl (cI, 6, .inl (nIf K))), (a5, .inl (cI, 6, .inl (nIf G))), (a6, .inl (cI, 6, .inl (nIf T))), (b0, .inr (1, [.int (nI n), .int (nI m), .ref b1, .ref b2, .ref b3])), (b1, .inl (cI, 6, .inl (nIf mg_5))), (b2, .inl (cI, 144, .inl (mIf Y_7))), (b3, .inl (cI, 175, .inl (nIf X_6)))] := by
    intro mz
    induction mz using Nat.strongRecOn with
    | _ mz ih37 =>
    intro b t hs ht hb hm37
    refine v_il 39 zC dX4_synod_37 0 rfl ?_
    refine v_il_n 40 zC dX4_synod_39 3 rfl ?_
    refine v_icmpn_ge 74 43 zC dX4_synod_40 (fun h_13 => ?_) (fun h_13 => ?_)
    ·
      refine v_il_n 75 zC dX4_synod_74 1 rfl ?_
      refine v_iret zC zT dX4_synod_75  ?_
      exact ⟨_, _, _, _, _, hD9.2.2.1, hD9.2.2.2, sn (by unfold SYNO; rw [show 2 ^ g_n (n, m, sh, 0, ki, op, fa, K, G, T) - 1 = 2 ^ n - 1 from rfl]; rw [hs]; rw [show t = 2 ^ n - 1 by omega]), rfl⟩
    ·
      refine v_il 45 zC dX4_synod_43 0 rfl ?_
      refine v_il_n 46 zC dX4_synod_45 1 rfl ?_
      refine v_cS (As := [.int (nI t), .int (nI b)]) (st := []) 49 [] zC dX4_synod_46 hA (c_X4_fewer (ev_l E) (ev_D E) cI (s := t) (B := (some b)) (hs := (by first | omega | assumption | rfl | (simp only []; omega) | decide)) (hb := (fun v e => by cases e; omega))) cf_X4_fewer lk_X4_208 rfl rfl rfl (by decide +kernel) (Nat.le_of_ble_eq_true rfl) (fun rv_14 wv_15 hp_16 hm_17 => ?_)
      clear hm_17
      obtain ⟨rfl, rfl⟩ := hp_16
      show VV E 0 0 49 [(4, .int (nI t)), (3, .int (nI b)), (2, .int (nI (KTO (n, m, sh, 0, ki, op, fa, K, G, T) (2 ^ n - 1)))), (1, .int (nI ((2 ^ n) - 1))), (0, .ref x0)] [.int (bz (FEW t (some b)))] [(x0, .inr (4, [.ref a0, .ref xm, .ref xp, .int (bz pd), .ref b0, .ref g0, .ref s0, .ref w0, .int (nI rs), .ref y0])), (a0, .inr (2, [.int (nI n), .int (nI m), .int (nI sh), .int (nI 0), .ref a1, .ref a2, .ref a3, .ref a4, .ref a5, .ref a6])), (a1, .inl (cI, 7, .inl (nIf ki))), (a2, .inl (cI, 7, .inl (nIf op))), (a3, .inl (cI, 7, .inl (nIf fa))), (a4, .inl (cI, 6, .inl (nIf K))), (a5, .inl (cI, 6, .inl (nIf G))), (a6, .inl (cI, 6, .inl (nIf T))), (b0, .inr (1, [.int (nI n), .int (nI m), .ref b1, .ref b2, .ref b3])), (b1, .inl (cI, 6, .inl (nIf mg_5))), (b2, .inl (cI, 144, .inl (mIf Y_7))), (b3, .inl (cI, 175, .inl (nIf X_6)))]
      refine v_ifb_eq 68 52 zC dX4_synod_49 (fun h_18 => ?_) (fun h_18 => ?_)
      ·
        have hv9 := h_18
        refine v_inc (v := (nI (t + 1))) (lv2 := [(4, .int (nI (t + 1))), (3, .int (nI b)), (2, .int (nI (KTO (n, m, sh, 0, ki, op, fa, K, G, T) (2 ^ n - 1)))), (1, .int (nI ((2 ^ n) - 1))), (0, .ref x0)]) 71 zC dX4_synod_68 (j := 0) rfl (nI_add _ 1) (by rw [hnE]; decide) rfl ?_
        refine v_goto 37 zC dX4_synod_71 ?_
        refine v_lvs (lv2 := [(4, .int (nI (t + 1))), (3, .int (nI b)), (2, .int (nI (KTO (n, m, sh, 0, ki, op, fa, K, G, T) (2 ^ n - 1)))), (1, .int (nI ((2 ^ n) - 1))), (0, .ref x0)]) [0, 1, 2, 3, 4] rfl ?_
        exact ih37 _ (by omega) b (t + 1) (it_s hs (by first | exact syn_1 hu9 hx9 | exact syn_2 hv9 | exact syn_3 hw9)) (by first | omega | assumption | rfl | (simp only []; omega) | decide) (by first | omega | assumption | rfl | (simp only []; omega) | decide) rfl
      ·
        have hu9 := h_18
        refine v_al_n 53 zC dX4_synod_52 4 rfl ?_
        refine v_gf 56 0 zC dX4_synod_53 gf_X4_25 rfl rfl ?_
        refine v_il 58 zC dX4_synod_56 0 rfl ?_
        refine v_cV (As := [.int (nI t)]) (st := []) 61 8 [8, 11] zC dX4_synod_58 hA (c_X1_knownTogether (ev_l E) (ev_D E) cI (b0 := b0) (b1 := b1) (b2 := b2) (b3 := b3) (P := n) (Q := m) (kn := X_6) (s := t) (hP := (by first | omega | assumption | rfl | (simp only []; omega) | decide)) (hs := (show t < 128 by omega))) cf_X1_knownTogether lk_X4_266 rfl rfl rfl rfl rfl (by decide +kernel) (Nat.le_of_ble_eq_true rfl) (fun rv_19 wv_20 hp_21 hm_22 => ?_)
        clear hm_22
        obtain ⟨rfl, rfl⟩ := hp_21
        show VV E 0 0 61 [(4, .int (nI t)), (3, .int (nI b)), (2, .int (nI (KTO (n, m, sh, 0, ki, op, fa, K, G, T) (2 ^ n - 1)))), (1, .int (nI ((2 ^ n) - 1))), (0, .ref x0)] [.int (nI (orn (fun p => if Nat.testBit t p = true then X_6 (24 * 7 + p) else 0) n))] [(x0, .inr (4, [.ref a0, .ref xm, .ref xp, .int (bz pd), .ref b0, .ref g0, .ref s0, .ref w0, .int (nI rs), .ref y0])), (a0, .inr (2, [.int (nI n), .int (nI m), .int (nI sh), .int (nI 0), .ref a1, .ref a2, .ref a3, .ref a4, .ref a5, .ref a6])), (a1, .inl (cI, 7, .inl (nIf ki))), (a2, .inl (cI, 7, .inl (nIf op))), (a3, .inl (cI, 7, .inl (nIf fa))), (a4, .inl (cI, 6, .inl (nIf K))), (a5, .inl (cI, 6, .inl (nIf G))), (a6, .inl (cI, 6, .inl (nIf T))), (b0, .inr (1, [.int (nI n), .int (nI m), .ref b1, .ref b2, .ref b3])), (b1, .inl (cI, 6, .inl (nIf mg_5))), (b2, .inl (cI, 144, .inl (mIf Y_7))), (b3, .inl (cI, 175, .inl (nIf X_6)))]
        rw [dk_kto hD9 hn]
        have hk9 : KTO (n, m, sh, 0, ki, op, fa, K, G, T) t < 1024 := kto_lt hD9 hn
        refine v_il_n 62 zC dX4_synod_61 2 rfl ?_
        refine v_icmpn_ne 68 65 zC dX4_synod_62 (fun h_23 => ?_) (fun h_23 => ?_)
        ·
          have hw9 := h_23
          refine v_inc (v := (nI (t + 1))) (lv2 := [(4, .int (nI (t + 1))), (3, .int (nI b)), (2, .int (nI (KTO (n, m, sh, 0, ki, op, fa, K, G, T) (2 ^ n - 1)))), (1, .int (nI ((2 ^ n) - 1))), (0, .ref x0)]) 71 zC dX4_synod_68 (j := 0) rfl (nI_add _ 1) (by rw [hnE]; decide) rfl ?_
          refine v_goto 37 zC dX4_synod_71 ?_
          refine v_lvs (lv2 := [(4, .int (nI (t + 1))), (3, .int (nI b)), (2, .int (nI (KTO (n, m, sh, 0, ki, op, fa, K, G, T) (2 ^ n - 1)))), (1, .int (nI ((2 ^ n) - 1))), (0, .ref x0)]) [0, 1, 2, 3, 4] rfl ?_
          exact ih37 _ (by omega) b (t + 1) (it_s hs (by first | exact syn_1 hu9 hx9 | exact syn_2 hv9 | exact syn_3 hw9)) (by first | omega | assumption | rfl | (simp only []; omega) | decide) (by first | omega | assumption | rfl | (simp only []; omega) | decide) rfl
        ·
          have hx9 := h_23
          refine v_il 67 zC dX4_synod_65 0 rfl ?_
          refine v_is_n (lv2 := [(3, .int (nI t)), (4, .int (nI t)), (2, .int (nI (KTO (n, m, sh, 0, ki, op, fa, K, G, T) (2 ^ n - 1)))), (1, .int (nI ((2 ^ n) - 1))), (0, .ref x0)]) 68 zC dX4_synod_67 (by rw [hnE]; decide) rfl ?_
          refine v_inc (v := (nI (t + 1))) (lv2 := [(4, .int (nI (t + 1))), (3, .int (nI t)), (2, .int (nI (KTO (n, m, sh, 0, ki, op, fa, K, G, T) (2 ^ n - 1)))), (1, .int (nI ((2 ^ n) - 1))), (0, .ref x0)]) 71 zC dX4_synod_68 (j := 1) rfl (nI_add _ 1) (by rw [hnE]; decide) rfl ?_
          refine v_goto 37 zC dX4_synod_71 ?_
          refine v_lvs (lv2 := [(4, .int (nI (t + 1))), (3, .int (nI t)), (2, .int (nI (KTO (n, m, sh, 0, ki, op, fa, K, G, T) (2 ^ n - 1)))), (1, .int (nI ((2 ^ n) - 1))), (0, .ref x0)]) [0, 1, 2, 3, 4] rfl ?_
          exact ih37 _ (by omega) t (t + 1) (it_s hs (by first | exact syn_1 hu9 hx9 | exact syn_2 hv9 | exact syn_3 hw9)) (by first | omega | assumption | rfl | (simp only []; omega) | decide) (by first | omega | assumption | rfl | (simp only []; omega) | decide) rfl
  refine v_lvs (lv2 := [(4, .int (nI 0)), (3, .int (nI ((2 ^ n) - 1))), (2, .int (nI (KTO (n, m, sh, 0, ki, op, fa, K, G, T) (2 ^ n - 1)))), (1, .int (nI ((2 ^ n) - 1))), (0, .ref x0)]) [0, 1, 2, 3, 4] rfl ?_
  exact lp37 _ ((2 ^ n) - 1) 0 (by first | omega | assumption | rfl | (simp only []; omega) | decide) (Nat.zero_le _) (Nat.le_refl _) rfl
set_option maxRecDepth 100000 in
set_option maxHeartbeats 4000000 in
theorem c_X4_bridge (l : Launch) (D : va_G) (cI : ClassId) (x0 xp g0 s0 w0 y0 : Nat) (pd : Bool) (rs : Nat) (b0 b1 b2 b3 : Nat) (P Q : Nat) (mf : Nat → Nat) (M : Nat → Option Nat) (kn : Nat → Nat) (a0 a1 a2 a3 a4 a5 a6 : Nat) (n m sh : Nat) (ki op fa K G T : Nat → Nat) (c0 c1 c2 c3 c4 c5 c6 : Nat) (n1 m1 sh1 aw1 : Nat) (ki1 op1 fa1 K1 G1 T1 : Nat → Nat) (hw : FW n m sh ki op fa K G T) (hw1 : FW n1 m1 sh1 ki1 op1 fa1 K1 G1 T1) (hB : ∀ z, kn z < 1024) (hM : ∀ z v, M z = some v → v < 7)  : CT l yX4_bridge cX4_bridge 6 (some .int) { frames := 5, cells := 0, slots := 0, locals := 120 } D cI [.ref x0] [(x0, .inr (4, [.ref a0, .ref c0, .ref xp, .int (bz pd), .ref b0, .ref g0, .ref s0, .ref w0, .int (nI rs), .ref y0])), (a0, .inr (2, [.int (nI n), .int (nI m), .int (nI sh), .int (nI 0), .ref a1, .ref a2, .ref a3, .ref a4, .ref a5, .ref a6])), (a1, .inl (cI, 7, .inl (nIf ki))), (a2, .inl (cI, 7, .inl (nIf op))), (a3, .inl (cI, 7, .inl (nIf fa))), (a4, .inl (cI, 6, .inl (nIf K))), (a5, .inl (cI, 6, .inl (nIf G))), (a6, .inl (cI, 6, .inl (nIf T))), (c0, .inr (2, [.int (nI n1), .int (nI m1), .int (nI sh1), .int (nI aw1), .ref c1, .ref c2, .ref c3, .ref c4, .ref c5, .ref c6])), (c1, .inl (cI, 7, .inl (nIf ki1))), (c2, .inl (cI, 7, .inl (nIf op1))), (c3, .inl (cI, 7, .inl (nIf fa1))), (c4, .inl (cI, 6, .inl (nIf K1))), (c5, .inl (cI, 6, .inl (nIf G1))), (c6, .inl (cI, 6, .inl (nIf T1))), (b0, .inr (1, [.int (nI P), .int (nI Q), .ref b1, .ref b2, .ref b3])), (b1, .inl (cI, 6, .inl (nIf mf))), (b2, .inl (cI, 144, .inl (mIf M))), (b3, .inl (cI, 175, .inl (nIf kn)))] (fun zr zw => (∃ P1 : Nat, ∃ Q1 : Nat, ∃ mg : Nat → Nat, ∃ X : Nat → Nat, ∃ Y : Nat → Option Nat, ∃ n3 : Nat, ∃ m3 : Nat, ∃ s3 : Nat, ∃ w3 : Nat, ∃ ki3 : Nat → Nat, ∃ op3 : Nat → Nat, ∃ fa3 : Nat → Nat, ∃ K3 : Nat → Nat, ∃ G3 : Nat → Nat, ∃ T3 : Nat → Nat, (FW n3 m3 s3 ki3 op3 fa3 K3 G3 T3) ∧ (∀ z, X z < 1024) ∧ (∀ z v, Y z = some v → v < 7) ∧ zr = some (.int (mI ((BRID (n, m, sh, 0, ki, op, fa, K, G, T)).1))) ∧ zw = [(x0, .inr (4, [.ref a0, .ref c0, .ref xp, .int (bz pd), .ref b0, .ref g0, .ref s0, .ref w0, .int (nI rs), .ref y0])), (a0, .inr (2, [.int (nI n), .int (nI m), .int (nI sh), .int (nI 0), .ref a1, .ref a2, .ref a3, .ref a4, .ref a5, .ref a6])), (a1, .inl (cI, 7, .inl (nIf ki))), (a2, .inl (cI, 7, .inl (nIf op))), (a3, .inl (cI, 7, .inl (nIf fa))), (a4, .inl (cI, 6, .inl (nIf K))), (a5, .inl (cI, 6, .inl (nIf G))), (a6, .inl (cI, 6, .inl (nIf T))), (c0, .inr (2, [.int (nI n3), .int (nI m3), .int (nI s3), .int (nI w3), .ref c1, .ref c2, .ref c3, .ref c4, .ref c5, .ref c6])), (c1, .inl (cI, 7, .inl (nIf ki3))), (c2, .inl (cI, 7, .inl (nIf op3))), (c3, .inl (cI, 7, .inl (nIf fa3))), (c4, .inl (cI, 6, .inl (nIf K3))), (c5, .inl (cI, 6, .inl (nIf G3))), (c6, .inl (cI, 6, .inl (nIf T3))), (b0, .inr (1, [.int (nI P1), .int (nI Q1), .ref b1, .ref b2, .ref b3])), (b1, .inl (cI, 6, .inl (nIf mg))), (b2, .inl (cI, 144, .inl (mIf Y))), (b3, .inl (cI, 175, .inl (nIf X)))])) := by
  refine CT_of RX4 rfl (by decide +kernel) (Nat.le_of_ble_eq_true rfl) (fun E hnE zC zT => ?_)
  have hA : ∀ q, (ev_s E).heap.size ≤ q → ev_A E q := fun q h => by rw [zT.2]; exact Or.inr h
  obtain ⟨hn, hm, hsh, hki, hop, hfa, hK, hG, hT, vki, vop, vfa, vK, vG, vT⟩ := id hw
  have h2n : 2 ^ n ≤ 2 ^ 7 := Nat.pow_le_pow_right (by decide) hn
  show VV E 0 0 0 [(0, .ref x0)] [] [(x0, .inr (4, [.ref a0, .ref c0, .ref xp, .int (bz pd), .ref b0, .ref g0, .ref s0, .ref w0, .int (nI rs), .ref y0])), (a0, .inr (2, [.int (nI n), .int (nI m), .int (nI sh), .int (nI 0), .ref a1, .ref a2, .ref a3, .ref a4, .ref a5, .ref a6])), (a1, .inl (cI, 7, .inl (nIf ki))), (a2, .inl (cI, 7, .inl (nIf op))), (a3, .inl (cI, 7, .inl (nIf fa))), (a4, .inl (cI, 6, .inl (nIf K))), (a5, .inl (cI, 6, .inl (nIf G))), (a6, .inl (cI, 6, .inl (nIf T))), (c0, .inr (2, [.int (nI n1), .int (nI m1), .int (nI sh1), .int (nI aw1), .ref c1, .ref c2, .ref c3, .ref c4, .ref c5, .ref c6])), (c1, .inl (cI, 7, .inl (nIf ki1))), (c2, .inl (cI, 7, .inl (nIf op1))), (c3, .inl (cI, 7, .inl (nIf fa1))), (c4, .inl (cI, 6, .inl (nIf K1))), (c5, .inl (cI, 6, .inl (nIf G1))), (c6, .inl (cI, 6, .inl (nIf T1))), (b0, .inr (1, [.int (nI P), .int (nI Q), .ref b1, .ref b2, .ref b3])), (b1, .inl (cI, 6, .inl (nIf mf))), (b2, .inl (cI, 144, .inl (mIf M))), (b3, .inl (cI, 175, .inl (nIf kn)))]
  refine v_al_n 1 zC dX4_bridge_0 0 rfl ?_
  refine v_gf 4 0 zC dX4_bridge_1 gf_X4_16 rfl rfl ?_
  refine v_al_n 5 zC dX4_bridge_4 0 rfl ?_
  refine v_gf 8 0 zC dX4_bridge_5 gf_X4_12 rfl rfl ?_
  refine v_cV (As := [.ref a0]) (st := []) 11 8 [8, 9, 10, 11, 12, 13, 14, 1, 2, 3, 4, 5, 6, 7] zC dX4_bridge_8 hA (c_X2_become (ev_l E) (ev_D E) cI (a0 := a0) (a1 := a1) (a2 := a2) (a3 := a3) (a4 := a4) (a5 := a5) (a6 := a6) (n := n) (m := m) (sh := sh) (aw := 0) (ki := ki) (op := op) (fa := fa) (K := K) (G := G) (T := T) (c0 := c0) (c1 := c1) (c2 := c2) (c3 := c3) (c4 := c4) (c5 := c5) (c6 := c6) (n1 := n1) (m1 := m1) (sh1 := sh1) (aw1 := aw1) (ki1 := ki1) (op1 := op1) (fa1 := fa1) (K1 := K1) (G1 := G1) (T1 := T1) (hw := hw) (hw1 := hw1)) cf_X2_become lk_X4_65 rfl rfl rfl rfl rfl (by decide +kernel) (Nat.le_of_ble_eq_true rfl) (fun rv_1 wv_2 hp_3 hm_4 => ?_)
  clear hm_4
  obtain ⟨rfl, rfl⟩ := hp_3
  show VV E 0 0 11 [(0, .ref x0)] [] [(x0, .inr (4, [.ref a0, .ref c0, .ref xp, .int (bz pd), .ref b0, .ref g0, .ref s0, .ref w0, .int (nI rs), .ref y0])), (a0, .inr (2, [.int (nI n), .int (nI m), .int (nI sh), .int (nI 0), .ref a1, .ref a2, .ref a3, .ref a4, .ref a5, .ref a6])), (a1, .inl (cI, 7, .inl (nIf ki))), (a2, .inl (cI, 7, .inl (nIf op))), (a3, .inl (cI, 7, .inl (nIf fa))), (a4, .inl (cI, 6, .inl (nIf K))), (a5, .inl (cI, 6, .inl (nIf G))), (a6, .inl (cI, 6, .inl (nIf T))), (c0, .inr (2, [.int (nI n), .int (nI m), .int (nI sh), .int (nI 0), .ref c1, .ref c2, .ref c3, .ref c4, .ref c5, .ref c6])), (c1, .inl (cI, 7, .inl (nIf ki))), (c2, .inl (cI, 7, .inl (nIf op))), (c3, .inl (cI, 7, .inl (nIf fa))), (c4, .inl (cI, 6, .inl (nIf K))), (c5, .inl (cI, 6, .inl (nIf G))), (c6, .inl (cI, 6, .inl (nIf T))), (b0, .inr (1, [.int (nI P), .int (nI Q), .ref b1, .ref b2, .ref b3])), (b1, .inl (cI, 6, .inl (nIf mf))), (b2, .inl (cI, 144, .inl (mIf M))), (b3, .inl (cI, 175, .inl (nIf kn)))]
  refine v_bp (v := (-9)) 13 zC dX4_bridge_11 (by decide +kernel) ?_
  refine v_is_n (lv2 := [(1, .int (-9)), (0, .ref x0)]) 14 zC dX4_bridge_13 (by rw [hnE]; decide) rfl ?_
  refine v_ic (v := (nI 0)) 15 zC dX4_bridge_14 (by decide +kernel) ?_
  refine v_is_n (lv2 := [(2, .int (nI 0)), (1, .int (-9)), (0, .ref x0)]) 16 zC dX4_bridge_15 (by rw [hnE]; decide) rfl ?_
  refine v_ic (v := (nI 0)) 17 zC dX4_bridge_16 (by decide +kernel) ?_
  refine v_is_n (lv2 := [(3, .int (nI 0)), (2, .int (nI 0)), (1, .int (-9)), (0, .ref x0)]) 18 zC dX4_bridge_17 (by rw [hnE]; decide) rfl ?_
  have lp18 : ∀ (mz : Nat) (P2 : Nat) (Q2 : Nat) (mg : Nat → Nat) (Y : Nat → Option Nat) (X : Nat → Nat) (w1 : Nat) (B : Option Nat) (x : Nat) (a : Nat), (∀ z, X z < 1024) → (∀ z v, Y z = some v → v < 7) → ((B, x) = it (fun a x => it (briS (n, m, sh, 0, ki, op, fa, K, G, T) a) x (g_m (n, m, sh, 0, ki, op, fa, K, G, T) - (a + 1))) (none, 0) a) → (a ≤ m) → (x ≤ 70) → (∀ v, B = some v → v < 70) → m - a = mz → VV E 0 0 18 [(3, .int (nI a)), (2, .int (nI x)), (1, .int (mI B)), (0, .ref x0)] [] [(x0, .inr (4, [.ref a0, .ref c0, .ref xp, .int (bz pd), .ref b0, .ref g0, .ref s0, .ref w0, .int (nI rs), .ref y0])), (a0, .inr (2, [.int (nI n), .int (nI m), .int (nI sh), .int (nI 0), .ref a1, .ref a2, .ref a3, .ref a4, .ref a5, .ref a6])), (a1, .inl (cI, 7, .inl (nIf ki))), (a2, .inl (cI, 7, .inl (nIf op))), (a3, .inl (cI, 7, .inl (nIf fa))), (a4, .inl (cI, 6, .inl (nIf K))), (a5, .inl (cI, 6, .inl (nIf G))), (a6, .inl (cI, 6, .inl (nIf T))), (c0, .inr (2, [.int (nI n), .int (nI m), .int (nI sh), .int (nI w1), .ref c1, .ref c2, .ref c3, .ref c4, .ref c5, .ref c6])), (c1, .inl (cI, 7, .inl (nIf ki))), (c2, .inl (cI, 7, .inl (nIf op))), (c3, .inl (cI, 7, .inl (nIf fa))), (c4, .inl (cI, 6, .inl (nIf K))), (c5, .inl (cI, 6, .inl (nIf G))), (c6, .inl (cI, 6, .inl (nIf T))), (b0, .inr (1, [.int (nI P2), .int (nI Q2), .ref b1, .ref b2, .ref b3])), (b1, .inl (cI, 6, .inl (nIf mg))), (b2, .inl (cI, 144, .inl (mIf Y))), (b3, .inl (cI, 175, .inl (nIf X)))] := by
    intro mz
    induction mz using Nat.strongRecOn with
    | _ mz ih18 =>
    intro P2 Q2 mg Y X w1 B x a hB9 hM9 hs ha hx hBl hm18
    refine v_il_n 19 zC dX4_bridge_18 0 rfl ?_
    refine v_al_n 20 zC dX4_bridge_19 3 rfl ?_
    refine v_gf 23 0 zC dX4_bridge_20 gf_X4_12 rfl rfl ?_
    refine v_gf 26 1 zC dX4_bridge_23 gf_X4_121 rfl rfl ?_
    refine v_icmpn_ge 104 29 zC dX4_bridge_26 (fun h_5 => ?_) (fun h_5 => ?_)
    ·
      refine v_il_n 105 zC dX4_bridge_104 2 rfl ?_
      refine v_iret zC zT dX4_bridge_105  ?_
      exact ⟨_, _, _, _, _, _, _, _, _, _, _, _, _, _, _, ⟨hn, hm, hsh, hki, hop, hfa, hK, hG, hT, vki, vop, vfa, vK, vG, vT⟩, hB9, hM9, by have e9 : m = a := (by omega); subst e9; exact congrArg (fun z => some (Value.int (mI z.1))) hs, rfl⟩
    ·
      refine v_il_n 30 zC dX4_bridge_29 0 rfl ?_
      refine v_ic (v := (nI 1)) 31 zC dX4_bridge_30 (by decide +kernel) ?_
      refine v_iadd (v := (nI (a + 1))) 32 zC dX4_bridge_31 (nI_add _ _) ?_
      refine v_is (lv2 := [(4, .int (nI (a + 1))), (3, .int (nI a)), (2, .int (nI x)), (1, .int (mI B)), (0, .ref x0)]) 34 zC dX4_bridge_32 (by rw [hnE]; decide) rfl ?_
      have lp34 : ∀ (mz : Nat) (P4 : Nat) (Q4 : Nat) (mg4 : Nat → Nat) (Y4 : Nat → Option Nat) (X4 : Nat → Nat) (w4 : Nat) (B2 : Option Nat) (x2 : Nat) (b : Nat), (∀ z, X4 z < 1024) → (∀ z v, Y4 z = some v → v < 7) → ((B2, x2) = it (briS (n, m, sh, 0, ki, op, fa, K, G, T) a) (B, x) (b - (a + 1))) → (a + 1 ≤ b) → (b ≤ m) → (x2 ≤ 70) → (∀ v, B2 = some v → v < 70) → m - b = mz → VV E 0 0 34 [(4, .int (nI b)), (3, .int (nI a)), (2, .int (nI x2)), (1, .int (mI B2)), (0, .ref x0)] [] [(x0, .inr (4, [.ref a0, .ref c0, .ref xp, .int (bz pd), .ref b0, .ref g0, .ref s0, .ref w0, .int (nI rs), .ref y0])), (a0, .inr (2, [.int (nI n), .int (nI m), .int (nI sh), .int (nI 0), .ref a1, .ref a2, .ref a3, .ref a4, .ref a5, .ref a6])), (a1, .inl (cI, 7, .inl (nIf ki))), (a2, .inl (cI, 7, .inl (nIf op))), (a3, .inl (cI, 7, .inl (nIf fa))), (a4, .inl (cI, 6, .inl (nIf K))), (a5, .inl (cI, 6, .inl (nIf G))), (a6, .inl (cI, 6, .inl (nIf T))), (c0, .inr (2, [.int (nI n), .int (nI m), .int (nI sh), .int (nI w4), .ref c1, .ref c2, .ref c3, .ref c4, .ref c5, .ref c6])), (c1, .inl (cI, 7, .inl (nIf ki))), (c2, .inl (cI, 7, .inl (nIf op))), (c3, .inl (cI, 7, .inl (nIf fa))), (c4, .inl (cI, 6, .inl (nIf K))), (c5, .inl (cI, 6, .inl (nIf G))), (c6, .inl (cI, 6, .inl (nIf T))), (b0, .inr (1, [.int (nI P4), .int (nI Q4), .ref b1, .ref b2, .ref b3])), (b1, .inl (cI, 6, .inl (nIf mg4))), (b2, .inl (cI, 144, .inl (mIf Y4))), (b3, .inl (cI, 175, .inl (nIf X4)))] := by
        intro mz
        induction mz using Nat.strongRecOn with
        | _ mz ih34 =>
        intro P4 Q4 mg4 Y4 X4 w4 B2 x2 b hB10 hM10 hs2 hb1 hbm hx2 hBl2 hm34
        refine v_il 36 zC dX4_bridge_34 0 rfl ?_
        refine v_al_n 37 zC dX4_bridge_36 4 rfl ?_
        refine v_gf 40 0 zC dX4_bridge_37 gf_X4_12 rfl rfl ?_
        refine v_gf 43 1 zC dX4_bridge_40 gf_X4_121 rfl rfl ?_
        refine v_icmpn_ge 98 46 zC dX4_bridge_43 (fun h_6 => ?_) (fun h_6 => ?_)
        ·
          refine v_inc (v := (nI (a + 1))) (lv2 := [(3, .int (nI (a + 1))), (4, .int (nI b)), (2, .int (nI x2)), (1, .int (mI B2)), (0, .ref x0)]) 101 zC dX4_bridge_98 (j := 1) rfl (nI_add _ 1) (by rw [hnE]; decide) rfl ?_
          refine v_goto 18 zC dX4_bridge_101 ?_
          refine v_lvs (lv2 := [(3, .int (nI (a + 1))), (2, .int (nI x2)), (1, .int (mI B2)), (0, .ref x0)]) [0, 2, 3, 4] rfl ?_
          exact ih18 _ (by omega) P4 Q4 mg4 Y4 X4 w4 B2 x2 (a + 1) hB10 hM10 (it_s hs (by show it (briS (n, m, sh, 0, ki, op, fa, K, G, T) a) (B, x) (g_m (n, m, sh, 0, ki, op, fa, K, G, T) - (a + 1)) = _; rw [show g_m (n, m, sh, 0, ki, op, fa, K, G, T) = b from (by show m = b; omega)]; exact hs2.symm)) (by first | omega | assumption | rfl | (simp only []; omega) | decide) (by first | omega | assumption | rfl | (simp only []; omega) | decide) hBl2 rfl
        ·
          refine v_al_n 47 zC dX4_bridge_46 4 rfl ?_
          refine v_gf 50 0 zC dX4_bridge_47 gf_X4_16 rfl rfl ?_
          refine v_ic (v := (nI 1)) 51 zC dX4_bridge_50 (by decide +kernel) ?_
          refine v_il_n 52 zC dX4_bridge_51 1 rfl ?_
          refine v_ishl (v := (nI (2 ^ a))) 53 zC dX4_bridge_52 (b1n (by omega)) ?_
          refine v_ic (v := (nI 1)) 54 zC dX4_bridge_53 (by decide +kernel) ?_
          refine v_il 56 zC dX4_bridge_54 0 rfl ?_
          refine v_ishl (v := (nI (2 ^ b))) 57 zC dX4_bridge_56 (b1n (by omega)) ?_
          refine v_ior (v := (nI ((2 ^ a) ||| (2 ^ b)))) 58 zC dX4_bridge_57 (fa_or _ _) ?_
          refine v_pf (ws2 := [(x0, .inr (4, [.ref a0, .ref c0, .ref xp, .int (bz pd), .ref b0, .ref g0, .ref s0, .ref w0, .int (nI rs), .ref y0])), (a0, .inr (2, [.int (nI n), .int (nI m), .int (nI sh), .int (nI 0), .ref a1, .ref a2, .ref a3, .ref a4, .ref a5, .ref a6])), (a1, .inl (cI, 7, .inl (nIf ki))), (a2, .inl (cI, 7, .inl (nIf op))), (a3, .inl (cI, 7, .inl (nIf fa))), (a4, .inl (cI, 6, .inl (nIf K))), (a5, .inl (cI, 6, .inl (nIf G))), (a6, .inl (cI, 6, .inl (nIf T))), (c0, .inr (2, [.int (nI n), .int (nI m), .int (nI sh), .int (nI ((2 ^ a) ||| (2 ^ b))), .ref c1, .ref c2, .ref c3, .ref c4, .ref c5, .ref c6])), (c1, .inl (cI, 7, .inl (nIf ki))), (c2, .inl (cI, 7, .inl (nIf op))), (c3, .inl (cI, 7, .inl (nIf fa))), (c4, .inl (cI, 6, .inl (nIf K))), (c5, .inl (cI, 6, .inl (nIf G))), (c6, .inl (cI, 6, .inl (nIf T))), (b0, .inr (1, [.int (nI P4), .int (nI Q4), .ref b1, .ref b2, .ref b3])), (b1, .inl (cI, 6, .inl (nIf mg4))), (b2, .inl (cI, 144, .inl (mIf Y4))), (b3, .inl (cI, 175, .inl (nIf X4)))]) 61 8 zC dX4_bridge_58 pf_X4_236 rfl (Nat.le_of_ble_eq_true rfl) rfl rfl rfl ?_
          refine v_al_n 62 zC dX4_bridge_61 4 rfl ?_
          refine v_al_n 63 zC dX4_bridge_62 4 rfl ?_
          refine v_gf 66 0 zC dX4_bridge_63 gf_X4_16 rfl rfl ?_
          refine v_cV (As := [.ref c0]) (st := []) 69 0 [0, 8, 9, 10, 11, 12, 13, 14, 15, 16, 17, 18] zC dX4_bridge_66 hA (c_X4_allOf (ev_l E) (ev_D E) cI (x0 := x0) (xn := a0) (xm := c0) (xp := xp) (g0 := g0) (s0 := s0) (w0 := w0) (y0 := y0) (pd := pd) (rs := rs) (b0 := b0) (b1 := b1) (b2 := b2) (b3 := b3) (P := P4) (Q := Q4) (mf := mg4) (M := Y4) (kn := X4) (a0 := c0) (a1 := c1) (a2 := c2) (a3 := c3) (a4 := c4) (a5 := c5) (a6 := c6) (n := n) (m := m) (sh := sh) (aw := ((2 ^ a) ||| (2 ^ b))) (ki := ki) (op := op) (fa := fa) (K := K) (G := G) (T := T) (hw := hw) (hB := hB10) (hM := hM10)) cf_X4_allOf lk_X4_198 rfl rfl rfl rfl rfl (by decide +kernel) (Nat.le_of_ble_eq_true rfl) (fun rv_7 wv_8 hp_9 hm_10 => ?_)
          clear hm_10
          obtain ⟨mg_11, X_12, Y_13, hD_14, rfl, rfl⟩ := hp_9
          show VV E 0 0 69 [(4, .int (nI b)), (3, .int (nI a)), (2, .int (nI x2)), (1, .int (mI B2)), (0, .ref x0)] [.int (nI (ALL (n, m, sh, ((2 ^ a) ||| (2 ^ b)), ki, op, fa, K, G, T)))] [(x0, .inr (4, [.ref a0, .ref c0, .ref xp, .int (bz pd), .ref b0, .ref g0, .ref s0, .ref w0, .int (nI rs), .ref y0])), (a0, .inr (2, [.int (nI n), .int (nI m), .int (nI sh), .int (nI 0), .ref a1, .ref a2, .ref a3, .ref a4, .ref a5, .ref a6])), (a1, .inl (cI, 7, .inl (nIf ki))), (a2, .inl (cI, 7, .inl (nIf op))), (a3, .inl (cI, 7, .inl (nIf fa))), (a4, .inl (cI, 6, .inl (nIf K))), (a5, .inl (cI, 6, .inl (nIf G))), (a6, .inl (cI, 6, .inl (nIf T))), (c0, .inr (2, [.int (nI n), .int (nI m), .int (nI sh), .int (nI ((2 ^ a) ||| (2 ^ b))), .ref c1, .ref c2, .ref c3, .ref c4, .ref c5, .ref c6])), (c1, .inl (cI, 7, .inl (nIf ki))), (c2, .inl (cI, 7, .inl (nIf op))), (c3, .inl (cI, 7, .inl (nIf fa))), (c4, .inl (cI, 6, .inl (nIf K))), (c5, .inl (cI, 6, .inl (nIf G))), (c6, .inl (cI, 6, .inl (nIf T))), (b0, .inr (1, [.int (nI n), .int (nI m), .ref b1, .ref b2, .ref b3])), (b1, .inl (cI, 6, .inl (nIf mg_11))), (b2, .inl (cI, 144, .inl (mIf Y_13))), (b3, .inl (cI, 175, .inl (nIf X_12)))]
          have hD9 := hD_14
          have hb9 := all_le (s := (n, m, sh, 2 ^ a ||| 2 ^ b, ki, op, fa, K, G, T)) hn (fun p => hD9.2.2.1 (24 * 7 + p)) hD9
          refine v_is (lv2 := [(5, .int (nI (ALL (n, m, sh, ((2 ^ a) ||| (2 ^ b)), ki, op, fa, K, G, T)))), (4, .int (nI b)), (3, .int (nI a)), (2, .int (nI x2)), (1, .int (mI B2)), (0, .ref x0)]) 71 zC dX4_bridge_69 (by rw [hnE]; decide) rfl ?_
          refine v_il_n 72 zC dX4_bridge_71 4 rfl ?_
          refine v_ifo_lt 81 75 zC dX4_bridge_72 (fun v e => by have := hBl2 v e; omega) (fun h_15 => ?_) (fun h_15 => ?_)
          ·
            have hp9 := h_15
            refine v_il 83 zC dX4_bridge_81 0 rfl ?_
            refine v_is_n (lv2 := [(2, .int (nI (ALL (n, m, sh, ((2 ^ a) ||| (2 ^ b)), ki, op, fa, K, G, T)))), (5, .int (nI (ALL (n, m, sh, ((2 ^ a) ||| (2 ^ b)), ki, op, fa, K, G, T)))), (4, .int (nI b)), (3, .int (nI a)), (1, .int (mI B2)), (0, .ref x0)]) 84 zC dX4_bridge_83 (by rw [hnE]; decide) rfl ?_
            refine v_bp (v := (nI 10)) 86 zC dX4_bridge_84 (by decide +kernel) ?_
            refine v_il_n 87 zC dX4_bridge_86 3 rfl ?_
            refine v_imul (v := (nI (10 * a))) 88 zC dX4_bridge_87 (pk_mul _ _) ?_
            refine v_il 90 zC dX4_bridge_88 2 rfl ?_
            refine v_iadd (v := (nI ((10 * a) + b))) 91 zC dX4_bridge_90 (nI_add _ _) ?_
            refine v_is_n (lv2 := [(1, .int (nI ((10 * a) + b))), (2, .int (nI (ALL (n, m, sh, ((2 ^ a) ||| (2 ^ b)), ki, op, fa, K, G, T)))), (5, .int (nI (ALL (n, m, sh, ((2 ^ a) ||| (2 ^ b)), ki, op, fa, K, G, T)))), (4, .int (nI b)), (3, .int (nI a)), (0, .ref x0)]) 92 zC dX4_bridge_91 (by rw [hnE]; decide) rfl ?_
            refine v_inc (v := (nI (b + 1))) (lv2 := [(4, .int (nI (b + 1))), (1, .int (nI ((10 * a) + b))), (2, .int (nI (ALL (n, m, sh, ((2 ^ a) ||| (2 ^ b)), ki, op, fa, K, G, T)))), (5, .int (nI (ALL (n, m, sh, ((2 ^ a) ||| (2 ^ b)), ki, op, fa, K, G, T)))), (3, .int (nI a)), (0, .ref x0)]) 95 zC dX4_bridge_92 (j := 3) rfl (nI_add _ 1) (by rw [hnE]; decide) rfl ?_
            refine v_goto 34 zC dX4_bridge_95 ?_
            refine v_lvs (lv2 := [(4, .int (nI (b + 1))), (3, .int (nI a)), (2, .int (nI (ALL (n, m, sh, ((2 ^ a) ||| (2 ^ b)), ki, op, fa, K, G, T)))), (1, .int (mI (some ((10 * a) + b)))), (0, .ref x0)]) [0, 4, 2, 1, 5] rfl ?_
            exact ih34 _ (by omega) n m mg_11 Y_13 X_12 ((2 ^ a) ||| (2 ^ b)) (some ((10 * a) + b)) (ALL (n, m, sh, ((2 ^ a) ||| (2 ^ b)), ki, op, fa, K, G, T)) (b + 1) hD9.2.2.1 hD9.2.2.2 (it_r hs2 hb1 (by first | exact bri_1 hb1 hp9 | exact bri_2 hb1 hu9 | exact bri_0 hb1 hq9 hv9)) (by first | omega | assumption | rfl | (simp only []; omega) | decide) (by first | omega | assumption | rfl | (simp only []; omega) | decide) (by first | omega | assumption | rfl | (simp only []; omega) | decide) (fun v e => by first | exact hBl2 v e | (cases e; omega)) rfl
          ·
            have hq9 := h_15
            refine v_il 77 zC dX4_bridge_75 0 rfl ?_
            refine v_il_n 78 zC dX4_bridge_77 3 rfl ?_
            refine v_icmpn_ge 92 81 zC dX4_bridge_78 (fun h_16 => ?_) (fun h_16 => ?_)
            ·
              have hv9 := h_16
              refine v_inc (v := (nI (b + 1))) (lv2 := [(4, .int (nI (b + 1))), (5, .int (nI (ALL (n, m, sh, ((2 ^ a) ||| (2 ^ b)), ki, op, fa, K, G, T)))), (3, .int (nI a)), (2, .int (nI x2)), (1, .int (mI B2)), (0, .ref x0)]) 95 zC dX4_bridge_92 (j := 1) rfl (nI_add _ 1) (by rw [hnE]; decide) rfl ?_
              refine v_goto 34 zC dX4_bridge_95 ?_
              refine v_lvs (lv2 := [(4, .int (nI (b + 1))), (3, .int (nI a)), (2, .int (nI x2)), (1, .int (mI B2)), (0, .ref x0)]) [0, 2, 3, 4, 5] rfl ?_
              exact ih34 _ (by omega) n m mg_11 Y_13 X_12 ((2 ^ a) ||| (2 ^ b)) B2 x2 (b + 1) hD9.2.2.1 hD9.2.2.2 (it_r hs2 hb1 (by first | exact bri_1 hb1 hp9 | exact bri_2 hb1 hu9 | exact bri_0 hb1 hq9 hv9)) (by first | omega | assumption | rfl | (simp only []; omega) | decide) (by first | omega | assumption | rfl | (simp only []; omega) | decide) (by first | omega | assumption | rfl | (simp only []; omega) | decide) (fun v e => by first | exact hBl2 v e | (cases e; omega)) rfl
            ·
              have hu9 := h_16
              refine v_il 83 zC dX4_bridge_81 0 rfl ?_
              refine v_is_n (lv2 := [(2, .int (nI (ALL (n, m, sh, ((2 ^ a) ||| (2 ^ b)), ki, op, fa, K, G, T)))), (5, .int (nI (ALL (n, m, sh, ((2 ^ a) ||| (2 ^ b)), ki, op, fa, K, G, T)))), (4, .int (nI b)), (3, .int (nI a)), (1, .int (mI B2)), (0, .ref x0)]) 84 zC dX4_bridge_83 (by rw [hnE]; decide) rfl ?_
              refine v_bp (v := (nI 10)) 86 zC dX4_bridge_84 (by decide +kernel) ?_
              refine v_il_n 87 zC dX4_bridge_86 3 rfl ?_
              refine v_imul (v := (nI (10 * a))) 88 zC dX4_bridge_87 (pk_mul _ _) ?_
              refine v_il 90 zC dX4_bridge_88 2 rfl ?_
              refine v_iadd (v := (nI ((10 * a) + b))) 91 zC dX4_bridge_90 (nI_add _ _) ?_
              refine v_is_n (lv2 := [(1, .int (nI ((10 * a) + b))), (2, .int (nI (ALL (n, m, sh, ((2 ^ a) ||| (2 ^ b)), ki, op, fa, K, G, T)))), (5, .int (nI (ALL (n, m, sh, ((2 ^ a) ||| (2 ^ b)), ki, op, fa, K, G, T)))), (4, .int (nI b)), (3, .int (nI a)), (0, .ref x0)]) 92 zC dX4_bridge_91 (by rw [hnE]; decide) rfl ?_
              refine v_inc (v := (nI (b + 1))) (lv2 := [(4, .int (nI (b + 1))), (1, .int (nI ((10 * a) + b))), (2, .int (nI (ALL (n, m, sh, ((2 ^ a) ||| (2 ^ b)), ki, op, fa, K, G, T)))), (5, .int (nI (ALL (n, m, sh, ((2 ^ a) ||| (2 ^ b)), ki, op, fa, K, G, T)))), (3, .int (nI a)), (0, .ref x0)]) 95 zC dX4_bridge_92 (j := 3) rfl (nI_add _ 1) (by rw [hnE]; decide) rfl ?_
              refine v_goto 34 zC dX4_bridge_95 ?_
              refine v_lvs (lv2 := [(4, .int (nI (b + 1))), (3, .int (nI a)), (2, .int (nI (ALL (n, m, sh, ((2 ^ a) ||| (2 ^ b)), ki, op, fa, K, G, T)))), (1, .int (mI (some ((10 * a) + b)))), (0, .ref x0)]) [0, 4, 2, 1, 5] rfl ?_
              exact ih34 _ (by omega) n m mg_11 Y_13 X_12 ((2 ^ a) ||| (2 ^ b)) (some ((10 * a) + b)) (ALL (n, m, sh, ((2 ^ a) ||| (2 ^ b)), ki, op, fa, K, G, T)) (b + 1) hD9.2.2.1 hD9.2.2.2 (it_r hs2 hb1 (by first | exact bri_1 hb1 hp9 | exact bri_2 hb1 hu9 | exact bri_0 hb1 hq9 hv9)) (by first | omega | assumption | rfl | (simp only []; omega) | decide) (by first | omega | assumption | rfl | (simp only []; omega) | decide) (by first | omega | assumption | rfl | (simp only []; omega) | decide) (fun v e => by first | exact hBl2 v e | (cases e; omega)) rfl
      refine v_lvs (lv2 := [(4, .int (nI (a + 1))), (3, .int (nI a)), (2, .int (nI x)), (1, .int (mI B)), (0, .ref x0)]) [0, 1, 2, 3, 4] rfl ?_
      exact lp34 _ P2 Q2 mg Y X w1 B x (a + 1) hB9 hM9 it_z (by first | omega | assumption | rfl | (simp only []; omega) | decide) (by first | omega | assumption | rfl | (simp only []; omega) | decide) (by first | omega | assumption | rfl | (simp only []; omega) | decide) hBl rfl
  refine v_lvs (lv2 := [(3, .int (nI 0)), (2, .int (nI 0)), (1, .int (mI none)), (0, .ref x0)]) [0, 1, 2, 3] rfl ?_
  exact lp18 _ P Q mf M kn 0 none 0 0 (by first | exact hD9.2.2.1 | exact hB) (by first | exact hD9.2.2.2 | exact hM) (by first | omega | assumption | rfl | (simp only []; omega) | decide) (by first | omega | assumption | rfl | (simp only []; omega) | decide) (by first | omega | assumption | rfl | (simp only []; omega) | decide) (fun v e => by cases e) rfl
