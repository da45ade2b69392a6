/-- a step again and again -/
def it {α : Type} (f : Nat → α → α) (a : α) : Nat → α
  | 0 => a
  | k + 1 => f k (it f a k)
theorem it_s {α : Type} {f : Nat → α → α} {a s t : α} {k : Nat} (h : s = it f a k) (e : f k s = t) : t = it f a (k + 1) := by
  subst h
  exact e.symm
theorem bit_z (a k : Nat) : a &&& 2 ^ k = 0 ↔ a.testBit k = false := by
  constructor
  · intro h
    have h1 : (a &&& 2 ^ k).testBit k = false := by rw [h]; simp
    rw [Nat.testBit_and, Nat.testBit_two_pow_self] at h1
    simpa using h1
  · intro h
    apply Nat.eq_of_testBit_eq
    intro i
    rw [Nat.testBit_and, Nat.testBit_two_pow, Nat.zero_testBit]
    by_cases e : k = i
    · subst e
      simp [h]
    · simp [e]
def SAIDB (s : SG) (p f h : Nat) : Bool := anb (fun d => Nat.testBit (SPT s p h) d && decide (g_T s d = f)) (g_m s)
def q_can (s : SG) (p f h : Int32) : Nat × Int32 := match IX (g_n s) p with
  | none => (1, -1)
  | some j => match IX 10 f with
    | none => (1, -1)
    | some k => match IX 24 h with
      | none => (1, -1)
      | some e => (0, bz (SAIDB s j k e))
def WHO (s : SG) (p k : Nat) : Nat := mkn (fun d => decide (THRU s d p = k)) (g_m s)
def q_who (s : SG) (p q : Int32) : Nat × Int32 := match IX (g_n s) p with
  | none => (1, -1)
  | some j => if q < 0 then (4, -4) else if nI 24 < q then (6, -6) else (0, nI (WHO s j q.toNatClampNeg))
def queS (T : Nat → Nat) (d : Nat) (s : Nat × Nat) : Nat × Nat := if Nat.testBit s.2 (T d) = true then s else (s.1 ||| 2 ^ d, s.2 ||| 2 ^ T d)
def QUES (s : SG) : Nat := (it (queS (g_T s)) (0, 0) (g_m s)).1
def KS (s : SG) (k : Nat) : Nat := mkn (fun d => decide (g_K s d = k)) (g_m s)
def QUAH (s : SG) : Nat := ctn (fun h => decide (2 ≤ pcn (SPK s h &&& KS s 3))) 24
def silS (s : SG) (h : Nat) (x : Nat × Nat × Nat × Option Nat) : Nat × Nat × Nat × Option Nat :=
  if SPK s h ≠ 0 then (x.1, 0, x.2.2.1, x.2.2.2) else if x.2.2.1 < x.2.1 + 1 then (x.1 + 1, x.2.1 + 1, x.2.1 + 1, some (h + 1 - (x.2.1 + 1))) else (x.1 + 1, x.2.1 + 1, x.2.2.1, x.2.2.2)
def q_silent (s : SG) (w : Int32) : Nat × Int32 := match IX 3 w with
  | none => (2, -2)
  | some k => (0, if k = 0 then nI (it (silS s) (0, 0, 0, none) 24).1 else if k = 1 then nI (it (silS s) (0, 0, 0, none) 24).2.2.1 else mI (it (silS s) (0, 0, 0, none) 24).2.2.2)
def LISB (s : SG) (p : Nat) : Nat := andn (DR s 24 p) (g_fa s p)
/-- the later of two, nothing ahead of all -/
def mxO (a b : Option Nat) : Option Nat := match a, b with
  | none, _ => b
  | some x, none => some x
  | some x, some y => if x < y then some y else some x
def lisS (s : SG) (p f : Nat) (x : Option Nat) : Option Nat := if Nat.testBit (LISB s p) f = true then mxO x (HEARD s p f) else x
def q_list (s : SG) (p w : Int32) : Nat × Int32 := match IX (g_n s) p with
  | none => (1, -1)
  | some j => match IX 2 w with
    | none => (2, -2)
    | some k => (0, if k = 0 then nI (LISB s j) else mI (it (lisS s j) none 10))
/-- the best so far: who, and how much -/
def bstS (f : Nat → Nat) (v : Nat → Nat) (k : Nat) (x : Option Nat × Nat) : Option Nat × Nat := if x.2 < f k then (some (v k), f k) else x
def LOUD (s : SG) (p : Nat) : Nat := sm (fun d => THRU s d p) (g_m s)
def q_loudest (s : SG) (w : Int32) : Nat × Int32 := match IX 2 w with
  | none => (2, -2)
  | some k => (0, if k = 0 then mI (it (bstS (LOUD s) id) (none, 0) (g_n s)).1 else nI (it (bstS (LOUD s) id) (none, 0) (g_n s)).2)
def KBH (s : SG) (h : Nat) : Nat := sm (fun p => pcn (DR s h p)) (g_n s)
def HALF (s : SG) : Nat := match fs (fun h => decide (ALL s ≤ 2 * KBH s h)) 24 with
  | none => 24
  | some h => h
def twiS (s : SG) (a i : Nat) (x : Option Nat × Nat) : Option Nat × Nat := if x.2 < TOGE s a (a + 1 + i) then (some (10 * a + (a + 1 + i)), TOGE s a (a + 1 + i)) else x
def TWIN (s : SG) : Option Nat × Nat := it (fun a x => it (twiS s a) x (g_m s - (a + 1))) (none, 0) (g_m s)
def KTO (s : SG) (t : Nat) : Nat := orn (fun p => if Nat.testBit t p = true then DR s 24 p else 0) (g_n s)
def SECR (s : SG) : Nat := andn (KTO s (2 ^ g_n s - 1)) (if g_n s = 0 then 0 else ann (fun p => DR s 24 p) (g_n s))
def synS (s : SG) (t : Nat) (b : Nat) : Nat := if pcn t < pcn b ∧ KTO s t = KTO s (2 ^ g_n s - 1) then t else b
def SYNO (s : SG) : Nat := it (synS s) (2 ^ g_n s - 1) (2 ^ g_n s - 1)
section DK2
variable {n m sh aw : Nat} {ki op fa K G T X : Nat → Nat} {Y : Nat → Option Nat}
theorem dk_kbh (h : DOK n m sh aw ki op fa K G T X Y) (hn : n ≤ 7) {j : Nat} (hj : j ≤ 24) : sm (fun p => pcn (X (j * 7 + p))) n = KBH (n, m, sh, aw, ki, op, fa, K, G, T) j := sm_c (fun p hp => congrArg pcn (h.1 j hj p (by omega)))
theorem dk_kto (h : DOK n m sh aw ki op fa K G T X Y) (hn : n ≤ 7) {t : Nat} : orn (fun p => if Nat.testBit t p = true then X (24 * 7 + p) else 0) n = KTO (n, m, sh, aw, ki, op, fa, K, G, T) t := orn_c (fun p hp => by rw [dk_r h (Nat.le_refl _) (by omega)])
theorem dk_ann (h : DOK n m sh aw ki op fa K G T X Y) (hn : n ≤ 7) : ann (fun p => X (24 * 7 + p)) n = ann (fun p => DR (n, m, sh, aw, ki, op, fa, K, G, T) 24 p) n := ann_c (fun p hp => by rw [dk_r h (Nat.le_refl _) (by omega)])
end DK2
theorem q15_said {s : SG} {p f h d : Nat} (hd : d < g_m s) (hb : Nat.testBit (SPT s p h) d = true) (ht : g_T s d = f) : SAIDB s p f h = true := anb_m (by simp [hb, ht]) hd
theorem all_le {n m sh aw : Nat} {ki op fa K G T X : Nat → Nat} {Y : Nat → Option Nat} {s : SG} (hn : n ≤ 7) (hX : ∀ p, X (24 * 7 + p) < 1024) (hD : DOK n m sh aw ki op fa K G T X Y) : ALL (n, m, sh, aw, ki, op, fa, K, G, T) ≤ 70 := by
  rw [← dk_all hD hn]
  have h : sm (fun p => pcn (X (24 * 7 + p))) n ≤ n * 10 := sm_le (fun p => pcn_k 10 _ (hX p)) n
  omega
theorem hf_e {s : SG} {h : Nat} (hq : fs (fun h => decide (ALL s ≤ 2 * KBH s h)) h = none) (h1 : h ≤ 24) (h2 : 24 ≤ h) : HALF s = 24 := by
  have e : h = 24 := by omega
  subst e
  unfold HALF
  rw [hq]
theorem hf_f {s : SG} {h : Nat} (hq : fs (fun h => decide (ALL s ≤ 2 * KBH s h)) h = none) (h1 : h < 24) (h2 : ALL s ≤ 2 * KBH s h) : HALF s = h := by
  unfold HALF
  rw [fs_m (show h + 1 ≤ 24 by omega) (fs_1 hq (decide_eq_true h2))]
theorem bit_nz {a k : Nat} (h : a &&& 2 ^ k ≠ 0) : a.testBit k = true := by
  cases hc : a.testBit k with
  | true => rfl
  | false => exact absurd ((bit_z a k).mpr hc) h

set_option maxRecDepth 100000 in
set_option maxHeartbeats 4000000 in
theorem c_X4_saidThrough (l : Launch) (D : va_G) (cI : ClassId) (x0 xm xp g0 s0 w0 y0 : Nat) (pd : Bool) (rs : Nat) (b0 b1 b2 b3 : Nat) (M : Nat → Option Nat) (a0 a1 a2 a3 a4 a5 a6 : Nat) (n m sh : Nat) (ki op fa K G T : Nat → Nat) (X : Nat → Nat) (p f h : Nat) (hw : FW n m sh ki op fa K G T) (hD9 : DOK n m sh 0 ki op fa K G T X M) (hp : p < 7) (hf : f < 10) (hh : h < 24) : CT l yX4_saidThrough cX4_saidThrough 6 (some .boolean) { frames := 2, cells := 0, slots := 0, locals := 46 } D cI [.ref x0, .int (nI p), .int (nI f), .int (nI h)] [(x0, .inr (4, [.ref a0, .ref xm, .ref xp, .int (bz pd), .ref b0, .ref g0, .ref s0, .ref w0, .int (nI rs), .ref y0])), (a0, .inr (2, [.int (nI n), .int (nI m), .int (nI sh), .int (nI 0), .ref a1, .ref a2, .ref a3, .ref a4, .ref a5, .ref a6])), (a6, .inl (cI, 6, .inl (nIf T))), (b0, .inr (1, [.int (nI n), .int (nI m), .ref b1, .ref b2, .ref b3])), (b2, .inl (cI, 144, .inl (mIf M)))] (fun zr zw => (zr = some (.int (bz (SAIDB (n, m, sh, 0, ki, op, fa, K, G, T) p f h))) ∧ zw = [(x0, .inr (4, [.ref a0, .ref xm, .ref xp, .int (bz pd), .ref b0, .ref g0, .ref s0, .ref w0, .int (nI rs), .ref y0])), (a0, .inr (2, [.int (nI n), .int (nI m), .int (nI sh), .int (nI 0), .ref a1, .ref a2, .ref a3, .ref a4, .ref a5, .ref a6])), (a6, .inl (cI, 6, .inl (nIf T))), (b0, .inr (1, [.int (nI n), .int (nI m), .ref b1, .ref b2, .ref b3])), (b2, .inl (cI, 144, .inl (mIf M)))])) := by
  refine CT_of RX4 rfl (by decide +kernel) (Nat.le_of_ble_eq_true rfl) (fun E hnE zC zT => ?_)
  have hA : ∀ q, (ev_s E).heap.size ≤ q → ev_A E q := fun q h => by rw [zT.2]; exact Or.inr h
  obtain ⟨hn, hm, hsh, hki, hop, hfa, hK, hG, hT, vki, vop, vfa, vK, vG, vT⟩ := id hw
  have hM := hD9.2.2.2
  show VV E 0 0 0 [(0, .ref x0), (1, .int (nI p)), (2, .int (nI f)), (3, .int (nI h))] [] [(x0, .inr (4, [.ref a0, .ref xm, .ref xp, .int (bz pd), .ref b0, .ref g0, .ref s0, .ref w0, .int (nI rs), .ref y0])), (a0, .inr (2, [.int (nI n), .int (nI m), .int (nI sh), .int (nI 0), .ref a1, .ref a2, .ref a3, .ref a4, .ref a5, .ref a6])), (a6, .inl (cI, 6, .inl (nIf T))), (b0, .inr (1, [.int (nI n), .int (nI m), .ref b1, .ref b2, .ref b3])), (b2, .inl (cI, 144, .inl (mIf M)))]
  refine v_al_n 1 zC dX4_saidThrough_0 0 rfl ?_
  refine v_gf 4 0 zC dX4_saidThrough_1 gf_X4_25 rfl rfl ?_
  refine v_il_n 5 zC dX4_saidThrough_4 1 rfl ?_
  refine v_il_n 6 zC dX4_saidThrough_5 3 rfl ?_
  refine v_cV (As := [.int (nI p), .int (nI h)]) (st := []) 9 3 [3, 4] zC dX4_saidThrough_6 hA (c_X1_speakersThrough (ev_l E) (ev_D E) cI (b0 := b0) (b1 := b1) (b2 := b2) (b3 := b3) (P := n) (Q := m) (M := M) (v := p) (h := h) (hQ := (by first | omega | assumption | rfl | (simp only []; omega) | decide)) (hv := (by first | omega | assumption | rfl | (simp only []; omega) | decide)) (hh := (by first | omega | assumption | rfl | (simp only []; omega) | decide)) (hM := (by first | omega | assumption | rfl | (simp only []; omega) | decide))) cf_X1_speakersThrough lk_X4_183 rfl rfl rfl rfl rfl (by decide +kernel) (Nat.le_of_ble_eq_true rfl) (fun rv_1 wv_2 hp_3 hm_4 => ?_)
  clear hm_4
  obtain ⟨rfl, rfl⟩ := hp_3
  show VV E 0 0 9 [(0, .ref x0), (1, .int (nI p)), (2, .int (nI f)), (3, .int (nI h))] [.int (nI (mkn (fun d => M (h * 6 + d) == some p) m))] [(x0, .inr (4, [.ref a0, .ref xm, .ref xp, .int (bz pd), .ref b0, .ref g0, .ref s0, .ref w0, .int (nI rs), .ref y0])), (a0, .inr (2, [.int (nI n), .int (nI m), .int (nI sh), .int (nI 0), .ref a1, .ref a2, .ref a3, .ref a4, .ref a5, .ref a6])), (a6, .inl (cI, 6, .inl (nIf T))), (b0, .inr (1, [.int (nI n), .int (nI m), .ref b1, .ref b2, .ref b3])), (b2, .inl (cI, 144, .inl (mIf M)))]
  refine v_is (lv2 := [(4, .int (nI (mkn (fun d => M (h * 6 + d) == some p) m))), (0, .ref x0), (1, .int (nI p)), (2, .int (nI f)), (3, .int (nI h))]) 11 zC dX4_saidThrough_9 (by rw [hnE]; decide) rfl ?_
  refine v_ic (v := (nI 0)) 12 zC dX4_saidThrough_11 (by decide +kernel) ?_
  refine v_is (lv2 := [(5, .int (nI 0)), (4, .int (nI (mkn (fun d => M (h * 6 + d) == some p) m))), (0, .ref x0), (1, .int (nI p)), (2, .int (nI f)), (3, .int (nI h))]) 14 zC dX4_saidThrough_12 (by rw [hnE]; decide) rfl ?_
  have lp14 : ∀ (mz : Nat) (z : Nat) (d : Nat), (z = SPT (n, m, sh, 0, ki, op, fa, K, G, T) p h) → (d ≤ m) → (anb (fun d => Nat.testBit (SPT (n, m, sh, 0, ki, op, fa, K, G, T) p h) d && decide (T d = f)) d = false) → m - d = mz → VV E 0 0 14 [(5, .int (nI d)), (4, .int (nI z)), (0, .ref x0), (1, .int (nI p)), (2, .int (nI f)), (3, .int (nI h))] [] [(x0, .inr (4, [.ref a0, .ref xm, .ref xp, .int (bz pd), .ref b0, .ref g0, .ref s0, .ref w0, .int (nI rs), .ref y0])), (a0, .inr (2, [.int (nI n), .int (nI m), .int (nI sh), .int (nI 0), .ref a1, .ref a2, .ref a3, .ref a4, .ref a5, .ref a6])), (a6, .inl (cI, 6, .inl (nIf T))), (b0, .inr (1, [.int (nI n), .int (nI m), .ref b1, .ref b2, .ref b3])), (b2, .inl (cI, 144, .inl (mIf M)))] := by
    intro mz
    induction mz using Nat.strongRecOn with
    | _ mz ih14 =>
    intro z d hz hd hq hm14
    refine v_il 16 zC dX4_saidThrough_14 0 rfl ?_
    refine v_al_n 17 zC dX4_saidThrough_16 2 rfl ?_
    refine v_gf 20 0 zC dX4_saidThrough_17 gf_X4_12 rfl rfl ?_
    refine v_gf 23 1 zC dX4_saidThrough_20 gf_X4_121 rfl rfl ?_
    refine v_icmpn_ge 58 26 zC dX4_saidThrough_23 (fun h_5 => ?_) (fun h_5 => ?_)
    ·
      refine v_ic (v := (nI 0)) 59 zC dX4_saidThrough_58 (by decide +kernel) ?_
      refine v_zret zC zT dX4_saidThrough_59 (by decide +kernel) ?_
      exact ⟨sb0 ((congrArg (anb _) (show m = d by omega)).trans hq), rfl⟩
    ·
      refine v_il 28 zC dX4_saidThrough_26 1 rfl ?_
      refine v_il 30 zC dX4_saidThrough_28 0 rfl ?_
      refine v_ishr (v := ((nI z) >>> (nI d))) 31 zC dX4_saidThrough_30 (sr_of (by omega)) ?_
      refine v_ic (v := (nI 1)) 32 zC dX4_saidThrough_31 (by decide +kernel) ?_
      refine v_iand (v := (bz (Nat.testBit z d))) 33 zC dX4_saidThrough_32 (tb_of _ (by omega)) ?_
      refine v_ifb_eq 52 36 zC dX4_saidThrough_33 (fun h_6 => ?_) (fun h_6 => ?_)
      ·
        rw [hz] at h_6
        refine v_inc (v := (nI (d + 1))) (lv2 := [(5, .int (nI (d + 1))), (4, .int (nI z)), (0, .ref x0), (1, .int (nI p)), (2, .int (nI f)), (3, .int (nI h))]) 55 zC dX4_saidThrough_52 (j := 0) rfl (nI_add _ 1) (by rw [hnE]; decide) rfl ?_
        refine v_goto 14 zC dX4_saidThrough_55 ?_
        refine v_lvs (lv2 := [(5, .int (nI (d + 1))), (4, .int (nI z)), (0, .ref x0), (1, .int (nI p)), (2, .int (nI f)), (3, .int (nI h))]) [0, 1, 2, 3, 4, 5] rfl ?_
        exact ih14 _ (by omega) z (d + 1) (by first | omega | assumption | rfl | (simp only []; omega) | decide) (by first | omega | assumption | rfl | (simp only []; omega) | decide) (anb_0 hq (by subst hz; simp [*])) rfl
      ·
        rw [hz] at h_6
        refine v_al_n 37 zC dX4_saidThrough_36 2 rfl ?_
        refine v_gf 40 0 zC dX4_saidThrough_37 gf_X4_12 rfl rfl ?_
        refine v_gf 43 1 zC dX4_saidThrough_40 gf_X4_108 rfl rfl ?_
        refine v_il 45 zC dX4_saidThrough_43 0 rfl ?_
        refine v_ialn (v := (nI (T d))) 46 2 zC dX4_saidThrough_45 rfl (by omega) rfl ?_
        have hb_7 := hT d
        refine v_il_n 47 zC dX4_saidThrough_46 4 rfl ?_
        refine v_icmpn_ne 52 50 zC dX4_saidThrough_47 (fun h_8 => ?_) (fun h_8 => ?_)
        ·
          refine v_inc (v := (nI (d + 1))) (lv2 := [(5, .int (nI (d + 1))), (4, .int (nI z)), (0, .ref x0), (1, .int (nI p)), (2, .int (nI f)), (3, .int (nI h))]) 55 zC dX4_saidThrough_52 (j := 0) rfl (nI_add _ 1) (by rw [hnE]; decide) rfl ?_
          refine v_goto 14 zC dX4_saidThrough_55 ?_
          refine v_lvs (lv2 := [(5, .int (nI (d + 1))), (4, .int (nI z)), (0, .ref x0), (1, .int (nI p)), (2, .int (nI f)), (3, .int (nI h))]) [0, 1, 2, 3, 4, 5] rfl ?_
          exact ih14 _ (by omega) z (d + 1) (by first | omega | assumption | rfl | (simp only []; omega) | decide) (by first | omega | assumption | rfl | (simp only []; omega) | decide) (anb_0 hq (by subst hz; simp [*])) rfl
        ·
          refine v_ic (v := (nI 1)) 51 zC dX4_saidThrough_50 (by decide +kernel) ?_
          refine v_zret zC zT dX4_saidThrough_51 (by decide +kernel) ?_
          first | exact ⟨sb0 (by rw [show m = d by omega] at *; exact hq), rfl⟩ | exact ⟨sb1 (q15_said (by assumption) (by assumption) (by assumption)), rfl⟩
  refine v_lvs (lv2 := [(5, .int (nI 0)), (4, .int (nI (mkn (fun d => M (h * 6 + d) == some p) m))), (0, .ref x0), (1, .int (nI p)), (2, .int (nI f)), (3, .int (nI h))]) [0, 1, 2, 3, 4, 5] rfl ?_
  exact lp14 _ (mkn (fun d => M (h * 6 + d) == some p) m) 0 (dk_spt hD9 hh) (by first | omega | assumption | rfl | (simp only []; omega) | decide) (by first | omega | assumption | rfl | (simp only []; omega) | decide) rfl
set_option maxRecDepth 100000 in
set_option maxHeartbeats 4000000 in
theorem c_X4_can (l : Launch) (D : va_G) (cI : ClassId) (x0 xm xp g0 s0 w0 y0 : Nat) (pd : Bool) (rs : Nat) (b0 b1 b2 b3 : Nat) (P Q : Nat) (mf : Nat → Nat) (M : Nat → Option Nat) (kn : Nat → Nat) (a0 a1 a2 a3 a4 a5 a6 : Nat) (n m sh : Nat) (ki op fa K G T : Nat → Nat) (R : Nat → Nat) (p f h : Int32) (hw : FW n m sh ki op fa K G T) (hB : ∀ z, kn z < 1024) (hM : ∀ z v, M z = some v → v < 7) : CT l yX4_can cX4_can 4 (some .int) { frames := 4, cells := 0, slots := 0, locals := 99 } D cI [.ref x0, .int p, .int f, .int h] [(x0, .inr (4, [.ref a0, .ref xm, .ref xp, .int (bz pd), .ref b0, .ref g0, .ref s0, .ref w0, .int (nI rs), .ref y0])), (a0, .inr (2, [.int (nI n), .int (nI m), .int (nI sh), .int (nI 0), .ref a1, .ref a2, .ref a3, .ref a4, .ref a5, .ref a6])), (a1, .inl (cI, 7, .inl (nIf ki))), (a2, .inl (cI, 7, .inl (nIf op))), (a3, .inl (cI, 7, .inl (nIf fa))), (a4, .inl (cI, 6, .inl (nIf K))), (a5, .inl (cI, 6, .inl (nIf G))), (a6, .inl (cI, 6, .inl (nIf T))), (b0, .inr (1, [.int (nI P), .int (nI Q), .ref b1, .ref b2, .ref b3])), (b1, .inl (cI, 6, .inl (nIf mf))), (b2, .inl (cI, 144, .inl (mIf M))), (b3, .inl (cI, 175, .inl (nIf kn))), (y0, .inl (cI, 7, .inl (nIf R)))] (fun zr zw => (∃ P1 : Nat, ∃ Q1 : Nat, ∃ mg : Nat → Nat, ∃ X : Nat → Nat, ∃ Y : Nat → Option Nat, ∃ rc : Nat, ∃ rv : Int32, (q_can (n, m, sh, 0, ki, op, fa, K, G, T) p f h = (rc, rv)) ∧ (∀ z, X z < 1024) ∧ (∀ z v, Y z = some v → v < 7) ∧ zr = some (.int rv) ∧ zw = [(x0, .inr (4, [.ref a0, .ref xm, .ref xp, .int (bz pd), .ref b0, .ref g0, .ref s0, .ref w0, .int (nI rs), .ref y0])), (a0, .inr (2, [.int (nI n), .int (nI m), .int (nI sh), .int (nI 0), .ref a1, .ref a2, .ref a3, .ref a4, .ref a5, .ref a6])), (a1, .inl (cI, 7, .inl (nIf ki))), (a2, .inl (cI, 7, .inl (nIf op))), (a3, .inl (cI, 7, .inl (nIf fa))), (a4, .inl (cI, 6, .inl (nIf K))), (a5, .inl (cI, 6, .inl (nIf G))), (a6, .inl (cI, 6, .inl (nIf T))), (b0, .inr (1, [.int (nI P1), .int (nI Q1), .ref b1, .ref b2, .ref b3])), (b1, .inl (cI, 6, .inl (nIf mg))), (b2, .inl (cI, 144, .inl (mIf Y))), (b3, .inl (cI, 175, .inl (nIf X))), (y0, .inl (cI, 7, .inl (nIf (rf R rc))))])) := by
  refine CT_of RX4 rfl (by decide +kernel) (Nat.le_of_ble_eq_true rfl) (fun E hnE zC zT => ?_)
  have hA : ∀ q, (ev_s E).heap.size ≤ q → ev_A E q := fun q h => by rw [zT.2]; exact Or.inr h
  obtain ⟨hn, hm, hsh, hki, hop, hfa, hK, hG, hT, vki, vop, vfa, vK, vG, vT⟩ := id hw
  show VV E 0 0 0 [(0, .ref x0), (1, .int p), (2, .int f), (3, .int h)] [] [(x0, .inr (4, [.ref a0, .ref xm, .ref xp, .int (bz pd), .ref b0, .ref g0, .ref s0, .ref w0, .int (nI rs), .ref y0])), (a0, .inr (2, [.int (nI n), .int (nI m), .int (nI sh), .int (nI 0), .ref a1, .ref a2, .ref a3, .ref a4, .ref a5, .ref a6])), (a1, .inl (cI, 7, .inl (nIf ki))), (a2, .inl (cI, 7, .inl (nIf op))), (a3, .inl (cI, 7, .inl (nIf fa))), (a4, .inl (cI, 6, .inl (nIf K))), (a5, .inl (cI, 6, .inl (nIf G))), (a6, .inl (cI, 6, .inl (nIf T))), (b0, .inr (1, [.int (nI P), .int (nI Q), .ref b1, .ref b2, .ref b3])), (b1, .inl (cI, 6, .inl (nIf mf))), (b2, .inl (cI, 144, .inl (mIf M))), (b3, .inl (cI, 175, .inl (nIf kn))), (y0, .inl (cI, 7, .inl (nIf R)))]
  refine v_al_n 1 zC dX4_can_0 0 rfl ?_
  refine v_il_n 2 zC dX4_can_1 1 rfl ?_
  refine v_cV (As := [.int p]) (st := []) 5 0 [0, 1] zC dX4_can_2 hA (c_X4_noPerson (ev_l E) (ev_D E) cI (x0 := x0) (xm := xm) (xp := xp) (b0 := b0) (g0 := g0) (s0 := s0) (w0 := w0) (y0 := y0) (pd := pd) (rs := rs) (a0 := a0) (a1 := a1) (a2 := a2) (a3 := a3) (a4 := a4) (a5 := a5) (a6 := a6) (n := n) (m := m) (sh := sh) (p := p) (hn := (by first | omega | assumption | rfl | (simp only []; omega) | decide))) cf_X4_noPerson lk_X4_79 rfl rfl rfl rfl rfl (by decide +kernel) (Nat.le_of_ble_eq_true rfl) (fun rv_1 wv_2 hp_3 hm_4 => ?_)
  clear hm_4
  rcases hp_3 with ⟨hi_5, rfl, rfl⟩ | ⟨j_6, he_7, hi_8, hj_9, rfl, rfl⟩
  ·
    show VV E 0 0 5 [(0, .ref x0), (1, .int p), (2, .int f), (3, .int h)] [.int (nI 1)] [(x0, .inr (4, [.ref a0, .ref xm, .ref xp, .int (bz pd), .ref b0, .ref g0, .ref s0, .ref w0, .int (nI rs), .ref y0])), (a0, .inr (2, [.int (nI n), .int (nI m), .int (nI sh), .int (nI 0), .ref a1, .ref a2, .ref a3, .ref a4, .ref a5, .ref a6])), (a1, .inl (cI, 7, .inl (nIf ki))), (a2, .inl (cI, 7, .inl (nIf op))), (a3, .inl (cI, 7, .inl (nIf fa))), (a4, .inl (cI, 6, .inl (nIf K))), (a5, .inl (cI, 6, .inl (nIf G))), (a6, .inl (cI, 6, .inl (nIf T))), (b0, .inr (1, [.int (nI P), .int (nI Q), .ref b1, .ref b2, .ref b3])), (b1, .inl (cI, 6, .inl (nIf mf))), (b2, .inl (cI, 144, .inl (mIf M))), (b3, .inl (cI, 175, .inl (nIf kn))), (y0, .inl (cI, 7, .inl (nIf R)))]
    refine v_if_ne 22 8 zC dX4_can_5 (fun _ => ?_) (fun z => absurd z (by decide +kernel))
    refine v_al_n 23 zC dX4_can_22 0 rfl ?_
    refine v_ic (v := (-1)) 24 zC dX4_can_23 (by decide +kernel) ?_
    refine v_cV (As := [.int (-1)]) (st := []) 27 0 [0, 12] zC dX4_can_24 hA (c_X4_refuse (ev_l E) (ev_D E) cI (x0 := x0) (xn := a0) (xm := xm) (xp := xp) (b0 := b0) (g0 := g0) (s0 := s0) (w0 := w0) (y0 := y0) (pd := pd) (rs := rs) (R := R) (v := (-1)) (j := 1) (hv := (by first | omega | assumption | rfl | (simp only []; omega) | decide)) (h1 := (by first | omega | assumption | rfl | (simp only []; omega) | decide)) (h6 := (by first | omega | assumption | rfl | (simp only []; omega) | decide))) cf_X4_refuse lk_X4_50 rfl rfl rfl rfl rfl (by decide +kernel) (Nat.le_of_ble_eq_true rfl) (fun rv_11 wv_12 hp_13 hm_14 => ?_)
    clear hm_14
    obtain ⟨rfl, rfl⟩ := hp_13
    show VV E 0 0 27 [(0, .ref x0), (1, .int p), (2, .int f), (3, .int h)] [.int (-1)] [(x0, .inr (4, [.ref a0, .ref xm, .ref xp, .int (bz pd), .ref b0, .ref g0, .ref s0, .ref w0, .int (nI rs), .ref y0])), (a0, .inr (2, [.int (nI n), .int (nI m), .int (nI sh), .int (nI 0), .ref a1, .ref a2, .ref a3, .ref a4, .ref a5, .ref a6])), (a1, .inl (cI, 7, .inl (nIf ki))), (a2, .inl (cI, 7, .inl (nIf op))), (a3, .inl (cI, 7, .inl (nIf fa))), (a4, .inl (cI, 6, .inl (nIf K))), (a5, .inl (cI, 6, .inl (nIf G))), (a6, .inl (cI, 6, .inl (nIf T))), (b0, .inr (1, [.int (nI P), .int (nI Q), .ref b1, .ref b2, .ref b3])), (b1, .inl (cI, 6, .inl (nIf mf))), (b2, .inl (cI, 144, .inl (mIf M))), (b3, .inl (cI, 175, .inl (nIf kn))), (y0, .inl (cI, 7, .inl (nIf (un R 1 (R 1 + 1)))))]
    refine v_iret zC zT dX4_can_27  ?_
    first | exact ⟨P, Q, mf, kn, M, 1, _, by simp [q_can, *], hB, hM, rfl, rfl⟩ | exact ⟨_, _, _, _, _, 0, _, by unfold q_can; rw [hi_p]; dsimp only; rw [hi_f]; dsimp only; rw [hi_h]; dsimp only; rw [hs9]; rfl, hD9.2.2.1, hD9.2.2.2, rfl, rfl⟩ | exact ⟨_, _, _, _, _, 0, _, by unfold q_can; rw [hi_p]; dsimp only; rw [hi_f]; dsimp only; rw [hi_h]; dsimp only; rw [hs9]; rfl, hD9.2.2.1, hD9.2.2.2, rfl, rfl⟩
  ·
    show VV E 0 0 5 [(0, .ref x0), (1, .int p), (2, .int f), (3, .int h)] [.int (nI 0)] [(x0, .inr (4, [.ref a0, .ref xm, .ref xp, .int (bz pd), .ref b0, .ref g0, .ref s0, .ref w0, .int (nI rs), .ref y0])), (a0, .inr (2, [.int (nI n), .int (nI m), .int (nI sh), .int (nI 0), .ref a1, .ref a2, .ref a3, .ref a4, .ref a5, .ref a6])), (a1, .inl (cI, 7, .inl (nIf ki))), (a2, .inl (cI, 7, .inl (nIf op))), (a3, .inl (cI, 7, .inl (nIf fa))), (a4, .inl (cI, 6, .inl (nIf K))), (a5, .inl (cI, 6, .inl (nIf G))), (a6, .inl (cI, 6, .inl (nIf T))), (b0, .inr (1, [.int (nI P), .int (nI Q), .ref b1, .ref b2, .ref b3])), (b1, .inl (cI, 6, .inl (nIf mf))), (b2, .inl (cI, 144, .inl (mIf M))), (b3, .inl (cI, 175, .inl (nIf kn))), (y0, .inl (cI, 7, .inl (nIf R)))]
    subst he_7
    have hi_p := hi_8
    refine v_if_ne 22 8 zC dX4_can_5 (fun z => absurd (by decide +kernel) z) (fun _ => ?_)
    refine v_il_n 9 zC dX4_can_8 2 rfl ?_
    refine v_cS (As := [.int f]) (st := []) 12 [] zC dX4_can_9 hA (c_X4_noFact (ev_l E) (ev_D E) cI (p := f) ) cf_X4_noFact lk_X4_146 rfl rfl rfl (by decide +kernel) (Nat.le_of_ble_eq_true rfl) (fun rv_16 wv_17 hp_18 hm_19 => ?_)
    clear hm_19
    rcases hp_18 with ⟨hi_20, rfl, rfl⟩ | ⟨j_21, he_22, hi_23, hj_24, rfl, rfl⟩
    ·
      show VV E 0 0 12 [(0, .ref x0), (1, .int (nI j_6)), (2, .int f), (3, .int h)] [.int (nI 1)] [(x0, .inr (4, [.ref a0, .ref xm, .ref xp, .int (bz pd), .ref b0, .ref g0, .ref s0, .ref w0, .int (nI rs), .ref y0])), (a0, .inr (2, [.int (nI n), .int (nI m), .int (nI sh), .int (nI 0), .ref a1, .ref a2, .ref a3, .ref a4, .ref a5, .ref a6])), (a1, .inl (cI, 7, .inl (nIf ki))), (a2, .inl (cI, 7, .inl (nIf op))), (a3, .inl (cI, 7, .inl (nIf fa))), (a4, .inl (cI, 6, .inl (nIf K))), (a5, .inl (cI, 6, .inl (nIf G))), (a6, .inl (cI, 6, .inl (nIf T))), (b0, .inr (1, [.int (nI P), .int (nI Q), .ref b1, .ref b2, .ref b3])), (b1, .inl (cI, 6, .inl (nIf mf))), (b2, .inl (cI, 144, .inl (mIf M))), (b3, .inl (cI, 175, .inl (nIf kn))), (y0, .inl (cI, 7, .inl (nIf R)))]
      refine v_if_ne 22 15 zC dX4_can_12 (fun _ => ?_) (fun z => absurd z (by decide +kernel))
      refine v_al_n 23 zC dX4_can_22 0 rfl ?_
      refine v_ic (v := (-1)) 24 zC dX4_can_23 (by decide +kernel) ?_
      refine v_cV (As := [.int (-1)]) (st := []) 27 0 [0, 12] zC dX4_can_24 hA (c_X4_refuse (ev_l E) (ev_D E) cI (x0 := x0) (xn := a0) (xm := xm) (xp := xp) (b0 := b0) (g0 := g0) (s0 := s0) (w0 := w0) (y0 := y0) (pd := pd) (rs := rs) (R := R) (v := (-1)) (j := 1) (hv := (by first | omega | assumption | rfl | (simp only []; omega) | decide)) (h1 := (by first | omega | assumption | rfl | (simp only []; omega) | decide)) (h6 := (by first | omega | assumption | rfl | (simp only []; omega) | decide))) cf_X4_refuse lk_X4_50 rfl rfl rfl rfl rfl (by decide +kernel) (Nat.le_of_ble_eq_true rfl) (fun rv_26 wv_27 hp_28 hm_29 => ?_)
      clear hm_29
      obtain ⟨rfl, rfl⟩ := hp_28
      show VV E 0 0 27 [(0, .ref x0), (1, .int (nI j_6)), (2, .int f), (3, .int h)] [.int (-1)] [(x0, .inr (4, [.ref a0, .ref xm, .ref xp, .int (bz pd), .ref b0, .ref g0, .ref s0, .ref w0, .int (nI rs), .ref y0])), (a0, .inr (2, [.int (nI n), .int (nI m), .int (nI sh), .int (nI 0), .ref a1, .ref a2, .ref a3, .ref a4, .ref a5, .ref a6])), (a1, .inl (cI, 7, .inl (nIf ki))), (a2, .inl (cI, 7, .inl (nIf op))), (a3, .inl (cI, 7, .inl (nIf fa))), (a4, .inl (cI, 6, .inl (nIf K))), (a5, .inl (cI, 6, .inl (nIf G))), (a6, .inl (cI, 6, .inl (nIf T))), (b0, .inr (1, [.int (nI P), .int (nI Q), .ref b1, .ref b2, .ref b3])), (b1, .inl (cI, 6, .inl (nIf mf))), (b2, .inl (cI, 144, .inl (mIf M))), (b3, .inl (cI, 175, .inl (nIf kn))), (y0, .inl (cI, 7, .inl (nIf (un R 1 (R 1 + 1)))))]
      refine v_iret zC zT dX4_can_27  ?_
      first | exact ⟨P, Q, mf, kn, M, 1, _, by simp [q_can, *], hB, hM, rfl, rfl⟩ | exact ⟨_, _, _, _, _, 0, _, by unfold q_can; rw [hi_p]; dsimp only; rw [hi_f]; dsimp only; rw [hi_h]; dsimp only; rw [hs9]; rfl, hD9.2.2.1, hD9.2.2.2, rfl, rfl⟩ | exact ⟨_, _, _, _, _, 0, _, by unfold q_can; rw [hi_p]; dsimp only; rw [hi_f]; dsimp only; rw [hi_h]; dsimp only; rw [hs9]; rfl, hD9.2.2.1, hD9.2.2.2, rfl, rfl⟩
    ·
      show VV E 0 0 12 [(0, .ref x0), (1, .int (nI j_6)), (2, .int f), (3, .int h)] [.int (nI 0)] [(x0, .inr (4, [.ref a0, .ref xm, .ref xp, .int (bz pd), .ref b0, .ref g0, .ref s0, .ref w0, .int (nI rs), .ref y0])), (a0, .inr (2, [.int (nI n), .int (nI m), .int (nI sh), .int (nI 0), .ref a1, .ref a2, .ref a3, .ref a4, .ref a5, .ref a6])), (a1, .inl (cI, 7, .inl (nIf ki))), (a2, .inl (cI, 7, .inl (nIf op))), (a3, .inl (cI, 7, .inl (nIf fa))), (a4, .inl (cI, 6, .inl (nIf K))), (a5, .inl (cI, 6, .inl (nIf G))), (a6, .inl (cI, 6, .inl (nIf T))), (b0, .inr (1, [.int (nI P), .int (nI Q), .ref b1, .ref b2, .ref b3])), (b1, .inl (cI, 6, .inl (nIf mf))), (b2, .inl (cI, 144, .inl (mIf M))), (b3, .inl (cI, 175, .inl (nIf kn))), (y0, .inl (cI, 7, .inl (nIf R)))]
      subst he_22
      have hi_f := hi_23
      refine v_if_ne 22 15 zC dX4_can_12 (fun z => absurd (by decide +kernel) z) (fun _ => ?_)
      refine v_il_n 16 zC dX4_can_15 3 rfl ?_
      refine v_cS (As := [.int h]) (st := []) 19 [] zC dX4_can_16 hA (c_X4_noHour (ev_l E) (ev_D E) cI (p := h) ) cf_X4_noHour lk_X4_124 rfl rfl rfl (by decide +kernel) (Nat.le_of_ble_eq_true rfl) (fun rv_31 wv_32 hp_33 hm_34 => ?_)
      clear hm_34
      rcases hp_33 with ⟨hi_35, rfl, rfl⟩ | ⟨j_36, he_37, hi_38, hj_39, rfl, rfl⟩
      ·
        show VV E 0 0 19 [(0, .ref x0), (1, .int (nI j_6)), (2, .int (nI j_21)), (3, .int h)] [.int (nI 1)] [(x0, .inr (4, [.ref a0, .ref xm, .ref xp, .int (bz pd), .ref b0, .ref g0, .ref s0, .ref w0, .int (nI rs), .ref y0])), (a0, .inr (2, [.int (nI n), .int (nI m), .int (nI sh), .int (nI 0), .ref a1, .ref a2, .ref a3, .ref a4, .ref a5, .ref a6])), (a1, .inl (cI, 7, .inl (nIf ki))), (a2, .inl (cI, 7, .inl (nIf op))), (a3, .inl (cI, 7, .inl (nIf fa))), (a4, .inl (cI, 6, .inl (nIf K))), (a5, .inl (cI, 6, .inl (nIf G))), (a6, .inl (cI, 6, .inl (nIf T))), (b0, .inr (1, [.int (nI P), .int (nI Q), .ref b1, .ref b2, .ref b3])), (b1, .inl (cI, 6, .inl (nIf mf))), (b2, .inl (cI, 144, .inl (mIf M))), (b3, .inl (cI, 175, .inl (nIf kn))), (y0, .inl (cI, 7, .inl (nIf R)))]
        refine v_if_eq 28 22 zC dX4_can_19 (fun z => absurd z (by decide +kernel)) (fun _ => ?_)
        refine v_al_n 23 zC dX4_can_22 0 rfl ?_
        refine v_ic (v := (-1)) 24 zC dX4_can_23 (by decide +kernel) ?_
        refine v_cV (As := [.int (-1)]) (st := []) 27 0 [0, 12] zC dX4_can_24 hA (c_X4_refuse (ev_l E) (ev_D E) cI (x0 := x0) (xn := a0) (xm := xm) (xp := xp) (b0 := b0) (g0 := g0) (s0 := s0) (w0 := w0) (y0 := y0) (pd := pd) (rs := rs) (R := R) (v := (-1)) (j := 1) (hv := (by first | omega | assumption | rfl | (simp only []; omega) | decide)) (h1 := (by first | omega | assumption | rfl | (simp only []; omega) | decide)) (h6 := (by first | omega | assumption | rfl | (simp only []; omega) | decide))) cf_X4_refuse lk_X4_50 rfl rfl rfl rfl rfl (by decide +kernel) (Nat.le_of_ble_eq_true rfl) (fun rv_41 wv_42 hp_43 hm_44 => ?_)
        clear hm_44
        obtain ⟨rfl, rfl⟩ := hp_43
        show VV E 0 0 27 [(0, .ref x0), (1, .int (nI j_6)), (2, .int (nI j_21)), (3, .int h)] [.int (-1)] [(x0, .inr (4, [.ref a0, .ref xm, .ref xp, .int (bz pd), .ref b0, .ref g0, .ref s0, .ref w0, .int (nI rs), .ref y0])), (a0, .inr (2, [.int (nI n), .int (nI m), .int (nI sh), .int (nI 0), .ref a1, .ref a2, .ref a3, .ref a4, .ref a5, .ref a6])), (a1, .inl (cI, 7, .inl (nIf ki))), (a2, .inl (cI, 7, .inl (nIf op))), (a3, .inl (cI, 7, .inl (nIf fa))), (a4, .inl (cI, 6, .inl (nIf K))), (a5, .inl (cI, 6, .inl (nIf G))), (a6, .inl (cI, 6, .inl (nIf T))), (b0, .inr (1, [.int (nI P), .int (nI Q), .ref b1, .ref b2, .ref b3])), (b1, .inl (cI, 6, .inl (nIf mf))), (b2, .inl (cI, 144, .inl (mIf M))), (b3, .inl (cI, 175, .inl (nIf kn))), (y0, .inl (cI, 7, .inl (nIf (un R 1 (R 1 + 1)))))]
        refine v_iret zC zT dX4_can_27  ?_
        first | exact ⟨P, Q, mf, kn, M, 1, _, by simp [q_can, *], hB, hM, rfl, rfl⟩ | exact ⟨_, _, _, _, _, 0, _, by unfold q_can; rw [hi_p]; dsimp only; rw [hi_f]; dsimp only; rw [hi_h]; dsimp only; rw [hs9]; rfl, hD9.2.2.1, hD9.2.2.2, rfl, rfl⟩ | exact ⟨_, _, _, _, _, 0, _, by unfold q_can; rw [hi_p]; dsimp only; rw [hi_f]; dsimp only; rw [hi_h]; dsimp only; rw [hs9]; rfl, hD9.2.2.1, hD9.2.2.2, rfl, rfl⟩
      ·
        show VV E 0 0 19 [(0, .ref x0), (1, .int (nI j_6)), (2, .int (nI j_21)), (3, .int h)] [.int (nI 0)] [(x0, .inr (4, [.ref a0, .ref xm, .ref xp, .int (bz pd), .ref b0, .ref g0, .ref s0, .ref w0, .int (nI rs), .ref y0])), (a0, .inr (2, [.int (nI n), .int (nI m), .int (nI sh), .int (nI 0), .ref a1, .ref a2, .ref a3, .ref a4, .ref a5, .ref a6])), (a1, .inl (cI, 7, .inl (nIf ki))), (a2, .inl (cI, 7, .inl (nIf op))), (a3, .inl (cI, 7, .inl (nIf fa))), (a4, .inl (cI, 6, .inl (nIf K))), (a5, .inl (cI, 6, .inl (nIf G))), (a6, .inl (cI, 6, .inl (nIf T))), (b0, .inr (1, [.int (nI P), .int (nI Q), .ref b1, .ref b2, .ref b3])), (b1, .inl (cI, 6, .inl (nIf mf))), (b2, .inl (cI, 144, .inl (mIf M))), (b3, .inl (cI, 175, .inl (nIf kn))), (y0, .inl (cI, 7, .inl (nIf R)))]
        subst he_37
        have hi_h := hi_38
        refine v_if_eq 28 22 zC dX4_can_19 (fun _ => ?_) (fun z => absurd (by decide +kernel) z)
        refine v_al_n 29 zC dX4_can_28 0 rfl ?_
        refine v_gf 32 0 zC dX4_can_29 gf_X4_25 rfl rfl ?_
        refine v_al_n 33 zC dX4_can_32 0 rfl ?_
        refine v_gf 36 0 zC dX4_can_33 gf_X4_12 rfl rfl ?_
        refine v_cV (As := [.ref a0]) (st := []) 39 8 [8, 9, 10, 11, 1, 2, 3, 4, 5, 6, 7] zC dX4_can_36 hA (c_X1_live (ev_l E) (ev_D E) cI (b0 := b0) (b1 := b1) (b2 := b2) (b3 := b3) (P := P) (Q := Q) (mf := mf) (M := M) (kn := kn) (a0 := a0) (a1 := a1) (a2 := a2) (a3 := a3) (a4 := a4) (a5 := a5) (a6 := a6) (n := n) (m := m) (sh := sh) (aw := 0) (ki := ki) (op := op) (fa := fa) (K := K) (G := G) (T := T) (hn := (by first | omega | assumption | rfl | (simp only []; omega) | decide)) (hm := (by first | omega | assumption | rfl | (simp only []; omega) | decide)) (hK := (by first | omega | assumption | rfl | (simp only []; omega) | decide)) (hG := (by first | omega | assumption | rfl | (simp only []; omega) | decide)) (hT := (by first | omega | assumption | rfl | (simp only []; omega) | decide)) (hA2 := (by first | omega | assumption | rfl | (simp only []; omega) | decide)) (hB := (by first | omega | assumption | rfl | (simp only []; omega) | decide)) (hM := (by first | omega | assumption | rfl | (simp only []; omega) | decide))) cf_X1_live lk_X4_158 rfl rfl rfl rfl rfl (by decide +kernel) (Nat.le_of_ble_eq_true rfl) (fun rv_46 wv_47 hp_48 hm_49 => ?_)
        clear hm_49
        obtain ⟨mg_50, X_51, Y_52, hD_53, rfl, rfl⟩ := hp_48
        show VV E 0 0 39 [(0, .ref x0), (1, .int (nI j_6)), (2, .int (nI j_21)), (3, .int (nI j_36))] [] [(x0, .inr (4, [.ref a0, .ref xm, .ref xp, .int (bz pd), .ref b0, .ref g0, .ref s0, .ref w0, .int (nI rs), .ref y0])), (a0, .inr (2, [.int (nI n), .int (nI m), .int (nI sh), .int (nI 0), .ref a1, .ref a2, .ref a3, .ref a4, .ref a5, .ref a6])), (a1, .inl (cI, 7, .inl (nIf ki))), (a2, .inl (cI, 7, .inl (nIf op))), (a3, .inl (cI, 7, .inl (nIf fa))), (a4, .inl (cI, 6, .inl (nIf K))), (a5, .inl (cI, 6, .inl (nIf G))), (a6, .inl (cI, 6, .inl (nIf T))), (b0, .inr (1, [.int (nI n), .int (nI m), .ref b1, .ref b2, .ref b3])), (b1, .inl (cI, 6, .inl (nIf mg_50))), (b2, .inl (cI, 144, .inl (mIf Y_52))), (b3, .inl (cI, 175, .inl (nIf X_51))), (y0, .inl (cI, 7, .inl (nIf R)))]
        have hD9 := hD_53
        refine v_al_n 40 zC dX4_can_39 0 rfl ?_
        refine v_il_n 41 zC dX4_can_40 1 rfl ?_
        refine v_il_n 42 zC dX4_can_41 2 rfl ?_
        refine v_il_n 43 zC dX4_can_42 3 rfl ?_
        refine v_cV (As := [.int (nI j_6), .int (nI j_21), .int (nI j_36)]) (st := []) 46 0 [0, 1, 7, 8, 10] zC dX4_can_43 hA (c_X4_saidThrough (ev_l E) (ev_D E) cI (x0 := x0) (xm := xm) (xp := xp) (g0 := g0) (s0 := s0) (w0 := w0) (y0 := y0) (pd := pd) (rs := rs) (b0 := b0) (b1 := b1) (b2 := b2) (b3 := b3) (M := Y_52) (a0 := a0) (a1 := a1) (a2 := a2) (a3 := a3) (a4 := a4) (a5 := a5) (a6 := a6) (n := n) (m := m) (sh := sh) (ki := ki) (op := op) (fa := fa) (K := K) (G := G) (T := T) (X := X_51) (p := j_6) (f := j_21) (h := j_36) (hw := hw) (hD9 := hD9) (hp := (by first | omega | assumption | rfl | (simp only []; omega) | decide)) (hf := (by first | omega | assumption | rfl | (simp only []; omega) | decide)) (hh := (by first | omega | assumption | rfl | (simp only []; omega) | decide))) cf_X4_saidThrough lk_X4_218 rfl rfl rfl rfl rfl (by decide +kernel) (Nat.le_of_ble_eq_true rfl) (fun rv_54 wv_55 hp_56 hm_57 => ?_)
        clear hm_57
        obtain ⟨rfl, rfl⟩ := hp_56
        show VV E 0 0 46 [(0, .ref x0), (1, .int (nI j_6)), (2, .int (nI j_21)), (3, .int (nI j_36))] [.int (bz (SAIDB (n, m, sh, 0, ki, op, fa, K, G, T) j_6 j_21 j_36))] [(x0, .inr (4, [.ref a0, .ref xm, .ref xp, .int (bz pd), .ref b0, .ref g0, .ref s0, .ref w0, .int (nI rs), .ref y0])), (a0, .inr (2, [.int (nI n), .int (nI m), .int (nI sh), .int (nI 0), .ref a1, .ref a2, .ref a3, .ref a4, .ref a5, .ref a6])), (a1, .inl (cI, 7, .inl (nIf ki))), (a2, .inl (cI, 7, .inl (nIf op))), (a3, .inl (cI, 7, .inl (nIf fa))), (a4, .inl (cI, 6, .inl (nIf K))), (a5, .inl (cI, 6, .inl (nIf G))), (a6, .inl (cI, 6, .inl (nIf T))), (b0, .inr (1, [.int (nI n), .int (nI m), .ref b1, .ref b2, .ref b3])), (b1, .inl (cI, 6, .inl (nIf mg_50))), (b2, .inl (cI, 144, .inl (mIf Y_52))), (b3, .inl (cI, 175, .inl (nIf X_51))), (y0, .inl (cI, 7, .inl (nIf R)))]
        refine v_ifb_eq 53 49 zC dX4_can_46 (fun h_58 => ?_) (fun h_58 => ?_)
        ·
          have hs9 := h_58
          refine v_ic (v := (nI 0)) 54 zC dX4_can_53 (by decide +kernel) ?_
          refine v_iret zC zT dX4_can_54  ?_
          first | exact ⟨P, Q, mf, kn, M, 1, _, by simp [q_can, *], hB, hM, rfl, rfl⟩ | exact ⟨_, _, _, _, _, 0, _, by unfold q_can; rw [hi_p]; dsimp only; rw [hi_f]; dsimp only; rw [hi_h]; dsimp only; rw [hs9]; rfl, hD9.2.2.1, hD9.2.2.2, rfl, rfl⟩ | exact ⟨_, _, _, _, _, 0, _, by unfold q_can; rw [hi_p]; dsimp only; rw [hi_f]; dsimp only; rw [hi_h]; dsimp only; rw [hs9]; rfl, hD9.2.2.1, hD9.2.2.2, rfl, rfl⟩
        ·
          have hs9 := h_58
          refine v_ic (v := (nI 1)) 50 zC dX4_can_49 (by decide +kernel) ?_
          refine v_goto 54 zC dX4_can_50 ?_
          refine v_iret zC zT dX4_can_54  ?_
          first | exact ⟨P, Q, mf, kn, M, 1, _, by simp [q_can, *], hB, hM, rfl, rfl⟩ | exact ⟨_, _, _, _, _, 0, _, by unfold q_can; rw [hi_p]; dsimp only; rw [hi_f]; dsimp only; rw [hi_h]; dsimp only; rw [hs9]; rfl, hD9.2.2.1, hD9.2.2.2, rfl, rfl⟩ | exact ⟨_, _, _, _, _, 0, _, by unfold q_can; rw [hi_p]; dsimp only; rw [hi_f]; dsimp only; rw [hi_h]; dsimp only; rw [hs9]; rfl, hD9.2.2.1, hD9.2.2.2, rfl, rfl⟩
set_option maxRecDepth 100000 in
set_option maxHeartbeats 4000000 in
theorem c_X4_who (l : Launch) (D : va_G) (cI : ClassId) (x0 xm xp g0 s0 w0 y0 : Nat) (pd : Bool) (rs : Nat) (b0 b1 b2 b3 : Nat) (P Q : Nat) (mf : Nat → Nat) (M : Nat → Option Nat) (kn : Nat → Nat) (a0 a1 a2 a3 a4 a5 a6 : Nat) (n m sh : Nat) (ki op fa K G T : Nat → Nat) (R : Nat → Nat) (p q : Int32) (hw : FW n m sh ki op fa K G T) (hB : ∀ z, kn z < 1024) (hM : ∀ z v, M z = some v → v < 7) : CT l yX4_who cX4_who 5 (some .int) { frames := 4, cells := 0, slots := 0, locals := 99 } D cI [.ref x0, .int p, .int q] [(x0, .inr (4, [.ref a0, .ref xm, .ref xp, .int (bz pd), .ref b0, .ref g0, .ref s0, .ref w0, .int (nI rs), .ref y0])), (a0, .inr (2, [.int (nI n), .int (nI m), .int (nI sh), .int (nI 0), .ref a1, .ref a2, .ref a3, .ref a4, .ref a5, .ref a6])), (a1, .inl (cI, 7, .inl (nIf ki))), (a2, .inl (cI, 7, .inl (nIf op))), (a3, .inl (cI, 7, .inl (nIf fa))), (a4, .inl (cI, 6, .inl (nIf K))), (a5, .inl (cI, 6, .inl (nIf G))), (a6, .inl (cI, 6, .inl (nIf T))), (b0, .inr (1, [.int (nI P), .int (nI Q), .ref b1, .ref b2, .ref b3])), (b1, .inl (cI, 6, .inl (nIf mf))), (b2, .inl (cI, 144, .inl (mIf M))), (b3, .inl (cI, 175, .inl (nIf kn))), (y0, .inl (cI, 7, .inl (nIf R)))] (fun zr zw => (∃ P1 : Nat, ∃ Q1 : Nat, ∃ mg : Nat → Nat, ∃ X : Nat → Nat, ∃ Y : Nat → Option Nat, ∃ rc : Nat, ∃ rv : Int32, (q_who (n, m, sh, 0, ki, op, fa, K, G, T) p q = (rc, rv)) ∧ (∀ z, X z < 1024) ∧ (∀ z v, Y z = some v → v < 7) ∧ zr = some (.int rv) ∧ zw = [(x0, .inr (4, [.ref a0, .ref xm, .ref xp, .int (bz pd), .ref b0, .ref g0, .ref s0, .ref w0, .int (nI rs), .ref y0])), (a0, .inr (2, [.int (nI n), .int (nI m), .int (nI sh), .int (nI 0), .ref a1, .ref a2, .ref a3, .ref a4, .ref a5, .ref a6])), (a1, .inl (cI, 7, .inl (nIf ki))), (a2, .inl (cI, 7, .inl (nIf op))), (a3, .inl (cI, 7, .inl (nIf fa))), (a4, .inl (cI, 6, .inl (nIf K))), (a5, .inl (cI, 6, .inl (nIf G))), (a6, .inl (cI, 6, .inl (nIf T))), (b0, .inr (1, [.int (nI P1), .int (nI Q1), .ref b1, .ref b2, .ref b3])), (b1, .inl (cI, 6, .inl (nIf mg))), (b2, .inl (cI, 144, .inl (mIf Y))), (b3, .inl (cI, 175, .inl (nIf X))), (y0, .inl (cI, 7, .inl (nIf (rf R rc))))])) := by
  refine CT_of RX4 rfl (by decide +kernel) (Nat.le_of_ble_eq_true rfl) (fun E hnE zC zT => ?_)
  have hA : ∀ q, (ev_s E).heap.size ≤ q → ev_A E q := fun q h => by rw [zT.2]; exact Or.inr h
  obtain ⟨hn, hm, hsh, hki, hop, hfa, hK, hG, hT, vki, vop, vfa, vK, vG, vT⟩ := id hw
  show VV E 0 0 0 [(0, .ref x0), (1, .int p), (2, .int q)] [] [(x0, .inr (4, [.ref a0, .ref xm, .ref xp, .int (bz pd), .ref b0, .ref g0, .ref s0, .ref w0, .int (nI rs), .ref y0])), (a0, .inr (2, [.int (nI n), .int (nI m), .int (nI sh), .int (nI 0), .ref a1, .ref a2, .ref a3, .ref a4, .ref a5, .ref a6])), (a1, .inl (cI, 7, .inl (nIf ki))), (a2, .inl (cI, 7, .inl (nIf op))), (a3, .inl (cI, 7, .inl (nIf fa))), (a4, .inl (cI, 6, .inl (nIf K))), (a5, .inl (cI, 6, .inl (nIf G))), (a6, .inl (cI, 6, .inl (nIf T))), (b0, .inr (1, [.int (nI P), .int (nI Q), .ref b1, .ref b2, .ref b3])), (b1, .inl (cI, 6, .inl (nIf mf))), (b2, .inl (cI, 144, .inl (mIf M))), (b3, .inl (cI, 175, .inl (nIf kn))), (y0, .inl (cI, 7, .inl (nIf R)))]
  refine v_al_n 1 zC dX4_who_0 0 rfl ?_
  refine v_il_n 2 zC dX4_who_1 1 rfl ?_
  refine v_cV (As := [.int p]) (st := []) 5 0 [0, 1] zC dX4_who_2 hA (c_X4_noPerson (ev_l E) (ev_D E) cI (x0 := x0) (xm := xm) (xp := xp) (b0 := b0) (g0 := g0) (s0 := s0) (w0 := w0) (y0 := y0) (pd := pd) (rs := rs) (a0 := a0) (a1 := a1) (a2 := a2) (a3 := a3) (a4 := a4) (a5 := a5) (a6 := a6) (n := n) (m := m) (sh := sh) (p := p) (hn := (by first | omega | assumption | rfl | (simp only []; omega) | decide))) cf_X4_noPerson lk_X4_79 rfl rfl rfl rfl rfl (by decide +kernel) (Nat.le_of_ble_eq_true rfl) (fun rv_1 wv_2 hp_3 hm_4 => ?_)
  clear hm_4
  rcases hp_3 with ⟨hi_5, rfl, rfl⟩ | ⟨j_6, he_7, hi_8, hj_9, rfl, rfl⟩
  ·
    show VV E 0 0 5 [(0, .ref x0), (1, .int p), (2, .int q)] [.int (nI 1)] [(x0, .inr (4, [.ref a0, .ref xm, .ref xp, .int (bz pd), .ref b0, .ref g0, .ref s0, .ref w0, .int (nI rs), .ref y0])), (a0, .inr (2, [.int (nI n), .int (nI m), .int (nI sh), .int (nI 0), .ref a1, .ref a2, .ref a3, .ref a4, .ref a5, .ref a6])), (a1, .inl (cI, 7, .inl (nIf ki))), (a2, .inl (cI, 7, .inl (nIf op))), (a3, .inl (cI, 7, .inl (nIf fa))), (a4, .inl (cI, 6, .inl (nIf K))), (a5, .inl (cI, 6, .inl (nIf G))), (a6, .inl (cI, 6, .inl (nIf T))), (b0, .inr (1, [.int (nI P), .int (nI Q), .ref b1, .ref b2, .ref b3])), (b1, .inl (cI, 6, .inl (nIf mf))), (b2, .inl (cI, 144, .inl (mIf M))), (b3, .inl (cI, 175, .inl (nIf kn))), (y0, .inl (cI, 7, .inl (nIf R)))]
    refine v_if_eq 14 8 zC dX4_who_5 (fun z => absurd z (by decide +kernel)) (fun _ => ?_)
    refine v_al_n 9 zC dX4_who_8 0 rfl ?_
    refine v_ic (v := (-1)) 10 zC dX4_who_9 (by decide +kernel) ?_
    refine v_cV (As := [.int (-1)]) (st := []) 13 0 [0, 12] zC dX4_who_10 hA (c_X4_refuse (ev_l E) (ev_D E) cI (x0 := x0) (xn := a0) (xm := xm) (xp := xp) (b0 := b0) (g0 := g0) (s0 := s0) (w0 := w0) (y0 := y0) (pd := pd) (rs := rs) (R := R) (v := (-1)) (j := 1) (hv := (by first | omega | assumption | rfl | (simp only []; omega) | decide)) (h1 := (by first | omega | assumption | rfl | (simp only []; omega) | decide)) (h6 := (by first | omega | assumption | rfl | (simp only []; omega) | decide))) cf_X4_refuse lk_X4_50 rfl rfl rfl rfl rfl (by decide +kernel) (Nat.le_of_ble_eq_true rfl) (fun rv_11 wv_12 hp_13 hm_14 => ?_)
    clear hm_14
    obtain ⟨rfl, rfl⟩ := hp_13
    show VV E 0 0 13 [(0, .ref x0), (1, .int p), (2, .int q)] [.int (-1)] [(x0, .inr (4, [.ref a0, .ref xm, .ref xp, .int (bz pd), .ref b0, .ref g0, .ref s0, .ref w0, .int (nI rs), .ref y0])), (a0, .inr (2, [.int (nI n), .int (nI m), .int (nI sh), .int (nI 0), .ref a1, .ref a2, .ref a3, .ref a4, .ref a5, .ref a6])), (a1, .inl (cI, 7, .inl (nIf ki))), (a2, .inl (cI, 7, .inl (nIf op))), (a3, .inl (cI, 7, .inl (nIf fa))), (a4, .inl (cI, 6, .inl (nIf K))), (a5, .inl (cI, 6, .inl (nIf G))), (a6, .inl (cI, 6, .inl (nIf T))), (b0, .inr (1, [.int (nI P), .int (nI Q), .ref b1, .ref b2, .ref b3])), (b1, .inl (cI, 6, .inl (nIf mf))), (b2, .inl (cI, 144, .inl (mIf M))), (b3, .inl (cI, 175, .inl (nIf kn))), (y0, .inl (cI, 7, .inl (nIf (un R 1 (R 1 + 1)))))]
    refine v_iret zC zT dX4_who_13  ?_
    first | exact ⟨P, Q, mf, kn, M, 1, _, by simp [q_who, *], hB, hM, rfl, rfl⟩ | exact ⟨P, Q, mf, kn, M, 4, _, by simp [q_who, *], hB, hM, rfl, rfl⟩ | exact ⟨P, Q, mf, kn, M, 6, _, by simp [q_who, *], hB, hM, rfl, rfl⟩ | exact ⟨_, _, _, _, _, 0, _, by unfold q_who; rw [hi_p]; dsimp only; rw [if_neg hge, if_neg hle, nI_clamp (by omega), hx, show d = m by omega]; rfl, hD9.2.2.1, hD9.2.2.2, rfl, rfl⟩
  ·
    show VV E 0 0 5 [(0, .ref x0), (1, .int p), (2, .int q)] [.int (nI 0)] [(x0, .inr (4, [.ref a0, .ref xm, .ref xp, .int (bz pd), .ref b0, .ref g0, .ref s0, .ref w0, .int (nI rs), .ref y0])), (a0, .inr (2, [.int (nI n), .int (nI m), .int (nI sh), .int (nI 0), .ref a1, .ref a2, .ref a3, .ref a4, .ref a5, .ref a6])), (a1, .inl (cI, 7, .inl (nIf ki))), (a2, .inl (cI, 7, .inl (nIf op))), (a3, .inl (cI, 7, .inl (nIf fa))), (a4, .inl (cI, 6, .inl (nIf K))), (a5, .inl (cI, 6, .inl (nIf G))), (a6, .inl (cI, 6, .inl (nIf T))), (b0, .inr (1, [.int (nI P), .int (nI Q), .ref b1, .ref b2, .ref b3])), (b1, .inl (cI, 6, .inl (nIf mf))), (b2, .inl (cI, 144, .inl (mIf M))), (b3, .inl (cI, 175, .inl (nIf kn))), (y0, .inl (cI, 7, .inl (nIf R)))]
    subst he_7
    have hi_p := hi_8
    obtain ⟨jp, hx_jp⟩ : ∃ z, z = j_6 := ⟨_, rfl⟩
    subst hx_jp
    refine v_if_eq 14 8 zC dX4_who_5 (fun _ => ?_) (fun z => absurd (by decide +kernel) z)
    refine v_il_n 15 zC dX4_who_14 2 rfl ?_
    refine v_if_ge 25 18 zC dX4_who_15 (fun h_16 => ?_) (fun h_16 => ?_)
    ·
      have hge : ¬ q < 0 := Int32.not_lt.mpr h_16
      refine v_il_n 26 zC dX4_who_25 2 rfl ?_
      refine v_bp (v := (nI 24)) 28 zC dX4_who_26 (by decide +kernel) ?_
      refine v_icmp_le 38 31 zC dX4_who_28 (fun h_17 => ?_) (fun h_17 => ?_)
      ·
        have hle := Int32.not_lt.mpr h_17
        obtain ⟨kq, hk_kq, he_kq⟩ := ofR hge hle
        subst he_kq
        have hc_kq := nI_clamp (show kq < 2 ^ 31 by omega)
        refine v_al_n 39 zC dX4_who_38 0 rfl ?_
        refine v_gf 42 0 zC dX4_who_39 gf_X4_25 rfl rfl ?_
        refine v_al_n 43 zC dX4_who_42 0 rfl ?_
        refine v_gf 46 0 zC dX4_who_43 gf_X4_12 rfl rfl ?_
        refine v_cV (As := [.ref a0]) (st := []) 49 8 [8, 9, 10, 11, 1, 2, 3, 4, 5, 6, 7] zC dX4_who_46 hA (c_X1_live (ev_l E) (ev_D E) cI (b0 := b0) (b1 := b1) (b2 := b2) (b3 := b3) (P := P) (Q := Q) (mf := mf) (M := M) (kn := kn) (a0 := a0) (a1 := a1) (a2 := a2) (a3 := a3) (a4 := a4) (a5 := a5) (a6 := a6) (n := n) (m := m) (sh := sh) (aw := 0) (ki := ki) (op := op) (fa := fa) (K := K) (G := G) (T := T) (hn := (by first | omega | assumption | rfl | (simp only []; omega) | decide)) (hm := (by first | omega | assumption | rfl | (simp only []; omega) | decide)) (hK := (by first | omega | assumption | rfl | (simp only []; omega) | decide)) (hG := (by first | omega | assumption | rfl | (simp only []; omega) | decide)) (hT := (by first | omega | assumption | rfl | (simp only []; omega) | decide)) (hA2 := (by first | omega | assumption | rfl | (simp only []; omega) | decide)) (hB := (by first | omega | assumption | rfl | (simp only []; omega) | decide)) (hM := (by first | omega | assumption | rfl | (simp only []; omega) | decide))) cf_X1_live lk_X4_158 rfl rfl rfl rfl rfl (by decide +kernel) (Nat.le_of_ble_eq_true rfl) (fun rv_18 wv_19 hp_20 hm_21 => ?_)
        clear hm_21
        obtain ⟨mg_22, X_23, Y_24, hD_25, rfl, rfl⟩ := hp_20
        show VV E 0 0 49 [(0, .ref x0), (1, .int (nI jp)), (2, .int (nI kq))] [] [(x0, .inr (4, [.ref a0, .ref xm, .ref xp, .int (bz pd), .ref b0, .ref g0, .ref s0, .ref w0, .int (nI rs), .ref y0])), (a0, .inr (2, [.int (nI n), .int (nI m), .int (nI sh), .int (nI 0), .ref a1, .ref a2, .ref a3, .ref a4, .ref a5, .ref a6])), (a1, .inl (cI, 7, .inl (nIf ki))), (a2, .inl (cI, 7, .inl (nIf op))), (a3, .inl (cI, 7, .inl (nIf fa))), (a4, .inl (cI, 6, .inl (nIf K))), (a5, .inl (cI, 6, .inl (nIf G))), (a6, .inl (cI, 6, .inl (nIf T))), (b0, .inr (1, [.int (nI n), .int (nI m), .ref b1, .ref b2, .ref b3])), (b1, .inl (cI, 6, .inl (nIf mg_22))), (b2, .inl (cI, 144, .inl (mIf Y_24))), (b3, .inl (cI, 175, .inl (nIf X_23))), (y0, .inl (cI, 7, .inl (nIf R)))]
        have hD9 := hD_25
        refine v_ic (v := (nI 0)) 50 zC dX4_who_49 (by decide +kernel) ?_
        refine v_is_n (lv2 := [(3, .int (nI 0)), (0, .ref x0), (1, .int (nI jp)), (2, .int (nI kq))]) 51 zC dX4_who_50 (by rw [hnE]; decide) rfl ?_
        refine v_ic (v := (nI 0)) 52 zC dX4_who_51 (by decide +kernel) ?_
        refine v_is (lv2 := [(4, .int (nI 0)), (3, .int (nI 0)), (0, .ref x0), (1, .int (nI jp)), (2, .int (nI kq))]) 54 zC dX4_who_52 (by rw [hnE]; decide) rfl ?_
        have lp54 : ∀ (mz : Nat) (x : Nat) (d : Nat), (x = mkn (fun d => decide (THRU (n, m, sh, 0, ki, op, fa, K, G, T) d jp = kq)) d) → (d ≤ m) → m - d = mz → VV E 0 0 54 [(4, .int (nI d)), (3, .int (nI x)), (0, .ref x0), (1, .int (nI jp)), (2, .int (nI kq))] [] [(x0, .inr (4, [.ref a0, .ref xm, .ref xp, .int (bz pd), .ref b0, .ref g0, .ref s0, .ref w0, .int (nI rs), .ref y0])), (a0, .inr (2, [.int (nI n), .int (nI m), .int (nI sh), .int (nI 0), .ref a1, .ref a2, .ref a3, .ref a4, .ref a5, .ref a6])), (a1, .inl (cI, 7, .inl (nIf ki))), (a2, .inl (cI, 7, .inl (nIf op))), (a3, .inl (cI, 7, .inl (nIf fa))), (a4, .inl (cI, 6, .inl (nIf K))), (a5, .inl (cI, 6, .inl (nIf G))), (a6, .inl (cI, 6, .inl (nIf T))), (b0, .inr (1, [.int (nI n), .int (nI m), .ref b1, .ref b2, .ref b3])), (b1, .inl (cI, 6, .inl (nIf mg_22))), (b2, .inl (cI, 144, .inl (mIf Y_24))), (b3, .inl (cI, 175, .inl (nIf X_23))), (y0, .inl (cI, 7, .inl (nIf R)))] := by
          intro mz
          induction mz using Nat.strongRecOn with
          | _ mz ih54 =>
          intro x d hx hd hm54
          refine v_il 56 zC dX4_who_54 0 rfl ?_
          refine v_al_n 57 zC dX4_who_56 2 rfl ?_
          refine v_gf 60 0 zC dX4_who_57 gf_X4_12 rfl rfl ?_
          refine v_gf 63 1 zC dX4_who_60 gf_X4_121 rfl rfl ?_
          refine v_icmpn_ge 93 66 zC dX4_who_63 (fun h_26 => ?_) (fun h_26 => ?_)
          ·
            refine v_il_n 94 zC dX4_who_93 1 rfl ?_
            refine v_iret zC zT dX4_who_94  ?_
            first | exact ⟨P, Q, mf, kn, M, 1, _, by simp [q_who, *], hB, hM, rfl, rfl⟩ | exact ⟨P, Q, mf, kn, M, 4, _, by simp [q_who, *], hB, hM, rfl, rfl⟩ | exact ⟨P, Q, mf, kn, M, 6, _, by simp [q_who, *], hB, hM, rfl, rfl⟩ | exact ⟨_, _, _, _, _, 0, _, by unfold q_who; rw [hi_p]; dsimp only; rw [if_neg hge, if_neg hle, nI_clamp (by omega), hx, show d = m by omega]; rfl, hD9.2.2.1, hD9.2.2.2, rfl, rfl⟩
          ·
            refine v_al_n 67 zC dX4_who_66 2 rfl ?_
            refine v_gf 70 0 zC dX4_who_67 gf_X4_25 rfl rfl ?_
            refine v_il 72 zC dX4_who_70 0 rfl ?_
            refine v_il_n 73 zC dX4_who_72 3 rfl ?_
            refine v_cV (As := [.int (nI d), .int (nI jp)]) (st := []) 76 8 [8, 10] zC dX4_who_73 hA (c_X1_timesThrough (ev_l E) (ev_D E) cI (b0 := b0) (b1 := b1) (b2 := b2) (b3 := b3) (P := n) (Q := m) (M := Y_24) (d := d) (p := jp) (hQ := (by first | omega | assumption | rfl | (simp only []; omega) | decide)) (hd := (by first | omega | assumption | rfl | (simp only []; omega) | decide)) (hp := (by first | omega | assumption | rfl | (simp only []; omega) | decide)) (hM := hD9.2.2.2)) cf_X1_timesThrough lk_X4_224 rfl rfl rfl rfl rfl (by decide +kernel) (Nat.le_of_ble_eq_true rfl) (fun rv_27 wv_28 hp_29 hm_30 => ?_)
            clear hm_30
            obtain ⟨rfl, rfl⟩ := hp_29
            show VV E 0 0 76 [(4, .int (nI d)), (3, .int (nI x)), (0, .ref x0), (1, .int (nI jp)), (2, .int (nI kq))] [.int (nI (ctn (fun z => Y_24 (z * 6 + d) == some jp) 24))] [(x0, .inr (4, [.ref a0, .ref xm, .ref xp, .int (bz pd), .ref b0, .ref g0, .ref s0, .ref w0, .int (nI rs), .ref y0])), (a0, .inr (2, [.int (nI n), .int (nI m), .int (nI sh), .int (nI 0), .ref a1, .ref a2, .ref a3, .ref a4, .ref a5, .ref a6])), (a1, .inl (cI, 7, .inl (nIf ki))), (a2, .inl (cI, 7, .inl (nIf op))), (a3, .inl (cI, 7, .inl (nIf fa))), (a4, .inl (cI, 6, .inl (nIf K))), (a5, .inl (cI, 6, .inl (nIf G))), (a6, .inl (cI, 6, .inl (nIf T))), (b0, .inr (1, [.int (nI n), .int (nI m), .ref b1, .ref b2, .ref b3])), (b1, .inl (cI, 6, .inl (nIf mg_22))), (b2, .inl (cI, 144, .inl (mIf Y_24))), (b3, .inl (cI, 175, .inl (nIf X_23))), (y0, .inl (cI, 7, .inl (nIf R)))]
            refine v_il_n 77 zC dX4_who_76 4 rfl ?_
            have hc9 : (ctn (fun z => Y_24 (z * 6 + d) == some jp) 24) ≤ 24 := ctn_le _ _
            refine v_icmpn_ne 87 80 zC dX4_who_77 (fun h_31 => ?_) (fun h_31 => ?_)
            ·
              rw [dk_thru hD9 (by omega)] at h_31
              refine v_inc (v := (nI (d + 1))) (lv2 := [(4, .int (nI (d + 1))), (3, .int (nI x)), (0, .ref x0), (1, .int (nI jp)), (2, .int (nI kq))]) 90 zC dX4_who_87 (j := 0) rfl (nI_add _ 1) (by rw [hnE]; decide) rfl ?_
              refine v_goto 54 zC dX4_who_90 ?_
              refine v_lvs (lv2 := [(4, .int (nI (d + 1))), (3, .int (nI x)), (0, .ref x0), (1, .int (nI jp)), (2, .int (nI kq))]) [0, 1, 2, 3, 4] rfl ?_
              exact ih54 _ (by omega) x (d + 1) (by first | exact (by rw [hx]; exact (mkn_1 (decide_eq_true (by assumption))).symm) | exact (by rw [hx]; exact (mkn_0 (decide_eq_false (by assumption))).symm)) (by first | omega | assumption | rfl | (simp only []; omega) | decide) rfl
            ·
              rw [dk_thru hD9 (by omega)] at h_31
              refine v_il_n 81 zC dX4_who_80 1 rfl ?_
              refine v_ic (v := (nI 1)) 82 zC dX4_who_81 (by decide +kernel) ?_
              refine v_il 84 zC dX4_who_82 0 rfl ?_
              refine v_ishl (v := (nI (2 ^ d))) 85 zC dX4_who_84 (b1n (by omega)) ?_
              refine v_ior (v := (nI (x ||| (2 ^ d)))) 86 zC dX4_who_85 (fa_or _ _) ?_
              refine v_is_n (lv2 := [(3, .int (nI (x ||| (2 ^ d)))), (4, .int (nI d)), (0, .ref x0), (1, .int (nI jp)), (2, .int (nI kq))]) 87 zC dX4_who_86 (by rw [hnE]; decide) rfl ?_
              refine v_inc (v := (nI (d + 1))) (lv2 := [(4, .int (nI (d + 1))), (3, .int (nI (x ||| (2 ^ d)))), (0, .ref x0), (1, .int (nI jp)), (2, .int (nI kq))]) 90 zC dX4_who_87 (j := 1) rfl (nI_add _ 1) (by rw [hnE]; decide) rfl ?_
              refine v_goto 54 zC dX4_who_90 ?_
              refine v_lvs (lv2 := [(4, .int (nI (d + 1))), (3, .int (nI (x ||| (2 ^ d)))), (0, .ref x0), (1, .int (nI jp)), (2, .int (nI kq))]) [0, 1, 2, 3, 4] rfl ?_
              exact ih54 _ (by omega) (x ||| (2 ^ d)) (d + 1) (by first | exact (by rw [hx]; exact (mkn_1 (decide_eq_true (by assumption))).symm) | exact (by rw [hx]; exact (mkn_0 (decide_eq_false (by assumption))).symm)) (by first | omega | assumption | rfl | (simp only []; omega) | decide) rfl
        refine v_lvs (lv2 := [(4, .int (nI 0)), (3, .int (nI 0)), (0, .ref x0), (1, .int (nI jp)), (2, .int (nI kq))]) [0, 1, 2, 3, 4] rfl ?_
        exact lp54 _ 0 0 (by first | omega | assumption | rfl | (simp only []; omega) | decide) (by first | omega | assumption | rfl | (simp only []; omega) | decide) rfl
      ·
        have hlt9 := Int32.not_le.mp h_17
        refine v_al_n 32 zC dX4_who_31 0 rfl ?_
        refine v_bp (v := (-6)) 34 zC dX4_who_32 (by decide +kernel) ?_
        refine v_cV (As := [.int (-6)]) (st := []) 37 0 [0, 12] zC dX4_who_34 hA (c_X4_refuse (ev_l E) (ev_D E) cI (x0 := x0) (xn := a0) (xm := xm) (xp := xp) (b0 := b0) (g0 := g0) (s0 := s0) (w0 := w0) (y0 := y0) (pd := pd) (rs := rs) (R := R) (v := (-6)) (j := 6) (hv := (by first | omega | assumption | rfl | (simp only []; omega) | decide)) (h1 := (by first | omega | assumption | rfl | (simp only []; omega) | decide)) (h6 := (by first | omega | assumption | rfl | (simp only []; omega) | decide))) cf_X4_refuse lk_X4_50 rfl rfl rfl rfl rfl (by decide +kernel) (Nat.le_of_ble_eq_true rfl) (fun rv_32 wv_33 hp_34 hm_35 => ?_)
        clear hm_35
        obtain ⟨rfl, rfl⟩ := hp_34
        show VV E 0 0 37 [(0, .ref x0), (1, .int (nI jp)), (2, .int q)] [.int (-6)] [(x0, .inr (4, [.ref a0, .ref xm, .ref xp, .int (bz pd), .ref b0, .ref g0, .ref s0, .ref w0, .int (nI rs), .ref y0])), (a0, .inr (2, [.int (nI n), .int (nI m), .int (nI sh), .int (nI 0), .ref a1, .ref a2, .ref a3, .ref a4, .ref a5, .ref a6])), (a1, .inl (cI, 7, .inl (nIf ki))), (a2, .inl (cI, 7, .inl (nIf op))), (a3, .inl (cI, 7, .inl (nIf fa))), (a4, .inl (cI, 6, .inl (nIf K))), (a5, .inl (cI, 6, .inl (nIf G))), (a6, .inl (cI, 6, .inl (nIf T))), (b0, .inr (1, [.int (nI P), .int (nI Q), .ref b1, .ref b2, .ref b3])), (b1, .inl (cI, 6, .inl (nIf mf))), (b2, .inl (cI, 144, .inl (mIf M))), (b3, .inl (cI, 175, .inl (nIf kn))), (y0, .inl (cI, 7, .inl (nIf (un R 6 (R 6 + 1)))))]
        refine v_iret zC zT dX4_who_37  ?_
        first | exact ⟨P, Q, mf, kn, M, 1, _, by simp [q_who, *], hB, hM, rfl, rfl⟩ | exact ⟨P, Q, mf, kn, M, 4, _, by simp [q_who, *], hB, hM, rfl, rfl⟩ | exact ⟨P, Q, mf, kn, M, 6, _, by simp [q_who, *], hB, hM, rfl, rfl⟩ | exact ⟨_, _, _, _, _, 0, _, by unfold q_who; rw [hi_p]; dsimp only; rw [if_neg hge, if_neg hle, nI_clamp (by omega), hx, show d = m by omega]; rfl, hD9.2.2.1, hD9.2.2.2, rfl, rfl⟩
    ·
      have hlt9 := Int32.not_le.mp h_16
      refine v_al_n 19 zC dX4_who_18 0 rfl ?_
      refine v_bp (v := (-4)) 21 zC dX4_who_19 (by decide +kernel) ?_
      refine v_cV (As := [.int (-4)]) (st := []) 24 0 [0, 12] zC dX4_who_21 hA (c_X4_refuse (ev_l E) (ev_D E) cI (x0 := x0) (xn := a0) (xm := xm) (xp := xp) (b0 := b0) (g0 := g0) (s0 := s0) (w0 := w0) (y0 := y0) (pd := pd) (rs := rs) (R := R) (v := (-4)) (j := 4) (hv := (by first | omega | assumption | rfl | (simp only []; omega) | decide)) (h1 := (by first | omega | assumption | rfl | (simp only []; omega) | decide)) (h6 := (by first | omega | assumption | rfl | (simp only []; omega) | decide))) cf_X4_refuse lk_X4_50 rfl rfl rfl rfl rfl (by decide +kernel) (Nat.le_of_ble_eq_true rfl) (fun rv_36 wv_37 hp_38 hm_39 => ?_)
      clear hm_39
      obtain ⟨rfl, rfl⟩ := hp_38
      show VV E 0 0 24 [(0, .ref x0), (1, .int (nI jp)), (2, .int q)] [.int (-4)] [(x0, .inr (4, [.ref a0, .ref xm, .ref xp, .int (bz pd), .ref b0, .ref g0, .ref s0, .ref w0, .int (nI rs), .ref y0])), (a0, .inr (2, [.int (nI n), .int (nI m), .int (nI sh), .int (nI 0), .ref a1, .ref a2, .ref a3, .ref a4, .ref a5, .ref a6])), (a1, .inl (cI, 7, .inl (nIf ki))), (a2, .inl (cI, 7, .inl (nIf op))), (a3, .inl (cI, 7, .inl (nIf fa))), (a4, .inl (cI, 6, .inl (nIf K))), (a5, .inl (cI, 6, .inl (nIf G))), (a6, .inl (cI, 6, .inl (nIf T))), (b0, .inr (1, [.int (nI P), .int (nI Q), .ref b1, .ref b2, .ref b3])), (b1, .inl (cI, 6, .inl (nIf mf))), (b2, .inl (cI, 144, .inl (mIf M))), (b3, .inl (cI, 175, .inl (nIf kn))), (y0, .inl (cI, 7, .inl (nIf (un R 4 (R 4 + 1)))))]
      refine v_iret zC zT dX4_who_24  ?_
      first | exact ⟨P, Q, mf, kn, M, 1, _, by simp [q_who, *], hB, hM, rfl, rfl⟩ | exact ⟨P, Q, mf, kn, M, 4, _, by simp [q_who, *], hB, hM, rfl, rfl⟩ | exact ⟨P, Q, mf, kn, M, 6, _, by simp [q_who, *], hB, hM, rfl, rfl⟩ | exact ⟨_, _, _, _, _, 0, _, by unfold q_who; rw [hi_p]; dsimp only; rw [if_neg hge, if_neg hle, nI_clamp (by omega), hx, show d = m by omega]; rfl, hD9.2.2.1, hD9.2.2.2, rfl, rfl⟩
set_option maxRecDepth 100000 in
set_option maxHeartbeats 4000000 in
theorem c_X4_questions (l : Launch) (D : va_G) (cI : ClassId) (x0 xm xp g0 s0 w0 : Nat) (pd : Bool) (rs : Nat) (y0 b0 : Nat) (a0 a1 a2 a3 a4 a5 a6 : Nat) (n m sh : Nat) (T : Nat → Nat) (hm : m ≤ 6) (hT : ∀ z, T z < 10) : CT l yX4_questions cX4_questions 5 (some .int) { frames := 0, cells := 0, slots := 0, locals := 0 } D cI [.ref x0] [(x0, .inr (4, [.ref a0, .ref xm, .ref xp, .int (bz pd), .ref b0, .ref g0, .ref s0, .ref w0, .int (nI rs), .ref y0])), (a0, .inr (2, [.int (nI n), .int (nI m), .int (nI sh), .int (nI 0), .ref a1, .ref a2, .ref a3, .ref a4, .ref a5, .ref a6])), (a6, .inl (cI, 6, .inl (nIf T)))] (fun zr zw => (zr = some (.int (nI ((it (queS T) (0, 0) m).1))) ∧ zw = [(x0, .inr (4, [.ref a0, .ref xm, .ref xp, .int (bz pd), .ref b0, .ref g0, .ref s0, .ref w0, .int (nI rs), .ref y0])), (a0, .inr (2, [.int (nI n), .int (nI m), .int (nI sh), .int (nI 0), .ref a1, .ref a2, .ref a3, .ref a4, .ref a5, .ref a6])), (a6, .inl (cI, 6, .inl (nIf T)))])) := by
  refine CT_of RX4 rfl (by decide +kernel) (Nat.le_of_ble_eq_true rfl) (fun E hnE zC zT => ?_)
  have hA : ∀ q, (ev_s E).heap.size ≤ q → ev_A E q := fun q h => by rw [zT.2]; exact Or.inr h
  show VV E 0 0 0 [(0, .ref x0)] [] [(x0, .inr (4, [.ref a0, .ref xm, .ref xp, .int (bz pd), .ref b0, .ref g0, .ref s0, .ref w0, .int (nI rs), .ref y0])), (a0, .inr (2, [.int (nI n), .int (nI m), .int (nI sh), .int (nI 0), .ref a1, .ref a2, .ref a3, .ref a4, .ref a5, .ref a6])), (a6, .inl (cI, 6, .inl (nIf T)))]
  refine v_ic (v := (nI 0)) 1 zC dX4_questions_0 (by decide +kernel) ?_
  refine v_is_n (lv2 := [(1, .int (nI 0)), (0, .ref x0)]) 2 zC dX4_questions_1 (by rw [hnE]; decide) rfl ?_
  refine v_ic (v := (nI 0)) 3 zC dX4_questions_2 (by decide +kernel) ?_
  refine v_is_n (lv2 := [(2, .int (nI 0)), (1, .int (nI 0)), (0, .ref x0)]) 4 zC dX4_questions_3 (by rw [hnE]; decide) rfl ?_
  refine v_ic (v := (nI 0)) 5 zC dX4_questions_4 (by decide +kernel) ?_
  refine v_is_n (lv2 := [(3, .int (nI 0)), (2, .int (nI 0)), (1, .int (nI 0)), (0, .ref x0)]) 6 zC dX4_questions_5 (by rw [hnE]; decide) rfl ?_
  have lp6 : ∀ (mz : Nat) (u : Nat) (v : Nat) (d : Nat), ((u, v) = it (queS T) (0, 0) d) → (d ≤ m) → (v < 2 ^ 10) → m - d = mz → VV E 0 0 6 [(3, .int (nI d)), (2, .int (nI v)), (1, .int (nI u)), (0, .ref x0)] [] [(x0, .inr (4, [.ref a0, .ref xm, .ref xp, .int (bz pd), .ref b0, .ref g0, .ref s0, .ref w0, .int (nI rs), .ref y0])), (a0, .inr (2, [.int (nI n), .int (nI m), .int (nI sh), .int (nI 0), .ref a1, .ref a2, .ref a3, .ref a4, .ref a5, .ref a6])), (a6, .inl (cI, 6, .inl (nIf T)))] := by
    intro mz
    induction mz using Nat.strongRecOn with
    | _ mz ih6 =>
    intro u v d hs hd hvl hm6
    refine v_il_n 7 zC dX4_questions_6 0 rfl ?_
    refine v_al_n 8 zC dX4_questions_7 3 rfl ?_
    refine v_gf 11 0 zC dX4_questions_8 gf_X4_12 rfl rfl ?_
    refine v_gf 14 1 zC dX4_questions_11 gf_X4_121 rfl rfl ?_
    refine v_icmpn_ge 54 17 zC dX4_questions_14 (fun h_1 => ?_) (fun h_1 => ?_)
    ·
      refine v_il_n 55 zC dX4_questions_54 2 rfl ?_
      refine v_iret zC zT dX4_questions_55  ?_
      exact ⟨sn (by rw [← show d = m by omega, ← hs]), rfl⟩
    ·
      refine v_ic (v := (nI 1)) 18 zC dX4_questions_17 (by decide +kernel) ?_
      refine v_al_n 19 zC dX4_questions_18 3 rfl ?_
      refine v_gf 22 0 zC dX4_questions_19 gf_X4_12 rfl rfl ?_
      refine v_gf 25 1 zC dX4_questions_22 gf_X4_108 rfl rfl ?_
      refine v_il_n 26 zC dX4_questions_25 0 rfl ?_
      refine v_ialn (v := (nI (T d))) 27 2 zC dX4_questions_26 rfl (by omega) rfl ?_
      have hb_2 := hT d
      refine v_ishl (v := (nI (2 ^ (T d)))) 28 zC dX4_questions_27 (b1n (by omega)) ?_
      refine v_is (lv2 := [(4, .int (nI (2 ^ (T d)))), (3, .int (nI d)), (2, .int (nI v)), (1, .int (nI u)), (0, .ref x0)]) 30 zC dX4_questions_28 (by rw [hnE]; decide) rfl ?_
      refine v_il_n 31 zC dX4_questions_30 2 rfl ?_
      refine v_il 33 zC dX4_questions_31 0 rfl ?_
      refine v_iand (v := (nI (v &&& (2 ^ (T d))))) 34 zC dX4_questions_33 (fa_and _ _) ?_
      have hvl2 : v &&& 2 ^ T d < 2 ^ 10 := and_ltl hvl
      refine v_ifn_ne 48 37 zC dX4_questions_34 (fun h_3 => ?_) (fun h_3 => ?_)
      ·
        have hb9 := bit_nz h_3
        refine v_inc (v := (nI (d + 1))) (lv2 := [(3, .int (nI (d + 1))), (4, .int (nI (2 ^ (T d)))), (2, .int (nI v)), (1, .int (nI u)), (0, .ref x0)]) 51 zC dX4_questions_48 (j := 1) rfl (nI_add _ 1) (by rw [hnE]; decide) rfl ?_
        refine v_goto 6 zC dX4_questions_51 ?_
        refine v_lvs (lv2 := [(3, .int (nI (d + 1))), (2, .int (nI v)), (1, .int (nI u)), (0, .ref x0)]) [0, 2, 3, 4] rfl ?_
        exact ih6 _ (by omega) u v (d + 1) (by first | exact it_s hs (if_pos hb9) | exact it_s hs (if_neg (by rw [hb9]; decide))) (by first | omega | assumption | rfl | (simp only []; omega) | decide) (by first | exact hvl | exact Nat.or_lt_two_pow hvl (Nat.pow_lt_pow_right (by decide) (hT _))) rfl
      ·
        have hb9 := (bit_z _ _).mp h_3
        refine v_il_n 38 zC dX4_questions_37 2 rfl ?_
        refine v_il 40 zC dX4_questions_38 0 rfl ?_
        refine v_ior (v := (nI (v ||| (2 ^ (T d))))) 41 zC dX4_questions_40 (fa_or _ _) ?_
        refine v_is_n (lv2 := [(2, .int (nI (v ||| (2 ^ (T d))))), (4, .int (nI (2 ^ (T d)))), (3, .int (nI d)), (1, .int (nI u)), (0, .ref x0)]) 42 zC dX4_questions_41 (by rw [hnE]; decide) rfl ?_
        refine v_il_n 43 zC dX4_questions_42 3 rfl ?_
        refine v_ic (v := (nI 1)) 44 zC dX4_questions_43 (by decide +kernel) ?_
        refine v_il_n 45 zC dX4_questions_44 2 rfl ?_
        refine v_ishl (v := (nI (2 ^ d))) 46 zC dX4_questions_45 (b1n (by omega)) ?_
        refine v_ior (v := (nI (u ||| (2 ^ d)))) 47 zC dX4_questions_46 (fa_or _ _) ?_
        refine v_is_n (lv2 := [(1, .int (nI (u ||| (2 ^ d)))), (2, .int (nI (v ||| (2 ^ (T d))))), (4, .int (nI (2 ^ (T d)))), (3, .int (nI d)), (0, .ref x0)]) 48 zC dX4_questions_47 (by rw [hnE]; decide) rfl ?_
        refine v_inc (v := (nI (d + 1))) (lv2 := [(3, .int (nI (d + 1))), (1, .int (nI (u ||| (2 ^ d)))), (2, .int (nI (v ||| (2 ^ (T d))))), (4, .int (nI (2 ^ (T d)))), (0, .ref x0)]) 51 zC dX4_questions_48 (j := 3) rfl (nI_add _ 1) (by rw [hnE]; decide) rfl ?_
        refine v_goto 6 zC dX4_questions_51 ?_
        refine v_lvs (lv2 := [(3, .int (nI (d + 1))), (2, .int (nI (v ||| (2 ^ (T d))))), (1, .int (nI (u ||| (2 ^ d)))), (0, .ref x0)]) [0, 2, 1, 4] rfl ?_
        exact ih6 _ (by omega) (u ||| (2 ^ d)) (v ||| (2 ^ (T d))) (d + 1) (by first | exact it_s hs (if_pos hb9) | exact it_s hs (if_neg (by rw [hb9]; decide))) (by first | omega | assumption | rfl | (simp only []; omega) | decide) (by first | exact hvl | exact Nat.or_lt_two_pow hvl (Nat.pow_lt_pow_right (by decide) (hT _))) rfl
  refine v_lvs (lv2 := [(3, .int (nI 0)), (2, .int (nI 0)), (1, .int (nI 0)), (0, .ref x0)]) [0, 1, 2, 3] rfl ?_
  exact lp6 _ 0 0 0 (by first | omega | assumption | rfl | (simp only []; omega) | decide) (by first | omega | assumption | rfl | (simp only []; omega) | decide) (by first | omega | assumption | rfl | (simp only []; omega) | decide) rfl
set_option maxRecDepth 100000 in
set_option maxHeartbeats 4000000 in
theorem c_X4_silent (l : Launch) (D : va_G) (cI : ClassId) (x0 xm xp g0 s0 w0 y0 : Nat) (pd : Bool) (rs : Nat) (b0 b1 b2 b3 : Nat) (P Q : Nat) (mf : Nat → Nat) (M : Nat → Option Nat) (kn : Nat → Nat) (a0 a1 a2 a3 a4 a5 a6 : Nat) (n m sh : Nat) (ki op fa K G T : Nat → Nat) (R : Nat → Nat) (w : Int32) (hw : FW n m sh ki op fa K G T) (hB : ∀ z, kn z < 1024) (hM : ∀ z v, M z = some v → v < 7) : CT l yX4_silent cX4_silent 7 (some .int) { frames := 4, cells := 0, slots := 0, locals := 99 } D cI [.ref x0, .int w] [(x0, .inr (4, [.ref a0, .ref xm, .ref xp, .int (bz pd), .ref b0, .ref g0, .ref s0, .ref w0, .int (nI rs), .ref y0])), (a0, .inr (2, [.int (nI n), .int (nI m), .int (nI sh), .int (nI 0), .ref a1, .ref a2, .ref a3, .ref a4, .ref a5, .ref a6])), (a1, .inl (cI, 7, .inl (nIf ki))), (a2, .inl (cI, 7, .inl (nIf op))), (a3, .inl (cI, 7, .inl (nIf fa))), (a4, .inl (cI, 6, .inl (nIf K))), (a5, .inl (cI, 6, .inl (nIf G))), (a6, .inl (cI, 6, .inl (nIf T))), (b0, .inr (1, [.int (nI P), .int (nI Q), .ref b1, .ref b2, .ref b3])), (b1, .inl (cI, 6, .inl (nIf mf))), (b2, .inl (cI, 144, .inl (mIf M))), (b3, .inl (cI, 175, .inl (nIf kn))), (y0, .inl (cI, 7, .inl (nIf R)))] (fun zr zw => (∃ P1 : Nat, ∃ Q1 : Nat, ∃ mg : Nat → Nat, ∃ X : Nat → Nat, ∃ Y : Nat → Option Nat, ∃ rc : Nat, ∃ rv : Int32, (q_silent (n, m, sh, 0, ki, op, fa, K, G, T) w = (rc, rv)) ∧ (∀ z, X z < 1024) ∧ (∀ z v, Y z = some v → v < 7) ∧ zr = some (.int rv) ∧ zw = [(x0, .inr (4, [.ref a0, .ref xm, .ref xp, .int (bz pd), .ref b0, .ref g0, .ref s0, .ref w0, .int (nI rs), .ref y0])), (a0, .inr (2, [.int (nI n), .int (nI m), .int (nI sh), .int (nI 0), .ref a1, .ref a2, .ref a3, .ref a4, .ref a5, .ref a6])), (a1, .inl (cI, 7, .inl (nIf ki))), (a2, .inl (cI, 7, .inl (nIf op))), (a3, .inl (cI, 7, .inl (nIf fa))), (a4, .inl (cI, 6, .inl (nIf K))), (a5, .inl (cI, 6, .inl (nIf G))), (a6, .inl (cI, 6, .inl (nIf T))), (b0, .inr (1, [.int (nI P1), .int (nI Q1), .ref b1, .ref b2, .ref b3])), (b1, .inl (cI, 6, .inl (nIf mg))), (b2, .inl (cI, 144, .inl (mIf Y))), (b3, .inl (cI, 175, .inl (nIf X))), (y0, .inl (cI, 7, .inl (nIf (rf R rc))))])) := by
  refine CT_of RX4 rfl (by decide +kernel) (Nat.le_of_ble_eq_true rfl) (fun E hnE zC zT => ?_)
  have hA : ∀ q, (ev_s E).heap.size ≤ q → ev_A E q := fun q h => by rw [zT.2]; exact Or.inr h
  obtain ⟨hn, hm, hsh, hki, hop, hfa, hK, hG, hT, vki, vop, vfa, vK, vG, vT⟩ := id hw
  show VV E 0 0 0 [(0, .ref x0), (1, .int w)] [] [(x0, .inr (4, [.ref a0, .ref xm, .ref xp, .int (bz pd), .ref b0, .ref g0, .ref s0, .ref w0, .int (nI rs), .ref y0])), (a0, .inr (2, [.int (nI n), .int (nI m), .int (nI sh), .int (nI 0), .ref a1, .ref a2, .ref a3, .ref a4, .ref a5, .ref a6])), (a1, .inl (cI, 7, .inl (nIf ki))), (a2, .inl (cI, 7, .inl (nIf op))), (a3, .inl (cI, 7, .inl (nIf fa))), (a4, .inl (cI, 6, .inl (nIf K))), (a5, .inl (cI, 6, .inl (nIf G))), (a6, .inl (cI, 6, .inl (nIf T))), (b0, .inr (1, [.int (nI P), .int (nI Q), .ref b1, .ref b2, .ref b3])), (b1, .inl (cI, 6, .inl (nIf mf))), (b2, .inl (cI, 144, .inl (mIf M))), (b3, .inl (cI, 175, .inl (nIf kn))), (y0, .inl (cI, 7, .inl (nIf R)))]
  refine v_il_n 1 zC dX4_silent_0 1 rfl ?_
  refine v_ic (v := (nI 3)) 2 zC dX4_silent_1 (by decide +kernel) ?_
  refine v_cS (As := [.int w, .int (nI 3)]) (st := []) 5 [] zC dX4_silent_2 hA (c_X4_noWhat (ev_l E) (ev_D E) cI (p := w) (k := 3) (hk := (by first | omega | assumption | rfl | (simp only []; omega) | decide))) cf_X4_noWhat lk_X4_83 rfl rfl rfl (by decide +kernel) (Nat.le_of_ble_eq_true rfl) (fun rv_1 wv_2 hp_3 hm_4 => ?_)
  clear hm_4
  rcases hp_3 with ⟨hi_5, rfl, rfl⟩ | ⟨j_6, he_7, hi_8, hj_9, rfl, rfl⟩
  ·
    show VV E 0 0 5 [(0, .ref x0), (1, .int w)] [.int (nI 1)] [(x0, .inr (4, [.ref a0, .ref xm, .ref xp, .int (bz pd), .ref b0, .ref g0, .ref s0, .ref w0, .int (nI rs), .ref y0])), (a0, .inr (2, [.int (nI n), .int (nI m), .int (nI sh), .int (nI 0), .ref a1, .ref a2, .ref a3, .ref a4, .ref a5, .ref a6])), (a1, .inl (cI, 7, .inl (nIf ki))), (a2, .inl (cI, 7, .inl (nIf op))), (a3, .inl (cI, 7, .inl (nIf fa))), (a4, .inl (cI, 6, .inl (nIf K))), (a5, .inl (cI, 6, .inl (nIf G))), (a6, .inl (cI, 6, .inl (nIf T))), (b0, .inr (1, [.int (nI P), .int (nI Q), .ref b1, .ref b2, .ref b3])), (b1, .inl (cI, 6, .inl (nIf mf))), (b2, .inl (cI, 144, .inl (mIf M))), (b3, .inl (cI, 175, .inl (nIf kn))), (y0, .inl (cI, 7, .inl (nIf R)))]
    refine v_if_eq 15 8 zC dX4_silent_5 (fun z => absurd z (by decide +kernel)) (fun _ => ?_)
    refine v_al_n 9 zC dX4_silent_8 0 rfl ?_
    refine v_bp (v := (-2)) 11 zC dX4_silent_9 (by decide +kernel) ?_
    refine v_cV (As := [.int (-2)]) (st := []) 14 0 [0, 12] zC dX4_silent_11 hA (c_X4_refuse (ev_l E) (ev_D E) cI (x0 := x0) (xn := a0) (xm := xm) (xp := xp) (b0 := b0) (g0 := g0) (s0 := s0) (w0 := w0) (y0 := y0) (pd := pd) (rs := rs) (R := R) (v := (-2)) (j := 2) (hv := (by first | omega | assumption | rfl | (simp only []; omega) | decide)) (h1 := (by first | omega | assumption | rfl | (simp only []; omega) | decide)) (h6 := (by first | omega | assumption | rfl | (simp only []; omega) | decide))) cf_X4_refuse lk_X4_50 rfl rfl rfl rfl rfl (by decide +kernel) (Nat.le_of_ble_eq_true rfl) (fun rv_11 wv_12 hp_13 hm_14 => ?_)
    clear hm_14
    obtain ⟨rfl, rfl⟩ := hp_13
    show VV E 0 0 14 [(0, .ref x0), (1, .int w)] [.int (-2)] [(x0, .inr (4, [.ref a0, .ref xm, .ref xp, .int (bz pd), .ref b0, .ref g0, .ref s0, .ref w0, .int (nI rs), .ref y0])), (a0, .inr (2, [.int (nI n), .int (nI m), .int (nI sh), .int (nI 0), .ref a1, .ref a2, .ref a3, .ref a4, .ref a5, .ref a6])), (a1, .inl (cI, 7, .inl (nIf ki))), (a2, .inl (cI, 7, .inl (nIf op))), (a3, .inl (cI, 7, .inl (nIf fa))), (a4, .inl (cI, 6, .inl (nIf K))), (a5, .inl (cI, 6, .inl (nIf G))), (a6, .inl (cI, 6, .inl (nIf T))), (b0, .inr (1, [.int (nI P), .int (nI Q), .ref b1, .ref b2, .ref b3])), (b1, .inl (cI, 6, .inl (nIf mf))), (b2, .inl (cI, 144, .inl (mIf M))), (b3, .inl (cI, 175, .inl (nIf kn))), (y0, .inl (cI, 7, .inl (nIf (un R 2 (R 2 + 1)))))]
    refine v_iret zC zT dX4_silent_14  ?_
    first | exact ⟨P, Q, mf, kn, M, 2, _, by simp [q_silent, *], hB, hM, rfl, rfl⟩ | exact ⟨_, _, _, _, _, 0, _, by unfold q_silent; rw [hi_w]; dsimp only; rw [show (24 : Nat) = h by omega, ← hs]; first | rw [if_pos (by assumption)] | (rw [if_neg (by assumption)]; first | rw [if_pos (by assumption)] | rw [if_neg (by assumption)]), hD9.2.2.1, hD9.2.2.2, rfl, rfl⟩
  ·
    show VV E 0 0 5 [(0, .ref x0), (1, .int w)] [.int (nI 0)] [(x0, .inr (4, [.ref a0, .ref xm, .ref xp, .int (bz pd), .ref b0, .ref g0, .ref s0, .ref w0, .int (nI rs), .ref y0])), (a0, .inr (2, [.int (nI n), .int (nI m), .int (nI sh), .int (nI 0), .ref a1, .ref a2, .ref a3, .ref a4, .ref a5, .ref a6])), (a1, .inl (cI, 7, .inl (nIf ki))), (a2, .inl (cI, 7, .inl (nIf op))), (a3, .inl (cI, 7, .inl (nIf fa))), (a4, .inl (cI, 6, .inl (nIf K))), (a5, .inl (cI, 6, .inl (nIf G))), (a6, .inl (cI, 6, .inl (nIf T))), (b0, .inr (1, [.int (nI P), .int (nI Q), .ref b1, .ref b2, .ref b3])), (b1, .inl (cI, 6, .inl (nIf mf))), (b2, .inl (cI, 144, .inl (mIf M))), (b3, .inl (cI, 175, .inl (nIf kn))), (y0, .inl (cI, 7, .inl (nIf R)))]
    subst he_7
    have hi_w := hi_8
    refine v_if_eq 15 8 zC dX4_silent_5 (fun _ => ?_) (fun z => absurd (by decide +kernel) z)
    refine v_al_n 16 zC dX4_silent_15 0 rfl ?_
    refine v_gf 19 0 zC dX4_silent_16 gf_X4_25 rfl rfl ?_
    refine v_al_n 20 zC dX4_silent_19 0 rfl ?_
    refine v_gf 23 0 zC dX4_silent_20 gf_X4_12 rfl rfl ?_
    refine v_cV (As := [.ref a0]) (st := []) 26 8 [8, 9, 10, 11, 1, 2, 3, 4, 5, 6, 7] zC dX4_silent_23 hA (c_X1_live (ev_l E) (ev_D E) cI (b0 := b0) (b1 := b1) (b2 := b2) (b3 := b3) (P := P) (Q := Q) (mf := mf) (M := M) (kn := kn) (a0 := a0) (a1 := a1) (a2 := a2) (a3 := a3) (a4 := a4) (a5 := a5) (a6 := a6) (n := n) (m := m) (sh := sh) (aw := 0) (ki := ki) (op := op) (fa := fa) (K := K) (G := G) (T := T) (hn := (by first | omega | assumption | rfl | (simp only []; omega) | decide)) (hm := (by first | omega | assumption | rfl | (simp only []; omega) | decide)) (hK := (by first | omega | assumption | rfl | (simp only []; omega) | decide)) (hG := (by first | omega | assumption | rfl | (simp only []; omega) | decide)) (hT := (by first | omega | assumption | rfl | (simp only []; omega) | decide)) (hA2 := (by first | omega | assumption | rfl | (simp only []; omega) | decide)) (hB := (by first | omega | assumption | rfl | (simp only []; omega) | decide)) (hM := (by first | omega | assumption | rfl | (simp only []; omega) | decide))) cf_X1_live lk_X4_158 rfl rfl rfl rfl rfl (by decide +kernel) (Nat.le_of_ble_eq_true rfl) (fun rv_16 wv_17 hp_18 hm_19 => ?_)
    clear hm_19
    obtain ⟨mg_20, X_21, Y_22, hD_23, rfl, rfl⟩ := hp_18
    show VV E 0 0 26 [(0, .ref x0), (1, .int (nI j_6))] [] [(x0, .inr (4, [.ref a0, .ref xm, .ref xp, .int (bz pd), .ref b0, .ref g0, .ref s0, .ref w0, .int (nI rs), .ref y0])), (a0, .inr (2, [.int (nI n), .int (nI m), .int (nI sh), .int (nI 0), .ref a1, .ref a2, .ref a3, .ref a4, .ref a5, .ref a6])), (a1, .inl (cI, 7, .inl (nIf ki))), (a2, .inl (cI, 7, .inl (nIf op))), (a3, .inl (cI, 7, .inl (nIf fa))), (a4, .inl (cI, 6, .inl (nIf K))), (a5, .inl (cI, 6, .inl (nIf G))), (a6, .inl (cI, 6, .inl (nIf T))), (b0, .inr (1, [.int (nI n), .int (nI m), .ref b1, .ref b2, .ref b3])), (b1, .inl (cI, 6, .inl (nIf mg_20))), (b2, .inl (cI, 144, .inl (mIf Y_22))), (b3, .inl (cI, 175, .inl (nIf X_21))), (y0, .inl (cI, 7, .inl (nIf R)))]
    have hD9 := hD_23
    refine v_ic (v := (nI 0)) 27 zC dX4_silent_26 (by decide +kernel) ?_
    refine v_is_n (lv2 := [(2, .int (nI 0)), (0, .ref x0), (1, .int (nI j_6))]) 28 zC dX4_silent_27 (by rw [hnE]; decide) rfl ?_
    refine v_ic (v := (nI 0)) 29 zC dX4_silent_28 (by decide +kernel) ?_
    refine v_is_n (lv2 := [(3, .int (nI 0)), (2, .int (nI 0)), (0, .ref x0), (1, .int (nI j_6))]) 30 zC dX4_silent_29 (by rw [hnE]; decide) rfl ?_
    refine v_ic (v := (nI 0)) 31 zC dX4_silent_30 (by decide +kernel) ?_
    refine v_is (lv2 := [(4, .int (nI 0)), (3, .int (nI 0)), (2, .int (nI 0)), (0, .ref x0), (1, .int (nI j_6))]) 33 zC dX4_silent_31 (by rw [hnE]; decide) rfl ?_
    refine v_bp (v := (-9)) 35 zC dX4_silent_33 (by decide +kernel) ?_
    refine v_is (lv2 := [(5, .int (-9)), (4, .int (nI 0)), (3, .int (nI 0)), (2, .int (nI 0)), (0, .ref x0), (1, .int (nI j_6))]) 37 zC dX4_silent_35 (by rw [hnE]; decide) rfl ?_
    refine v_ic (v := (nI 0)) 38 zC dX4_silent_37 (by decide +kernel) ?_
    refine v_is (lv2 := [(6, .int (nI 0)), (5, .int (-9)), (4, .int (nI 0)), (3, .int (nI 0)), (2, .int (nI 0)), (0, .ref x0), (1, .int (nI j_6))]) 40 zC dX4_silent_38 (by rw [hnE]; decide) rfl ?_
    have lp40 : ∀ (mz : Nat) (hr : Nat) (rn : Nat) (lg : Nat) (fr : Option Nat) (h : Nat), ((hr, rn, lg, fr) = it (silS (n, m, sh, 0, ki, op, fa, K, G, T)) (0, 0, 0, none) h) → (h ≤ 24) → (hr ≤ h) → (rn ≤ h) → (lg ≤ h) → 24 - h = mz → VV E 0 0 40 [(6, .int (nI h)), (5, .int (mI fr)), (4, .int (nI lg)), (3, .int (nI rn)), (2, .int (nI hr)), (0, .ref x0), (1, .int (nI j_6))] [] [(x0, .inr (4, [.ref a0, .ref xm, .ref xp, .int (bz pd), .ref b0, .ref g0, .ref s0, .ref w0, .int (nI rs), .ref y0])), (a0, .inr (2, [.int (nI n), .int (nI m), .int (nI sh), .int (nI 0), .ref a1, .ref a2, .ref a3, .ref a4, .ref a5, .ref a6])), (a1, .inl (cI, 7, .inl (nIf ki))), (a2, .inl (cI, 7, .inl (nIf op))), (a3, .inl (cI, 7, .inl (nIf fa))), (a4, .inl (cI, 6, .inl (nIf K))), (a5, .inl (cI, 6, .inl (nIf G))), (a6, .inl (cI, 6, .inl (nIf T))), (b0, .inr (1, [.int (nI n), .int (nI m), .ref b1, .ref b2, .ref b3])), (b1, .inl (cI, 6, .inl (nIf mg_20))), (b2, .inl (cI, 144, .inl (mIf Y_22))), (b3, .inl (cI, 175, .inl (nIf X_21))), (y0, .inl (cI, 7, .inl (nIf R)))] := by
      intro mz
      induction mz using Nat.strongRecOn with
      | _ mz ih40 =>
      intro hr rn lg fr h hs hh h1 h2 h3 hm40
      refine v_il 42 zC dX4_silent_40 0 rfl ?_
      refine v_bp (v := (nI 24)) 44 zC dX4_silent_42 (by decide +kernel) ?_
      refine v_icmpn_ge 93 47 zC dX4_silent_44 (fun h_24 => ?_) (fun h_24 => ?_)
      ·
        refine v_il_n 94 zC dX4_silent_93 6 rfl ?_
        refine v_ifn_ne 99 97 zC dX4_silent_94 (fun h_25 => ?_) (fun h_25 => ?_)
        ·
          refine v_il_n 100 zC dX4_silent_99 6 rfl ?_
          refine v_ic (v := (nI 1)) 101 zC dX4_silent_100 (by decide +kernel) ?_
          refine v_icmpn_ne 109 104 zC dX4_silent_101 (fun h_26 => ?_) (fun h_26 => ?_)
          ·
            refine v_il 111 zC dX4_silent_109 1 rfl ?_
            refine v_iret zC zT dX4_silent_111  ?_
            first | exact ⟨P, Q, mf, kn, M, 2, _, by simp [q_silent, *], hB, hM, rfl, rfl⟩ | exact ⟨_, _, _, _, _, 0, _, by unfold q_silent; rw [hi_w]; dsimp only; rw [show (24 : Nat) = h by omega, ← hs]; first | rw [if_pos (by assumption)] | (rw [if_neg (by assumption)]; first | rw [if_pos (by assumption)] | rw [if_neg (by assumption)]), hD9.2.2.1, hD9.2.2.2, rfl, rfl⟩
          ·
            refine v_il 106 zC dX4_silent_104 2 rfl ?_
            refine v_goto 111 zC dX4_silent_106 ?_
            refine v_iret zC zT dX4_silent_111  ?_
            first | exact ⟨P, Q, mf, kn, M, 2, _, by simp [q_silent, *], hB, hM, rfl, rfl⟩ | exact ⟨_, _, _, _, _, 0, _, by unfold q_silent; rw [hi_w]; dsimp only; rw [show (24 : Nat) = h by omega, ← hs]; first | rw [if_pos (by assumption)] | (rw [if_neg (by assumption)]; first | rw [if_pos (by assumption)] | rw [if_neg (by assumption)]), hD9.2.2.1, hD9.2.2.2, rfl, rfl⟩
        ·
          refine v_il_n 98 zC dX4_silent_97 4 rfl ?_
          refine v_iret zC zT dX4_silent_98  ?_
          first | exact ⟨P, Q, mf, kn, M, 2, _, by simp [q_silent, *], hB, hM, rfl, rfl⟩ | exact ⟨_, _, _, _, _, 0, _, by unfold q_silent; rw [hi_w]; dsimp only; rw [show (24 : Nat) = h by omega, ← hs]; first | rw [if_pos (by assumption)] | (rw [if_neg (by assumption)]; first | rw [if_pos (by assumption)] | rw [if_neg (by assumption)]), hD9.2.2.1, hD9.2.2.2, rfl, rfl⟩
      ·
        refine v_al_n 48 zC dX4_silent_47 5 rfl ?_
        refine v_gf 51 0 zC dX4_silent_48 gf_X4_25 rfl rfl ?_
        refine v_il 53 zC dX4_silent_51 0 rfl ?_
        refine v_cV (As := [.int (nI h)]) (st := []) 56 8 [8, 10] zC dX4_silent_53 hA (c_X1_speakers (ev_l E) (ev_D E) cI (b0 := b0) (b1 := b1) (b2 := b2) (b3 := b3) (P := n) (Q := m) (M := Y_22) (h := h) (hQ := (by first | omega | assumption | rfl | (simp only []; omega) | decide)) (hh := (by first | omega | assumption | rfl | (simp only []; omega) | decide)) (hM := hD9.2.2.2)) cf_X1_speakers lk_X4_175 rfl rfl rfl rfl rfl (by decide +kernel) (Nat.le_of_ble_eq_true rfl) (fun rv_27 wv_28 hp_29 hm_30 => ?_)
        clear hm_30
        obtain ⟨rfl, rfl⟩ := hp_29
        show VV E 0 0 56 [(6, .int (nI h)), (5, .int (mI fr)), (4, .int (nI lg)), (3, .int (nI rn)), (2, .int (nI hr)), (0, .ref x0), (1, .int (nI j_6))] [.int (nI (mkn (fun d => (Y_22 (h * 6 + d)).isSome) m))] [(x0, .inr (4, [.ref a0, .ref xm, .ref xp, .int (bz pd), .ref b0, .ref g0, .ref s0, .ref w0, .int (nI rs), .ref y0])), (a0, .inr (2, [.int (nI n), .int (nI m), .int (nI sh), .int (nI 0), .ref a1, .ref a2, .ref a3, .ref a4, .ref a5, .ref a6])), (a1, .inl (cI, 7, .inl (nIf ki))), (a2, .inl (cI, 7, .inl (nIf op))), (a3, .inl (cI, 7, .inl (nIf fa))), (a4, .inl (cI, 6, .inl (nIf K))), (a5, .inl (cI, 6, .inl (nIf G))), (a6, .inl (cI, 6, .inl (nIf T))), (b0, .inr (1, [.int (nI n), .int (nI m), .ref b1, .ref b2, .ref b3])), (b1, .inl (cI, 6, .inl (nIf mg_20))), (b2, .inl (cI, 144, .inl (mIf Y_22))), (b3, .inl (cI, 175, .inl (nIf X_21))), (y0, .inl (cI, 7, .inl (nIf R)))]
        have hl9 := Nat.lt_of_lt_of_le (mkn_lt (fun d => (Y_22 (h * 6 + d)).isSome) m) (Nat.pow_le_pow_right (by decide) hm : 2 ^ m ≤ 2 ^ 6)
        refine v_ifn_eq 64 59 zC dX4_silent_56 (fun h_31 => ?_) (fun h_31 => ?_)
        ·
          rw [dk_spk hD9 (by omega)] at h_31
          refine v_inc (v := (nI (hr + 1))) (lv2 := [(2, .int (nI (hr + 1))), (6, .int (nI h)), (5, .int (mI fr)), (4, .int (nI lg)), (3, .int (nI rn)), (0, .ref x0), (1, .int (nI j_6))]) 67 zC dX4_silent_64 (j := 4) rfl (nI_add _ 1) (by rw [hnE]; decide) rfl ?_
          refine v_inc (v := (nI (rn + 1))) (lv2 := [(3, .int (nI (rn + 1))), (2, .int (nI (hr + 1))), (6, .int (nI h)), (5, .int (mI fr)), (4, .int (nI lg)), (0, .ref x0), (1, .int (nI j_6))]) 70 zC dX4_silent_67 (j := 4) rfl (nI_add _ 1) (by rw [hnE]; decide) rfl ?_
          refine v_il_n 71 zC dX4_silent_70 0 rfl ?_
          refine v_il 73 zC dX4_silent_71 4 rfl ?_
          refine v_icmpn_le 87 76 zC dX4_silent_73 (fun h_32 => ?_) (fun h_32 => ?_)
          ·
            refine v_inc (v := (nI (h + 1))) (lv2 := [(6, .int (nI (h + 1))), (3, .int (nI (rn + 1))), (2, .int (nI (hr + 1))), (5, .int (mI fr)), (4, .int (nI lg)), (0, .ref x0), (1, .int (nI j_6))]) 90 zC dX4_silent_87 (j := 2) rfl (nI_add _ 1) (by rw [hnE]; decide) rfl ?_
            refine v_goto 40 zC dX4_silent_90 ?_
            refine v_lvs (lv2 := [(6, .int (nI (h + 1))), (5, .int (mI fr)), (4, .int (nI lg)), (3, .int (nI (rn + 1))), (2, .int (nI (hr + 1))), (0, .ref x0), (1, .int (nI j_6))]) [0, 3, 4, 1, 2, 5, 6] rfl ?_
            exact ih40 _ (by omega) (hr + 1) (rn + 1) lg fr (h + 1) (by refine it_s hs ?_; unfold silS; dsimp only; first | rw [if_pos (by assumption)] | (rw [if_neg (by simpa using (by assumption))]; first | rw [if_pos (by assumption)] | rw [if_neg (by omega)])) (by first | omega | assumption | rfl | (simp only []; omega) | decide) (by first | omega | assumption | rfl | (simp only []; omega) | decide) (by first | omega | assumption | rfl | (simp only []; omega) | decide) (by first | omega | assumption | rfl | (simp only []; omega) | decide) rfl
          ·
            refine v_il_n 77 zC dX4_silent_76 0 rfl ?_
            refine v_is (lv2 := [(4, .int (nI (rn + 1))), (3, .int (nI (rn + 1))), (2, .int (nI (hr + 1))), (6, .int (nI h)), (5, .int (mI fr)), (0, .ref x0), (1, .int (nI j_6))]) 79 zC dX4_silent_77 (by rw [hnE]; decide) rfl ?_
            refine v_il 81 zC dX4_silent_79 3 rfl ?_
            refine v_ic (v := (nI 1)) 82 zC dX4_silent_81 (by decide +kernel) ?_
            refine v_iadd (v := (nI (h + 1))) 83 zC dX4_silent_82 (nI_add _ _) ?_
            refine v_il_n 84 zC dX4_silent_83 1 rfl ?_
            refine v_isub (v := (nI ((h + 1) - (rn + 1)))) 85 zC dX4_silent_84 (pk_sub (by first | omega | exact Nat.one_le_two_pow)) ?_
            refine v_is (lv2 := [(5, .int (nI ((h + 1) - (rn + 1)))), (4, .int (nI (rn + 1))), (3, .int (nI (rn + 1))), (2, .int (nI (hr + 1))), (6, .int (nI h)), (0, .ref x0), (1, .int (nI j_6))]) 87 zC dX4_silent_85 (by rw [hnE]; decide) rfl ?_
            refine v_inc (v := (nI (h + 1))) (lv2 := [(6, .int (nI (h + 1))), (5, .int (nI ((h + 1) - (rn + 1)))), (4, .int (nI (rn + 1))), (3, .int (nI (rn + 1))), (2, .int (nI (hr + 1))), (0, .ref x0), (1, .int (nI j_6))]) 90 zC dX4_silent_87 (j := 4) rfl (nI_add _ 1) (by rw [hnE]; decide) rfl ?_
            refine v_goto 40 zC dX4_silent_90 ?_
            refine v_lvs (lv2 := [(6, .int (nI (h + 1))), (5, .int (mI (some ((h + 1) - (rn + 1))))), (4, .int (nI (rn + 1))), (3, .int (nI (rn + 1))), (2, .int (nI (hr + 1))), (0, .ref x0), (1, .int (nI j_6))]) [0, 1, 2, 3, 4, 5, 6] rfl ?_
            exact ih40 _ (by omega) (hr + 1) (rn + 1) (rn + 1) (some ((h + 1) - (rn + 1))) (h + 1) (by refine it_s hs ?_; unfold silS; dsimp only; first | rw [if_pos (by assumption)] | (rw [if_neg (by simpa using (by assumption))]; first | rw [if_pos (by assumption)] | rw [if_neg (by omega)])) (by first | omega | assumption | rfl | (simp only []; omega) | decide) (by first | omega | assumption | rfl | (simp only []; omega) | decide) (by first | omega | assumption | rfl | (simp only []; omega) | decide) (by first | omega | assumption | rfl | (simp only []; omega) | decide) rfl
        ·
          rw [dk_spk hD9 (by omega)] at h_31
          refine v_ic (v := (nI 0)) 60 zC dX4_silent_59 (by decide +kernel) ?_
          refine v_is_n (lv2 := [(3, .int (nI 0)), (6, .int (nI h)), (5, .int (mI fr)), (4, .int (nI lg)), (2, .int (nI hr)), (0, .ref x0), (1, .int (nI j_6))]) 61 zC dX4_silent_60 (by rw [hnE]; decide) rfl ?_
          refine v_goto 87 zC dX4_silent_61 ?_
          refine v_inc (v := (nI (h + 1))) (lv2 := [(6, .int (nI (h + 1))), (3, .int (nI 0)), (5, .int (mI fr)), (4, .int (nI lg)), (2, .int (nI hr)), (0, .ref x0), (1, .int (nI j_6))]) 90 zC dX4_silent_87 (j := 1) rfl (nI_add _ 1) (by rw [hnE]; decide) rfl ?_
          refine v_goto 40 zC dX4_silent_90 ?_
          refine v_lvs (lv2 := [(6, .int (nI (h + 1))), (5, .int (mI fr)), (4, .int (nI lg)), (3, .int (nI 0)), (2, .int (nI hr)), (0, .ref x0), (1, .int (nI j_6))]) [0, 2, 3, 1, 4, 5, 6] rfl ?_
          exact ih40 _ (by omega) hr 0 lg fr (h + 1) (by refine it_s hs ?_; unfold silS; dsimp only; first | rw [if_pos (by assumption)] | (rw [if_neg (by simpa using (by assumption))]; first | rw [if_pos (by assumption)] | rw [if_neg (by omega)])) (by first | omega | assumption | rfl | (simp only []; omega) | decide) (by first | omega | assumption | rfl | (simp only []; omega) | decide) (by first | omega | assumption | rfl | (simp only []; omega) | decide) (by first | omega | assumption | rfl | (simp only []; omega) | decide) rfl
    refine v_lvs (lv2 := [(6, .int (nI 0)), (5, .int (mI none)), (4, .int (nI 0)), (3, .int (nI 0)), (2, .int (nI 0)), (0, .ref x0), (1, .int (nI j_6))]) [0, 1, 2, 3, 4, 5, 6] rfl ?_
    exact lp40 _ 0 0 0 none 0 (by first | omega | assumption | rfl | (simp only []; omega) | decide) (by first | omega | assumption | rfl | (simp only []; omega) | decide) (by first | omega | assumption | rfl | (simp only []; omega) | decide) (by first | omega | assumption | rfl | (simp only []; omega) | decide) (by first | omega | assumption | rfl | (simp only []; omega) | decide) rfl
set_option maxRecDepth 100000 in
set_option maxHeartbeats 4000000 in
theorem c_X4_secret (l : Launch) (D : va_G) (cI : ClassId) (x0 xm xp g0 s0 w0 y0 : Nat) (pd : Bool) (rs : Nat) (b0 b1 b2 b3 : Nat) (P Q : Nat) (mf : Nat → Nat) (M : Nat → Option Nat) (kn : Nat → Nat) (a0 a1 a2 a3 a4 a5 a6 : Nat) (n m sh : Nat) (ki op fa K G T : Nat → Nat) (hw : FW n m sh ki op fa K G T) (hB : ∀ z, kn z < 1024) (hM : ∀ z v, M z = some v → v < 7) : CT l yX4_secret cX4_secret 1 (some .int) { frames := 4, cells := 0, slots := 0, locals := 99 } D cI [.ref x0] [(x0, .inr (4, [.ref a0, .ref xm, .ref xp, .int (bz pd), .ref b0, .ref g0, .ref s0, .ref w0, .int (nI rs), .ref y0])), (a0, .inr (2, [.int (nI n), .int (nI m), .int (nI sh), .int (nI 0), .ref a1, .ref a2, .ref a3, .ref a4, .ref a5, .ref a6])), (a1, .inl (cI, 7, .inl (nIf ki))), (a2, .inl (cI, 7, .inl (nIf op))), (a3, .inl (cI, 7, .inl (nIf fa))), (a4, .inl (cI, 6, .inl (nIf K))), (a5, .inl (cI, 6, .inl (nIf G))), (a6, .inl (cI, 6, .inl (nIf T))), (b0, .inr (1, [.int (nI P), .int (nI Q), .ref b1, .ref b2, .ref b3])), (b1, .inl (cI, 6, .inl (nIf mf))), (b2, .inl (cI, 144, .inl (mIf M))), (b3, .inl (cI, 175, .inl (nIf kn)))] (fun zr zw => (∃ P1 : Nat, ∃ Q1 : Nat, ∃ mg : Nat → Nat, ∃ X : Nat → Nat, ∃ Y : Nat → Option Nat, (∀ z, X z < 1024) ∧ (∀ z v, Y z = some v → v < 7) ∧ zr = some (.int (nI (SECR (n, m, sh, 0, ki, op, fa, K, G, T)))) ∧ zw = [(x0, .inr (4, [.ref a0, .ref xm, .ref xp, .int (bz pd), .ref b0, .ref g0, .ref s0, .ref w0, .int (nI rs), .ref y0])), (a0, .inr (2, [.int (nI n), .int (nI m), .int (nI sh), .int (nI 0), .ref a1, .ref a2, .ref a3, .ref a4, .ref a5, .ref a6])), (a1, .inl (cI, 7, .inl (nIf ki))), (a2, .inl (cI, 7, .inl (nIf op))), (a3, .inl (cI, 7, .inl (nIf fa))), (a4, .inl (cI, 6, .inl (nIf K))), (a5, .inl (cI, 6, .inl (nIf G))), (a6, .inl (cI, 6, .inl (nIf T))), (b0, .inr (1, [.int (nI P1), .int (nI Q1), .ref b1, .ref b2, .ref b3])), (b1, .inl (cI, 6, .inl (nIf mg))), (b2, .inl (cI, 144, .inl (mIf Y))), (b3, .inl (cI, 175, .inl (nIf X)))])) := by
  refine CT_of RX4 rfl (by decide +kernel) (Nat.le_of_ble_eq_true rfl) (fun E hnE zC zT => ?_)
  have hA : ∀ q, (ev_s E).heap.size ≤ q → ev_A E q := fun q h => by rw [zT.2]; exact Or.inr h
  obtain ⟨hn, hm, hsh, hki, hop, hfa, hK, hG, hT, vki, vop, vfa, vK, vG, vT⟩ := id hw
  have h2n : 2 ^ n ≤ 2 ^ 7 := Nat.pow_le_pow_right (by decide) hn
  show VV E 0 0 0 [(0, .ref x0)] [] [(x0, .inr (4, [.ref a0, .ref xm, .ref xp, .int (bz pd), .ref b0, .ref g0, .ref s0, .ref w0, .int (nI rs), .ref y0])), (a0, .inr (2, [.int (nI n), .int (nI m), .int (nI sh), .int (nI 0), .ref a1, .ref a2, .ref a3, .ref a4, .ref a5, .ref a6])), (a1, .inl (cI, 7, .inl (nIf ki))), (a2, .inl (cI, 7, .inl (nIf op))), (a3, .inl (cI, 7, .inl (nIf fa))), (a4, .inl (cI, 6, .inl (nIf K))), (a5, .inl (cI, 6, .inl (nIf G))), (a6, .inl (cI, 6, .inl (nIf T))), (b0, .inr (1, [.int (nI P), .int (nI Q), .ref b1, .ref b2, .ref b3])), (b1, .inl (cI, 6, .inl (nIf mf))), (b2, .inl (cI, 144, .inl (mIf M))), (b3, .inl (cI, 175, .inl (nIf kn)))]
  refine v_al_n 1 zC dX4_secret_0 0 rfl ?_
  refine v_gf 4 0 zC dX4_secret_1 gf_X4_25 rfl rfl ?_
  refine v_al_n 5 zC dX4_secret_4 0 rfl ?_
  refine v_gf 8 0 zC dX4_secret_5 gf_X4_12 rfl rfl ?_
  refine v_cV (As := [.ref a0]) (st := []) 11 8 [8, 9, 10, 11, 1, 2, 3, 4, 5, 6, 7] zC dX4_secret_8 hA (c_X1_live (ev_l E) (ev_D E) cI (b0 := b0) (b1 := b1) (b2 := b2) (b3 := b3) (P := P) (Q := Q) (mf := mf) (M := M) (kn := kn) (a0 := a0) (a1 := a1) (a2 := a2) (a3 := a3) (a4 := a4) (a5 := a5) (a6 := a6) (n := n) (m := m) (sh := sh) (aw := 0) (ki := ki) (op := op) (fa := fa) (K := K) (G := G) (T := T) (hn := (by first | omega | assumption | rfl | (simp only []; omega) | decide)) (hm := (by first | omega | assumption | rfl | (simp only []; omega) | decide)) (hK := (by first | omega | assumption | rfl | (simp only []; omega) | decide)) (hG := (by first | omega | assumption | rfl | (simp only []; omega) | decide)) (hT := (by first | omega | assumption | rfl | (simp only []; omega) | decide)) (hA2 := (by first | omega | assumption | rfl | (simp only []; omega) | decide)) (hB := (by first | omega | assumption | rfl | (simp only []; omega) | decide)) (hM := (by first | omega | assumption | rfl | (simp only []; omega) | decide))) cf_X1_live lk_X4_158 rfl rfl rfl rfl rfl (by decide +kernel) (Nat.le_of_ble_eq_true rfl) (fun rv_1 wv_2 hp_3 hm_4 => ?_)
  clear hm_4
  obtain ⟨mg_5, X_6, Y_7, hD_8, rfl, rfl⟩ := hp_3
  show VV E 0 0 11 [(0, .ref x0)] [] [(x0, .inr (4, [.ref a0, .ref xm, .ref xp, .int (bz pd), .ref b0, .ref g0, .ref s0, .ref w0, .int (nI rs), .ref y0])), (a0, .inr (2, [.int (nI n), .int (nI m), .int (nI sh), .int (nI 0), .ref a1, .ref a2, .ref a3, .ref a4, .ref a5, .ref a6])), (a1, .inl (cI, 7, .inl (nIf ki))), (a2, .inl (cI, 7, .inl (nIf op))), (a3, .inl (cI, 7, .inl (nIf fa))), (a4, .inl (cI, 6, .inl (nIf K))), (a5, .inl (cI, 6, .inl (nIf G))), (a6, .inl (cI, 6, .inl (nIf T))), (b0, .inr (1, [.int (nI n), .int (nI m), .ref b1, .ref b2, .ref b3])), (b1, .inl (cI, 6, .inl (nIf mg_5))), (b2, .inl (cI, 144, .inl (mIf Y_7))), (b3, .inl (cI, 175, .inl (nIf X_6)))]
  have hD9 := hD_8
  refine v_al_n 12 zC dX4_secret_11 0 rfl ?_
  refine v_gf 15 0 zC dX4_secret_12 gf_X4_25 rfl rfl ?_
  refine v_ic (v := (nI 1)) 16 zC dX4_secret_15 (by decide +kernel) ?_
  refine v_al_n 17 zC dX4_secret_16 0 rfl ?_
  refine v_gf 20 0 zC dX4_secret_17 gf_X4_12 rfl rfl ?_
  refine v_gf 23 1 zC dX4_secret_20 gf_X4_114 rfl rfl ?_
  refine v_ishl (v := (nI (2 ^ n))) 24 zC dX4_secret_23 (b1n (by omega)) ?_
  refine v_ic (v := (nI 1)) 25 zC dX4_secret_24 (by decide +kernel) ?_
  refine v_isub (v := (nI ((2 ^ n) - 1))) 26 zC dX4_secret_25 (pk_sub (by first | omega | exact Nat.one_le_two_pow)) ?_
  refine v_cV (As := [.int (nI ((2 ^ n) - 1))]) (st := []) 29 8 [8, 11] zC dX4_secret_26 hA (c_X1_knownTogether (ev_l E) (ev_D E) cI (b0 := b0) (b1 := b1) (b2 := b2) (b3 := b3) (P := n) (Q := m) (kn := X_6) (s := ((2 ^ n) - 1)) (hP := (by first | omega | assumption | rfl | (simp only []; omega) | decide)) (hs := (show 2 ^ n - 1 < 128 by omega))) cf_X1_knownTogether lk_X4_266 rfl rfl rfl rfl rfl (by decide +kernel) (Nat.le_of_ble_eq_true rfl) (fun rv_9 wv_10 hp_11 hm_12 => ?_)
  clear hm_12
  obtain ⟨rfl, rfl⟩ := hp_11
  show VV E 0 0 29 [(0, .ref x0)] [.int (nI (orn (fun p => if Nat.testBit ((2 ^ n) - 1) p = true then X_6 (24 * 7 + p) else 0) n))] [(x0, .inr (4, [.ref a0, .ref xm, .ref xp, .int (bz pd), .ref b0, .ref g0, .ref s0, .ref w0, .int (nI rs), .ref y0])), (a0, .inr (2, [.int (nI n), .int (nI m), .int (nI sh), .int (nI 0), .ref a1, .ref a2, .ref a3, .ref a4, .ref a5, .ref a6])), (a1, .inl (cI, 7, .inl (nIf ki))), (a2, .inl (cI, 7, .inl (nIf op))), (a3, .inl (cI, 7, .inl (nIf fa))), (a4, .inl (cI, 6, .inl (nIf K))), (a5, .inl (cI, 6, .inl (nIf G))), (a6, .inl (cI, 6, .inl (nIf T))), (b0, .inr (1, [.int (nI n), .int (nI m), .ref b1, .ref b2, .ref b3])), (b1, .inl (cI, 6, .inl (nIf mg_5))), (b2, .inl (cI, 144, .inl (mIf Y_7))), (b3, .inl (cI, 175, .inl (nIf X_6)))]
  refine v_al_n 30 zC dX4_secret_29 0 rfl ?_
  refine v_gf 33 0 zC dX4_secret_30 gf_X4_25 rfl rfl ?_
  refine v_cV (As := []) (st := [.int (nI (orn (fun p => if Nat.testBit ((2 ^ n) - 1) p = true then X_6 (24 * 7 + p) else 0) n))]) 36 8 [8, 11] zC dX4_secret_33 hA (c_X1_knownToEach (ev_l E) (ev_D E) cI (b0 := b0) (b1 := b1) (b2 := b2) (b3 := b3) (P := n) (Q := m) (kn := X_6) (hP := (by first | omega | assumption | rfl | (simp only []; omega) | decide))) cf_X1_knownToEach lk_X4_269 rfl rfl rfl rfl rfl (by decide +kernel) (Nat.le_of_ble_eq_true rfl) (fun rv_13 wv_14 hp_15 hm_16 => ?_)
  clear hm_16
  obtain ⟨rfl, rfl⟩ := hp_15
  show VV E 0 0 36 [(0, .ref x0)] [.int (nI (if n = 0 then 0 else ann (fun p => X_6 (24 * 7 + p)) n)), .int (nI (orn (fun p => if Nat.testBit ((2 ^ n) - 1) p = true then X_6 (24 * 7 + p) else 0) n))] [(x0, .inr (4, [.ref a0, .ref xm, .ref xp, .int (bz pd), .ref b0, .ref g0, .ref s0, .ref w0, .int (nI rs), .ref y0])), (a0, .inr (2, [.int (nI n), .int (nI m), .int (nI sh), .int (nI 0), .ref a1, .ref a2, .ref a3, .ref a4, .ref a5, .ref a6])), (a1, .inl (cI, 7, .inl (nIf ki))), (a2, .inl (cI, 7, .inl (nIf op))), (a3, .inl (cI, 7, .inl (nIf fa))), (a4, .inl (cI, 6, .inl (nIf K))), (a5, .inl (cI, 6, .inl (nIf G))), (a6, .inl (cI, 6, .inl (nIf T))), (b0, .inr (1, [.int (nI n), .int (nI m), .ref b1, .ref b2, .ref b3])), (b1, .inl (cI, 6, .inl (nIf mg_5))), (b2, .inl (cI, 144, .inl (mIf Y_7))), (b3, .inl (cI, 175, .inl (nIf X_6)))]
  refine v_ic (v := (-1)) 37 zC dX4_secret_36 (by decide +kernel) ?_
  refine v_ixor (v := ((nI (if n = 0 then 0 else ann (fun p => X_6 (24 * 7 + p)) n)) ^^^ (-1))) 38 zC dX4_secret_37 rfl ?_
  refine v_iand (v := (nI (andn (orn (fun p => if Nat.testBit ((2 ^ n) - 1) p = true then X_6 (24 * 7 + p) else 0) n) (if n = 0 then 0 else ann (fun p => X_6 (24 * 7 + p)) n)))) 39 zC dX4_secret_38 (andn_of _ _) ?_
  refine v_iret zC zT dX4_secret_39  ?_
  exact ⟨_, _, _, _, _, hD9.2.2.1, hD9.2.2.2, sn (by rw [dk_kto hD9 hn, dk_ann hD9 hn]; rfl), rfl⟩
set_option maxRecDepth 100000 in
set_option maxHeartbeats 4000000 in
theorem c_X4_half (l : Launch) (D : va_G) (cI : ClassId) (x0 xm xp g0 s0 w0 y0 : Nat) (pd : Bool) (rs : Nat) (b0 b1 b2 b3 : Nat) (P Q : Nat) (mf : Nat → Nat) (M : Nat → Option Nat) (kn : Nat → Nat) (a0 a1 a2 a3 a4 a5 a6 : Nat) (n m sh : Nat) (ki op fa K G T : Nat → Nat) (hw : FW n m sh ki op fa K G T) (hB : ∀ z, kn z < 1024) (hM : ∀ z v, M z = some v → v < 7) : CT l yX4_half cX4_half 3 (some .int) { frames := 5, cells := 0, slots := 0, locals := 120 } D cI [.ref x0] [(x0, .inr (4, [.ref a0, .ref xm, .ref xp, .int (bz pd), .ref b0, .ref g0, .ref s0, .ref w0, .int (nI rs), .ref y0])), (a0, .inr (2, [.int (nI n), .int (nI m), .int (nI sh), .int (nI 0), .ref a1, .ref a2, .ref a3, .ref a4, .ref a5, .ref a6])), (a1, .inl (cI, 7, .inl (nIf ki))), (a2, .inl (cI, 7, .inl (nIf op))), (a3, .inl (cI, 7, .inl (nIf fa))), (a4, .inl (cI, 6, .inl (nIf K))), (a5, .inl (cI, 6, .inl (nIf G))), (a6, .inl (cI, 6, .inl (nIf T))), (b0, .inr (1, [.int (nI P), .int (nI Q), .ref b1, .ref b2, .ref b3])), (b1, .inl (cI, 6, .inl (nIf mf))), (b2, .inl (cI, 144, .inl (mIf M))), (b3, .inl (cI, 175, .inl (nIf kn)))] (fun zr zw => (∃ P1 : Nat, ∃ Q1 : Nat, ∃ mg : Nat → Nat, ∃ X : Nat → Nat, ∃ Y : Nat → Option Nat, (∀ z, X z < 1024) ∧ (∀ z v, Y z = some v → v < 7) ∧ zr = some (.int (nI (HALF (n, m, sh, 0, ki, op, fa, K, G, T)))) ∧ zw = [(x0, .inr (4, [.ref a0, .ref xm, .ref xp, .int (bz pd), .ref b0, .ref g0, .ref s0, .ref w0, .int (nI rs), .ref y0])), (a0, .inr (2, [.int (nI n), .int (nI m), .int (nI sh), .int (nI 0), .ref a1, .ref a2, .ref a3, .ref a4, .ref a5, .ref a6])), (a1, .inl (cI, 7, .inl (nIf ki))), (a2, .inl (cI, 7, .inl (nIf op))), (a3, .inl (cI, 7, .inl (nIf fa))), (a4, .inl (cI, 6, .inl (nIf K))), (a5, .inl (cI, 6, .inl (nIf G))), (a6, .inl (cI, 6, .inl (nIf T))), (b0, .inr (1, [.int (nI P1), .int (nI Q1), .ref b1, .ref b2, .ref b3])), (b1, .inl (cI, 6, .inl (nIf mg))), (b2, .inl (cI, 144, .inl (mIf Y))), (b3, .inl (cI, 175, .inl (nIf X)))])) := by
  refine CT_of RX4 rfl (by decide +kernel) (Nat.le_of_ble_eq_true rfl) (fun E hnE zC zT => ?_)
  have hA : ∀ q, (ev_s E).heap.size ≤ q → ev_A E q := fun q h => by rw [zT.2]; exact Or.inr h
  obtain ⟨hn, hm, hsh, hki, hop, hfa, hK, hG, hT, vki, vop, vfa, vK, vG, vT⟩ := id hw
  show VV E 0 0 0 [(0, .ref x0)] [] [(x0, .inr (4, [.ref a0, .ref xm, .ref xp, .int (bz pd), .ref b0, .ref g0, .ref s0, .ref w0, .int (nI rs), .ref y0])), (a0, .inr (2, [.int (nI n), .int (nI m), .int (nI sh), .int (nI 0), .ref a1, .ref a2, .ref a3, .ref a4, .ref a5, .ref a6])), (a1, .inl (cI, 7, .inl (nIf ki))), (a2, .inl (cI, 7, .inl (nIf op))), (a3, .inl (cI, 7, .inl (nIf fa))), (a4, .inl (cI, 6, .inl (nIf K))), (a5, .inl (cI, 6, .inl (nIf G))), (a6, .inl (cI, 6, .inl (nIf T))), (b0, .inr (1, [.int (nI P), .int (nI Q), .ref b1, .ref b2, .ref b3])), (b1, .inl (cI, 6, .inl (nIf mf))), (b2, .inl (cI, 144, .inl (mIf M))), (b3, .inl (cI, 175, .inl (nIf kn)))]
  refine v_al_n 1 zC dX4_half_0 0 rfl ?_
  refine v_al_n 2 zC dX4_half_1 0 rfl ?_
  refine v_gf 5 0 zC dX4_half_2 gf_X4_12 rfl rfl ?_
  refine v_cV (As := [.ref a0]) (st := []) 8 0 [0, 1, 2, 3, 4, 5, 6, 7, 8, 9, 10, 11] zC dX4_half_5 hA (c_X4_allOf (ev_l E) (ev_D E) cI (x0 := x0) (xn := a0) (xm := xm) (xp := xp) (g0 := g0) (s0 := s0) (w0 := w0) (y0 := y0) (pd := pd) (rs := rs) (b0 := b0) (b1 := b1) (b2 := b2) (b3 := b3) (P := P) (Q := Q) (mf := mf) (M := M) (kn := kn) (a0 := a0) (a1 := a1) (a2 := a2) (a3 := a3) (a4 := a4) (a5 := a5) (a6 := a6) (n := n) (m := m) (sh := sh) (aw := 0) (ki := ki) (op := op) (fa := fa) (K := K) (G := G) (T := T) (hw := (by first | omega | assumption | rfl | (simp only []; omega) | decide)) (hB := (by first | omega | assumption | rfl | (simp only []; omega) | decide)) (hM := (by first | omega | assumption | rfl | (simp only []; omega) | decide))) cf_X4_allOf lk_X4_198 rfl rfl rfl rfl rfl (by decide +kernel) (Nat.le_of_ble_eq_true rfl) (fun rv_1 wv_2 hp_3 hm_4 => ?_)
  clear hm_4
  obtain ⟨mg_5, X_6, Y_7, hD_8, rfl, rfl⟩ := hp_3
  show VV E 0 0 8 [(0, .ref x0)] [.int (nI (ALL (n, m, sh, 0, ki, op, fa, K, G, T)))] [(x0, .inr (4, [.ref a0, .ref xm, .ref xp, .int (bz pd), .ref b0, .ref g0, .ref s0, .ref w0, .int (nI rs), .ref y0])), (a0, .inr (2, [.int (nI n), .int (nI m), .int (nI sh), .int (nI 0), .ref a1, .ref a2, .ref a3, .ref a4, .ref a5, .ref a6])), (a1, .inl (cI, 7, .inl (nIf ki))), (a2, .inl (cI, 7, .inl (nIf op))), (a3, .inl (cI, 7, .inl (nIf fa))), (a4, .inl (cI, 6, .inl (nIf K))), (a5, .inl (cI, 6, .inl (nIf G))), (a6, .inl (cI, 6, .inl (nIf T))), (b0, .inr (1, [.int (nI n), .int (nI m), .ref b1, .ref b2, .ref b3])), (b1, .inl (cI, 6, .inl (nIf mg_5))), (b2, .inl (cI, 144, .inl (mIf Y_7))), (b3, .inl (cI, 175, .inl (nIf X_6)))]
  have hD9 := hD_8
  refine v_is_n (lv2 := [(1, .int (nI (ALL (n, m, sh, 0, ki, op, fa, K, G, T)))), (0, .ref x0)]) 9 zC dX4_half_8 (by rw [hnE]; decide) rfl ?_
  refine v_ic (v := (nI 0)) 10 zC dX4_half_9 (by decide +kernel) ?_
  refine v_is_n (lv2 := [(2, .int (nI 0)), (1, .int (nI (ALL (n, m, sh, 0, ki, op, fa, K, G, T)))), (0, .ref x0)]) 11 zC dX4_half_10 (by rw [hnE]; decide) rfl ?_
  have lp11 : ∀ (mz : Nat) (h : Nat), (h ≤ 24) → (fs (fun h => decide (ALL (n, m, sh, 0, ki, op, fa, K, G, T) ≤ 2 * KBH (n, m, sh, 0, ki, op, fa, K, G, T) h)) h = none) → 24 - h = mz → VV E 0 0 11 [(2, .int (nI h)), (1, .int (nI (ALL (n, m, sh, 0, ki, op, fa, K, G, T)))), (0, .ref x0)] [] [(x0, .inr (4, [.ref a0, .ref xm, .ref xp, .int (bz pd), .ref b0, .ref g0, .ref s0, .ref w0, .int (nI rs), .ref y0])), (a0, .inr (2, [.int (nI n), .int (nI m), .int (nI sh), .int (nI 0), .ref a1, .ref a2, .ref a3, .ref a4, .ref a5, .ref a6])), (a1, .inl (cI, 7, .inl (nIf ki))), (a2, .inl (cI, 7, .inl (nIf op))), (a3, .inl (cI, 7, .inl (nIf fa))), (a4, .inl (cI, 6, .inl (nIf K))), (a5, .inl (cI, 6, .inl (nIf G))), (a6, .inl (cI, 6, .inl (nIf T))), (b0, .inr (1, [.int (nI n), .int (nI m), .ref b1, .ref b2, .ref b3])), (b1, .inl (cI, 6, .inl (nIf mg_5))), (b2, .inl (cI, 144, .inl (mIf Y_7))), (b3, .inl (cI, 175, .inl (nIf X_6)))] := by
    intro mz
    induction mz using Nat.strongRecOn with
    | _ mz ih11 =>
    intro h hh hq hm11
    refine v_il_n 12 zC dX4_half_11 0 rfl ?_
    refine v_bp (v := (nI 24)) 14 zC dX4_half_12 (by decide +kernel) ?_
    refine v_icmpn_ge 39 17 zC dX4_half_14 (fun h_9 => ?_) (fun h_9 => ?_)
    ·
      refine v_bp (v := (nI 24)) 41 zC dX4_half_39 (by decide +kernel) ?_
      refine v_iret zC zT dX4_half_41  ?_
      exact ⟨_, _, _, _, _, hD9.2.2.1, hD9.2.2.2, sn (hf_e hq (by omega) (by omega)).symm, rfl⟩
    ·
      refine v_ic (v := (nI 2)) 18 zC dX4_half_17 (by decide +kernel) ?_
      refine v_al_n 19 zC dX4_half_18 2 rfl ?_
      refine v_gf 22 0 zC dX4_half_19 gf_X4_25 rfl rfl ?_
      refine v_il_n 23 zC dX4_half_22 0 rfl ?_
      refine v_cV (As := [.int (nI h)]) (st := [.int (nI 2)]) 26 8 [8, 11] zC dX4_half_23 hA (c_X1_knownInAllBehind (ev_l E) (ev_D E) cI (b0 := b0) (b1 := b1) (b2 := b2) (b3 := b3) (P := n) (Q := m) (kn := X_6) (h := h) (hP := (by first | omega | assumption | rfl | (simp only []; omega) | decide)) (hh := (by first | omega | assumption | rfl | (simp only []; omega) | decide)) (hK := hD9.2.2.1)) cf_X1_knownInAllBehind lk_X4_260 rfl rfl rfl rfl rfl (by decide +kernel) (Nat.le_of_ble_eq_true rfl) (fun rv_10 wv_11 hp_12 hm_13 => ?_)
      clear hm_13
      obtain ⟨rfl, rfl⟩ := hp_12
      show VV E 0 0 26 [(2, .int (nI h)), (1, .int (nI (ALL (n, m, sh, 0, ki, op, fa, K, G, T)))), (0, .ref x0)] [.int (nI (sm (fun p => pcn (X_6 (h * 7 + p))) n)), .int (nI 2)] [(x0, .inr (4, [.ref a0, .ref xm, .ref xp, .int (bz pd), .ref b0, .ref g0, .ref s0, .ref w0, .int (nI rs), .ref y0])), (a0, .inr (2, [.int (nI n), .int (nI m), .int (nI sh), .int (nI 0), .ref a1, .ref a2, .ref a3, .ref a4, .ref a5, .ref a6])), (a1, .inl (cI, 7, .inl (nIf ki))), (a2, .inl (cI, 7, .inl (nIf op))), (a3, .inl (cI, 7, .inl (nIf fa))), (a4, .inl (cI, 6, .inl (nIf K))), (a5, .inl (cI, 6, .inl (nIf G))), (a6, .inl (cI, 6, .inl (nIf T))), (b0, .inr (1, [.int (nI n), .int (nI m), .ref b1, .ref b2, .ref b3])), (b1, .inl (cI, 6, .inl (nIf mg_5))), (b2, .inl (cI, 144, .inl (mIf Y_7))), (b3, .inl (cI, 175, .inl (nIf X_6)))]
      refine v_imul (v := (nI (2 * (sm (fun p => pcn (X_6 (h * 7 + p))) n)))) 27 zC dX4_half_26 (pk_mul _ _) ?_
      have hA9 := all_le (s := (n, m, sh, 0, ki, op, fa, K, G, T)) hn (fun p => hD9.2.2.1 (24 * 7 + p)) hD9
      refine v_il_n 28 zC dX4_half_27 1 rfl ?_
      have hk9 : (sm (fun p => pcn (X_6 (h * 7 + p))) n) ≤ n * 10 := sm_le (fun p => pcn_k 10 _ (hD9.2.2.1 _)) n
      refine v_icmpn_lt 33 31 zC dX4_half_28 (fun h_14 => ?_) (fun h_14 => ?_)
      ·
        rw [dk_kbh hD9 hn (by omega)] at h_14
        refine v_inc (v := (nI (h + 1))) (lv2 := [(2, .int (nI (h + 1))), (1, .int (nI (ALL (n, m, sh, 0, ki, op, fa, K, G, T)))), (0, .ref x0)]) 36 zC dX4_half_33 (j := 0) rfl (nI_add _ 1) (by rw [hnE]; decide) rfl ?_
        refine v_goto 11 zC dX4_half_36 ?_
        refine v_lvs (lv2 := [(2, .int (nI (h + 1))), (1, .int (nI (ALL (n, m, sh, 0, ki, op, fa, K, G, T)))), (0, .ref x0)]) [0, 1, 2] rfl ?_
        exact ih11 _ (by omega) (h + 1) (by first | omega | assumption | rfl | (simp only []; omega) | decide) (fs_0 hq (decide_eq_false (by omega))) rfl
      ·
        rw [dk_kbh hD9 hn (by omega)] at h_14
        refine v_il_n 32 zC dX4_half_31 0 rfl ?_
        refine v_iret zC zT dX4_half_32  ?_
        exact ⟨_, _, _, _, _, hD9.2.2.1, hD9.2.2.2, sn (hf_f hq (by omega) (by omega)).symm, rfl⟩
  refine v_lvs (lv2 := [(2, .int (nI 0)), (1, .int (nI (ALL (n, m, sh, 0, ki, op, fa, K, G, T)))), (0, .ref x0)]) [0, 1, 2] rfl ?_
  exact lp11 _ 0 (by first | omega | assumption | rfl | (simp only []; omega) | decide) (by first | omega | assumption | rfl | (simp only []; omega) | decide) rfl
