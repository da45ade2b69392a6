/-! the law: what holds of the class's things and the reference's together -/
def UND (s : SG) (k w v : Nat) : SG := match k with
  | 0 => (g_n s, g_m s, g_sh s, 0, g_ki s, un (g_op s) w (g_op s w ^^^ 2 ^ v), g_fa s, g_K s, g_G s, g_T s)
  | 1 => (g_n s, g_m s, g_sh s ^^^ 2 ^ w, 0, g_ki s, g_op s, g_fa s, g_K s, g_G s, g_T s)
  | 2 => (g_n s, g_m s, g_sh s, 0, un (g_ki s) w (g_ki s w ^^^ 2 ^ v), g_op s, g_fa s, g_K s, g_G s, g_T s)
  | _ + 3 => (g_n s, g_m s, g_sh s, 0, g_ki s, g_op s, g_fa s, g_K s, un (g_G s) w v, g_T s)
def FWS (s : SG) : Prop := FW (g_n s) (g_m s) (g_sh s) (g_ki s) (g_op s) (g_fa s) (g_K s) (g_G s) (g_T s)
def UOK (n m k w v : Nat) : Prop := (k = 0 ∧ w < n ∧ v < 24) ∨ (k = 1 ∧ w < n) ∨ (k = 2 ∧ w < n ∧ v < 6) ∨ (k = 3 ∧ w < m ∧ v < 10)
theorem und_n {s : SG} {k w v : Nat} : g_n (UND s k w v) = g_n s := match k with
  | 0 => rfl
  | 1 => rfl
  | 2 => rfl
  | _ + 3 => rfl
theorem und_m {s : SG} {k w v : Nat} : g_m (UND s k w v) = g_m s := match k with
  | 0 => rfl
  | 1 => rfl
  | 2 => rfl
  | _ + 3 => rfl
def HIST (so wh va tu : Nat → Nat) : Nat → SG → Prop
  | 0, _ => True
  | c + 1, s => UOK (g_n s) (g_m s) (so c) (wh c) (va c) ∧ FWS (UND s (so c) (wh c) (va c)) ∧ (∀ z, z < 48 → tu (48 * c + z) = ENC (UND s (so c) (wh c) (va c)) z) ∧ HIST so wh va tu c (UND s (so c) (wh c) (va c))
theorem hist_uok {so wh va tu : Nat → Nat} : ∀ {c : Nat} {s : SG}, HIST so wh va tu c s → ∀ i, i < c → UOK (g_n s) (g_m s) (so i) (wh i) (va i)
  | 0, _, _, i, hi => absurd hi (Nat.not_lt_zero i)
  | c + 1, s, h, i, hi => by
    by_cases e : i = c
    · rw [e]; exact h.1
    · have h2 := hist_uok h.2.2.2 i (by omega)
      rw [und_n, und_m] at h2
      exact h2
theorem hist_sh {d : Nat} {so wh va tu so2 wh2 va2 tu2 : Nat → Nat} : ∀ {c : Nat} {s : SG}, HIST so wh va tu (d + c) s → (∀ i, i < c → so2 i = so (d + i) ∧ wh2 i = wh (d + i) ∧ va2 i = va (d + i)) → (∀ z, z < 48 * c → tu2 z = tu (48 * d + z)) → HIST so2 wh2 va2 tu2 c s
  | 0, _, _, _, _ => trivial
  | c + 1, s, h, e, et => by
    obtain ⟨e1, e2, e3⟩ := e c (by omega)
    obtain ⟨h1, h2, h3, h4⟩ : UOK (g_n s) (g_m s) (so (d + c)) (wh (d + c)) (va (d + c)) ∧ FWS (UND s (so (d + c)) (wh (d + c)) (va (d + c))) ∧ (∀ z, z < 48 → tu (48 * (d + c) + z) = ENC (UND s (so (d + c)) (wh (d + c)) (va (d + c))) z) ∧ HIST so wh va tu (d + c) (UND s (so (d + c)) (wh (d + c)) (va (d + c))) := h
    refine ⟨?_, ?_, ?_, ?_⟩
    · rw [e1, e2, e3]; exact h1
    · rw [e1, e2, e3]; exact h2
    · intro z hz
      rw [e1, e2, e3, et (48 * c + z) (by omega), show 48 * d + (48 * c + z) = 48 * (d + c) + z by omega]
      exact h3 z hz
    · rw [e1, e2, e3]
      exact hist_sh h4 (fun i hi => e i (by omega)) (fun z hz => et z (by omega))
theorem shp_lt {f : Nat → Nat} {c v : Nat} (h : c < 8) : shp f c v = un f c v := if_pos h
theorem shp_8 {f : Nat → Nat} {v : Nat} : shp f 8 v = un (va_cpy f f 1 0 7) 7 v := if_neg (by omega)
theorem shp_8i {f : Nat → Nat} {v i : Nat} (h : i < 7) : shp f 8 v i = f (1 + i) := by
  rw [shp_8, un_n (by omega)]
  unfold va_cpy
  rw [if_pos ⟨Nat.zero_le _, by omega⟩]
  rfl
theorem hist_push {so wh va tu u1 : Nat → Nat} {c k j v t1 : Nat} {s s2 : SG} (h : HIST so wh va tu c s) (hf : FWS s) (hu : UOK (g_n s2) (g_m s2) k j v) (e : UND s2 k j v = s) (hk : KT s c tu t1 u1) : t1 = csz c ∧ HIST (shp so c k) (shp wh c j) (shp va c v) u1 (csz c) s2 := by
  rcases hk with ⟨h1, h2, h3, h4⟩ | ⟨h1, h2, h3, h4⟩
  · have ec : csz c = c + 1 := if_pos h1
    rw [shp_lt h1, shp_lt h1, shp_lt h1, ec]
    refine ⟨h2, ?_⟩
    unfold HIST
    rw [un_s, un_s, un_s, e]
    exact ⟨hu, hf, h4, hist_sh (d := 0) (by rw [Nat.zero_add]; exact h) (fun i hi => by rw [un_n (by omega), un_n (by omega), un_n (by omega), Nat.zero_add]; exact ⟨rfl, rfl, rfl⟩) (fun z hz => by rw [h3 z hz, Nat.mul_zero, Nat.zero_add])⟩
  · subst h1
    have e7 : ∀ f x, shp f 8 x 7 = x := fun f x => by rw [shp_8, un_s]
    refine ⟨h2, ?_⟩
    show HIST _ _ _ u1 (7 + 1) s2
    unfold HIST
    rw [e7, e7, e7, e]
    exact ⟨hu, hf, h4, hist_sh (d := 1) h (fun i hi => ⟨shp_8i hi, shp_8i hi, shp_8i hi⟩) (fun z hz => by rw [h3 z (by omega), Nat.add_comm])⟩
theorem hist_top {so wh va tu : Nat → Nat} {c : Nat} {s : SG} (h : HIST so wh va tu c s) (hc : 0 < c) : UOK (g_n s) (g_m s) (so (c - 1)) (wh (c - 1)) (va (c - 1)) ∧ FWS (UND s (so (c - 1)) (wh (c - 1)) (va (c - 1))) ∧ (∀ z, z < 48 → tu (48 * (c - 1) + z) = ENC (UND s (so (c - 1)) (wh (c - 1)) (va (c - 1))) z) ∧ HIST so wh va tu (c - 1) (UND s (so (c - 1)) (wh (c - 1)) (va (c - 1))) := by
  obtain ⟨d, rfl⟩ : ∃ d, c = d + 1 := ⟨c - 1, by omega⟩
  exact h
theorem un_bk {f : Nat → Nat} {j v : Nat} : un (un f j v) j (f j) = f := by
  funext z
  unfold un
  by_cases e : z = j
  · rw [if_pos e, e]
  · rw [if_neg e, if_neg e]
theorem un_xx {f : Nat → Nat} {j x : Nat} : un (un f j (f j ^^^ x)) j (un f j (f j ^^^ x) j ^^^ x) = f := by
  rw [un_s, Nat.xor_assoc, Nat.xor_self, Nat.xor_zero]
  exact un_bk
theorem xx_sh {a x : Nat} : a ^^^ x ^^^ x = a := by rw [Nat.xor_assoc, Nat.xor_self, Nat.xor_zero]
section FWL
variable {n m sh : Nat} {ki op fa K G T : Nat → Nat} {j k : Nat}
theorem p2lt {a b : Nat} (h : a < b) : 2 ^ a < 2 ^ b := Nat.pow_lt_pow_right (by decide) h
theorem fw_op (h : FW n m sh ki op fa K G T) (hj : j < n) (hk : k < 24) : FW n m sh ki (un op j (op j ^^^ 2 ^ k)) fa K G T := by
  obtain ⟨hn, hm, hsh, hki, hop, hfa, hK, hG, hT, vki, vop, vfa, vK, vG, vT⟩ := h
  exact ⟨hn, hm, hsh, hki, un_b hop (Nat.xor_lt_two_pow (hop j) (p2lt hk)), hfa, hK, hG, hT, vki, un_v vop (by omega), vfa, vK, vG, vT⟩
theorem fw_sh (h : FW n m sh ki op fa K G T) (hj : j < n) : FW n m (sh ^^^ 2 ^ j) ki op fa K G T := by
  obtain ⟨hn, hm, hsh, hki, hop, hfa, hK, hG, hT, vki, vop, vfa, vK, vG, vT⟩ := h
  exact ⟨hn, hm, Nat.xor_lt_two_pow hsh (p2lt hj), hki, hop, hfa, hK, hG, hT, vki, vop, vfa, vK, vG, vT⟩
theorem fw_ki (h : FW n m sh ki op fa K G T) (hj : j < n) (hk : k < 6) : FW n m sh (un ki j (ki j ^^^ 2 ^ k)) op fa K G T := by
  obtain ⟨hn, hm, hsh, hki, hop, hfa, hK, hG, hT, vki, vop, vfa, vK, vG, vT⟩ := h
  exact ⟨hn, hm, hsh, un_b hki (Nat.xor_lt_two_pow (n := 6) (hki j) (p2lt hk)), hop, hfa, hK, hG, hT, un_v vki (by omega), vop, vfa, vK, vG, vT⟩
theorem fw_G (h : FW n m sh ki op fa K G T) (hj : j < m) (hk : k < 10) : FW n m sh ki op fa K (un G j k) T := by
  obtain ⟨hn, hm, hsh, hki, hop, hfa, hK, hG, hT, vki, vop, vfa, vK, vG, vT⟩ := h
  exact ⟨hn, hm, hsh, hki, hop, hfa, hK, un_b hG hk, hT, vki, vop, vfa, vK, un_v vG (by omega), vT⟩
theorem fw_fa (h : FW n m sh ki op fa K G T) (hj : j < n) (hk : k < 10) : FW n m sh ki op (un fa j (fa j ||| 2 ^ k)) K G T := by
  obtain ⟨hn, hm, hsh, hki, hop, hfa, hK, hG, hT, vki, vop, vfa, vK, vG, vT⟩ := h
  exact ⟨hn, hm, hsh, hki, hop, un_b hfa (Nat.or_lt_two_pow (n := 10) (hfa j) (p2lt hk)), hK, hG, hT, vki, vop, un_v vfa (by omega), vK, vG, vT⟩
theorem fw_come (h : FW n m sh ki op fa K G T) (hj : n < 7) (hk : k < 64) : FW (n + 1) m sh (un ki n k) (un op n 0) (un fa n 0) K G T := by
  obtain ⟨hn, hm, hsh, hki, hop, hfa, hK, hG, hT, vki, vop, vfa, vK, vG, vT⟩ := h
  exact ⟨hj, hm, Nat.lt_trans hsh (p2lt (Nat.lt_succ_self n)), un_b hki hk, un_b hop (by decide), un_b hfa (by decide), hK, hG, hT, un_v vki hj, un_v vop hj, un_v vfa hj, vK, vG, vT⟩
theorem fw_die {a b c : Nat} (h : FW n m sh ki op fa K G T) (hj : m < 6) (ha : a < 6) (hb : b < 10) (hc : c < 10) : FW n (m + 1) sh ki op fa (un K m a) (un G m b) (un T m c) := by
  obtain ⟨hn, hm, hsh, hki, hop, hfa, hK, hG, hT, vki, vop, vfa, vK, vG, vT⟩ := h
  exact ⟨hn, hj, hsh, hki, hop, hfa, un_b hK ha, un_b hG hb, un_b hT hc, vki, vop, vfa, un_v vK hj, un_v vG hj, un_v vT hj⟩
theorem fw_pas {s : SG} (h : FW n m sh ki op fa K G T) (hb : ∀ z, PASF s z < 1024) : FW n m sh ki op (PASF s) K G T := by
  obtain ⟨hn, hm, hsh, hki, hop, hfa, hK, hG, hT, vki, vop, vfa, vK, vG, vT⟩ := h
  exact ⟨hn, hm, hsh, hki, hop, hb, hK, hG, hT, vki, vop, fun z hz => if_neg (by omega), vK, vG, vT⟩
theorem fw_0 : FW 0 0 0 (fun _ => 0) (fun _ => 0) (fun _ => 0) (fun _ => 0) (fun _ => 0) (fun _ => 0) := ⟨by decide, by decide, by decide, fun _ => Nat.pos_of_ne_zero (by decide), fun _ => Nat.pos_of_ne_zero (by decide), fun _ => Nat.pos_of_ne_zero (by decide), fun _ => Nat.pos_of_ne_zero (by decide), fun _ => Nat.pos_of_ne_zero (by decide), fun _ => Nat.pos_of_ne_zero (by decide), fun _ _ => rfl, fun _ _ => rfl, fun _ _ => rfl, fun _ _ => rfl, fun _ _ => rfl, fun _ _ => rfl⟩
end FWL
theorem ix_p {N k : Nat} {v : Int32} (h : IX N v = some k) : ¬ v < 0 := fun z => by rw [IX_n (Or.inl z)] at h; cases h
theorem ix_lt {N k : Nat} {v : Int32} (hN : N < 2 ^ 31) (h : IX N v = some k) : k < N := by
  by_cases c : v < 0 ∨ nI N ≤ v
  · rw [IX_n c] at h; cases h
  · obtain ⟨j, h1, -, h3⟩ := IX_s hN (fun z => c (Or.inl z)) (fun z => c (Or.inr z))
    rw [h1] at h
    cases h
    exact h3
/-! the law's own rows -/
def XS (E : EV) (b L : Nat) (xs : Nat → Int32) : Prop := va_X b L xs (ev_s E) (ev_s E).heap ∧ b < (ev_s E).heap.size ∧ ¬ ev_A E b
section LR
variable {E : EV} {cc : ByteArray} {own : String} {ret : Option FieldType} {cI : ClassId} {rm : Room} {k n pc : Nat} {lv : List (Nat × Value)} {st : List Value} {ws : va_W}
theorem v_sld {b L i : Nat} {xs : Nat → Int32} (q : Nat) (C : CX E cc own ret cI rm) (hX : XS E b L xs) (hd : decode cc pc = .ok (.iaload, 1)) (hi : i < L) (hL : L ≤ 2560) (kk : VV E k n q lv (.int (xs i) :: st) ws) (hq : pc + 1 = q := by rfl) : VV E k n pc lv (.int (nI i) :: .ref b :: st) ws := by
  subst hq
  intro H locs ls hP hD hS hl
  obtain ⟨h1, h2, h3⟩ := hX
  refine va_sld C.1 C.2.1 h1 h2 h3 hS (vp_in_nI hi (by omega)) hd ?_
  rw [nI_clamp (show i < 2 ^ 31 by omega)]
  exact kk H locs ls hP hD hS hl
theorem v_slen {b L : Nat} {xs : Nat → Int32} (q : Nat) (C : CX E cc own ret cI rm) (hX : XS E b L xs) (hd : decode cc pc = .ok (.arraylength, 1)) (kk : VV E k n q lv (.int (nI L) :: st) ws) (hq : pc + 1 = q := by rfl) : VV E k n pc lv (.ref b :: st) ws := by
  subst hq
  intro H locs ls hP hD hS hl
  obtain ⟨h1, h2, h3⟩ := hX
  exact va_slen C.1 C.2.1 h1 h2 h3 hS hd (kk H locs ls hP hD hS hl)
theorem v_eqi {x y : Int32} {off : Int} (t : Nat) (C : CX E cc own ret cI rm) (hd : decode cc pc = .ok (.if_icmp .eq off, 3)) (hxy : x = y) (kt : VV E k n t lv st ws) (ht : (pc : Int) + off = (t : Int) := by rfl) : VV E k n pc lv (.int y :: .int x :: st) ws := v_icmp_eq t (pc + 3) C hd (fun _ => kt) (fun h => absurd hxy h) ht rfl
theorem v_eql {x y : Int64} {off : Int} (t : Nat) (C : CX E cc own ret cI rm) (hd : decode cc pc = .ok (.ifCond .eq off, 3)) (hxy : x = y) (kt : VV E k n t lv st ws) (ht : (pc : Int) + off = (t : Int) := by rfl) : VV E k n pc lv (.int (lg_cmp x y) :: st) ws := v_ifl_eq t (pc + 3) C hd (fun _ => kt) (fun h => absurd hxy h) ht rfl
end LR
/-! a world in two parts: a call sees the first -/
theorem v_sa_app {wb : va_W} : ∀ (is : List Nat) (wa w1 : va_W), (∀ i ∈ is, i < wa.length) → v_sa (wa ++ wb) is w1 = v_sa wa is w1 ++ wb
  | [], wa, w1, _ => by cases w1 <;> rfl
  | i :: is, wa, [], _ => rfl
  | i :: is, wa, q :: qs, h => by
    show v_sa ((wa ++ wb).set i q) is qs = v_sa (wa.set i q) is qs ++ wb
    rw [List.set_append_left i q (h i List.mem_cons_self)]
    exact v_sa_app is (wa.set i q) qs (fun j hj => by rw [List.length_set]; exact h j (List.mem_cons_of_mem _ hj))
section V2
variable {E : EV} {cc : ByteArray} {own : String} {ret : Option FieldType} {cI : ClassId} {rm : Room} {k n pc : Nat} {lv : List (Nat × Value)} {st : List Value} {wa wb : va_W}
theorem v_cV2 {y : MethodName} {b : ByteArray} {nL : Nat} {ret2 : Option FieldType} {rm2 : Room} {As : List Value} {ra : Nat} {wc : va_W} {post : Option Value → va_W → Prop} {index np ci : Nat} {fs : List Value} {stk : List Value} (q kr : Nat) (is : List Nat) (C : CX E cc own ret cI rm) (hd : decode cc pc = .ok (.invokevirtual index, 3)) (hA : ∀ q, (ev_s E).heap.size ≤ q → ev_A E q)
    (hM : CT (ev_l E) y b nL ret2 rm2 (ev_D E) cI (.ref ra :: As) wc post) (F : CF y b nL ret2 np ∧ Cond.instanceMethod y ∈ gw ∧ Cond.selects y.cls y y ∈ gw) (hlk : LK own index y)
    (hn : As.length = np) (hs : stk = As.reverse ++ .ref ra :: st) (hC : is.map (fun i => wa[i]?) = wc.map some) (hr : wa[kr]? = some (ra, .inr (ci, fs))) (hci : (vwCl[ci]?).map (·.1) = some y.cls)
    (hR : (rm2.frames + 1 ≤ rm.frames ∧ 8 + (nL + 11) + rm2.locals ≤ rm.locals) ∧ (rm2.cells = 0 ∧ rm2.slots = 0) ∧ k ≤ rm.cells ∧ n ≤ rm.slots) (hst : (st.map fun v => v.category).sum ≤ 8)
    (kk : ∀ rv w1, post rv w1 → w1.map (·.1) = wc.map (·.1) → VV E k n q lv (rv.toList ++ st) (v_sa wa is w1 ++ wb)) (hnd : va_nd is = true := by rfl) (hq : pc + 3 = q := by rfl) : VV E k n pc lv stk (wa ++ wb) := by
  have hlt : ∀ i ∈ is, i < wa.length := by
    intro i hi
    obtain ⟨j, hj⟩ := List.mem_iff_getElem?.mp hi
    have h1 : (is.map (fun i => wa[i]?))[j]? = some (wa[i]?) := by rw [List.getElem?_map, hj]; rfl
    rw [hC, List.getElem?_map] at h1
    cases hw : wc[j]? with
    | none => rw [hw] at h1; cases h1
    | some x =>
      rw [hw] at h1
      exact (List.getElem?_eq_some_iff.mp (Option.some.inj h1).symm).1
  have hkr : kr < wa.length := (List.getElem?_eq_some_iff.mp hr).1
  refine v_cV q kr is C hd hA hM F hlk hn hs ?_ (by rw [List.getElem?_append_left hkr]; exact hr) hci hR hst (fun rv w1 h1 h2 => ?_) hnd hq
  · rw [← hC]
    exact List.map_congr_left (fun i hi => List.getElem?_append_left (hlt i hi))
  · rw [v_sa_app is wa w1 hlt]
    exact kk rv w1 h1 h2
theorem v_swap (kk : VV E k n pc lv st (wb ++ wa)) : VV E k n pc lv st (wa ++ wb) := by
  intro H locs ls hP hD hS hl
  have g : ∀ (j : Nat) (q : Nat × va_E), (wb ++ wa)[j]? = some q → (wa ++ wb)[if j < wb.length then wa.length + j else j - wb.length]? = some q ∧ j < wb.length + wa.length := by
    intro j q h
    have hj : j < (wb ++ wa).length := (List.getElem?_eq_some_iff.mp h).1
    rw [List.length_append] at hj
    refine ⟨?_, hj⟩
    by_cases c : j < wb.length
    · rw [if_pos c, List.getElem?_append_right (by omega), show wa.length + j - wa.length = j by omega]
      rw [List.getElem?_append_left c] at h
      exact h
    · rw [if_neg c, List.getElem?_append_left (by omega)]
      rw [List.getElem?_append_right (by omega)] at h
      exact h
  refine kk H locs ls (fun j q h => hP _ q (g j q h).1) ⟨fun i j p q hi hj e => ?_, fun j q h => hD.2 _ q (g j q h).1⟩ hS hl
  have h1 := g i p hi
  have h2 := g j q hj
  have h3 := hD.1 _ _ p q h1.1 h2.1 e
  by_cases c1 : i < wb.length
  · by_cases c2 : j < wb.length
    · rw [if_pos c1, if_pos c2] at h3; omega
    · rw [if_pos c1, if_neg c2] at h3; omega
  · by_cases c2 : j < wb.length
    · rw [if_neg c1, if_pos c2] at h3; omega
    · rw [if_neg c1, if_neg c2] at h3; omega
end V2

def INV (n : Nat) (m : Nat) (sh : Nat) (ki : Nat → Nat) (op : Nat → Nat) (fa : Nat → Nat) (K : Nat → Nat) (G : Nat → Nat) (T : Nat → Nat) (n5 : Nat) (m5 : Nat) (sh5 : Nat) (ki5 : Nat → Nat) (op5 : Nat → Nat) (fa5 : Nat → Nat) (K5 : Nat → Nat) (G5 : Nat → Nat) (T5 : Nat → Nat) (n2 : Nat) (m2 : Nat) (sh2 : Nat) (aw2 : Nat) (ki2 : Nat → Nat) (op2 : Nat → Nat) (fa2 : Nat → Nat) (K2 : Nat → Nat) (G2 : Nat → Nat) (T2 : Nat → Nat) (cs : Nat) (ls : Nat) (rs : Nat) (kn : Nat → Nat) (so : Nat → Nat) (wh : Nat → Nat) (va : Nat → Nat) (sg : Nat → Nat) (rw : Nat → Nat) (kw : Nat → Nat) (kr : Nat → Nat) (im : Nat → Nat) (tu : Nat → Nat) (M : Nat → Option Nat) (Mr : Nat → Option Nat) (pd : Bool) : Prop := FW n m sh ki op fa K G T ∧ FW n5 m5 sh5 ki5 op5 fa5 K5 G5 T5 ∧ FW n2 m2 sh2 ki2 op2 fa2 K2 G2 T2 ∧ (∀ z, kn z < 1024) ∧ (∀ z v, M z = some v → v < 7) ∧ cs ≤ 8 ∧ HIST so wh va tu cs (n, m, sh, 0, ki, op, fa, K, G, T) ∧ ls ≤ 96 ∧ (∀ z, sg z < 256) ∧ rs ≤ 24 ∧ (∀ z, rw z < 100) ∧ (∀ z, kw z < 1024) ∧ (∀ z, kr z < 1024) ∧ (∀ z v, Mr z = some v → v < 7) ∧ (pd = true → ∀ z, z < 48 → im z = ENC (n2, m2, sh2, aw2, ki2, op2, fa2, K2, G2, T2) z)
def LGO (E : EV) (cI : ClassId) (pc b i : Nat) (x0 a0 a1 a2 a3 a4 a5 a6 c0 c1 c2 c3 c4 c5 c6 e0 e1 e2 e3 e4 e5 e6 b0 b1 b2 b3 g0 g1 g2 g3 s0 s1 w0 y0 r0 k1 k2 k3 k4 k6 k7 k8 k10 k12 k13 k14 k15 k16 k21 k22 k23 k24 k25 k30 k31 k33 : Nat) : Prop := ∀ (n m sh n5 m5 sh5 aw5 n2 m2 sh2 aw2 P Q cs ls rs ap sq pl : Nat) (ki op fa K G T ki5 op5 fa5 K5 G5 T5 ki2 op2 fa2 K2 G2 T2 mf kn so wh va sg rw R kw kr mw pi tl kp im tu to : Nat → Nat) (M Mr : Nat → Option Nat) (lo : Nat → Int32) (pd bd tk : Bool) (kv : Value) (sd : Int32), INV n m sh ki op fa K G T n5 m5 sh5 ki5 op5 fa5 K5 G5 T5 n2 m2 sh2 aw2 ki2 op2 fa2 K2 G2 T2 cs ls rs kn so wh va sg rw kw kr im tu M Mr pd → VV E 56 1959 pc [(3, .int (nI i)), (2, .ref r0), (1, .ref x0), (0, .ref b)] [] (([(x0, .inr (4, [.ref a0, .ref c0, .ref e0, .int (bz pd), .ref b0, .ref g0, .ref s0, .ref w0, .int (nI rs), .ref y0])), (a0, .inr (2, [.int (nI n), .int (nI m), .int (nI sh), .int (nI 0), .ref a1, .ref a2, .ref a3, .ref a4, .ref a5, .ref a6])), (a1, .inl (cI, 7, .inl (nIf ki))), (a2, .inl (cI, 7, .inl (nIf op))), (a3, .inl (cI, 7, .inl (nIf fa))), (a4, .inl (cI, 6, .inl (nIf K))), (a5, .inl (cI, 6, .inl (nIf G))), (a6, .inl (cI, 6, .inl (nIf T))), (b0, .inr (1, [.int (nI P), .int (nI Q), .ref b1, .ref b2, .ref b3])), (b1, .inl (cI, 6, .inl (nIf mf))), (b2, .inl (cI, 144, .inl (mIf M))), (b3, .inl (cI, 175, .inl (nIf kn))), (y0, .inl (cI, 7, .inl (nIf R))), (g0, .inr (0, [.int (nI cs), .ref g1, .ref g2, .ref g3])), (g1, .inl (cI, 8, .inl (nIf so))), (g2, .inl (cI, 8, .inl (nIf wh))), (g3, .inl (cI, 8, .inl (nIf va))), (s0, .inr (3, [.int (nI ls), .ref s1])), (s1, .inl (cI, 96, .inl (nIf sg))), (w0, .inl (cI, 24, .inl (nIf rw))), (c0, .inr (2, [.int (nI n5), .int (nI m5), .int (nI sh5), .int (nI aw5), .ref c1, .ref c2, .ref c3, .ref c4, .ref c5, .ref c6])), (c1, .inl (cI, 7, .inl (nIf ki5))), (c2, .inl (cI, 7, .inl (nIf op5))), (c3, .inl (cI, 7, .inl (nIf fa5))), (c4, .inl (cI, 6, .inl (nIf K5))), (c5, .inl (cI, 6, .inl (nIf G5))), (c6, .inl (cI, 6, .inl (nIf T5))), (e0, .inr (2, [.int (nI n2), .int (nI m2), .int (nI sh2), .int (nI aw2), .ref e1, .ref e2, .ref e3, .ref e4, .ref e5, .ref e6])), (e1, .inl (cI, 7, .inl (nIf ki2))), (e2, .inl (cI, 7, .inl (nIf op2))), (e3, .inl (cI, 7, .inl (nIf fa2))), (e4, .inl (cI, 6, .inl (nIf K2))), (e5, .inl (cI, 6, .inl (nIf G2))), (e6, .inl (cI, 6, .inl (nIf T2)))] : va_W) ++ [(r0, .inr (5, [.int (nI n), .ref k1, .ref k2, .ref k3, .ref k4, .int (nI m), .ref k6, .ref k7, .ref k8, .int (nI 0), .ref k10, .int (nI 0), .ref k12, .ref k13, .ref k14, .ref k15, .ref k16, .int (nI ls), .int (nI ap), .int (bz bd), .int (nI sq), .ref k21, .ref k22, .ref k23, .ref k24, .ref k25, .int (bz pd), .int (nI pl), .int (bz tk), kv, .ref k30, .ref k31, .int (nI cs), .ref k33, .int (nI rs), .int sd])), (k1, .inl (cI, 7, .inl (nIf ki))), (k2, .inl (cI, 7, .inl (nIf op))), (k3, .inl (cI, 7, .inl (nIf (shF sh)))), (k4, .inl (cI, 7, .inl (nIf fa))), (k6, .inl (cI, 6, .inl (nIf K))), (k7, .inl (cI, 6, .inl (nIf G))), (k8, .inl (cI, 6, .inl (nIf T))), (k12, .inl (cI, 7, .inl (nIf kw))), (k13, .inl (cI, 175, .inl (nIf kr))), (k14, .inl (cI, 144, .inl (mIf Mr))), (k15, .inl (cI, 7, .inl (nIf mw))), (k10, .inl (cI, 7, .inl (nIf R))), (k24, .inl (cI, 48, .inl (nIf kp))), (k16, .inl (cI, 96, .inl (nIf sg))), (k21, .inl (cI, 49, .inl (nIf pi))), (k22, .inl (cI, 49, .inl lo)), (k23, .inl (cI, 147, .inl (nIf tl))), (k25, .inl (cI, 48, .inl (nIf im))), (k30, .inl (cI, 384, .inl (nIf tu))), (k31, .inl (cI, 48, .inl (nIf to))), (k33, .inl (cI, 24, .inl (nIf rw)))])
theorem no_feed_0_1 {ls : Nat} {v : Int32} (h0 : v < 0) (h1 : ¬ v < 0) (h2 : IX 256 v = none ∨ ls = 96) : False := by
  first | omega | exact absurd (congrArg Prod.fst (h1.symm.trans h3)) (fun e => by cases e) | (simp_all; done) | (simp_all; omega)
theorem no_feed_0_2 {ls : Nat} {v : Int32} {k_r : Nat} (h0 : v < 0) (h1 : IX 256 v = some k_r) (h2 : ls < 96) : False := by
  have p1 := ix_p h1
  first | omega | exact absurd (congrArg Prod.fst (h1.symm.trans h3)) (fun e => by cases e) | (simp_all; done) | (simp_all; omega)
theorem no_feed_1_0 {ls : Nat} {v : Int32} (h0 : ¬ v < 0) (h1 : IX 256 v = none ∨ ls = 96) (h2 : v < 0) : False := by
  first | omega | exact absurd (congrArg Prod.fst (h1.symm.trans h3)) (fun e => by cases e) | (simp_all; done) | (simp_all; omega)
theorem no_feed_1_2 {ls : Nat} {v : Int32} {k_r : Nat} (h0 : ¬ v < 0) (h1 : IX 256 v = none ∨ ls = 96) (h2 : IX 256 v = some k_r) (h3 : ls < 96) : False := by
  have p2 := ix_p h2
  first | omega | exact absurd (congrArg Prod.fst (h1.symm.trans h3)) (fun e => by cases e) | (simp_all; done) | (simp_all; omega)
theorem no_feed_2_0 {ls : Nat} {v : Int32} {k_c : Nat} (h0 : IX 256 v = some k_c) (h1 : ls < 96) (h2 : v < 0) : False := by
  have p0 := ix_p h0
  first | omega | exact absurd (congrArg Prod.fst (h1.symm.trans h3)) (fun e => by cases e) | (simp_all; done) | (simp_all; omega)
theorem no_feed_2_1 {ls : Nat} {v : Int32} {k_c : Nat} (h0 : IX 256 v = some k_c) (h1 : ls < 96) (h2 : ¬ v < 0) (h3 : IX 256 v = none ∨ ls = 96) : False := by
  have p0 := ix_p h0
  first | omega | exact absurd (congrArg Prod.fst (h1.symm.trans h3)) (fun e => by cases e) | (simp_all; done) | (simp_all; omega)
theorem no_family_0_1 {n : Nat} {m : Nat} {sh : Nat} {ls : Nat} {ki : Nat → Nat} {op : Nat → Nat} {fa : Nat → Nat} {K : Nat → Nat} {G : Nat → Nat} {T : Nat → Nat} {sg : Nat → Nat} {b_c : Nat} {b_r : Nat} (h0 : BRK ls sg = some b_c) (h1 : BRK ls sg = none) (h2 : TELL ls sg ls 0 0 (n, m, sh, 0, ki, op, fa, K, G, T) = (none, b_r)) : False := by
  first | omega | exact absurd (congrArg Prod.fst (h1.symm.trans h3)) (fun e => by cases e) | (simp_all; done) | (simp_all; omega)
theorem no_family_0_2 {n : Nat} {m : Nat} {sh : Nat} {ls : Nat} {ki : Nat → Nat} {op : Nat → Nat} {fa : Nat → Nat} {K : Nat → Nat} {G : Nat → Nat} {T : Nat → Nat} {sg : Nat → Nat} {b_c : Nat} {c_r : Nat} {n3_r : Nat} {m3_r : Nat} {s3_r : Nat} {ki3_r : Nat → Nat} {op3_r : Nat → Nat} {fa3_r : Nat → Nat} {K3_r : Nat → Nat} {G3_r : Nat → Nat} {T3_r : Nat → Nat} (h0 : BRK ls sg = some b_c) (h1 : BRK ls sg = none) (h2 : TELL ls sg ls 0 0 (n, m, sh, 0, ki, op, fa, K, G, T) = (some (n3_r, m3_r, s3_r, 0, ki3_r, op3_r, fa3_r, K3_r, G3_r, T3_r), c_r)) : False := by
  first | omega | exact absurd (congrArg Prod.fst (h1.symm.trans h3)) (fun e => by cases e) | (simp_all; done) | (simp_all; omega)
theorem no_family_1_0 {n : Nat} {m : Nat} {sh : Nat} {ls : Nat} {ki : Nat → Nat} {op : Nat → Nat} {fa : Nat → Nat} {K : Nat → Nat} {G : Nat → Nat} {T : Nat → Nat} {sg : Nat → Nat} {b_c : Nat} {b_r : Nat} (h0 : BRK ls sg = none) (h1 : TELL ls sg ls 0 0 (n, m, sh, 0, ki, op, fa, K, G, T) = (none, b_c)) (h2 : BRK ls sg = some b_r) : False := by
  first | omega | exact absurd (congrArg Prod.fst (h1.symm.trans h3)) (fun e => by cases e) | (simp_all; done) | (simp_all; omega)
theorem no_family_1_2 {n : Nat} {m : Nat} {sh : Nat} {ls : Nat} {ki : Nat → Nat} {op : Nat → Nat} {fa : Nat → Nat} {K : Nat → Nat} {G : Nat → Nat} {T : Nat → Nat} {sg : Nat → Nat} {b_c : Nat} {c_r : Nat} {n3_r : Nat} {m3_r : Nat} {s3_r : Nat} {ki3_r : Nat → Nat} {op3_r : Nat → Nat} {fa3_r : Nat → Nat} {K3_r : Nat → Nat} {G3_r : Nat → Nat} {T3_r : Nat → Nat} (h0 : BRK ls sg = none) (h1 : TELL ls sg ls 0 0 (n, m, sh, 0, ki, op, fa, K, G, T) = (none, b_c)) (h2 : BRK ls sg = none) (h3 : TELL ls sg ls 0 0 (n, m, sh, 0, ki, op, fa, K, G, T) = (some (n3_r, m3_r, s3_r, 0, ki3_r, op3_r, fa3_r, K3_r, G3_r, T3_r), c_r)) : False := by
  first | omega | exact absurd (congrArg Prod.fst (h1.symm.trans h3)) (fun e => by cases e) | (simp_all; done) | (simp_all; omega)
theorem no_family_2_0 {n : Nat} {m : Nat} {sh : Nat} {ls : Nat} {ki : Nat → Nat} {op : Nat → Nat} {fa : Nat → Nat} {K : Nat → Nat} {G : Nat → Nat} {T : Nat → Nat} {sg : Nat → Nat} {c_c : Nat} {n3_c : Nat} {m3_c : Nat} {s3_c : Nat} {ki3_c : Nat → Nat} {op3_c : Nat → Nat} {fa3_c : Nat → Nat} {K3_c : Nat → Nat} {G3_c : Nat → Nat} {T3_c : Nat → Nat} {b_r : Nat} (h0 : BRK ls sg = none) (h1 : TELL ls sg ls 0 0 (n, m, sh, 0, ki, op, fa, K, G, T) = (some (n3_c, m3_c, s3_c, 0, ki3_c, op3_c, fa3_c, K3_c, G3_c, T3_c), c_c)) (h2 : BRK ls sg = some b_r) : False := by
  first | omega | exact absurd (congrArg Prod.fst (h1.symm.trans h3)) (fun e => by cases e) | (simp_all; done) | (simp_all; omega)
theorem no_family_2_1 {n : Nat} {m : Nat} {sh : Nat} {ls : Nat} {ki : Nat → Nat} {op : Nat → Nat} {fa : Nat → Nat} {K : Nat → Nat} {G : Nat → Nat} {T : Nat → Nat} {sg : Nat → Nat} {c_c : Nat} {n3_c : Nat} {m3_c : Nat} {s3_c : Nat} {ki3_c : Nat → Nat} {op3_c : Nat → Nat} {fa3_c : Nat → Nat} {K3_c : Nat → Nat} {G3_c : Nat → Nat} {T3_c : Nat → Nat} {b_r : Nat} (h0 : BRK ls sg = none) (h1 : TELL ls sg ls 0 0 (n, m, sh, 0, ki, op, fa, K, G, T) = (some (n3_c, m3_c, s3_c, 0, ki3_c, op3_c, fa3_c, K3_c, G3_c, T3_c), c_c)) (h2 : BRK ls sg = none) (h3 : TELL ls sg ls 0 0 (n, m, sh, 0, ki, op, fa, K, G, T) = (none, b_r)) : False := by
  first | omega | exact absurd (congrArg Prod.fst (h1.symm.trans h3)) (fun e => by cases e) | (simp_all; done) | (simp_all; omega)
theorem no_comes_0_1 {n : Nat} {v : Int32} (h0 : v < 0) (h1 : ¬ v < 0) (h2 : IX 64 v = none ∨ n = 7) : False := by
  first | omega | exact absurd (congrArg Prod.fst (h1.symm.trans h3)) (fun e => by cases e) | (simp_all; done) | (simp_all; omega)
theorem no_comes_0_2 {n : Nat} {v : Int32} {k_r : Nat} (h0 : v < 0) (h1 : IX 64 v = some k_r) (h2 : n < 7) : False := by
  have p1 := ix_p h1
  first | omega | exact absurd (congrArg Prod.fst (h1.symm.trans h3)) (fun e => by cases e) | (simp_all; done) | (simp_all; omega)
theorem no_comes_1_0 {n : Nat} {v : Int32} (h0 : ¬ v < 0) (h1 : IX 64 v = none ∨ n = 7) (h2 : v < 0) : False := by
  first | omega | exact absurd (congrArg Prod.fst (h1.symm.trans h3)) (fun e => by cases e) | (simp_all; done) | (simp_all; omega)
theorem no_comes_1_2 {n : Nat} {v : Int32} {k_r : Nat} (h0 : ¬ v < 0) (h1 : IX 64 v = none ∨ n = 7) (h2 : IX 64 v = some k_r) (h3 : n < 7) : False := by
  have p2 := ix_p h2
  first | omega | exact absurd (congrArg Prod.fst (h1.symm.trans h3)) (fun e => by cases e) | (simp_all; done) | (simp_all; omega)
theorem no_comes_2_0 {n : Nat} {v : Int32} {k_c : Nat} (h0 : IX 64 v = some k_c) (h1 : n < 7) (h2 : v < 0) : False := by
  have p0 := ix_p h0
  first | omega | exact absurd (congrArg Prod.fst (h1.symm.trans h3)) (fun e => by cases e) | (simp_all; done) | (simp_all; omega)
theorem no_comes_2_1 {n : Nat} {v : Int32} {k_c : Nat} (h0 : IX 64 v = some k_c) (h1 : n < 7) (h2 : ¬ v < 0) (h3 : IX 64 v = none ∨ n = 7) : False := by
  have p0 := ix_p h0
  first | omega | exact absurd (congrArg Prod.fst (h1.symm.trans h3)) (fun e => by cases e) | (simp_all; done) | (simp_all; omega)
theorem no_dies_0_1 {k : Int32} {g : Int32} {t : Int32} (h0 : IX 6 k = none) (h1 : ¬ IX 6 k = none) (h2 : g < 0 ∨ t < 0) : False := by
  first | omega | exact absurd (congrArg Prod.fst (h1.symm.trans h3)) (fun e => by cases e) | (simp_all; done) | (simp_all; omega)
theorem no_dies_0_2 {m : Nat} {k : Int32} {g : Int32} {t : Int32} (h0 : IX 6 k = none) (h1 : ¬ IX 6 k = none) (h2 : ¬ (g < 0 ∨ t < 0)) (h3 : IX 10 g = none ∨ IX 10 t = none ∨ m = 6) : False := by
  first | omega | exact absurd (congrArg Prod.fst (h1.symm.trans h3)) (fun e => by cases e) | (simp_all; done) | (simp_all; omega)
theorem no_dies_0_3 {m : Nat} {k : Int32} {g : Int32} {t : Int32} {kk_r : Nat} {gg_r : Nat} {tt_r : Nat} (h0 : IX 6 k = none) (h1 : IX 6 k = some kk_r) (h2 : IX 10 g = some gg_r) (h3 : IX 10 t = some tt_r) (h4 : m < 6) : False := by
  have p1 := ix_p h1
  have p2 := ix_p h2
  have p3 := ix_p h3
  first | omega | exact absurd (congrArg Prod.fst (h1.symm.trans h3)) (fun e => by cases e) | (simp_all; done) | (simp_all; omega)
theorem no_dies_1_0 {k : Int32} {g : Int32} {t : Int32} (h0 : ¬ IX 6 k = none) (h1 : g < 0 ∨ t < 0) (h2 : IX 6 k = none) : False := by
  first | omega | exact absurd (congrArg Prod.fst (h1.symm.trans h3)) (fun e => by cases e) | (simp_all; done) | (simp_all; omega)
theorem no_dies_1_2 {m : Nat} {k : Int32} {g : Int32} {t : Int32} (h0 : ¬ IX 6 k = none) (h1 : g < 0 ∨ t < 0) (h2 : ¬ IX 6 k = none) (h3 : ¬ (g < 0 ∨ t < 0)) (h4 : IX 10 g = none ∨ IX 10 t = none ∨ m = 6) : False := by
  first | omega | exact absurd (congrArg Prod.fst (h1.symm.trans h3)) (fun e => by cases e) | (simp_all; done) | (simp_all; omega)
theorem no_dies_1_3 {m : Nat} {k : Int32} {g : Int32} {t : Int32} {kk_r : Nat} {gg_r : Nat} {tt_r : Nat} (h0 : ¬ IX 6 k = none) (h1 : g < 0 ∨ t < 0) (h2 : IX 6 k = some kk_r) (h3 : IX 10 g = some gg_r) (h4 : IX 10 t = some tt_r) (h5 : m < 6) : False := by
  have p2 := ix_p h2
  have p3 := ix_p h3
  have p4 := ix_p h4
  first | omega | exact absurd (congrArg Prod.fst (h1.symm.trans h3)) (fun e => by cases e) | (simp_all; done) | (simp_all; omega)
theorem no_dies_2_0 {m : Nat} {k : Int32} {g : Int32} {t : Int32} (h0 : ¬ IX 6 k = none) (h1 : ¬ (g < 0 ∨ t < 0)) (h2 : IX 10 g = none ∨ IX 10 t = none ∨ m = 6) (h3 : IX 6 k = none) : False := by
  first | omega | exact absurd (congrArg Prod.fst (h1.symm.trans h3)) (fun e => by cases e) | (simp_all; done) | (simp_all; omega)
theorem no_dies_2_1 {m : Nat} {k : Int32} {g : Int32} {t : Int32} (h0 : ¬ IX 6 k = none) (h1 : ¬ (g < 0 ∨ t < 0)) (h2 : IX 10 g = none ∨ IX 10 t = none ∨ m = 6) (h3 : ¬ IX 6 k = none) (h4 : g < 0 ∨ t < 0) : False := by
  first | omega | exact absurd (congrArg Prod.fst (h1.symm.trans h3)) (fun e => by cases e) | (simp_all; done) | (simp_all; omega)
theorem no_dies_2_3 {m : Nat} {k : Int32} {g : Int32} {t : Int32} {kk_r : Nat} {gg_r : Nat} {tt_r : Nat} (h0 : ¬ IX 6 k = none) (h1 : ¬ (g < 0 ∨ t < 0)) (h2 : IX 10 g = none ∨ IX 10 t = none ∨ m = 6) (h3 : IX 6 k = some kk_r) (h4 : IX 10 g = some gg_r) (h5 : IX 10 t = some tt_r) (h6 : m < 6) : False := by
  have p3 := ix_p h3
  have p4 := ix_p h4
  have p5 := ix_p h5
  first | omega | exact absurd (congrArg Prod.fst (h1.symm.trans h3)) (fun e => by cases e) | (simp_all; done) | (simp_all; omega)
theorem no_dies_3_0 {m : Nat} {k : Int32} {g : Int32} {t : Int32} {kk_c : Nat} {gg_c : Nat} {tt_c : Nat} (h0 : IX 6 k = some kk_c) (h1 : IX 10 g = some gg_c) (h2 : IX 10 t = some tt_c) (h3 : m < 6) (h4 : IX 6 k = none) : False := by
  have p0 := ix_p h0
  have p1 := ix_p h1
  have p2 := ix_p h2
  first | omega | exact absurd (congrArg Prod.fst (h1.symm.trans h3)) (fun e => by cases e) | (simp_all; done) | (simp_all; omega)
theorem no_dies_3_1 {m : Nat} {k : Int32} {g : Int32} {t : Int32} {kk_c : Nat} {gg_c : Nat} {tt_c : Nat} (h0 : IX 6 k = some kk_c) (h1 : IX 10 g = some gg_c) (h2 : IX 10 t = some tt_c) (h3 : m < 6) (h4 : ¬ IX 6 k = none) (h5 : g < 0 ∨ t < 0) : False := by
  have p0 := ix_p h0
  have p1 := ix_p h1
  have p2 := ix_p h2
  first | omega | exact absurd (congrArg Prod.fst (h1.symm.trans h3)) (fun e => by cases e) | (simp_all; done) | (simp_all; omega)
theorem no_dies_3_2 {m : Nat} {k : Int32} {g : Int32} {t : Int32} {kk_c : Nat} {gg_c : Nat} {tt_c : Nat} (h0 : IX 6 k = some kk_c) (h1 : IX 10 g = some gg_c) (h2 : IX 10 t = some tt_c) (h3 : m < 6) (h4 : ¬ IX 6 k = none) (h5 : ¬ (g < 0 ∨ t < 0)) (h6 : IX 10 g = none ∨ IX 10 t = none ∨ m = 6) : False := by
  have p0 := ix_p h0
  have p1 := ix_p h1
  have p2 := ix_p h2
  first | omega | exact absurd (congrArg Prod.fst (h1.symm.trans h3)) (fun e => by cases e) | (simp_all; done) | (simp_all; omega)
theorem no_open_0_1 {n : Nat} {p : Int32} {h : Int32} {j_r : Nat} {k_r : Nat} (h0 : IX n p = none ∨ IX 24 h = none) (h1 : IX n p = some j_r) (h2 : IX 24 h = some k_r) : False := by
  have p1 := ix_p h1
  have p2 := ix_p h2
  first | omega | exact absurd (congrArg Prod.fst (h1.symm.trans h3)) (fun e => by cases e) | (simp_all; done) | (simp_all; omega)
theorem no_open_1_0 {n : Nat} {p : Int32} {h : Int32} {j_c : Nat} {k_c : Nat} (h0 : IX n p = some j_c) (h1 : IX 24 h = some k_c) (h2 : IX n p = none ∨ IX 24 h = none) : False := by
  have p0 := ix_p h0
  have p1 := ix_p h1
  first | omega | exact absurd (congrArg Prod.fst (h1.symm.trans h3)) (fun e => by cases e) | (simp_all; done) | (simp_all; omega)
theorem no_shut_0_1 {n : Nat} {p : Int32} {j_r : Nat} (h0 : IX n p = none) (h1 : IX n p = some j_r) : False := by
  have p1 := ix_p h1
  first | omega | exact absurd (congrArg Prod.fst (h1.symm.trans h3)) (fun e => by cases e) | (simp_all; done) | (simp_all; omega)
theorem no_shut_1_0 {n : Nat} {p : Int32} {j_c : Nat} (h0 : IX n p = some j_c) (h1 : IX n p = none) : False := by
  have p0 := ix_p h0
  first | omega | exact absurd (congrArg Prod.fst (h1.symm.trans h3)) (fun e => by cases e) | (simp_all; done) | (simp_all; omega)
theorem no_kin_0_1 {n : Nat} {m : Nat} {p : Int32} {h : Int32} {j_r : Nat} {k_r : Nat} (h0 : IX n p = none ∨ IX m h = none) (h1 : IX n p = some j_r) (h2 : IX m h = some k_r) : False := by
  have p1 := ix_p h1
  have p2 := ix_p h2
  first | omega | exact absurd (congrArg Prod.fst (h1.symm.trans h3)) (fun e => by cases e) | (simp_all; done) | (simp_all; omega)
theorem no_kin_1_0 {n : Nat} {m : Nat} {p : Int32} {h : Int32} {j_c : Nat} {k_c : Nat} (h0 : IX n p = some j_c) (h1 : IX m h = some k_c) (h2 : IX n p = none ∨ IX m h = none) : False := by
  have p0 := ix_p h0
  have p1 := ix_p h1
  first | omega | exact absurd (congrArg Prod.fst (h1.symm.trans h3)) (fun e => by cases e) | (simp_all; done) | (simp_all; omega)
theorem no_leans_0_1 {m : Nat} {d : Int32} {v : Int32} (h0 : IX m d = none) (h1 : ¬ IX m d = none) (h2 : v < 0) : False := by
  first | omega | exact absurd (congrArg Prod.fst (h1.symm.trans h3)) (fun e => by cases e) | (simp_all; done) | (simp_all; omega)
theorem no_leans_0_2 {m : Nat} {d : Int32} {v : Int32} (h0 : IX m d = none) (h1 : ¬ IX m d = none) (h2 : ¬ v < 0) (h3 : IX 10 v = none) : False := by
  first | omega | exact absurd (congrArg Prod.fst (h1.symm.trans h3)) (fun e => by cases e) | (simp_all; done) | (simp_all; omega)
theorem no_leans_0_3 {m : Nat} {d : Int32} {v : Int32} {j_r : Nat} {k_r : Nat} (h0 : IX m d = none) (h1 : IX m d = some j_r) (h2 : IX 10 v = some k_r) : False := by
  have p1 := ix_p h1
  have p2 := ix_p h2
  first | omega | exact absurd (congrArg Prod.fst (h1.symm.trans h3)) (fun e => by cases e) | (simp_all; done) | (simp_all; omega)
theorem no_leans_1_0 {m : Nat} {d : Int32} {v : Int32} (h0 : ¬ IX m d = none) (h1 : v < 0) (h2 : IX m d = none) : False := by
  first | omega | exact absurd (congrArg Prod.fst (h1.symm.trans h3)) (fun e => by cases e) | (simp_all; done) | (simp_all; omega)
theorem no_leans_1_2 {m : Nat} {d : Int32} {v : Int32} (h0 : ¬ IX m d = none) (h1 : v < 0) (h2 : ¬ IX m d = none) (h3 : ¬ v < 0) (h4 : IX 10 v = none) : False := by
  first | omega | exact absurd (congrArg Prod.fst (h1.symm.trans h3)) (fun e => by cases e) | (simp_all; done) | (simp_all; omega)
theorem no_leans_1_3 {m : Nat} {d : Int32} {v : Int32} {j_r : Nat} {k_r : Nat} (h0 : ¬ IX m d = none) (h1 : v < 0) (h2 : IX m d = some j_r) (h3 : IX 10 v = some k_r) : False := by
  have p2 := ix_p h2
  have p3 := ix_p h3
  first | omega | exact absurd (congrArg Prod.fst (h1.symm.trans h3)) (fun e => by cases e) | (simp_all; done) | (simp_all; omega)
theorem no_leans_2_0 {m : Nat} {d : Int32} {v : Int32} (h0 : ¬ IX m d = none) (h1 : ¬ v < 0) (h2 : IX 10 v = none) (h3 : IX m d = none) : False := by
  first | omega | exact absurd (congrArg Prod.fst (h1.symm.trans h3)) (fun e => by cases e) | (simp_all; done) | (simp_all; omega)
theorem no_leans_2_1 {m : Nat} {d : Int32} {v : Int32} (h0 : ¬ IX m d = none) (h1 : ¬ v < 0) (h2 : IX 10 v = none) (h3 : ¬ IX m d = none) (h4 : v < 0) : False := by
  first | omega | exact absurd (congrArg Prod.fst (h1.symm.trans h3)) (fun e => by cases e) | (simp_all; done) | (simp_all; omega)
theorem no_leans_2_3 {m : Nat} {d : Int32} {v : Int32} {j_r : Nat} {k_r : Nat} (h0 : ¬ IX m d = none) (h1 : ¬ v < 0) (h2 : IX 10 v = none) (h3 : IX m d = some j_r) (h4 : IX 10 v = some k_r) : False := by
  have p3 := ix_p h3
  have p4 := ix_p h4
  first | omega | exact absurd (congrArg Prod.fst (h1.symm.trans h3)) (fun e => by cases e) | (simp_all; done) | (simp_all; omega)
theorem no_leans_3_0 {m : Nat} {d : Int32} {v : Int32} {j_c : Nat} {k_c : Nat} (h0 : IX m d = some j_c) (h1 : IX 10 v = some k_c) (h2 : IX m d = none) : False := by
  have p0 := ix_p h0
  have p1 := ix_p h1
  first | omega | exact absurd (congrArg Prod.fst (h1.symm.trans h3)) (fun e => by cases e) | (simp_all; done) | (simp_all; omega)
theorem no_leans_3_1 {m : Nat} {d : Int32} {v : Int32} {j_c : Nat} {k_c : Nat} (h0 : IX m d = some j_c) (h1 : IX 10 v = some k_c) (h2 : ¬ IX m d = none) (h3 : v < 0) : False := by
  have p0 := ix_p h0
  have p1 := ix_p h1
  first | omega | exact absurd (congrArg Prod.fst (h1.symm.trans h3)) (fun e => by cases e) | (simp_all; done) | (simp_all; omega)
theorem no_leans_3_2 {m : Nat} {d : Int32} {v : Int32} {j_c : Nat} {k_c : Nat} (h0 : IX m d = some j_c) (h1 : IX 10 v = some k_c) (h2 : ¬ IX m d = none) (h3 : ¬ v < 0) (h4 : IX 10 v = none) : False := by
  have p0 := ix_p h0
  have p1 := ix_p h1
  first | omega | exact absurd (congrArg Prod.fst (h1.symm.trans h3)) (fun e => by cases e) | (simp_all; done) | (simp_all; omega)
theorem no_learns_0_1 {n : Nat} {p : Int32} {h : Int32} {j_r : Nat} {k_r : Nat} (h0 : IX n p = none ∨ IX 10 h = none) (h1 : IX n p = some j_r) (h2 : IX 10 h = some k_r) : False := by
  have p1 := ix_p h1
  have p2 := ix_p h2
  first | omega | exact absurd (congrArg Prod.fst (h1.symm.trans h3)) (fun e => by cases e) | (simp_all; done) | (simp_all; omega)
theorem no_learns_1_0 {n : Nat} {p : Int32} {h : Int32} {j_c : Nat} {k_c : Nat} (h0 : IX n p = some j_c) (h1 : IX 10 h = some k_c) (h2 : IX n p = none ∨ IX 10 h = none) : False := by
  have p0 := ix_p h0
  have p1 := ix_p h1
  first | omega | exact absurd (congrArg Prod.fst (h1.symm.trans h3)) (fun e => by cases e) | (simp_all; done) | (simp_all; omega)
theorem no_back_0_1 {cs : Nat} (h0 : cs = 0) (h1 : 0 < cs) : False := by
  first | omega | exact absurd (congrArg Prod.fst (h1.symm.trans h3)) (fun e => by cases e) | (simp_all; done) | (simp_all; omega)
theorem no_back_1_0 {cs : Nat} {so : Nat → Nat} (h0 : 0 < cs) (h1 : so (cs - 1) = 0) (h2 : cs = 0) : False := by
  first | omega | exact absurd (congrArg Prod.fst (h1.symm.trans h3)) (fun e => by cases e) | (simp_all; done) | (simp_all; omega)
theorem no_back_2_0 {cs : Nat} {so : Nat → Nat} (h0 : 0 < cs) (h1 : so (cs - 1) = 1) (h2 : cs = 0) : False := by
  first | omega | exact absurd (congrArg Prod.fst (h1.symm.trans h3)) (fun e => by cases e) | (simp_all; done) | (simp_all; omega)
theorem no_back_3_0 {cs : Nat} {so : Nat → Nat} (h0 : 0 < cs) (h1 : so (cs - 1) = 2) (h2 : cs = 0) : False := by
  first | omega | exact absurd (congrArg Prod.fst (h1.symm.trans h3)) (fun e => by cases e) | (simp_all; done) | (simp_all; omega)
theorem no_back_4_0 {cs : Nat} {so : Nat → Nat} (h0 : 0 < cs) (h1 : so (cs - 1) = 3) (h2 : cs = 0) : False := by
  first | omega | exact absurd (congrArg Prod.fst (h1.symm.trans h3)) (fun e => by cases e) | (simp_all; done) | (simp_all; omega)
theorem no_row_0_1 {rs : Nat} {v : Int32} (h0 : v < 0) (h1 : ¬ v < 0) (h2 : IX 100 v = none ∨ rs = 24) : False := by
  first | omega | exact absurd (congrArg Prod.fst (h1.symm.trans h3)) (fun e => by cases e) | (simp_all; done) | (simp_all; omega)
theorem no_row_0_2 {rs : Nat} {v : Int32} {k_r : Nat} (h0 : v < 0) (h1 : IX 100 v = some k_r) (h2 : rs < 24) : False := by
  have p1 := ix_p h1
  first | omega | exact absurd (congrArg Prod.fst (h1.symm.trans h3)) (fun e => by cases e) | (simp_all; done) | (simp_all; omega)
theorem no_row_1_0 {rs : Nat} {v : Int32} (h0 : ¬ v < 0) (h1 : IX 100 v = none ∨ rs = 24) (h2 : v < 0) : False := by
  first | omega | exact absurd (congrArg Prod.fst (h1.symm.trans h3)) (fun e => by cases e) | (simp_all; done) | (simp_all; omega)
theorem no_row_1_2 {rs : Nat} {v : Int32} {k_r : Nat} (h0 : ¬ v < 0) (h1 : IX 100 v = none ∨ rs = 24) (h2 : IX 100 v = some k_r) (h3 : rs < 24) : False := by
  have p2 := ix_p h2
  first | omega | exact absurd (congrArg Prod.fst (h1.symm.trans h3)) (fun e => by cases e) | (simp_all; done) | (simp_all; omega)
theorem no_row_2_0 {rs : Nat} {v : Int32} {k_c : Nat} (h0 : IX 100 v = some k_c) (h1 : rs < 24) (h2 : v < 0) : False := by
  have p0 := ix_p h0
  first | omega | exact absurd (congrArg Prod.fst (h1.symm.trans h3)) (fun e => by cases e) | (simp_all; done) | (simp_all; omega)
theorem no_row_2_1 {rs : Nat} {v : Int32} {k_c : Nat} (h0 : IX 100 v = some k_c) (h1 : rs < 24) (h2 : ¬ v < 0) (h3 : IX 100 v = none ∨ rs = 24) : False := by
  have p0 := ix_p h0
  first | omega | exact absurd (congrArg Prod.fst (h1.symm.trans h3)) (fun e => by cases e) | (simp_all; done) | (simp_all; omega)
theorem no_restore_0_1 {pd : Bool} (h0 : pd = false) (h1 : pd = true) : False := by
  first | omega | exact absurd (congrArg Prod.fst (h1.symm.trans h3)) (fun e => by cases e) | (simp_all; done) | (simp_all; omega)
theorem no_restore_1_0 {pd : Bool} (h0 : pd = true) (h1 : pd = false) : False := by
  first | omega | exact absurd (congrArg Prod.fst (h1.symm.trans h3)) (fun e => by cases e) | (simp_all; done) | (simp_all; omega)
