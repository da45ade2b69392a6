/-! A judgement of this claim's own over the kit's rows: the whole environment of a frame in one tuple, the world as a list, one set of words for every method. -/
def gw : List Cond := lw_tbl.filter goodWord
theorem gw_of {w : Cond} (h : w ∈ lw_tbl) (hg : goodWord w = true) : w ∈ gw := List.mem_filter.mpr ⟨h, hg⟩
theorem gw_at {w : Cond} (i : Nat) (h : tables_1[i]? = some w) (hg : goodWord w = true) : w ∈ gw := gw_of (List.mem_append_right _ (List.mem_of_getElem? h)) hg
theorem gw_sel {q : MethodName × Nat} (i : Nat) (h : lw_privs[i]? = some q) : Cond.selects q.1.cls q.1 q.1 ∈ gw := gw_of (List.mem_append_left _ (List.mem_map.mpr ⟨q, List.mem_of_getElem? h, rfl⟩)) rfl
def vn_is : Cond → Bool
  | .fieldLinkNest .. => true
  | .methodLinkNest .. => true
  | _ => false
def vn : List Cond := tables_1.filter vn_is
theorem vn_at {w : Cond} (i : Nat) (h : tables_1[i]? = some w) (hg : vn_is w = true) : w ∈ vn := List.mem_filter.mpr ⟨List.mem_of_getElem? h, hg⟩
def vnk (U : State) : Prop := ∀ w ∈ vn, va_Nw w U
theorem vn_tab {w : Cond} (hw : w ∈ vn) : w.onTables = true := by
  have h2 := (List.mem_filter.mp hw).2
  cases w <;> first | rfl | (simp [vn_is] at h2; done)
theorem vnk_warm {s U : State} (hW : s.WarmedH U.vm) (h : vnk s) : vnk U := fun w hw => by
  have h1 := h w hw
  have h2 := (List.mem_filter.mp hw).2
  cases w <;> first | exact va_Nw.warmF hW h1 | exact va_Nw.warmM hW h1 | (simp [vn_is] at h2; done)
theorem vnk_same {u U : State} (e : u.vm = U.vm) (h : vnk u) : vnk U := fun w hw => va_Nw.same (vn_tab hw) e (h w hw)
def mw (y : MethodName) (b : ByteArray) (n : Nat) (ret : Option FieldType) : List Cond := .code y b n ret :: gw
theorem mw_good {y : MethodName} {b : ByteArray} {n : Nat} {ret : Option FieldType} (h : Cond.code y b n ret ∈ gw) : GoodIn gw (mw y b n ret) := by
  intro w hw
  have hg : w ∈ gw := by
    rcases List.mem_cons.mp hw with rfl | h1
    · exact h
    · exact h1
  exact ⟨hg, good_of_word (List.mem_filter.mp hg).2⟩
/-- a frame's environment -/
def EV : Type := Program × Launch × Env × Room × State × MethodId × Array Value × List Frame × Method × Code × Nat × va_G × (Nat → Prop) × (State → Prop)
abbrev ev_p (E : EV) : Program := E.1
abbrev ev_l (E : EV) : Launch := E.2.1
abbrev ev_e (E : EV) : Env := E.2.2.1
abbrev ev_R (E : EV) : Room := E.2.2.2.1
abbrev ev_s (E : EV) : State := E.2.2.2.2.1
abbrev ev_m (E : EV) : MethodId := E.2.2.2.2.2.1
abbrev ev_a (E : EV) : Array Value := E.2.2.2.2.2.2.1
abbrev ev_b (E : EV) : List Frame := E.2.2.2.2.2.2.2.1
abbrev ev_mt (E : EV) : Method := E.2.2.2.2.2.2.2.2.1
abbrev ev_c (E : EV) : Code := E.2.2.2.2.2.2.2.2.2.1
abbrev ev_n (E : EV) : Nat := E.2.2.2.2.2.2.2.2.2.2.1
abbrev ev_D (E : EV) : va_G := E.2.2.2.2.2.2.2.2.2.2.2.1
abbrev ev_A (E : EV) : Nat → Prop := E.2.2.2.2.2.2.2.2.2.2.2.2.1
abbrev ev_Q (E : EV) : State → Prop := E.2.2.2.2.2.2.2.2.2.2.2.2.2
def CX (E : EV) (cc : ByteArray) (own : String) (ret : Option FieldType) (cI : ClassId) (rm : Room) : Prop :=
  (ev_p E).tables.exec = Jvm.exec ∧ (ev_c E).code = cc ∧ (ev_c E).maxLocals = ev_n E ∧ (ev_s E).vm.findClass own = some (ev_m E).cls ∧ (∀ w ∈ gw, w.before (ev_a E) (ev_s E) = true) ∧ vnk (ev_s E) ∧ va_K (ev_D E) vwCl [(cI, .int)] (ev_s E) ∧ (ev_mt E).sig.returnType = ret ∧ (ev_mt E).locks = false ∧ ev_R E = rm
def VV (E : EV) (k n pc : Nat) (lv : List (Nat × Value)) (st : List Value) (ws : va_W) : Prop :=
  ∀ (H : Heap) (locs : List Loc) (ls : Array Slot), va_P (ev_D E) vwCl ws H → va_D (ev_A E) ws → va_S (ev_A E) (ev_s E).heap H locs → lv_has ls (ev_n E) lv → W (ev_p E) (ev_l E) (ev_e E) (ev_R E) (ev_s E) (ev_m E) (ev_a E) (ev_b E) (ev_mt E) (ev_c E) H locs k n (ev_Q E) (F0 (ev_m E) pc ls st)
/-- the end of a method that makes nothing -/
def CQ (D : va_G) (post : Option Value → va_W → Prop) (w0 : va_W) (sz : Nat) : Array Value → State → Outcome → State → Prop := fun _ st oc t => (∃ r w1, oc = .returned r ∧ post r w1 ∧ w1.map (·.1) = w0.map (·.1) ∧ va_P D vwCl w1 t.heap) ∧ va_F (va_A w0 sz) st t
def CB (D : va_G) (cI : ClassId) (ws : va_W) (sz : Nat) (U : State) : Prop := U.heap.size = sz ∧ va_P D vwCl ws U.heap ∧ va_K D vwCl [(cI, .int)] U ∧ vnk U ∧ va_D (fun _ => True) ws
def CT (l : Launch) (y : MethodName) (b : ByteArray) (nL : Nat) (ret : Option FieldType) (rm : Room) (D : va_G) (cI : ClassId) (av : List Value) (ws : va_W) (post : Option Value → va_W → Prop) : Prop :=
  ∀ sz, Met l y (mw y b nL ret) rm (va_Pc av (CB D cI ws sz)) (CQ D post ws sz) 0 0 (va_A ws sz)
def RT (E : EV) (post : Option Value → va_W → Prop) (w0 : va_W) : Prop :=
  ev_Q E = MQ (ev_b E) (CQ (ev_D E) post w0 (ev_s E).heap.size) (ev_a E) (ev_s E) 0 0 (va_A w0 (ev_s E).heap.size) ∧ ev_A E = va_A w0 (ev_s E).heap.size
theorem CT_of {l : Launch} {y : MethodName} {b : ByteArray} {nL : Nat} {ret : Option FieldType} {rm : Room} {D : va_G} {cI : ClassId} {av : List Value} {ws : va_W} {post : Option Value → va_W → Prop} (own : String) (hown : y.cls = own) (hy : plainName y.cls = true) (hlen : (lg_sl av).length ≤ nL)
    (body : ∀ E : EV, ev_n E = nL → CX E b own ret cI rm → RT E post ws → VV E 0 0 0 (lv_args 0 av) [] ws) : CT l y b nL ret rm D cI av ws post := by
  intro sz
  refine Met.ofW (cc := b) (maxL := nL) (ret := ret) hy rfl ?_
  intro p e s m args below meth c s₁ B hml hv
  obtain ⟨rfl, hsz, hP, hK, hN, hD0⟩ := hv
  subst hsz
  have hts := atoms_spec (ws := mw y b nL ret) B.pre
  have h := body (p, l, e, rm, s, m, av.toArray, below, meth, c, nL, D, va_A ws s.heap.size, MQ below (CQ D post ws s.heap.size) av.toArray s 0 0 (va_A ws s.heap.size)) rfl
    ⟨B.exec, B.bytes, hml, by rw [← hown]; exact findClass_of_methodNamed B.named, fun w hw => hts w (List.mem_cons_of_mem _ hw), hN, hK, B.returns, B.notSynchronized, rfl⟩ ⟨rfl, rfl⟩
  have hl := lv_entry av (n := nL) hlen
  rw [lg_entry_eq]
  exact h s.heap [] _ hP hD0.self va_S.rf hl
theorem v_ic {E : EV} {cc : ByteArray} {own : String} {ret : Option FieldType} {cI : ClassId} {rm : Room} {k n pc : Nat} {lv : List (Nat × Value)} {st : List Value} {ws : va_W} {i : Int} {v : Int32} (q : Nat) (C : CX E cc own ret cI rm) (hd : decode cc pc = .ok (.iconst i, 1)) (hv : Int32.ofInt i = v) (kk : VV E k n q lv (.int v :: st) ws) (hq : pc + 1 = q := by rfl) : VV E k n pc lv (st) ws := by
  subst hq
  intro H locs ls hP hD hS hl
  exact lv_iconst C.1 C.2.1 hd hv (kk H locs ls hP hD hS hl)
theorem v_bp {E : EV} {cc : ByteArray} {own : String} {ret : Option FieldType} {cI : ClassId} {rm : Room} {k n pc : Nat} {lv : List (Nat × Value)} {st : List Value} {ws : va_W} {i : Int} {v : Int32} (q : Nat) (C : CX E cc own ret cI rm) (hd : decode cc pc = .ok (.bipush i, 2)) (hv : (Int8.ofInt i).toInt32 = v) (kk : VV E k n q lv (.int v :: st) ws) (hq : pc + 2 = q := by rfl) : VV E k n pc lv (st) ws := by
  subst hq
  intro H locs ls hP hD hS hl
  exact lv_bipush C.1 C.2.1 hd hv (kk H locs ls hP hD hS hl)
theorem v_sp {E : EV} {cc : ByteArray} {own : String} {ret : Option FieldType} {cI : ClassId} {rm : Room} {k n pc : Nat} {lv : List (Nat × Value)} {st : List Value} {ws : va_W} {i : Int} {v : Int32} (q : Nat) (C : CX E cc own ret cI rm) (hd : decode cc pc = .ok (.sipush i, 3)) (hv : (Int16.ofInt i).toInt32 = v) (kk : VV E k n q lv (.int v :: st) ws) (hq : pc + 3 = q := by rfl) : VV E k n pc lv (st) ws := by
  subst hq
  intro H locs ls hP hD hS hl
  exact lv_sipush C.1 C.2.1 hd hv (kk H locs ls hP hD hS hl)
theorem v_lc {E : EV} {cc : ByteArray} {own : String} {ret : Option FieldType} {cI : ClassId} {rm : Room} {k n pc : Nat} {lv : List (Nat × Value)} {st : List Value} {ws : va_W} {i : Fin 2} {v : Int64} (q : Nat) (C : CX E cc own ret cI rm) (hd : decode cc pc = .ok (.lconst i, 1)) (hv : Int64.ofNat (i : Nat) = v) (kk : VV E k n q lv (.long v :: st) ws) (hq : pc + 1 = q := by rfl) : VV E k n pc lv (st) ws := by
  subst hq
  intro H locs ls hP hD hS hl
  exact lv_lconst C.1 C.2.1 hd hv (kk H locs ls hP hD hS hl)
theorem v_il {E : EV} {cc : ByteArray} {own : String} {ret : Option FieldType} {cI : ClassId} {rm : Room} {k n pc : Nat} {lv : List (Nat × Value)} {st : List Value} {ws : va_W} {i : Nat} {x : Int32} (q : Nat) (C : CX E cc own ret cI rm) (hd : decode cc pc = .ok (.iload i, 2)) (j : Nat) (hj : lv[j]? = some (i, .int x)) (kk : VV E k n q lv (.int x :: st) ws) (hq : pc + 2 = q := by rfl) : VV E k n pc lv (st) ws := by
  subst hq
  intro H locs ls hP hD hS hl
  exact lv_iload C.1 C.2.1 hd (lv_at hl j hj) (kk H locs ls hP hD hS hl)
theorem v_il_n {E : EV} {cc : ByteArray} {own : String} {ret : Option FieldType} {cI : ClassId} {rm : Room} {k n pc : Nat} {lv : List (Nat × Value)} {st : List Value} {ws : va_W} {f : Fin 4} {x : Int32} (q : Nat) (C : CX E cc own ret cI rm) (hd : decode cc pc = .ok (.iload_n f, 1)) (j : Nat) (hj : lv[j]? = some ((f : Nat), .int x)) (kk : VV E k n q lv (.int x :: st) ws) (hq : pc + 1 = q := by rfl) : VV E k n pc lv (st) ws := by
  subst hq
  intro H locs ls hP hD hS hl
  exact lv_iload_n C.1 C.2.1 hd rfl (lv_at hl j hj) (kk H locs ls hP hD hS hl)
theorem v_ll {E : EV} {cc : ByteArray} {own : String} {ret : Option FieldType} {cI : ClassId} {rm : Room} {k n pc : Nat} {lv : List (Nat × Value)} {st : List Value} {ws : va_W} {i : Nat} {x : Int64} (q : Nat) (C : CX E cc own ret cI rm) (hd : decode cc pc = .ok (.lload i, 2)) (j : Nat) (hj : lv[j]? = some (i, .long x)) (kk : VV E k n q lv (.long x :: st) ws) (hq : pc + 2 = q := by rfl) : VV E k n pc lv (st) ws := by
  subst hq
  intro H locs ls hP hD hS hl
  exact lv_lload C.1 C.2.1 hd (lv_at hl j hj) (kk H locs ls hP hD hS hl)
theorem v_ll_n {E : EV} {cc : ByteArray} {own : String} {ret : Option FieldType} {cI : ClassId} {rm : Room} {k n pc : Nat} {lv : List (Nat × Value)} {st : List Value} {ws : va_W} {f : Fin 4} {x : Int64} (q : Nat) (C : CX E cc own ret cI rm) (hd : decode cc pc = .ok (.lload_n f, 1)) (j : Nat) (hj : lv[j]? = some ((f : Nat), .long x)) (kk : VV E k n q lv (.long x :: st) ws) (hq : pc + 1 = q := by rfl) : VV E k n pc lv (st) ws := by
  subst hq
  intro H locs ls hP hD hS hl
  exact lv_lload_n C.1 C.2.1 hd rfl (lv_at hl j hj) (kk H locs ls hP hD hS hl)
theorem v_al {E : EV} {cc : ByteArray} {own : String} {ret : Option FieldType} {cI : ClassId} {rm : Room} {k n pc : Nat} {lv : List (Nat × Value)} {st : List Value} {ws : va_W} {i x : Nat} (q : Nat) (C : CX E cc own ret cI rm) (hd : decode cc pc = .ok (.aload i, 2)) (j : Nat) (hj : lv[j]? = some (i, .ref x)) (kk : VV E k n q lv (.ref x :: st) ws) (hq : pc + 2 = q := by rfl) : VV E k n pc lv (st) ws := by
  subst hq
  intro H locs ls hP hD hS hl
  exact lv_aload C.1 C.2.1 hd (lv_at hl j hj) (kk H locs ls hP hD hS hl)
theorem v_al_n {E : EV} {cc : ByteArray} {own : String} {ret : Option FieldType} {cI : ClassId} {rm : Room} {k n pc : Nat} {lv : List (Nat × Value)} {st : List Value} {ws : va_W} {f : Fin 4} {x : Nat} (q : Nat) (C : CX E cc own ret cI rm) (hd : decode cc pc = .ok (.aload_n f, 1)) (j : Nat) (hj : lv[j]? = some ((f : Nat), .ref x)) (kk : VV E k n q lv (.ref x :: st) ws) (hq : pc + 1 = q := by rfl) : VV E k n pc lv (st) ws := by
  subst hq
  intro H locs ls hP hD hS hl
  exact lv_aload_n C.1 C.2.1 hd rfl (lv_at hl j hj) (kk H locs ls hP hD hS hl)
theorem v_is {E : EV} {cc : ByteArray} {own : String} {ret : Option FieldType} {cI : ClassId} {rm : Room} {k n pc : Nat} {lv : List (Nat × Value)} {st : List Value} {ws : va_W} {i : Nat} {x : Int32} {lv2 : List (Nat × Value)} (q : Nat) (C : CX E cc own ret cI rm) (hd : decode cc pc = .ok (.istore i, 2)) (hn : i < ev_n E) (he : (i, Value.int x) :: lv.filter (fun q => !(q.1 == i) && !(q.1 + 1 == i && q.2.category == 2)) = lv2) (kk : VV E k n q lv2 (st) ws) (hq : pc + 2 = q := by rfl) : VV E k n pc lv (Value.int x :: st) ws := by
  subst hq
  intro H locs ls hP hD hS hl
  exact lv_istore C.1 C.2.1 hd hl hn he (fun ls hl => kk H locs ls hP hD hS hl)
theorem v_is_n {E : EV} {cc : ByteArray} {own : String} {ret : Option FieldType} {cI : ClassId} {rm : Room} {k n pc : Nat} {lv : List (Nat × Value)} {st : List Value} {ws : va_W} {f : Fin 4} {x : Int32} {lv2 : List (Nat × Value)} (q : Nat) (C : CX E cc own ret cI rm) (hd : decode cc pc = .ok (.istore_n f, 1)) (hn : (f : Nat) < ev_n E) (he : ((f : Nat), Value.int x) :: lv.filter (fun q => !(q.1 == (f : Nat)) && !(q.1 + 1 == (f : Nat) && q.2.category == 2)) = lv2) (kk : VV E k n q lv2 (st) ws) (hq : pc + 1 = q := by rfl) : VV E k n pc lv (Value.int x :: st) ws := by
  subst hq
  intro H locs ls hP hD hS hl
  exact lv_istore_n C.1 C.2.1 hd rfl hl hn he (fun ls hl => kk H locs ls hP hD hS hl)
theorem v_as {E : EV} {cc : ByteArray} {own : String} {ret : Option FieldType} {cI : ClassId} {rm : Room} {k n pc : Nat} {lv : List (Nat × Value)} {st : List Value} {ws : va_W} {i : Nat} {x : Nat} {lv2 : List (Nat × Value)} (q : Nat) (C : CX E cc own ret cI rm) (hd : decode cc pc = .ok (.astore i, 2)) (hn : i < ev_n E) (he : (i, Value.ref x) :: lv.filter (fun q => !(q.1 == i) && !(q.1 + 1 == i && q.2.category == 2)) = lv2) (kk : VV E k n q lv2 (st) ws) (hq : pc + 2 = q := by rfl) : VV E k n pc lv (Value.ref x :: st) ws := by
  subst hq
  intro H locs ls hP hD hS hl
  exact lv_astore C.1 C.2.1 hd hl hn he (fun ls hl => kk H locs ls hP hD hS hl)
theorem v_as_n {E : EV} {cc : ByteArray} {own : String} {ret : Option FieldType} {cI : ClassId} {rm : Room} {k n pc : Nat} {lv : List (Nat × Value)} {st : List Value} {ws : va_W} {f : Fin 4} {x : Nat} {lv2 : List (Nat × Value)} (q : Nat) (C : CX E cc own ret cI rm) (hd : decode cc pc = .ok (.astore_n f, 1)) (hn : (f : Nat) < ev_n E) (he : ((f : Nat), Value.ref x) :: lv.filter (fun q => !(q.1 == (f : Nat)) && !(q.1 + 1 == (f : Nat) && q.2.category == 2)) = lv2) (kk : VV E k n q lv2 (st) ws) (hq : pc + 1 = q := by rfl) : VV E k n pc lv (Value.ref x :: st) ws := by
  subst hq
  intro H locs ls hP hD hS hl
  exact lv_astore_n C.1 C.2.1 hd rfl hl hn he (fun ls hl => kk H locs ls hP hD hS hl)
theorem v_ls {E : EV} {cc : ByteArray} {own : String} {ret : Option FieldType} {cI : ClassId} {rm : Room} {k n pc : Nat} {lv : List (Nat × Value)} {st : List Value} {ws : va_W} {i : Nat} {x : Int64} {lv2 : List (Nat × Value)} (q : Nat) (C : CX E cc own ret cI rm) (hd : decode cc pc = .ok (.lstore i, 2)) (hn : i + 1 < ev_n E) (he : (i, Value.long x) :: lv.filter (fun q => !(q.1 == i) && (!(q.1 == i + 1) && !(q.1 + 1 == i && q.2.category == 2))) = lv2) (kk : VV E k n q lv2 (st) ws) (hq : pc + 2 = q := by rfl) : VV E k n pc lv (Value.long x :: st) ws := by
  subst hq
  intro H locs ls hP hD hS hl
  exact lv_lstore C.1 C.2.1 hd hl hn he (fun ls hl => kk H locs ls hP hD hS hl)
theorem v_ls_n {E : EV} {cc : ByteArray} {own : String} {ret : Option FieldType} {cI : ClassId} {rm : Room} {k n pc : Nat} {lv : List (Nat × Value)} {st : List Value} {ws : va_W} {f : Fin 4} {x : Int64} {lv2 : List (Nat × Value)} (q : Nat) (C : CX E cc own ret cI rm) (hd : decode cc pc = .ok (.lstore_n f, 1)) (hn : (f : Nat) + 1 < ev_n E) (he : ((f : Nat), Value.long x) :: lv.filter (fun q => !(q.1 == (f : Nat)) && (!(q.1 == (f : Nat) + 1) && !(q.1 + 1 == (f : Nat) && q.2.category == 2))) = lv2) (kk : VV E k n q lv2 (st) ws) (hq : pc + 1 = q := by rfl) : VV E k n pc lv (Value.long x :: st) ws := by
  subst hq
  intro H locs ls hP hD hS hl
  exact lv_lstore_n C.1 C.2.1 hd rfl hl hn he (fun ls hl => kk H locs ls hP hD hS hl)
theorem v_inc {E : EV} {cc : ByteArray} {own : String} {ret : Option FieldType} {cI : ClassId} {rm : Room} {k n pc : Nat} {lv : List (Nat × Value)} {st : List Value} {ws : va_W} {i j : Nat} {c : Int} {x v : Int32} {lv2 : List (Nat × Value)} (q : Nat) (C : CX E cc own ret cI rm) (hd : decode cc pc = .ok (.iinc i c, 3)) (hj : lv[j]? = some (i, .int x)) (hv : x + Int32.ofInt c = v) (hn : i < ev_n E) (he : (i, Value.int v) :: lv.filter (fun q => !(q.1 == i) && !(q.1 + 1 == i && q.2.category == 2)) = lv2) (kk : VV E k n q lv2 (st) ws) (hq : pc + 3 = q := by rfl) : VV E k n pc lv (st) ws := by
  subst hq
  intro H locs ls hP hD hS hl
  exact lv_iinc C.1 C.2.1 hd hl hj hv hn he (fun ls hl => kk H locs ls hP hD hS hl)
theorem v_iadd {E : EV} {cc : ByteArray} {own : String} {ret : Option FieldType} {cI : ClassId} {rm : Room} {k n pc : Nat} {lv : List (Nat × Value)} {st : List Value} {ws : va_W} {x y v : Int32} (q : Nat) (C : CX E cc own ret cI rm) (hd : decode cc pc = .ok (.iadd, 1)) (hv : x + y = v) (kk : VV E k n q lv (.int v :: st) ws) (hq : pc + 1 = q := by rfl) : VV E k n pc lv (.int y :: .int x :: st) ws := by
  subst hq
  intro H locs ls hP hD hS hl
  exact (by subst hv; exact lv_iadd C.1 C.2.1 hd (kk H locs ls hP hD hS hl))
theorem v_isub {E : EV} {cc : ByteArray} {own : String} {ret : Option FieldType} {cI : ClassId} {rm : Room} {k n pc : Nat} {lv : List (Nat × Value)} {st : List Value} {ws : va_W} {x y v : Int32} (q : Nat) (C : CX E cc own ret cI rm) (hd : decode cc pc = .ok (.isub, 1)) (hv : x - y = v) (kk : VV E k n q lv (.int v :: st) ws) (hq : pc + 1 = q := by rfl) : VV E k n pc lv (.int y :: .int x :: st) ws := by
  subst hq
  intro H locs ls hP hD hS hl
  exact (by subst hv; exact lv_isub C.1 C.2.1 hd (kk H locs ls hP hD hS hl))
theorem v_imul {E : EV} {cc : ByteArray} {own : String} {ret : Option FieldType} {cI : ClassId} {rm : Room} {k n pc : Nat} {lv : List (Nat × Value)} {st : List Value} {ws : va_W} {x y v : Int32} (q : Nat) (C : CX E cc own ret cI rm) (hd : decode cc pc = .ok (.imul, 1)) (hv : x * y = v) (kk : VV E k n q lv (.int v :: st) ws) (hq : pc + 1 = q := by rfl) : VV E k n pc lv (.int y :: .int x :: st) ws := by
  subst hq
  intro H locs ls hP hD hS hl
  exact (by subst hv; exact lv_imul C.1 C.2.1 hd (kk H locs ls hP hD hS hl))
theorem v_iand {E : EV} {cc : ByteArray} {own : String} {ret : Option FieldType} {cI : ClassId} {rm : Room} {k n pc : Nat} {lv : List (Nat × Value)} {st : List Value} {ws : va_W} {x y v : Int32} (q : Nat) (C : CX E cc own ret cI rm) (hd : decode cc pc = .ok (.iand, 1)) (hv : x &&& y = v) (kk : VV E k n q lv (.int v :: st) ws) (hq : pc + 1 = q := by rfl) : VV E k n pc lv (.int y :: .int x :: st) ws := by
  subst hq
  intro H locs ls hP hD hS hl
  exact (by subst hv; exact lv_iand C.1 C.2.1 hd (kk H locs ls hP hD hS hl))
theorem v_ior {E : EV} {cc : ByteArray} {own : String} {ret : Option FieldType} {cI : ClassId} {rm : Room} {k n pc : Nat} {lv : List (Nat × Value)} {st : List Value} {ws : va_W} {x y v : Int32} (q : Nat) (C : CX E cc own ret cI rm) (hd : decode cc pc = .ok (.ior, 1)) (hv : x ||| y = v) (kk : VV E k n q lv (.int v :: st) ws) (hq : pc + 1 = q := by rfl) : VV E k n pc lv (.int y :: .int x :: st) ws := by
  subst hq
  intro H locs ls hP hD hS hl
  exact (by subst hv; exact lv_ior C.1 C.2.1 hd (kk H locs ls hP hD hS hl))
theorem v_ixor {E : EV} {cc : ByteArray} {own : String} {ret : Option FieldType} {cI : ClassId} {rm : Room} {k n pc : Nat} {lv : List (Nat × Value)} {st : List Value} {ws : va_W} {x y v : Int32} (q : Nat) (C : CX E cc own ret cI rm) (hd : decode cc pc = .ok (.ixor, 1)) (hv : x ^^^ y = v) (kk : VV E k n q lv (.int v :: st) ws) (hq : pc + 1 = q := by rfl) : VV E k n pc lv (.int y :: .int x :: st) ws := by
  subst hq
  intro H locs ls hP hD hS hl
  exact (by subst hv; exact lv_ixor C.1 C.2.1 hd (kk H locs ls hP hD hS hl))
theorem v_idiv {E : EV} {cc : ByteArray} {own : String} {ret : Option FieldType} {cI : ClassId} {rm : Room} {k n pc : Nat} {lv : List (Nat × Value)} {st : List Value} {ws : va_W} {x y v : Int32} (q : Nat) (C : CX E cc own ret cI rm) (hd : decode cc pc = .ok (.idiv, 1)) (hne : ¬ y = 0) (hv : x / y = v) (kk : VV E k n q lv (.int v :: st) ws) (hq : pc + 1 = q := by rfl) : VV E k n pc lv (.int y :: .int x :: st) ws := by
  subst hq
  intro H locs ls hP hD hS hl
  exact (by subst hv; exact lv_idiv C.1 C.2.1 hd hne (kk H locs ls hP hD hS hl))
theorem v_irem {E : EV} {cc : ByteArray} {own : String} {ret : Option FieldType} {cI : ClassId} {rm : Room} {k n pc : Nat} {lv : List (Nat × Value)} {st : List Value} {ws : va_W} {x y v : Int32} (q : Nat) (C : CX E cc own ret cI rm) (hd : decode cc pc = .ok (.irem, 1)) (hne : ¬ y = 0) (hv : x - x / y * y = v) (kk : VV E k n q lv (.int v :: st) ws) (hq : pc + 1 = q := by rfl) : VV E k n pc lv (.int y :: .int x :: st) ws := by
  subst hq
  intro H locs ls hP hD hS hl
  exact (by subst hv; exact lv_irem C.1 C.2.1 hd hne (kk H locs ls hP hD hS hl))
theorem v_ldiv {E : EV} {cc : ByteArray} {own : String} {ret : Option FieldType} {cI : ClassId} {rm : Room} {k n pc : Nat} {lv : List (Nat × Value)} {st : List Value} {ws : va_W} {x y v : Int64} (q : Nat) (C : CX E cc own ret cI rm) (hd : decode cc pc = .ok (.ldiv, 1)) (hne : ¬ y = 0) (hv : x / y = v) (kk : VV E k n q lv (.long v :: st) ws) (hq : pc + 1 = q := by rfl) : VV E k n pc lv (.long y :: .long x :: st) ws := by
  subst hq
  intro H locs ls hP hD hS hl
  exact (by subst hv; exact lv_ldiv C.1 C.2.1 hd hne (kk H locs ls hP hD hS hl))
theorem v_lrem {E : EV} {cc : ByteArray} {own : String} {ret : Option FieldType} {cI : ClassId} {rm : Room} {k n pc : Nat} {lv : List (Nat × Value)} {st : List Value} {ws : va_W} {x y v : Int64} (q : Nat) (C : CX E cc own ret cI rm) (hd : decode cc pc = .ok (.lrem, 1)) (hne : ¬ y = 0) (hv : x - x / y * y = v) (kk : VV E k n q lv (.long v :: st) ws) (hq : pc + 1 = q := by rfl) : VV E k n pc lv (.long y :: .long x :: st) ws := by
  subst hq
  intro H locs ls hP hD hS hl
  exact (by subst hv; exact lv_lrem C.1 C.2.1 hd hne (kk H locs ls hP hD hS hl))
theorem v_ladd {E : EV} {cc : ByteArray} {own : String} {ret : Option FieldType} {cI : ClassId} {rm : Room} {k n pc : Nat} {lv : List (Nat × Value)} {st : List Value} {ws : va_W} {x y v : Int64} (q : Nat) (C : CX E cc own ret cI rm) (hd : decode cc pc = .ok (.ladd, 1)) (hv : x + y = v) (kk : VV E k n q lv (.long v :: st) ws) (hq : pc + 1 = q := by rfl) : VV E k n pc lv (.long y :: .long x :: st) ws := by
  subst hq
  intro H locs ls hP hD hS hl
  exact (by subst hv; exact lv_ladd C.1 C.2.1 hd (kk H locs ls hP hD hS hl))
theorem v_lsub {E : EV} {cc : ByteArray} {own : String} {ret : Option FieldType} {cI : ClassId} {rm : Room} {k n pc : Nat} {lv : List (Nat × Value)} {st : List Value} {ws : va_W} {x y v : Int64} (q : Nat) (C : CX E cc own ret cI rm) (hd : decode cc pc = .ok (.lsub, 1)) (hv : x - y = v) (kk : VV E k n q lv (.long v :: st) ws) (hq : pc + 1 = q := by rfl) : VV E k n pc lv (.long y :: .long x :: st) ws := by
  subst hq
  intro H locs ls hP hD hS hl
  exact (by subst hv; exact lv_lsub C.1 C.2.1 hd (kk H locs ls hP hD hS hl))
theorem v_lmul {E : EV} {cc : ByteArray} {own : String} {ret : Option FieldType} {cI : ClassId} {rm : Room} {k n pc : Nat} {lv : List (Nat × Value)} {st : List Value} {ws : va_W} {x y v : Int64} (q : Nat) (C : CX E cc own ret cI rm) (hd : decode cc pc = .ok (.lmul, 1)) (hv : x * y = v) (kk : VV E k n q lv (.long v :: st) ws) (hq : pc + 1 = q := by rfl) : VV E k n pc lv (.long y :: .long x :: st) ws := by
  subst hq
  intro H locs ls hP hD hS hl
  exact (by subst hv; exact lv_lmul C.1 C.2.1 hd (kk H locs ls hP hD hS hl))
theorem v_lcmp {E : EV} {cc : ByteArray} {own : String} {ret : Option FieldType} {cI : ClassId} {rm : Room} {k n pc : Nat} {lv : List (Nat × Value)} {st : List Value} {ws : va_W} {x y : Int64} (q : Nat) (C : CX E cc own ret cI rm) (hd : decode cc pc = .ok (.lcmp, 1))  (kk : VV E k n q lv (.int (lg_cmp x y) :: st) ws) (hq : pc + 1 = q := by rfl) : VV E k n pc lv (.long y :: .long x :: st) ws := by
  subst hq
  intro H locs ls hP hD hS hl
  exact W.lcmp C.1 C.2.1 hd (kk H locs ls hP hD hS hl)
theorem v_ineg {E : EV} {cc : ByteArray} {own : String} {ret : Option FieldType} {cI : ClassId} {rm : Room} {k n pc : Nat} {lv : List (Nat × Value)} {st : List Value} {ws : va_W} {x : Int32} (q : Nat) (C : CX E cc own ret cI rm) (hd : decode cc pc = .ok (.ineg, 1))  (kk : VV E k n q lv (.int (-x) :: st) ws) (hq : pc + 1 = q := by rfl) : VV E k n pc lv (.int x :: st) ws := by
  subst hq
  intro H locs ls hP hD hS hl
  exact lv_ineg C.1 C.2.1 hd (kk H locs ls hP hD hS hl)
theorem v_ishl {E : EV} {cc : ByteArray} {own : String} {ret : Option FieldType} {cI : ClassId} {rm : Room} {k n pc : Nat} {lv : List (Nat × Value)} {st : List Value} {ws : va_W} {x y v : Int32} (q : Nat) (C : CX E cc own ret cI rm) (hd : decode cc pc = .ok (.ishl, 1)) (hv : x <<< y = v) (kk : VV E k n q lv (.int v :: st) ws) (hq : pc + 1 = q := by rfl) : VV E k n pc lv (.int y :: .int x :: st) ws := by
  subst hq
  intro H locs ls hP hD hS hl
  exact (by subst hv; exact lv_ishl C.1 C.2.1 hd (kk H locs ls hP hD hS hl))
theorem v_ishr {E : EV} {cc : ByteArray} {own : String} {ret : Option FieldType} {cI : ClassId} {rm : Room} {k n pc : Nat} {lv : List (Nat × Value)} {st : List Value} {ws : va_W} {x y v : Int32} (q : Nat) (C : CX E cc own ret cI rm) (hd : decode cc pc = .ok (.ishr, 1)) (hv : x >>> y = v) (kk : VV E k n q lv (.int v :: st) ws) (hq : pc + 1 = q := by rfl) : VV E k n pc lv (.int y :: .int x :: st) ws := by
  subst hq
  intro H locs ls hP hD hS hl
  exact (by subst hv; exact lv_ishr C.1 C.2.1 hd (kk H locs ls hP hD hS hl))
theorem v_iushr {E : EV} {cc : ByteArray} {own : String} {ret : Option FieldType} {cI : ClassId} {rm : Room} {k n pc : Nat} {lv : List (Nat × Value)} {st : List Value} {ws : va_W} {x y v : Int32} (q : Nat) (C : CX E cc own ret cI rm) (hd : decode cc pc = .ok (.iushr, 1)) (hv : (x.toUInt32 >>> (y.toUInt32 &&& Int32.toUInt32 31)).toInt32 = v) (kk : VV E k n q lv (.int v :: st) ws) (hq : pc + 1 = q := by rfl) : VV E k n pc lv (.int y :: .int x :: st) ws := by
  subst hq
  intro H locs ls hP hD hS hl
  exact lv_iushr C.1 C.2.1 hd hv (kk H locs ls hP hD hS hl)
theorem v_i2l {E : EV} {cc : ByteArray} {own : String} {ret : Option FieldType} {cI : ClassId} {rm : Room} {k n pc : Nat} {lv : List (Nat × Value)} {st : List Value} {ws : va_W} {x : Int32} {v : Int64} (q : Nat) (C : CX E cc own ret cI rm) (hd : decode cc pc = .ok (.i2l, 1)) (hv : x.toInt64 = v) (kk : VV E k n q lv (.long v :: st) ws) (hq : pc + 1 = q := by rfl) : VV E k n pc lv (.int x :: st) ws := by
  subst hq
  intro H locs ls hP hD hS hl
  exact lv_i2l C.1 C.2.1 hd hv (kk H locs ls hP hD hS hl)
theorem v_l2i {E : EV} {cc : ByteArray} {own : String} {ret : Option FieldType} {cI : ClassId} {rm : Room} {k n pc : Nat} {lv : List (Nat × Value)} {st : List Value} {ws : va_W} {x : Int64} {v : Int32} (q : Nat) (C : CX E cc own ret cI rm) (hd : decode cc pc = .ok (.l2i, 1)) (hv : x.toInt32 = v) (kk : VV E k n q lv (.int v :: st) ws) (hq : pc + 1 = q := by rfl) : VV E k n pc lv (.long x :: st) ws := by
  subst hq
  intro H locs ls hP hD hS hl
  exact lv_l2i C.1 C.2.1 hd hv (kk H locs ls hP hD hS hl)
theorem v_dup {E : EV} {cc : ByteArray} {own : String} {ret : Option FieldType} {cI : ClassId} {rm : Room} {k n pc : Nat} {lv : List (Nat × Value)} {st : List Value} {ws : va_W} {v : Value} (q : Nat) (C : CX E cc own ret cI rm) (hd : decode cc pc = .ok (.dup, 1)) (hc : v.category = 1) (kk : VV E k n q lv (v :: v :: st) ws) (hq : pc + 1 = q := by rfl) : VV E k n pc lv (v :: st) ws := by
  subst hq
  intro H locs ls hP hD hS hl
  exact lv_dup C.1 C.2.1 hd hc (kk H locs ls hP hD hS hl)
theorem v_pop {E : EV} {cc : ByteArray} {own : String} {ret : Option FieldType} {cI : ClassId} {rm : Room} {k n pc : Nat} {lv : List (Nat × Value)} {st : List Value} {ws : va_W} {v : Value} (q : Nat) (C : CX E cc own ret cI rm) (hd : decode cc pc = .ok (.pop, 1)) (hc : v.category = 1) (kk : VV E k n q lv (st) ws) (hq : pc + 1 = q := by rfl) : VV E k n pc lv (v :: st) ws := by
  subst hq
  intro H locs ls hP hD hS hl
  exact lv_pop C.1 C.2.1 hd hc (kk H locs ls hP hD hS hl)
theorem v_dup2 {E : EV} {cc : ByteArray} {own : String} {ret : Option FieldType} {cI : ClassId} {rm : Room} {k n pc : Nat} {lv : List (Nat × Value)} {st : List Value} {ws : va_W} {v w : Value} (q : Nat) (C : CX E cc own ret cI rm) (hd : decode cc pc = .ok (.dup2, 1)) (hc : v.category = 1) (hc2 : w.category = 1) (kk : VV E k n q lv (v :: w :: v :: w :: st) ws) (hq : pc + 1 = q := by rfl) : VV E k n pc lv (v :: w :: st) ws := by
  subst hq
  intro H locs ls hP hD hS hl
  exact lv_dup2_11 C.1 C.2.1 hd hc hc2 (kk H locs ls hP hD hS hl)
theorem v_ldc {E : EV} {cc : ByteArray} {own : String} {ret : Option FieldType} {cI : ClassId} {rm : Room} {k n pc : Nat} {lv : List (Nat × Value)} {st : List Value} {ws : va_W} {i : Nat} {v : Int32} (q : Nat) (C : CX E cc own ret cI rm) (hd : decode cc pc = .ok (.ldc i, 2)) (hw : Cond.constant own i v ∈ gw) (kk : VV E k n q lv (.int v :: st) ws) (hq : pc + 2 = q := by rfl) : VV E k n pc lv (st) ws := by
  subst hq
  intro H locs ls hP hD hS hl
  exact lv_ldc C.1 C.2.1 C.2.2.2.1 (C.2.2.2.2.1 _ hw) hd (kk H locs ls hP hD hS hl)
theorem v_ldcw {E : EV} {cc : ByteArray} {own : String} {ret : Option FieldType} {cI : ClassId} {rm : Room} {k n pc : Nat} {lv : List (Nat × Value)} {st : List Value} {ws : va_W} {i : Nat} {v : Int32} (q : Nat) (C : CX E cc own ret cI rm) (hd : decode cc pc = .ok (.ldc_w i, 3)) (hw : Cond.constant own i v ∈ gw) (kk : VV E k n q lv (.int v :: st) ws) (hq : pc + 3 = q := by rfl) : VV E k n pc lv (st) ws := by
  subst hq
  intro H locs ls hP hD hS hl
  exact lv_ldcw C.1 C.2.1 C.2.2.2.1 (C.2.2.2.2.1 _ hw) hd (kk H locs ls hP hD hS hl)
theorem v_ldc2 {E : EV} {cc : ByteArray} {own : String} {ret : Option FieldType} {cI : ClassId} {rm : Room} {k n pc : Nat} {lv : List (Nat × Value)} {st : List Value} {ws : va_W} {i : Nat} {v : Int64} (q : Nat) (C : CX E cc own ret cI rm) (hd : decode cc pc = .ok (.ldc2_w i, 3)) (hw : Cond.constantLong own i v ∈ gw) (kk : VV E k n q lv (.long v :: st) ws) (hq : pc + 3 = q := by rfl) : VV E k n pc lv (st) ws := by
  subst hq
  intro H locs ls hP hD hS hl
  exact lv_ldc2 C.1 C.2.1 C.2.2.2.1 (C.2.2.2.2.1 _ hw) hd (kk H locs ls hP hD hS hl)
-- if_eq: x = 0 | ¬ x = 0
theorem v_if_eq {E : EV} {cc : ByteArray} {own : String} {ret : Option FieldType} {cI : ClassId} {rm : Room} {k n pc : Nat} {lv : List (Nat × Value)} {st : List Value} {ws : va_W} {x : Int32} {off : Int} (t q : Nat) (C : CX E cc own ret cI rm) (hd : decode cc pc = .ok (.ifCond .eq off, 3)) (kt : x = 0 → VV E k n t lv st ws) (kf : ¬ x = 0 → VV E k n q lv st ws) (ht : (pc : Int) + off = (t : Int) := by rfl) (hq : pc + 3 = q := by rfl) : VV E k n pc lv (.int x :: st) ws := by
  subst hq
  intro H locs ls hP hD hS hl
  exact lv_if_eq C.1 C.2.1 hd ht (fun c => kt c H locs ls hP hD hS hl) (fun c => kf c H locs ls hP hD hS hl)
-- icmp_eq: x = y | ¬ x = y
theorem v_icmp_eq {E : EV} {cc : ByteArray} {own : String} {ret : Option FieldType} {cI : ClassId} {rm : Room} {k n pc : Nat} {lv : List (Nat × Value)} {st : List Value} {ws : va_W} {x y : Int32} {off : Int} (t q : Nat) (C : CX E cc own ret cI rm) (hd : decode cc pc = .ok (.if_icmp .eq off, 3)) (kt : x = y → VV E k n t lv st ws) (kf : ¬ x = y → VV E k n q lv st ws) (ht : (pc : Int) + off = (t : Int) := by rfl) (hq : pc + 3 = q := by rfl) : VV E k n pc lv (.int y :: .int x :: st) ws := by
  subst hq
  intro H locs ls hP hD hS hl
  exact lv_icmp_eq C.1 C.2.1 hd ht (fun c => kt c H locs ls hP hD hS hl) (fun c => kf c H locs ls hP hD hS hl)
-- if_ne: ¬ x = 0 | x = 0
theorem v_if_ne {E : EV} {cc : ByteArray} {own : String} {ret : Option FieldType} {cI : ClassId} {rm : Room} {k n pc : Nat} {lv : List (Nat × Value)} {st : List Value} {ws : va_W} {x : Int32} {off : Int} (t q : Nat) (C : CX E cc own ret cI rm) (hd : decode cc pc = .ok (.ifCond .ne off, 3)) (kt : ¬ x = 0 → VV E k n t lv st ws) (kf : x = 0 → VV E k n q lv st ws) (ht : (pc : Int) + off = (t : Int) := by rfl) (hq : pc + 3 = q := by rfl) : VV E k n pc lv (.int x :: st) ws := by
  subst hq
  intro H locs ls hP hD hS hl
  exact lv_if_ne C.1 C.2.1 hd ht (fun c => kt c H locs ls hP hD hS hl) (fun c => kf c H locs ls hP hD hS hl)
-- icmp_ne: ¬ x = y | x = y
theorem v_icmp_ne {E : EV} {cc : ByteArray} {own : String} {ret : Option FieldType} {cI : ClassId} {rm : Room} {k n pc : Nat} {lv : List (Nat × Value)} {st : List Value} {ws : va_W} {x y : Int32} {off : Int} (t q : Nat) (C : CX E cc own ret cI rm) (hd : decode cc pc = .ok (.if_icmp .ne off, 3)) (kt : ¬ x = y → VV E k n t lv st ws) (kf : x = y → VV E k n q lv st ws) (ht : (pc : Int) + off = (t : Int) := by rfl) (hq : pc + 3 = q := by rfl) : VV E k n pc lv (.int y :: .int x :: st) ws := by
  subst hq
  intro H locs ls hP hD hS hl
  exact lv_icmp_ne C.1 C.2.1 hd ht (fun c => kt c H locs ls hP hD hS hl) (fun c => kf c H locs ls hP hD hS hl)
-- if_lt: x < 0 | ¬ x < 0
theorem v_if_lt {E : EV} {cc : ByteArray} {own : String} {ret : Option FieldType} {cI : ClassId} {rm : Room} {k n pc : Nat} {lv : List (Nat × Value)} {st : List Value} {ws : va_W} {x : Int32} {off : Int} (t q : Nat) (C : CX E cc own ret cI rm) (hd : decode cc pc = .ok (.ifCond .lt off, 3)) (kt : x < 0 → VV E k n t lv st ws) (kf : ¬ x < 0 → VV E k n q lv st ws) (ht : (pc : Int) + off = (t : Int) := by rfl) (hq : pc + 3 = q := by rfl) : VV E k n pc lv (.int x :: st) ws := by
  subst hq
  intro H locs ls hP hD hS hl
  exact lv_if_lt C.1 C.2.1 hd ht (fun c => kt c H locs ls hP hD hS hl) (fun c => kf c H locs ls hP hD hS hl)
-- icmp_lt: x < y | ¬ x < y
theorem v_icmp_lt {E : EV} {cc : ByteArray} {own : String} {ret : Option FieldType} {cI : ClassId} {rm : Room} {k n pc : Nat} {lv : List (Nat × Value)} {st : List Value} {ws : va_W} {x y : Int32} {off : Int} (t q : Nat) (C : CX E cc own ret cI rm) (hd : decode cc pc = .ok (.if_icmp .lt off, 3)) (kt : x < y → VV E k n t lv st ws) (kf : ¬ x < y → VV E k n q lv st ws) (ht : (pc : Int) + off = (t : Int) := by rfl) (hq : pc + 3 = q := by rfl) : VV E k n pc lv (.int y :: .int x :: st) ws := by
  subst hq
  intro H locs ls hP hD hS hl
  exact lv_icmp_lt C.1 C.2.1 hd ht (fun c => kt c H locs ls hP hD hS hl) (fun c => kf c H locs ls hP hD hS hl)
-- if_ge: 0 ≤ x | ¬ 0 ≤ x
theorem v_if_ge {E : EV} {cc : ByteArray} {own : String} {ret : Option FieldType} {cI : ClassId} {rm : Room} {k n pc : Nat} {lv : List (Nat × Value)} {st : List Value} {ws : va_W} {x : Int32} {off : Int} (t q : Nat) (C : CX E cc own ret cI rm) (hd : decode cc pc = .ok (.ifCond .ge off, 3)) (kt : 0 ≤ x → VV E k n t lv st ws) (kf : ¬ 0 ≤ x → VV E k n q lv st ws) (ht : (pc : Int) + off = (t : Int) := by rfl) (hq : pc + 3 = q := by rfl) : VV E k n pc lv (.int x :: st) ws := by
  subst hq
  intro H locs ls hP hD hS hl
  exact lv_if_ge C.1 C.2.1 hd ht (fun c => kt c H locs ls hP hD hS hl) (fun c => kf c H locs ls hP hD hS hl)
-- icmp_ge: y ≤ x | ¬ y ≤ x
theorem v_icmp_ge {E : EV} {cc : ByteArray} {own : String} {ret : Option FieldType} {cI : ClassId} {rm : Room} {k n pc : Nat} {lv : List (Nat × Value)} {st : List Value} {ws : va_W} {x y : Int32} {off : Int} (t q : Nat) (C : CX E cc own ret cI rm) (hd : decode cc pc = .ok (.if_icmp .ge off, 3)) (kt : y ≤ x → VV E k n t lv st ws) (kf : ¬ y ≤ x → VV E k n q lv st ws) (ht : (pc : Int) + off = (t : Int) := by rfl) (hq : pc + 3 = q := by rfl) : VV E k n pc lv (.int y :: .int x :: st) ws := by
  subst hq
  intro H locs ls hP hD hS hl
  exact lv_icmp_ge C.1 C.2.1 hd ht (fun c => kt c H locs ls hP hD hS hl) (fun c => kf c H locs ls hP hD hS hl)
-- if_gt: 0 < x | ¬ 0 < x
theorem v_if_gt {E : EV} {cc : ByteArray} {own : String} {ret : Option FieldType} {cI : ClassId} {rm : Room} {k n pc : Nat} {lv : List (Nat × Value)} {st : List Value} {ws : va_W} {x : Int32} {off : Int} (t q : Nat) (C : CX E cc own ret cI rm) (hd : decode cc pc = .ok (.ifCond .gt off, 3)) (kt : 0 < x → VV E k n t lv st ws) (kf : ¬ 0 < x → VV E k n q lv st ws) (ht : (pc : Int) + off = (t : Int) := by rfl) (hq : pc + 3 = q := by rfl) : VV E k n pc lv (.int x :: st) ws := by
  subst hq
  intro H locs ls hP hD hS hl
  exact lv_if_gt C.1 C.2.1 hd ht (fun c => kt c H locs ls hP hD hS hl) (fun c => kf c H locs ls hP hD hS hl)
-- icmp_gt: y < x | ¬ y < x
theorem v_icmp_gt {E : EV} {cc : ByteArray} {own : String} {ret : Option FieldType} {cI : ClassId} {rm : Room} {k n pc : Nat} {lv : List (Nat × Value)} {st : List Value} {ws : va_W} {x y : Int32} {off : Int} (t q : Nat) (C : CX E cc own ret cI rm) (hd : decode cc pc = .ok (.if_icmp .gt off, 3)) (kt : y < x → VV E k n t lv st ws) (kf : ¬ y < x → VV E k n q lv st ws) (ht : (pc : Int) + off = (t : Int) := by rfl) (hq : pc + 3 = q := by rfl) : VV E k n pc lv (.int y :: .int x :: st) ws := by
  subst hq
  intro H locs ls hP hD hS hl
  exact lv_icmp_gt C.1 C.2.1 hd ht (fun c => kt c H locs ls hP hD hS hl) (fun c => kf c H locs ls hP hD hS hl)
-- if_le: x ≤ 0 | ¬ x ≤ 0
theorem v_if_le {E : EV} {cc : ByteArray} {own : String} {ret : Option FieldType} {cI : ClassId} {rm : Room} {k n pc : Nat} {lv : List (Nat × Value)} {st : List Value} {ws : va_W} {x : Int32} {off : Int} (t q : Nat) (C : CX E cc own ret cI rm) (hd : decode cc pc = .ok (.ifCond .le off, 3)) (kt : x ≤ 0 → VV E k n t lv st ws) (kf : ¬ x ≤ 0 → VV E k n q lv st ws) (ht : (pc : Int) + off = (t : Int) := by rfl) (hq : pc + 3 = q := by rfl) : VV E k n pc lv (.int x :: st) ws := by
  subst hq
  intro H locs ls hP hD hS hl
  exact lv_if_le C.1 C.2.1 hd ht (fun c => kt c H locs ls hP hD hS hl) (fun c => kf c H locs ls hP hD hS hl)
-- icmp_le: x ≤ y | ¬ x ≤ y
theorem v_icmp_le {E : EV} {cc : ByteArray} {own : String} {ret : Option FieldType} {cI : ClassId} {rm : Room} {k n pc : Nat} {lv : List (Nat × Value)} {st : List Value} {ws : va_W} {x y : Int32} {off : Int} (t q : Nat) (C : CX E cc own ret cI rm) (hd : decode cc pc = .ok (.if_icmp .le off, 3)) (kt : x ≤ y → VV E k n t lv st ws) (kf : ¬ x ≤ y → VV E k n q lv st ws) (ht : (pc : Int) + off = (t : Int) := by rfl) (hq : pc + 3 = q := by rfl) : VV E k n pc lv (.int y :: .int x :: st) ws := by
  subst hq
  intro H locs ls hP hD hS hl
  exact lv_icmp_le C.1 C.2.1 hd ht (fun c => kt c H locs ls hP hD hS hl) (fun c => kf c H locs ls hP hD hS hl)
theorem v_goto {E : EV} {cc : ByteArray} {own : String} {ret : Option FieldType} {cI : ClassId} {rm : Room} {k n pc : Nat} {lv : List (Nat × Value)} {st : List Value} {ws : va_W} {off : Int} (t : Nat) (C : CX E cc own ret cI rm) (hd : decode cc pc = .ok (.goto off, 3)) (kk : VV E k n t lv st ws) (ht : (pc : Int) + off = (t : Int) := by rfl) : VV E k n pc lv st ws := by
  intro H locs ls hP hD hS hl
  exact lv_goto C.1 C.2.1 hd ht (kk H locs ls hP hD hS hl)
/-- a field of a kind of cells, as an instruction of a class names it: own or a nest mate's -/
def GF (own : String) (index ci j : Nat) : Prop := ∃ (C : String) (T : u_T) (N : Nat), vwCl[ci]? = some (C, T, N) ∧ j < N ∧ (∀ w ∈ u_ws C T N, w ∈ gw) ∧ (Cond.fieldLink own index (T j).1 (T j).2.1 (T j).2.2.1 ∈ gw ∨ ∃ host, Cond.fieldLinkNest own index (T j).1 (T j).2.1 (T j).2.2.1 host ∈ vn)
def PF (own : String) (index ci j : Nat) (tt : FieldType) (fin : Bool) : Prop := ∃ (C : String) (T : u_T) (N : Nat) (ty : Nat → FieldType), vwCl[ci]? = some (C, T, N) ∧ j < N ∧ (∀ w ∈ u_ws C T N, w ∈ gw) ∧ (∀ k, k < N → parseFieldDescriptor (T k).2.2.1 = some (ty k)) ∧ (∀ a, a < N → ∀ b, b < N → a ≠ b → (T a).2.1 ≠ (T b).2.1) ∧ (T j).2.2.2 = fin ∧ parseFieldDescriptor (T j).2.2.1 = some tt ∧ (T j).1 = C ∧ (Cond.fieldLink own index (T j).1 (T j).2.1 (T j).2.2.1 ∈ gw ∨ (fin = false ∧ ∃ host, Cond.fieldLinkNest own index (T j).1 (T j).2.1 (T j).2.2.1 host ∈ vn))
section VR
variable {E : EV} {cc : ByteArray} {own : String} {ret : Option FieldType} {cI : ClassId} {rm : Room} {k n pc : Nat} {lv : List (Nat × Value)} {st : List Value} {ws : va_W}
theorem v_gf {index ci j a : Nat} {fs : List Value} {v : Value} (q kr : Nat) (C : CX E cc own ret cI rm) (hd : decode cc pc = .ok (.getfield index, 3)) (G : GF own index ci j) (hr : ws[kr]? = some (a, .inr (ci, fs))) (hv : fs[j]? = some v) (kk : VV E k n q lv (v :: st) ws) (hq : pc + 3 = q := by rfl) : VV E k n pc lv (.ref a :: st) ws := by
  subst hq
  intro H locs ls hP hD hS hl
  obtain ⟨Cn, T, N, hc, hj, hin, hlk | ⟨host, hlk⟩⟩ := G
  · exact va_get C.1 C.2.1 C.2.2.2.2.1 hin C.2.2.2.1 C.2.2.2.2.2.2.1 hP kr hr hc j hj (C.2.2.2.2.1 _ hlk) (fun _ h => h) hv hd (kk H locs ls hP hD hS hl)
  · exact va_getN C.1 C.2.1 C.2.2.2.2.1 hin C.2.2.2.1 C.2.2.2.2.2.2.1 hP kr hr hc j hj (va_Nw.use rfl (C.2.2.2.2.2.1 _ hlk)) (fun _ h => h) hv hd (kk H locs ls hP hD hS hl)
theorem v_pf {index ci j a : Nat} {fs : List Value} {v : Value} {tt : FieldType} {ws2 : va_W} (q kr : Nat) (C : CX E cc own ret cI rm) (hd : decode cc pc = .ok (.putfield index, 3)) (G : PF own index ci j tt false) (hr : ws[kr]? = some (a, .inr (ci, fs))) (hl2 : j < fs.length) (hn : narrow tt v = v) (hf : fits tt v = true) (hw : ws.set kr (a, .inr (ci, fs.set j v)) = ws2) (kk : VV E k n q lv st ws2) (hq : pc + 3 = q := by rfl) : VV E k n pc lv (v :: .ref a :: st) ws := by
  subst hq
  subst hw
  intro H locs ls hP hD hS hl
  obtain ⟨Cn, T, N, ty, hc, hj, hin, hty, hnm, hfin, hpd, -, hlk | ⟨-, host, hlk⟩⟩ := G
  · exact va_put C.1 C.2.1 C.2.2.2.2.1 hin ty hty hnm C.2.2.2.1 C.2.2.2.2.2.2.1 hP hD hS kr hr hc j hj (C.2.2.2.2.1 _ hlk) (fun _ h => h) hfin hpd hn hf hl2 hd (fun H1 locs1 hP1 hD1 hS1 => kk H1 locs1 ls hP1 hD1 hS1 hl)
  · exact va_putN C.1 C.2.1 C.2.2.2.2.1 hin ty hty hnm C.2.2.2.1 C.2.2.2.2.2.2.1 hP hD hS kr hr hc j hj (va_Nw.use rfl (C.2.2.2.2.2.1 _ hlk)) (fun _ h => h) hfin hpd hn hf hl2 hd (fun H1 locs1 hP1 hD1 hS1 => kk H1 locs1 ls hP1 hD1 hS1 hl)
theorem v_pfF {index ci j a : Nat} {fs : List Value} {v : Value} {tt : FieldType} {ws2 : va_W} (q kr : Nat) (C : CX E cc own ret cI rm) (hin2 : (ev_mt E).name = "<init>") (hown : (vwCl[ci]?).map (·.1) = some own) (hd : decode cc pc = .ok (.putfield index, 3)) (G : PF own index ci j tt true) (hr : ws[kr]? = some (a, .inr (ci, fs))) (hl2 : j < fs.length) (hn : narrow tt v = v) (hf : fits tt v = true) (hw : ws.set kr (a, .inr (ci, fs.set j v)) = ws2) (kk : VV E k n q lv st ws2) (hq : pc + 3 = q := by rfl) : VV E k n pc lv (v :: .ref a :: st) ws := by
  subst hq
  subst hw
  intro H locs ls hP hD hS hl
  obtain ⟨Cn, T, N, ty, hc, hj, hin, hty, hnm, hfin, hpd, hdecl, hlk | ⟨h0, -⟩⟩ := G
  · rw [hc] at hown
    have e : Cn = own := Option.some.inj hown
    exact va_putF C.1 C.2.1 C.2.2.2.2.1 hin ty hty hnm C.2.2.2.1 C.2.2.2.2.2.2.1 hP hD hS kr hr hc j hj (C.2.2.2.2.1 _ hlk) (fun _ h => h) hfin hin2 (by rw [hdecl, e]) hpd hn hf hl2 hd (fun H1 locs1 hP1 hD1 hS1 => kk H1 locs1 ls hP1 hD1 hS1 hl)
  · cases h0
theorem v_ial {a N : Nat} {f : Nat → Int32} {i v : Int32} (q kr : Nat) (C : CX E cc own ret cI rm) (hd : decode cc pc = .ok (.iaload, 1)) (hr : ws[kr]? = some (a, .inl (cI, N, .inl f))) (hin : vp_in i N) (hv : f i.toNatClampNeg = v) (kk : VV E k n q lv (.int v :: st) ws) (hq : pc + 1 = q := by rfl) : VV E k n pc lv (.int i :: .ref a :: st) ws := by
  subst hq
  subst hv
  intro H locs ls hP hD hS hl
  exact va_iald C.1 C.2.1 C.2.2.2.2.2.2.1 hP kr 0 hr rfl hin hd (kk H locs ls hP hD hS hl)
theorem v_ialn {a N i : Nat} {f : Nat → Int32} {v : Int32} (q kr : Nat) (C : CX E cc own ret cI rm) (hd : decode cc pc = .ok (.iaload, 1)) (hr : ws[kr]? = some (a, .inl (cI, N, .inl f))) (hin : i < N) (hv : f i = v) (kk : VV E k n q lv (.int v :: st) ws) (hN : N < 2 ^ 31 := by decide) (hq : pc + 1 = q := by rfl) : VV E k n pc lv (.int (nI i) :: .ref a :: st) ws :=
  v_ial q kr C hd hr (vp_in_nI hin hN) (by rw [nI_clamp (Nat.lt_trans hin hN)]; exact hv) kk hq
theorem v_ias {a N : Nat} {f : Nat → Int32} {i x : Int32} {ws2 : va_W} (q kr : Nat) (C : CX E cc own ret cI rm) (hd : decode cc pc = .ok (.iastore, 1)) (hr : ws[kr]? = some (a, .inl (cI, N, .inl f))) (hin : vp_in i N) (hw : ws.set kr (a, .inl (cI, N, .inl (upd f i.toNatClampNeg x))) = ws2) (kk : VV E k n q lv st ws2) (hq : pc + 1 = q := by rfl) : VV E k n pc lv (.int x :: .int i :: .ref a :: st) ws := by
  subst hq
  subst hw
  intro H locs ls hP hD hS hl
  exact va_iast C.1 C.2.1 C.2.2.2.2.2.2.1 hP hD hS kr 0 hr rfl hin hd (fun H1 locs1 hP1 hD1 hS1 => kk H1 locs1 ls hP1 hD1 hS1 hl)
theorem v_iasn {a N i : Nat} {f : Nat → Int32} {x : Int32} {ws2 : va_W} (q kr : Nat) (C : CX E cc own ret cI rm) (hd : decode cc pc = .ok (.iastore, 1)) (hr : ws[kr]? = some (a, .inl (cI, N, .inl f))) (hin : i < N) (hw : ws.set kr (a, .inl (cI, N, .inl (upd f i x))) = ws2) (kk : VV E k n q lv st ws2) (hN : N < 2 ^ 31 := by decide) (hq : pc + 1 = q := by rfl) : VV E k n pc lv (.int x :: .int (nI i) :: .ref a :: st) ws :=
  v_ias q kr C hd hr (vp_in_nI hin hN) (by rw [nI_clamp (Nat.lt_trans hin hN)]; exact hw) kk hq
theorem v_alen {a N : Nat} {f : Nat → Int32} (q kr : Nat) (C : CX E cc own ret cI rm) (hd : decode cc pc = .ok (.arraylength, 1)) (hr : ws[kr]? = some (a, .inl (cI, N, .inl f))) (kk : VV E k n q lv (.int (nI N) :: st) ws) (hq : pc + 1 = q := by rfl) : VV E k n pc lv (.ref a :: st) ws := by
  subst hq
  intro H locs ls hP hD hS hl
  exact va_alen C.1 C.2.1 C.2.2.2.2.2.2.1 hP kr 0 hr rfl rfl hd (kk H locs ls hP hD hS hl)
theorem v_cpy {a a0 n0 n1 : Nat} {f g : Nat → Int32} {sp dp m : Nat} {index : Nat} {ws2 : va_W} (q k0 k1 : Nat) (C : CX E cc own ret cI rm) (hd : decode cc pc = .ok (.invokestatic index, 3)) (hl1 : Cond.methodLink own index arraycopyName ∈ gw) (hl2 : Cond.native arraycopyName ∈ gw) (hl3 : Cond.static arraycopyName ∈ gw) (hl4 : Cond.initialized "java/lang/System" ∈ gw) (hr0 : ws[k0]? = some (a0, .inl (cI, n0, .inl f))) (hr1 : ws[k1]? = some (a, .inl (cI, n1, .inl g))) (h4 : sp + m ≤ n0) (h5 : dp + m ≤ n1) (hR : 1 ≤ rm.frames ∧ (st.map fun v => v.category).sum + (nativeFrameWords "java/lang/System" "arraycopy" 5 + 11) ≤ rm.locals) (hw : ws.set k1 (a, .inl (cI, n1, .inl (va_cpy f g sp dp m))) = ws2) (kk : VV E k n q lv st ws2) (hsp : sp < 2 ^ 31 := by decide) (hdp : dp < 2 ^ 31 := by decide) (hm : m < 2 ^ 31 := by decide) (hq : pc + 3 = q := by rfl) : VV E k n pc lv (.int (nI m) :: .int (nI dp) :: .ref a :: .int (nI sp) :: .ref a0 :: st) ws := by
  subst hq
  subst hw
  intro H locs ls hP hD hS hl
  have e1 := nI_clamp hsp
  have e2 := nI_clamp hdp
  have e3 := nI_clamp hm
  refine va_copyi C.1 C.2.1 (C.2.2.1.trans hl.1.symm) C.2.2.2.1 (C.2.2.2.2.1 _ hl1) (C.2.2.2.2.1 _ hl2) (C.2.2.2.2.1 _ hl3) (C.2.2.2.2.1 _ hl4) C.2.2.2.2.2.2.1 hP hD hS k0 k1 0 0 hr0 hr1 rfl rfl rfl (nI_pos hsp) (nI_pos hdp) (nI_pos hm) (by rw [e1, e3]; exact h4) (by rw [e2, e3]; exact h5) (fun _ _ => rfl) (by rw [C.2.2.2.2.2.2.2.2.2]; exact hR.1) (by rw [C.2.2.2.2.2.2.2.2.2]; exact hR.2) hd (fun H1 locs1 hP1 hD1 hS1 => ?_)
  rw [e1, e2, e3] at hP1 hD1
  exact kk H1 locs1 ls hP1 hD1 hS1 hl
end VR
section VE
variable {E : EV} {cc : ByteArray} {own : String} {ret : Option FieldType} {cI : ClassId} {rm : Room} {pc : Nat} {lv : List (Nat × Value)} {ws w0 : va_W} {post : Option Value → va_W → Prop}
theorem v_iret {v : Int32} (C : CX E cc own (some .int) cI rm) (T : RT E post w0) (hd : decode cc pc = .ok (.ireturn, 1)) (hp : post (some (.int v)) ws) (hm : ws.map (·.1) = w0.map (·.1) := by rfl) : VV E 0 0 pc lv [.int v] ws := by
  intro H locs ls hP hD hS hl
  rw [T.1]
  refine W.iret C.1 C.2.1 C.2.2.2.2.2.2.2.1 (fun t ht hW => ⟨⟨_, ws, rfl, hp, hm, by rw [ht]; exact hP⟩, ?_⟩) ?_ hd C.2.2.2.2.2.2.2.2.1
  · have h := hS.F ht; rw [T.2] at h; exact h
  · have h := hS.2.2; rw [T.2] at h; exact h
theorem v_zret {v : Int32} (C : CX E cc own (some .boolean) cI rm) (T : RT E post w0) (hd : decode cc pc = .ok (.ireturn, 1)) (hz : v = 0 ∨ v = 1) (hp : post (some (.int v)) ws) (hm : ws.map (·.1) = w0.map (·.1) := by rfl) : VV E 0 0 pc lv [.int v] ws := by
  intro H locs ls hP hD hS hl
  rw [T.1]
  refine W.zret (ty := .boolean) C.1 C.2.1 C.2.2.2.2.2.2.2.1 (by rcases hz with rfl | rfl <;> rfl) (fun t ht hW => ⟨⟨_, ws, rfl, hp, hm, by rw [ht]; exact hP⟩, ?_⟩) ?_ hd C.2.2.2.2.2.2.2.2.1
  · have h := hS.F ht; rw [T.2] at h; exact h
  · have h := hS.2.2; rw [T.2] at h; exact h
theorem v_lret {v : Int64} (C : CX E cc own (some .long) cI rm) (T : RT E post w0) (hd : decode cc pc = .ok (.lreturn, 1)) (hp : post (some (.long v)) ws) (hm : ws.map (·.1) = w0.map (·.1) := by rfl) : VV E 0 0 pc lv [.long v] ws := by
  intro H locs ls hP hD hS hl
  rw [T.1]
  refine W.lret C.1 C.2.1 C.2.2.2.2.2.2.2.1 (fun t ht hW => ⟨⟨_, ws, rfl, hp, hm, by rw [ht]; exact hP⟩, ?_⟩) ?_ hd C.2.2.2.2.2.2.2.2.1
  · have h := hS.F ht; rw [T.2] at h; exact h
  · have h := hS.2.2; rw [T.2] at h; exact h
theorem v_vret (C : CX E cc own none cI rm) (T : RT E post w0) (hd : decode cc pc = .ok (.return_, 1)) (hp : post none ws) (hm : ws.map (·.1) = w0.map (·.1) := by rfl) : VV E 0 0 pc lv [] ws := by
  intro H locs ls hP hD hS hl
  rw [T.1]
  refine W.vret C.1 C.2.1 C.2.2.2.2.2.2.2.1 (fun t ht hW => ⟨⟨_, ws, rfl, hp, hm, by rw [ht]; exact hP⟩, ?_⟩) ?_ hd C.2.2.2.2.2.2.2.2.1
  · have h := hS.F ht; rw [T.2] at h; exact h
  · have h := hS.2.2; rw [T.2] at h; exact h
end VE
