/-! A judgement of this claim's own over the kit's rows: the whole environment of a frame in one tuple, the world as a list, one set of words for every method. -/
def gw : List Cond := lw_tbl.filter goodWord
theorem gw_of {w : Cond} (h : w ∈ lw_tbl) (hg : goodWord w = true) : w ∈ gw := List.mem_filter.mpr ⟨h, hg⟩
theorem gw_at {w : Cond} (i : Nat) (h : tables_1[i]? = some w) (hg : goodWord w = true) : w ∈ gw := gw_of (List.mem_append_right _ (List.mem_of_getElem? h)) hg
theorem gw_sel {q : MethodName × Nat} (i : Nat) (h : lw_privs[i]? = some q) : Cond.selects q.1.cls q.1 q.1 ∈ gw := gw_of (List.mem_append_left _ (List.mem_map.mpr ⟨q, List.mem_of_getElem? h, rfl⟩)) rfl
def vn_is : Cond → Bool
  | .fieldLinkNest .. => true
  | .methodLinkNest .. => true
  | _ => false
def vn : List Cond := tables_1.filter vn_is
theorem vn_at {w : Cond} (i : Nat) (h : tables_1[i]? = some w) (hg : vn_is w = true) : w ∈ vn := List.mem_filter.mpr ⟨List.mem_of_getElem? h, hg⟩
def vnk (U : State) : Prop := ∀ w ∈ vn, va_Nw w U
theorem vn_tab {w : Cond} (hw : w ∈ vn) : w.onTables = true := by
  have h2 := (List.mem_filter.mp hw).2
  cases w <;> first | rfl | (simp [vn_is] at h2; done)
theorem vnk_warm {s U : State} (hW : s.WarmedH U.vm) (h : vnk s) : vnk U := fun w hw => by
  have h1 := h w hw
  have h2 := (List.mem_filter.mp hw).2
  cases w <;> first | exact va_Nw.warmF hW h1 | exact va_Nw.warmM hW h1 | (simp [vn_is] at h2; done)
theorem vnk_same {u U : State} (e : u.vm = U.vm) (h : vnk u) : vnk U := fun w hw => va_Nw.same (vn_tab hw) e (h w hw)
def mw (y : MethodName) (b : ByteArray) (n : Nat) (ret : Option FieldType) : List Cond := .code y b n ret :: gw
theorem mw_good {y : MethodName} {b : ByteArray} {n : Nat} {ret : Option FieldType} (h : Cond.code y b n ret ∈ gw) : GoodIn gw (mw y b n ret) := by
  intro w hw
  have hg : w ∈ gw := by
    rcases List.mem_cons.mp hw with rfl | h1
    · exact h
    · exact h1
  exact ⟨hg, good_of_word (List.mem_filter.mp hg).2⟩
/-- a frame's environment -/
def EV : Type := Program × Launch × Env × Room × State × MethodId × Array Value × List Frame × Method × Code × Nat × va_G × (Nat → Prop) × (State → Prop)
abbrev ev_p (E : EV) : Program := E.1
abbrev ev_l (E : EV) : Launch := E.2.1
abbrev ev_e (E : EV) : Env := E.2.2.1
abbrev ev_R (E : EV) : Room := E.2.2.2.1
abbrev ev_s (E : EV) : State := E.2.2.2.2.1
abbrev ev_m (E : EV) : MethodId := E.2.2.2.2.2.1
abbrev ev_a (E : EV) : Array Value := E.2.2.2.2.2.2.1
abbrev ev_b (E : EV) : List Frame := E.2.2.2.2.2.2.2.1
abbrev ev_mt (E : EV) : Method := E.2.2.2.2.2.2.2.2.1
abbrev ev_c (E : EV) : Code := E.2.2.2.2.2.2.2.2.2.1
abbrev ev_n (E : EV) : Nat := E.2.2.2.2.2.2.2.2.2.2.1
abbrev ev_D (E : EV) : va_G := E.2.2.2.2.2.2.2.2.2.2.2.1
abbrev ev_A (E : EV) : Nat → Prop := E.2.2.2.2.2.2.2.2.2.2.2.2.1
abbrev ev_Q (E : EV) : State → Prop := E.2.2.2.2.2.2.2.2.2.2.2.2.2
def CX (E : EV) (cc : ByteArray) (own : String) (ret : Option FieldType) (cI : ClassId) (rm : Room) : Prop :=
  (ev_p E).tables.exec = Jvm.exec ∧ (ev_c E).code = cc ∧ (ev_c E).maxLocals = ev_n E ∧ (ev_s E).vm.findClass own = some (ev_m E).cls ∧ (∀ w ∈ gw, w.before (ev_a E) (ev_s E) = true) ∧ vnk (ev_s E) ∧ va_K (ev_D E) vwCl [(cI, .int)] (ev_s E) ∧ (ev_mt E).sig.returnType = ret ∧ (ev_mt E).locks = false ∧ ev_R E = rm
def VV (E : EV) (k n pc : Nat) (lv : List (Nat × Value)) (st : List Value) (ws : va_W) : Prop :=
  ∀ (H : Heap) (locs : List Loc) (ls : Array Slot), va_P (ev_D E) vwCl ws H → va_D (ev_A E) ws → va_S (ev_A E) (ev_s E).heap H locs → lv_has ls (ev_n E) lv → W (ev_p E) (ev_l E) (ev_e E) (ev_R E) (ev_s E) (ev_m E) (ev_a E) (ev_b E) (ev_mt E) (ev_c E) H locs k n (ev_Q E) (F0 (ev_m E) pc ls st)
/-- the end of a method that makes nothing -/
def CQ (D : va_G) (post : Option Value → va_W → Prop) (w0 : va_W) (sz : Nat) : Array Value → State → Outcome → State → Prop := fun _ st oc t => (∃ r w1, oc = .returned r ∧ post r w1 ∧ w1.map (·.1) = w0.map (·.1) ∧ va_P D vwCl w1 t.heap) ∧ va_F (va_A w0 sz) st t
def CB (D : va_G) (cI : ClassId) (ws : va_W) (sz : Nat) (U : State) : Prop := U.heap.size = sz ∧ va_P D vwCl ws U.heap ∧ va_K D vwCl [(cI, .int)] U ∧ vnk U ∧ va_D (fun _ => True) ws
def CT (l : Launch) (y : MethodName) (b : ByteArray) (nL : Nat) (ret : Option FieldType) (rm : Room) (D : va_G) (cI : ClassId) (av : List Value) (ws : va_W) (post : Option Value → va_W → Prop) : Prop :=
  ∀ sz, Met l y (mw y b nL ret) rm (va_Pc av (CB D cI ws sz)) (CQ D post ws sz) 0 0 (va_A ws sz)
def RT (E : EV) (post : Option Value → va_W → Prop) (w0 : va_W) : Prop :=
  ev_Q E = MQ (ev_b E) (CQ (ev_D E) post w0 (ev_s E).heap.size) (ev_a E) (ev_s E) 0 0 (va_A w0 (ev_s E).heap.size) ∧ ev_A E = va_A w0 (ev_s E).heap.size
theorem CT_of {l : Launch} {y : MethodName} {b : ByteArray} {nL : Nat} {ret : Option FieldType} {rm : Room} {D : va_G} {cI : ClassId} {av : List Value} {ws : va_W} {post : Option Value → va_W → Prop} (own : String) (hown : y.cls = own) (hy : plainName y.cls = true) (hlen : (lg_sl av).length ≤ nL)
    (body : ∀ E : EV, ev_n E = nL → CX E b own ret cI rm → RT E post ws → VV E 0 0 0 (lv_args 0 av) [] ws) : CT l y b nL ret rm D cI av ws post := by
  intro sz
  refine Met.ofW (cc := b) (maxL := nL) (ret := ret) hy rfl ?_
  intro p e s m args below meth c s₁ B hml hv
  obtain ⟨rfl, hsz, hP, hK, hN, hD0⟩ := hv
  subst hsz
  have hts := atoms_spec (ws := mw y b nL ret) B.pre
  have h := body (p, l, e, rm, s, m, av.toArray, below, meth, c, nL, D, va_A ws s.heap.size, MQ below (CQ D post ws s.heap.size) av.toArray s 0 0 (va_A ws s.heap.size)) rfl
    ⟨B.exec, B.bytes, hml, by rw [← hown]; exact findClass_of_methodNamed B.named, fun w hw => hts w (List.mem_cons_of_mem _ hw), hN, hK, B.returns, B.notSynchronized, rfl⟩ ⟨rfl, rfl⟩
  have hl := lv_entry av (n := nL) hlen
  rw [lg_entry_eq]
  exact h s.heap [] _ hP hD0.self va_S.rf hl
theorem v_ic {E : EV} {cc : ByteArray} {own : String} {ret : Option FieldType} {cI : ClassId} {rm : Room} {k n pc : Nat} {lv : List (Nat × Value)} {st : List Value} {ws : va_W} {i : Int} {v : Int32} (q : Nat) (C : CX E cc own ret cI rm) (hd : decode cc pc = .ok (.iconst i, 1)) (hv : Int32.ofInt i = v) (kk : VV E k n q lv (.int v :: st) ws) (hq : pc + 1 = q := by rfl) : VV E k n pc lv (st) ws := by
  subst hq
  intro H locs ls hP hD hS hl
  exact lv_iconst C.1 C.2.1 hd hv (kk H locs ls hP hD hS hl)
theorem v_bp {E : EV} {cc : ByteArray} {own : String} {ret : Option FieldType} {cI : ClassId} {rm : Room} {k n pc : Nat} {lv : List (Nat × Value)} {st : List Value} {ws : va_W} {i : Int} {v : Int32} (q : Nat) (C : CX E cc own ret cI rm) (hd : decode cc pc = .ok (.bipush i, 2)) (hv : (Int8.ofInt i).toInt32 = v) (kk : VV E k n q lv (.int v :: st) ws) (hq : pc + 2 = q := by rfl) : VV E k n pc lv (st) ws := by
  subst hq
  intro H locs ls hP hD hS hl
  exact lv_bipush C.1 C.2.1 hd hv (kk H locs ls hP hD hS hl)
theorem v_sp {E : EV} {cc : ByteArray} {own : String} {ret : Option FieldType} {cI : ClassId} {rm : Room} {k n pc : Nat} {lv : List (Nat × Value)} {st : List Value} {ws : va_W} {i : Int} {v : Int32} (q : Nat) (C : CX E cc own ret cI rm) (hd : decode cc pc = .ok (.sipush i, 3)) (hv : (Int16.ofInt i).toInt32 = v) (kk : VV E k n q lv (.int v :: st) ws) (hq : pc + 3 = q := by rfl) : VV E k n pc lv (st) ws := by
  subst hq
  intro H locs ls hP hD hS hl
  exact lv_sipush C.1 C.2.1 hd hv (kk H locs ls hP hD hS hl)
theorem v_lc {E : EV} {cc : ByteArray} {own : String} {ret : Option FieldType} {cI : ClassId} {rm : Room} {k n pc : Nat} {lv : List (Nat × Value)} {st : List Value} {ws : va_W} {i : Fin 2} {v : Int64} (q : Nat) (C : CX E cc own ret cI rm) (hd : decode cc pc = .ok (.lconst i, 1)) (hv : Int64.ofNat (i : Nat) = v) (kk : VV E k n q lv (.long v :: st) ws) (hq : pc + 1 = q := by rfl) : VV E k n pc lv (st) ws := by
  subst hq
  intro H locs ls hP hD hS hl
  exact lv_lconst C.1 C.2.1 hd hv (kk H locs ls hP hD hS hl)
theorem v_il {E : EV} {cc : ByteArray} {own : String} {ret : Option FieldType} {cI : ClassId} {rm : Room} {k n pc : Nat} {lv : List (Nat × Value)} {st : List Value} {ws : va_W} {i : Nat} {x : Int32} (q : Nat) (C : CX E cc own ret cI rm) (hd : decode cc pc = .ok (.iload i, 2)) (j : Nat) (hj : lv[j]? = some (i, .int x)) (kk : VV E k n q lv (.int x :: st) ws) (hq : pc + 2 = q := by rfl) : VV E k n pc lv (st) ws := by
  subst hq
  intro H locs ls hP hD hS hl
  exact lv_iload C.1 C.2.1 hd (lv_at hl j hj) (kk H locs ls hP hD hS hl)
theorem v_il_n {E : EV} {cc : ByteArray} {own : String} {ret : Option FieldType} {cI : ClassId} {rm : Room} {k n pc : Nat} {lv : List (Nat × Value)} {st : List Value} {ws : va_W} {f : Fin 4} {x : Int32} (q : Nat) (C : CX E cc own ret cI rm) (hd : decode cc pc = .ok (.iload_n f, 1)) (j : Nat) (hj : lv[j]? = some ((f : Nat), .int x)) (kk : VV E k n q lv (.int x :: st) ws) (hq : pc + 1 = q := by rfl) : VV E k n pc lv (st) ws := by
  subst hq
  intro H locs ls hP hD hS hl
  exact lv_iload_n C.1 C.2.1 hd rfl (lv_at hl j hj) (kk H locs ls hP hD hS hl)
theorem v_ll {E : EV} {cc : ByteArray} {own : String} {ret : Option FieldType} {cI : ClassId} {rm : Room} {k n pc : Nat} {lv : List (Nat × Value)} {st : List Value} {ws : va_W} {i : Nat} {x : Int64} (q : Nat) (C : CX E cc own ret cI rm) (hd : decode cc pc = .ok (.lload i, 2)) (j : Nat) (hj : lv[j]? = some (i, .long x)) (kk : VV E k n q lv (.long x :: st) ws) (hq : pc + 2 = q := by rfl) : VV E k n pc lv (st) ws := by
  subst hq
  intro H locs ls hP hD hS hl
  exact lv_lload C.1 C.2.1 hd (lv_at hl j hj) (kk H locs ls hP hD hS hl)
theorem v_ll_n {E : EV} {cc : ByteArray} {own : String} {ret : Option FieldType} {cI : ClassId} {rm : Room} {k n pc : Nat} {lv : List (Nat × Value)} {st : List Value} {ws : va_W} {f : Fin 4} {x : Int64} (q : Nat) (C : CX E cc own ret cI rm) (hd : decode cc pc = .ok (.lload_n f, 1)) (j : Nat) (hj : lv[j]? = some ((f : Nat), .long x)) (kk : VV E k n q lv (.long x :: st) ws) (hq : pc + 1 = q := by rfl) : VV E k n pc lv (st) ws := by
  subst hq
  intro H locs ls hP hD hS hl
  exact lv_lload_n C.1 C.2.1 hd rfl (lv_at hl j hj) (kk H locs ls hP hD hS hl)
theorem v_al {E : EV} {cc : ByteArray} {own : String} {ret : Option FieldType} {cI : ClassId} {rm : Room} {k n pc : Nat} {lv : List (Nat × Value)} {st : List Value} {ws : va_W} {i x : Nat} (q : Nat) (C : CX E cc own ret cI rm) (hd : decode cc pc = .ok (.aload i, 2)) (j : Nat) (hj : lv[j]? = some (i, .ref x)) (kk : VV E k n q lv (.ref x :: st) ws) (hq : pc + 2 = q := by rfl) : VV E k n pc lv (st) ws := by
  subst hq
  intro H locs ls hP hD hS hl
  exact lv_aload C.1 C.2.1 hd (lv_at hl j hj) (kk H locs ls hP hD hS hl)
theorem v_al_n {E : EV} {cc : ByteArray} {own : String} {ret : Option FieldType} {cI : ClassId} {rm : Room} {k n pc : Nat} {lv : List (Nat × Value)} {st : List Value} {ws : va_W} {f : Fin 4} {x : Nat} (q : Nat) (C : CX E cc own ret cI rm) (hd : decode cc pc = .ok (.aload_n f, 1)) (j : Nat) (hj : lv[j]? = some ((f : Nat), .ref x)) (kk : VV E k n q lv (.ref x :: st) ws) (hq : pc + 1 = q := by rfl) : VV E k n pc lv (st) ws := by
  subst hq
  intro H locs ls hP hD hS hl
  exact lv_aload_n C.1 C.2.1 hd rfl (lv_at hl j hj) (kk H locs ls hP hD hS hl)
theorem v_is {E : EV} {cc : ByteArray} {own : String} {ret : Option FieldType} {cI : ClassId} {rm : Room} {k n pc : Nat} {lv : List (Nat × Value)} {st : List Value} {ws : va_W} {i : Nat} {x : Int32} {lv2 : List (Nat × Value)} (q : Nat) (C : CX E cc own ret cI rm) (hd : decode cc pc = .ok (.istore i, 2)) (hn : i < ev_n E) (he : (i, Value.int x) :: lv.filter (fun q => !(q.1 == i) && !(q.1 + 1 == i && q.2.category == 2)) = lv2) (kk : VV E k n q lv2 (st) ws) (hq : pc + 2 = q := by rfl) : VV E k n pc lv (Value.int x :: st) ws := by
  subst hq
  intro H locs ls hP hD hS hl
  exact lv_istore C.1 C.2.1 hd hl hn he (fun ls hl => kk H locs ls hP hD hS hl)
theorem v_is_n {E : EV} {cc : ByteArray} {own : String} {ret : Option FieldType} {cI : ClassId} {rm : Room} {k n pc : Nat} {lv : List (Nat × Value)} {st : List Value} {ws : va_W} {f : Fin 4} {x : Int32} {lv2 : List (Nat × Value)} (q : Nat) (C : CX E cc own ret cI rm) (hd : decode cc pc = .ok (.istore_n f, 1)) (hn : (f : Nat) < ev_n E) (he : ((f : Nat), Value.int x) :: lv.filter (fun q => !(q.1 == (f : Nat)) && !(q.1 + 1 == (f : Nat) && q.2.category == 2)) = lv2) (kk : VV E k n q lv2 (st) ws) (hq : pc + 1 = q := by rfl) : VV E k n pc lv (Value.int x :: st) ws := by
  subst hq
  intro H locs ls hP hD hS hl
  exact lv_istore_n C.1 C.2.1 hd rfl hl hn he (fun ls hl => kk H locs ls hP hD hS hl)
theorem v_as {E : EV} {cc : ByteArray} {own : String} {ret : Option FieldType} {cI : ClassId} {rm : Room} {k n pc : Nat} {lv : List (Nat × Value)} {st : List Value} {ws : va_W} {i : Nat} {x : Nat} {lv2 : List (Nat × Value)} (q : Nat) (C : CX E cc own ret cI rm) (hd : decode cc pc = .ok (.astore i, 2)) (hn : i < ev_n E) (he : (i, Value.ref x) :: lv.filter (fun q => !(q.1 == i) && !(q.1 + 1 == i && q.2.category == 2)) = lv2) (kk : VV E k n q lv2 (st) ws) (hq : pc + 2 = q := by rfl) : VV E k n pc lv (Value.ref x :: st) ws := by
  subst hq
  intro H locs ls hP hD hS hl
  exact lv_astore C.1 C.2.1 hd hl hn he (fun ls hl => kk H locs ls hP hD hS hl)
theorem v_as_n {E : EV} {cc : ByteArray} {own : String} {ret : Option FieldType} {cI : ClassId} {rm : Room} {k n pc : Nat} {lv : List (Nat × Value)} {st : List Value} {ws : va_W} {f : Fin 4} {x : Nat} {lv2 : List (Nat × Value)} (q : Nat) (C : CX E cc own ret cI rm) (hd : decode cc pc = .ok (.astore_n f, 1)) (hn : (f : Nat) < ev_n E) (he : ((f : Nat), Value.ref x) :: lv.filter (fun q => !(q.1 == (f : Nat)) && !(q.1 + 1 == (f : Nat) && q.2.category == 2)) = lv2) (kk : VV E k n q lv2 (st) ws) (hq : pc + 1 = q := by rfl) : VV E k n pc lv (Value.ref x :: st) ws := by
  subst hq
  intro H locs ls hP hD hS hl
  exact lv_astore_n C.1 C.2.1 hd rfl hl hn he (fun ls hl => kk H locs ls hP hD hS hl)
theorem v_ls {E : EV} {cc : ByteArray} {own : String} {ret : Option FieldType} {cI : ClassId} {rm : Room} {k n pc : Nat} {lv : List (Nat × Value)} {st : List Value} {ws : va_W} {i : Nat} {x : Int64} {lv2 : List (Nat × Value)} (q : Nat) (C : CX E cc own ret cI rm) (hd : decode cc pc = .ok (.lstore i, 2)) (hn : i + 1 < ev_n E) (he : (i, Value.long x) :: lv.filter (fun q => !(q.1 == i) && (!(q.1 == i + 1) && !(q.1 + 1 == i && q.2.category == 2))) = lv2) (kk : VV E k n q lv2 (st) ws) (hq : pc + 2 = q := by rfl) : VV E k n pc lv (Value.long x :: st) ws := by
  subst hq
  intro H locs ls hP hD hS hl
  exact lv_lstore C.1 C.2.1 hd hl hn he (fun ls hl => kk H locs ls hP hD hS hl)
theorem v_ls_n {E : EV} {cc : ByteArray} {own : String} {ret : Option FieldType} {cI : ClassId} {rm : Room} {k n pc : Nat} {lv : List (Nat × Value)} {st : List Value} {ws : va_W} {f : Fin 4} {x : Int64} {lv2 : List (Nat × Value)} (q : Nat) (C : CX E cc own ret cI rm) (hd : decode cc pc = .ok (.lstore_n f, 1)) (hn : (f : Nat) + 1 < ev_n E) (he : ((f : Nat), Value.long x) :: lv.filter (fun q => !(q.1 == (f : Nat)) && (!(q.1 == (f : Nat) + 1) && !(q.1 + 1 == (f : Nat) && q.2.category == 2))) = lv2) (kk : VV E k n q lv2 (st) ws) (hq : pc + 1 = q := by rfl) : VV E k n pc lv (Value.long x :: st) ws := by
  subst hq
  intro H locs ls hP hD hS hl
  exact lv_lstore_n C.1 C.2.1 hd rfl hl hn he (fun ls hl => kk H locs ls hP hD hS hl)
theorem v_inc {E : EV} {cc : ByteArray} {own : String} {ret : Option FieldType} {cI : ClassId} {rm : Room} {k n pc : Nat} {lv : List (Nat × Value)} {st : List Value} {ws : va_W} {i j : Nat} {c : Int} {x v : Int32} {lv2 : List (Nat × Value)} (q : Nat) (C : CX E cc own ret cI rm) (hd : decode cc pc = .ok (.iinc i c, 3)) (hj : lv[j]? = some (i, .int x)) (hv : x + Int32.ofInt c = v) (hn : i < ev_n E) (he : (i, Value.int v) :: lv.filter (fun q => !(q.1 == i) && !(q.1 + 1 == i && q.2.category == 2)) = lv2) (kk : VV E k n q lv2 (st) ws) (hq : pc + 3 = q := by rfl) : VV E k n pc lv (st) ws := by
  subst hq
  intro H locs ls hP hD hS hl
  exact lv_iinc C.1 C.2.1 hd hl hj hv hn he (fun ls hl => kk H locs ls hP hD hS hl)
theorem v_iadd {E : EV} {cc : ByteArray} {own : String} {ret : Option FieldType} {cI : ClassId} {rm : Room} {k n pc : Nat} {lv : List (Nat × Value)} {st : List Value} {ws : va_W} {x y v : Int32} (q : Nat) (C : CX E cc own ret cI rm) (hd : decode cc pc = .ok (.iadd, 1)) (hv : x + y = v) (kk : VV E k n q lv (.int v :: st) ws) (hq : pc + 1 = q := by rfl) : VV E k n pc lv (.int y :: .int x :: st) ws := by
  subst hq
  intro H locs ls hP hD hS hl
  exact (by subst hv; exact lv_iadd C.1 C.2.1 hd (kk H locs ls hP hD hS hl))
theorem v_isub {E : EV} {cc : ByteArray} {own : String} {ret : Option FieldType} {cI : ClassId} {rm : Room} {k n pc : Nat} {lv : List (Nat × Value)} {st : List Value} {ws : va_W} {x y v : Int32} (q : Nat) (C : CX E cc own ret cI rm) (hd : decode cc pc = .ok (.isub, 1)) (hv : x - y = v) (kk : VV E k n q lv (.int v :: st) ws) (hq : pc + 1 = q := by rfl) : VV E k n pc lv (.int y :: .int x :: st) ws := by
  subst hq
  intro H locs ls hP hD hS hl
  exact (by subst hv; exact lv_isub C.1 C.2.1 hd (kk H locs ls hP hD hS hl))
theorem v_imul {E : EV} {cc : ByteArray} {own : String} {ret : Option FieldType} {cI : ClassId} {rm : Room} {k n pc : Nat} {lv : List (Nat × Value)} {st : List Value} {ws : va_W} {x y v : Int32} (q : Nat) (C : CX E cc own ret cI rm) (hd : decode cc pc = .ok (.imul, 1)) (hv : x * y = v) (kk : VV E k n q lv (.int v :: st) ws) (hq : pc + 1 = q := by rfl) : VV E k n pc lv (.int y :: .int x :: st) ws := by
  subst hq
  intro H locs ls hP hD hS hl
  exact (by subst hv; exact lv_imul C.1 C.2.1 hd (kk H locs ls hP hD hS hl))
theorem v_iand {E : EV} {cc : ByteArray} {own : String} {ret : Option FieldType} {cI : ClassId} {rm : Room} {k n pc : Nat} {lv : List (Nat × Value)} {st : List Value} {ws : va_W} {x y v : Int32} (q : Nat) (C : CX E cc own ret cI rm) (hd : decode cc pc = .ok (.iand, 1)) (hv : x &&& y = v) (kk : VV E k n q lv (.int v :: st) ws) (hq : pc + 1 = q := by rfl) : VV E k n pc lv (.int y :: .int x :: st) ws := by
  subst hq
  intro H locs ls hP hD hS hl
  exact (by subst hv; exact lv_iand C.1 C.2.1 hd (kk H locs ls hP hD hS hl))
theorem v_ior {E : EV} {cc : ByteArray} {own : String} {ret : Option FieldType} {cI : ClassId} {rm : Room} {k n pc : Nat} {lv : List (Nat × Value)} {st : List Value} {ws : va_W} {x y v : Int32} (q : Nat) (C : CX E cc own ret cI rm) (hd : decode cc pc = .ok (.ior, 1)) (hv : x ||| y = v) (kk : VV E k n q lv (.int v :: st) ws) (hq : pc + 1 = q := by rfl) : VV E k n pc lv (.int y :: .int x :: st) ws := by
  subst hq
  intro H locs ls hP hD hS hl
  exact (by subst hv; exact lv_ior C.1 C.2.1 hd (kk H locs ls hP hD hS hl))
theorem v_ixor {E : EV} {cc : ByteArray} {own : String} {ret : Option FieldType} {cI : ClassId} {rm : Room} {k n pc : Nat} {lv : List (Nat × Value)} {st : List Value} {ws : va_W} {x y v : Int32} (q : Nat) (C : CX E cc own ret cI rm) (hd : decode cc pc = .ok (.ixor, 1)) (hv : x ^^^ y = v) (kk : VV E k n q lv (.int v :: st) ws) (hq : pc + 1 = q := by rfl) : VV E k n pc lv (.int y :: .int x :: st) ws := by
  subst hq
  intro H locs ls hP hD hS hl
  exact (by subst hv; exact lv_ixor C.1 C.2.1 hd (kk H locs ls hP hD hS hl))
theorem v_idiv {E : EV} {cc : ByteArray} {own : String} {ret : Option FieldType} {cI : ClassId} {rm : Room} {k n pc : Nat} {lv : List (Nat × Value)} {st : List Value} {ws : va_W} {x y v : Int32} (q : Nat) (C : CX E cc own ret cI rm) (hd : decode cc pc = .ok (.idiv, 1)) (hne : ¬ y = 0) (hv : x / y = v) (kk : VV E k n q lv (.int v :: st) ws) (hq : pc + 1 = q := by rfl) : VV E k n pc lv (.int y :: .int x :: st) ws := by
  subst hq
  intro H locs ls hP hD hS hl
  exact (by subst hv; exact lv_idiv C.1 C.2.1 hd hne (kk H locs ls hP hD hS hl))
theorem v_irem {E : EV} {cc : ByteArray} {own : String} {ret : Option FieldType} {cI : ClassId} {rm : Room} {k n pc : Nat} {lv : List (Nat × Value)} {st : List Value} {ws : va_W} {x y v : Int32} (q : Nat) (C : CX E cc own ret cI rm) (hd : decode cc pc = .ok (.irem, 1)) (hne : ¬ y = 0) (hv : x - x / y * y = v) (kk : VV E k n q lv (.int v :: st) ws) (hq : pc + 1 = q := by rfl) : VV E k n pc lv (.int y :: .int x :: st) ws := by
  subst hq
  intro H locs ls hP hD hS hl
  exact (by subst hv; exact lv_irem C.1 C.2.1 hd hne (kk H locs ls hP hD hS hl))
theorem v_ldiv {E : EV} {cc : ByteArray} {own : String} {ret : Option FieldType} {cI : ClassId} {rm : Room} {k n pc : Nat} {lv : List (Nat × Value)} {st : List Value} {ws : va_W} {x y v : Int64} (q : Nat) (C : CX E cc own ret cI rm) (hd : decode cc pc = .ok (.ldiv, 1)) (hne : ¬ y = 0) (hv : x / y = v) (kk : VV E k n q lv (.long v :: st) ws) (hq : pc + 1 = q := by rfl) : VV E k n pc lv (.long y :: .long x :: st) ws := by
  subst hq
  intro H locs ls hP hD hS hl
  exact (by subst hv; exact lv_ldiv C.1 C.2.1 hd hne (kk H locs ls hP hD hS hl))
theorem v_lrem {E : EV} {cc : ByteArray} {own : String} {ret : Option FieldType} {cI : ClassId} {rm : Room} {k n pc : Nat} {lv : List (Nat × Value)} {st : List Value} {ws : va_W} {x y v : Int64} (q : Nat) (C : CX E cc own ret cI rm) (hd : decode cc pc = .ok (.lrem, 1)) (hne : ¬ y = 0) (hv : x - x / y * y = v) (kk : VV E k n q lv (.long v :: st) ws) (hq : pc + 1 = q := by rfl) : VV E k n pc lv (.long y :: .long x :: st) ws := by
  subst hq
  intro H locs ls hP hD hS hl
  exact (by subst hv; exact lv_lrem C.1 C.2.1 hd hne (kk H locs ls hP hD hS hl))
theorem v_ladd {E : EV} {cc : ByteArray} {own : String} {ret : Option FieldType} {cI : ClassId} {rm : Room} {k n pc : Nat} {lv : List (Nat × Value)} {st : List Value} {ws : va_W} {x y v : Int64} (q : Nat) (C : CX E cc own ret cI rm) (hd : decode cc pc = .ok (.ladd, 1)) (hv : x + y = v) (kk : VV E k n q lv (.long v :: st) ws) (hq : pc + 1 = q := by rfl) : VV E k n pc lv (.long y :: .long x :: st) ws := by
  subst hq
  intro H locs ls hP hD hS hl
  exact (by subst hv; exact lv_ladd C.1 C.2.1 hd (kk H locs ls hP hD hS hl))
theorem v_lsub {E : EV} {cc : ByteArray} {own : String} {ret : Option FieldType} {cI : ClassId} {rm : Room} {k n pc : Nat} {lv : List (Nat × Value)} {st : List Value} {ws : va_W} {x y v : Int64} (q : Nat) (C : CX E cc own ret cI rm) (hd : decode cc pc = .ok (.lsub, 1)) (hv : x - y = v) (kk : VV E k n q lv (.long v :: st) ws) (hq : pc + 1 = q := by rfl) : VV E k n pc lv (.long y :: .long x :: st) ws := by
  subst hq
  intro H locs ls hP hD hS hl
  exact (by subst hv; exact lv_lsub C.1 C.2.1 hd (kk H locs ls hP hD hS hl))
theorem v_lmul {E : EV} {cc : ByteArray} {own : String} {ret : Option FieldType} {cI : ClassId} {rm : Room} {k n pc : Nat} {lv : List (Nat × Value)} {st : List Value} {ws : va_W} {x y v : Int64} (q : Nat) (C : CX E cc own ret cI rm) (hd : decode cc pc = .ok (.lmul, 1)) (hv : x * y = v) (kk : VV E k n q lv (.long v :: st) ws) (hq : pc + 1 = q := by rfl) : VV E k n pc lv (.long y :: .long x :: st) ws := by
  subst hq
  intro H locs ls hP hD hS hl
  exact (by subst hv; exact lv_lmul C.1 C.2.1 hd (kk H locs ls hP hD hS hl))
theorem v_lcmp {E : EV} {cc : ByteArray} {own : String} {ret : Option FieldType} {cI : ClassId} {rm : Room} {k n pc : Nat} {lv : List (Nat × Value)} {st : List Value} {ws : va_W} {x y : Int64} (q : Nat) (C : CX E cc own ret cI rm) (hd : decode cc pc = .ok (.lcmp, 1))  (kk : VV E k n q lv (.int (lg_cmp x y) :: st) ws) (hq : pc + 1 = q := by rfl) : VV E k n pc lv (.long y :: .long x :: st) ws := by
  subst hq
  intro H locs ls hP hD hS hl
  exact W.lcmp C.1 C.2.1 hd (kk H locs ls hP hD hS hl)
theorem v_ineg {E : EV} {cc : ByteArray} {own : String} {ret : Option FieldType} {cI : ClassId} {rm : Room} {k n pc : Nat} {lv : List (Nat × Value)} {st : List Value} {ws : va_W} {x : Int32} (q : Nat) (C : CX E cc own ret cI rm) (hd : decode cc pc = .ok (.ineg, 1))  (kk : VV E k n q lv (.int (-x) :: st) ws) (hq : pc + 1 = q := by rfl) : VV E k n pc lv (.int x :: st) ws := by
  subst hq
  intro H locs ls hP hD hS hl
  exact lv_ineg C.1 C.2.1 hd (kk H locs ls hP hD hS hl)
theorem v_ishl {E : EV} {cc : ByteArray} {own : String} {ret : Option FieldType} {cI : ClassId} {rm : Room} {k n pc : Nat} {lv : List (Nat × Value)} {st : List Value} {ws : va_W} {x y v : Int32} (q : Nat) (C : CX E cc own ret cI rm) (hd : decode cc pc = .ok (.ishl, 1)) (hv : x <<< (y &&& 31) = v) (kk : VV E k n q lv (.int v :: st) ws) (hq : pc + 1 = q := by rfl) : VV E k n pc lv (.int y :: .int x :: st) ws := by
  subst hq
  intro H locs ls hP hD hS hl
  exact (by subst hv; exact lv_ishl C.1 C.2.1 hd (kk H locs ls hP hD hS hl))
theorem v_ishr {E : EV} {cc : ByteArray} {own : String} {ret : Option FieldType} {cI : ClassId} {rm : Room} {k n pc : Nat} {lv : List (Nat × Value)} {st : List Value} {ws : va_W} {x y v : Int32} (q : Nat) (C : CX E cc own ret cI rm) (hd : decode cc pc = .ok (.ishr, 1)) (hv : x >>> (y &&& 31) = v) (kk : VV E k n q lv (.int v :: st) ws) (hq : pc + 1 = q := by rfl) : VV E k n pc lv (.int y :: .int x :: st) ws := by
  subst hq
  intro H locs ls hP hD hS hl
  exact (by subst hv; exact lv_ishr C.1 C.2.1 hd (kk H locs ls hP hD hS hl))
theorem v_iushr {E : EV} {cc : ByteArray} {own : String} {ret : Option FieldType} {cI : ClassId} {rm : Room} {k n pc : Nat} {lv : List (Nat × Value)} {st : List Value} {ws : va_W} {x y v : Int32} (q : Nat) (C : CX E cc own ret cI rm) (hd : decode cc pc = .ok (.iushr, 1)) (hv : (x.toUInt32 >>> (y.toUInt32 &&& Int32.toUInt32 31)).toInt32 = v) (kk : VV E k n q lv (.int v :: st) ws) (hq : pc + 1 = q := by rfl) : VV E k n pc lv (.int y :: .int x :: st) ws := by
  subst hq
  intro H locs ls hP hD hS hl
  exact lv_iushr C.1 C.2.1 hd hv (kk H locs ls hP hD hS hl)
theorem v_i2l {E : EV} {cc : ByteArray} {own : String} {ret : Option FieldType} {cI : ClassId} {rm : Room} {k n pc : Nat} {lv : List (Nat × Value)} {st : List Value} {ws : va_W} {x : Int32} {v : Int64} (q : Nat) (C : CX E cc own ret cI rm) (hd : decode cc pc = .ok (.i2l, 1)) (hv : x.toInt64 = v) (kk : VV E k n q lv (.long v :: st) ws) (hq : pc + 1 = q := by rfl) : VV E k n pc lv (.int x :: st) ws := by
  subst hq
  intro H locs ls hP hD hS hl
  exact lv_i2l C.1 C.2.1 hd hv (kk H locs ls hP hD hS hl)
theorem v_l2i {E : EV} {cc : ByteArray} {own : String} {ret : Option FieldType} {cI : ClassId} {rm : Room} {k n pc : Nat} {lv : List (Nat × Value)} {st : List Value} {ws : va_W} {x : Int64} {v : Int32} (q : Nat) (C : CX E cc own ret cI rm) (hd : decode cc pc = .ok (.l2i, 1)) (hv : x.toInt32 = v) (kk : VV E k n q lv (.int v :: st) ws) (hq : pc + 1 = q := by rfl) : VV E k n pc lv (.long x :: st) ws := by
  subst hq
  intro H locs ls hP hD hS hl
  exact lv_l2i C.1 C.2.1 hd hv (kk H locs ls hP hD hS hl)
theorem v_dup {E : EV} {cc : ByteArray} {own : String} {ret : Option FieldType} {cI : ClassId} {rm : Room} {k n pc : Nat} {lv : List (Nat × Value)} {st : List Value} {ws : va_W} {v : Value} (q : Nat) (C : CX E cc own ret cI rm) (hd : decode cc pc = .ok (.dup, 1)) (hc : v.category = 1) (kk : VV E k n q lv (v :: v :: st) ws) (hq : pc + 1 = q := by rfl) : VV E k n pc lv (v :: st) ws := by
  subst hq
  intro H locs ls hP hD hS hl
  exact lv_dup C.1 C.2.1 hd hc (kk H locs ls hP hD hS hl)
theorem v_pop {E : EV} {cc : ByteArray} {own : String} {ret : Option FieldType} {cI : ClassId} {rm : Room} {k n pc : Nat} {lv : List (Nat × Value)} {st : List Value} {ws : va_W} {v : Value} (q : Nat) (C : CX E cc own ret cI rm) (hd : decode cc pc = .ok (.pop, 1)) (hc : v.category = 1) (kk : VV E k n q lv (st) ws) (hq : pc + 1 = q := by rfl) : VV E k n pc lv (v :: st) ws := by
  subst hq
  intro H locs ls hP hD hS hl
  exact lv_pop C.1 C.2.1 hd hc (kk H locs ls hP hD hS hl)
theorem v_dup2 {E : EV} {cc : ByteArray} {own : String} {ret : Option FieldType} {cI : ClassId} {rm : Room} {k n pc : Nat} {lv : List (Nat × Value)} {st : List Value} {ws : va_W} {v w : Value} (q : Nat) (C : CX E cc own ret cI rm) (hd : decode cc pc = .ok (.dup2, 1)) (hc : v.category = 1) (hc2 : w.category = 1) (kk : VV E k n q lv (v :: w :: v :: w :: st) ws) (hq : pc + 1 = q := by rfl) : VV E k n pc lv (v :: w :: st) ws := by
  subst hq
  intro H locs ls hP hD hS hl
  exact lv_dup2_11 C.1 C.2.1 hd hc hc2 (kk H locs ls hP hD hS hl)
theorem v_ldc {E : EV} {cc : ByteArray} {own : String} {ret : Option FieldType} {cI : ClassId} {rm : Room} {k n pc : Nat} {lv : List (Nat × Value)} {st : List Value} {ws : va_W} {i : Nat} {v : Int32} (q : Nat) (C : CX E cc own ret cI rm) (hd : decode cc pc = .ok (.ldc i, 2)) (hw : Cond.constant own i v ∈ gw) (kk : VV E k n q lv (.int v :: st) ws) (hq : pc + 2 = q := by rfl) : VV E k n pc lv (st) ws := by
  subst hq
  intro H locs ls hP hD hS hl
  exact lv_ldc C.1 C.2.1 C.2.2.2.1 (C.2.2.2.2.1 _ hw) hd (kk H locs ls hP hD hS hl)
theorem v_ldcw {E : EV} {cc : ByteArray} {own : String} {ret : Option FieldType} {cI : ClassId} {rm : Room} {k n pc : Nat} {lv : List (Nat × Value)} {st : List Value} {ws : va_W} {i : Nat} {v : Int32} (q : Nat) (C : CX E cc own ret cI rm) (hd : decode cc pc = .ok (.ldc_w i, 3)) (hw : Cond.constant own i v ∈ gw) (kk : VV E k n q lv (.int v :: st) ws) (hq : pc + 3 = q := by rfl) : VV E k n pc lv (st) ws := by
  subst hq
  intro H locs ls hP hD hS hl
  exact lv_ldcw C.1 C.2.1 C.2.2.2.1 (C.2.2.2.2.1 _ hw) hd (kk H locs ls hP hD hS hl)
theorem v_ldc2 {E : EV} {cc : ByteArray} {own : String} {ret : Option FieldType} {cI : ClassId} {rm : Room} {k n pc : Nat} {lv : List (Nat × Value)} {st : List Value} {ws : va_W} {i : Nat} {v : Int64} (q : Nat) (C : CX E cc own ret cI rm) (hd : decode cc pc = .ok (.ldc2_w i, 3)) (hw : Cond.constantLong own i v ∈ gw) (kk : VV E k n q lv (.long v :: st) ws) (hq : pc + 3 = q := by rfl) : VV E k n pc lv (st) ws := by
  subst hq
  intro H locs ls hP hD hS hl
  exact lv_ldc2 C.1 C.2.1 C.2.2.2.1 (C.2.2.2.2.1 _ hw) hd (kk H locs ls hP hD hS hl)
-- if_eq: x = 0 | ¬ x = 0
theorem v_if_eq {E : EV} {cc : ByteArray} {own : String} {ret : Option FieldType} {cI : ClassId} {rm : Room} {k n pc : Nat} {lv : List (Nat × Value)} {st : List Value} {ws : va_W} {x : Int32} {off : Int} (t q : Nat) (C : CX E cc own ret cI rm) (hd : decode cc pc = .ok (.ifCond .eq off, 3)) (kt : x = 0 → VV E k n t lv st ws) (kf : ¬ x = 0 → VV E k n q lv st ws) (ht : (pc : Int) + off = (t : Int) := by rfl) (hq : pc + 3 = q := by rfl) : VV E k n pc lv (.int x :: st) ws := by
  subst hq
  intro H locs ls hP hD hS hl
  exact lv_if_eq C.1 C.2.1 hd ht (fun c => kt c H locs ls hP hD hS hl) (fun c => kf c H locs ls hP hD hS hl)
-- icmp_eq: x = y | ¬ x = y
theorem v_icmp_eq {E : EV} {cc : ByteArray} {own : String} {ret : Option FieldType} {cI : ClassId} {rm : Room} {k n pc : Nat} {lv : List (Nat × Value)} {st : List Value} {ws : va_W} {x y : Int32} {off : Int} (t q : Nat) (C : CX E cc own ret cI rm) (hd : decode cc pc = .ok (.if_icmp .eq off, 3)) (kt : x = y → VV E k n t lv st ws) (kf : ¬ x = y → VV E k n q lv st ws) (ht : (pc : Int) + off = (t : Int) := by rfl) (hq : pc + 3 = q := by rfl) : VV E k n pc lv (.int y :: .int x :: st) ws := by
  subst hq
  intro H locs ls hP hD hS hl
  exact lv_icmp_eq C.1 C.2.1 hd ht (fun c => kt c H locs ls hP hD hS hl) (fun c => kf c H locs ls hP hD hS hl)
-- if_ne: ¬ x = 0 | x = 0
theorem v_if_ne {E : EV} {cc : ByteArray} {own : String} {ret : Option FieldType} {cI : ClassId} {rm : Room} {k n pc : Nat} {lv : List (Nat × Value)} {st : List Value} {ws : va_W} {x : Int32} {off : Int} (t q : Nat) (C : CX E cc own ret cI rm) (hd : decode cc pc = .ok (.ifCond .ne off, 3)) (kt : ¬ x = 0 → VV E k n t lv st ws) (kf : x = 0 → VV E k n q lv st ws) (ht : (pc : Int) + off = (t : Int) := by rfl) (hq : pc + 3 = q := by rfl) : VV E k n pc lv (.int x :: st) ws := by
  subst hq
  intro H locs ls hP hD hS hl
  exact lv_if_ne C.1 C.2.1 hd ht (fun c => kt c H locs ls hP hD hS hl) (fun c => kf c H locs ls hP hD hS hl)
-- icmp_ne: ¬ x = y | x = y
theorem v_icmp_ne {E : EV} {cc : ByteArray} {own : String} {ret : Option FieldType} {cI : ClassId} {rm : Room} {k n pc : Nat} {lv : List (Nat × Value)} {st : List Value} {ws : va_W} {x y : Int32} {off : Int} (t q : Nat) (C : CX E cc own ret cI rm) (hd : decode cc pc = .ok (.if_icmp .ne off, 3)) (kt : ¬ x = y → VV E k n t lv st ws) (kf : x = y → VV E k n q lv st ws) (ht : (pc : Int) + off = (t : Int) := by rfl) (hq : pc + 3 = q := by rfl) : VV E k n pc lv (.int y :: .int x :: st) ws := by
  subst hq
  intro H locs ls hP hD hS hl
  exact lv_icmp_ne C.1 C.2.1 hd ht (fun c => kt c H locs ls hP hD hS hl) (fun c => kf c H locs ls hP hD hS hl)
-- if_lt: x < 0 | ¬ x < 0
theorem v_if_lt {E : EV} {cc : ByteArray} {own : String} {ret : Option FieldType} {cI : ClassId} {rm : Room} {k n pc : Nat} {lv : List (Nat × Value)} {st : List Value} {ws : va_W} {x : Int32} {off : Int} (t q : Nat) (C : CX E cc own ret cI rm) (hd : decode cc pc = .ok (.ifCond .lt off, 3)) (kt : x < 0 → VV E k n t lv st ws) (kf : ¬ x < 0 → VV E k n q lv st ws) (ht : (pc : Int) + off = (t : Int) := by rfl) (hq : pc + 3 = q := by rfl) : VV E k n pc lv (.int x :: st) ws := by
  subst hq
  intro H locs ls hP hD hS hl
  exact lv_if_lt C.1 C.2.1 hd ht (fun c => kt c H locs ls hP hD hS hl) (fun c => kf c H locs ls hP hD hS hl)
-- icmp_lt: x < y | ¬ x < y
theorem v_icmp_lt {E : EV} {cc : ByteArray} {own : String} {ret : Option FieldType} {cI : ClassId} {rm : Room} {k n pc : Nat} {lv : List (Nat × Value)} {st : List Value} {ws : va_W} {x y : Int32} {off : Int} (t q : Nat) (C : CX E cc own ret cI rm) (hd : decode cc pc = .ok (.if_icmp .lt off, 3)) (kt : x < y → VV E k n t lv st ws) (kf : ¬ x < y → VV E k n q lv st ws) (ht : (pc : Int) + off = (t : Int) := by rfl) (hq : pc + 3 = q := by rfl) : VV E k n pc lv (.int y :: .int x :: st) ws := by
  subst hq
  intro H locs ls hP hD hS hl
  exact lv_icmp_lt C.1 C.2.1 hd ht (fun c => kt c H locs ls hP hD hS hl) (fun c => kf c H locs ls hP hD hS hl)
-- if_ge: 0 ≤ x | ¬ 0 ≤ x
theorem v_if_ge {E : EV} {cc : ByteArray} {own : String} {ret : Option FieldType} {cI : ClassId} {rm : Room} {k n pc : Nat} {lv : List (Nat × Value)} {st : List Value} {ws : va_W} {x : Int32} {off : Int} (t q : Nat) (C : CX E cc own ret cI rm) (hd : decode cc pc = .ok (.ifCond .ge off, 3)) (kt : 0 ≤ x → VV E k n t lv st ws) (kf : ¬ 0 ≤ x → VV E k n q lv st ws) (ht : (pc : Int) + off = (t : Int) := by rfl) (hq : pc + 3 = q := by rfl) : VV E k n pc lv (.int x :: st) ws := by
  subst hq
  intro H locs ls hP hD hS hl
  exact lv_if_ge C.1 C.2.1 hd ht (fun c => kt c H locs ls hP hD hS hl) (fun c => kf c H locs ls hP hD hS hl)
-- icmp_ge: y ≤ x | ¬ y ≤ x
theorem v_icmp_ge {E : EV} {cc : ByteArray} {own : String} {ret : Option FieldType} {cI : ClassId} {rm : Room} {k n pc : Nat} {lv : List (Nat × Value)} {st : List Value} {ws : va_W} {x y : Int32} {off : Int} (t q : Nat) (C : CX E cc own ret cI rm) (hd : decode cc pc = .ok (.if_icmp .ge off, 3)) (kt : y ≤ x → VV E k n t lv st ws) (kf : ¬ y ≤ x → VV E k n q lv st ws) (ht : (pc : Int) + off = (t : Int) := by rfl) (hq : pc + 3 = q := by rfl) : VV E k n pc lv (.int y :: .int x :: st) ws := by
  subst hq
  intro H locs ls hP hD hS hl
  exact lv_icmp_ge C.1 C.2.1 hd ht (fun c => kt c H locs ls hP hD hS hl) (fun c => kf c H locs ls hP hD hS hl)
-- if_gt: 0 < x | ¬ 0 < x
theorem v_if_gt {E : EV} {cc : ByteArray} {own : String} {ret : Option FieldType} {cI : ClassId} {rm : Room} {k n pc : Nat} {lv : List (Nat × Value)} {st : List Value} {ws : va_W} {x : Int32} {off : Int} (t q : Nat) (C : CX E cc own ret cI rm) (hd : decode cc pc = .ok (.ifCond .gt off, 3)) (kt : 0 < x → VV E k n t lv st ws) (kf : ¬ 0 < x → VV E k n q lv st ws) (ht : (pc : Int) + off = (t : Int) := by rfl) (hq : pc + 3 = q := by rfl) : VV E k n pc lv (.int x :: st) ws := by
  subst hq
  intro H locs ls hP hD hS hl
  exact lv_if_gt C.1 C.2.1 hd ht (fun c => kt c H locs ls hP hD hS hl) (fun c => kf c H locs ls hP hD hS hl)
-- icmp_gt: y < x | ¬ y < x
theorem v_icmp_gt {E : EV} {cc : ByteArray} {own : String} {ret : Option FieldType} {cI : ClassId} {rm : Room} {k n pc : Nat} {lv : List (Nat × Value)} {st : List Value} {ws : va_W} {x y : Int32} {off : Int} (t q : Nat) (C : CX E cc own ret cI rm) (hd : decode cc pc = .ok (.if_icmp .gt off, 3)) (kt : y < x → VV E k n t lv st ws) (kf : ¬ y < x → VV E k n q lv st ws) (ht : (pc : Int) + off = (t : Int) := by rfl) (hq : pc + 3 = q := by rfl) : VV E k n pc lv (.int y :: .int x :: st) ws := by
  subst hq
  intro H locs ls hP hD hS hl
  exact lv_icmp_gt C.1 C.2.1 hd ht (fun c => kt c H locs ls hP hD hS hl) (fun c => kf c H locs ls hP hD hS hl)
-- if_le: x ≤ 0 | ¬ x ≤ 0
theorem v_if_le {E : EV} {cc : ByteArray} {own : String} {ret : Option FieldType} {cI : ClassId} {rm : Room} {k n pc : Nat} {lv : List (Nat × Value)} {st : List Value} {ws : va_W} {x : Int32} {off : Int} (t q : Nat) (C : CX E cc own ret cI rm) (hd : decode cc pc = .ok (.ifCond .le off, 3)) (kt : x ≤ 0 → VV E k n t lv st ws) (kf : ¬ x ≤ 0 → VV E k n q lv st ws) (ht : (pc : Int) + off = (t : Int) := by rfl) (hq : pc + 3 = q := by rfl) : VV E k n pc lv (.int x :: st) ws := by
  subst hq
  intro H locs ls hP hD hS hl
  exact lv_if_le C.1 C.2.1 hd ht (fun c => kt c H locs ls hP hD hS hl) (fun c => kf c H locs ls hP hD hS hl)
-- icmp_le: x ≤ y | ¬ x ≤ y
theorem v_icmp_le {E : EV} {cc : ByteArray} {own : String} {ret : Option FieldType} {cI : ClassId} {rm : Room} {k n pc : Nat} {lv : List (Nat × Value)} {st : List Value} {ws : va_W} {x y : Int32} {off : Int} (t q : Nat) (C : CX E cc own ret cI rm) (hd : decode cc pc = .ok (.if_icmp .le off, 3)) (kt : x ≤ y → VV E k n t lv st ws) (kf : ¬ x ≤ y → VV E k n q lv st ws) (ht : (pc : Int) + off = (t : Int) := by rfl) (hq : pc + 3 = q := by rfl) : VV E k n pc lv (.int y :: .int x :: st) ws := by
  subst hq
  intro H locs ls hP hD hS hl
  exact lv_icmp_le C.1 C.2.1 hd ht (fun c => kt c H locs ls hP hD hS hl) (fun c => kf c H locs ls hP hD hS hl)
theorem v_goto {E : EV} {cc : ByteArray} {own : String} {ret : Option FieldType} {cI : ClassId} {rm : Room} {k n pc : Nat} {lv : List (Nat × Value)} {st : List Value} {ws : va_W} {off : Int} (t : Nat) (C : CX E cc own ret cI rm) (hd : decode cc pc = .ok (.goto off, 3)) (kk : VV E k n t lv st ws) (ht : (pc : Int) + off = (t : Int) := by rfl) : VV E k n pc lv st ws := by
  intro H locs ls hP hD hS hl
  exact lv_goto C.1 C.2.1 hd ht (kk H locs ls hP hD hS hl)
/-- a field of a kind of cells, as an instruction of a class names it: own or a nest mate's -/
def GF (own : String) (index ci j : Nat) : Prop := ∃ (C : String) (T : u_T) (N : Nat), vwCl[ci]? = some (C, T, N) ∧ j < N ∧ (∀ w ∈ u_ws C T N, w ∈ gw) ∧ (Cond.fieldLink own index (T j).1 (T j).2.1 (T j).2.2.1 ∈ gw ∨ ∃ host, Cond.fieldLinkNest own index (T j).1 (T j).2.1 (T j).2.2.1 host ∈ vn)
def PF (own : String) (index ci j : Nat) (tt : FieldType) (fin : Bool) : Prop := ∃ (C : String) (T : u_T) (N : Nat) (ty : Nat → FieldType), vwCl[ci]? = some (C, T, N) ∧ j < N ∧ (∀ w ∈ u_ws C T N, w ∈ gw) ∧ (∀ k, k < N → parseFieldDescriptor (T k).2.2.1 = some (ty k)) ∧ (∀ a, a < N → ∀ b, b < N → a ≠ b → (T a).2.1 ≠ (T b).2.1) ∧ (T j).2.2.2 = fin ∧ parseFieldDescriptor (T j).2.2.1 = some tt ∧ (T j).1 = C ∧ (Cond.fieldLink own index (T j).1 (T j).2.1 (T j).2.2.1 ∈ gw ∨ (fin = false ∧ ∃ host, Cond.fieldLinkNest own index (T j).1 (T j).2.1 (T j).2.2.1 host ∈ vn))
section VR
variable {E : EV} {cc : ByteArray} {own : String} {ret : Option FieldType} {cI : ClassId} {rm : Room} {k n pc : Nat} {lv : List (Nat × Value)} {st : List Value} {ws : va_W}
theorem v_gf {index ci j a : Nat} {fs : List Value} {v : Value} (q kr : Nat) (C : CX E cc own ret cI rm) (hd : decode cc pc = .ok (.getfield index, 3)) (G : GF own index ci j) (hr : ws[kr]? = some (a, .inr (ci, fs))) (hv : fs[j]? = some v) (kk : VV E k n q lv (v :: st) ws) (hq : pc + 3 = q := by rfl) : VV E k n pc lv (.ref a :: st) ws := by
  subst hq
  intro H locs ls hP hD hS hl
  obtain ⟨Cn, T, N, hc, hj, hin, hlk | ⟨host, hlk⟩⟩ := G
  · exact va_get C.1 C.2.1 C.2.2.2.2.1 hin C.2.2.2.1 C.2.2.2.2.2.2.1 hP kr hr hc j hj (C.2.2.2.2.1 _ hlk) (fun _ h => h) hv hd (kk H locs ls hP hD hS hl)
  · exact va_getN C.1 C.2.1 C.2.2.2.2.1 hin C.2.2.2.1 C.2.2.2.2.2.2.1 hP kr hr hc j hj (va_Nw.use rfl (C.2.2.2.2.2.1 _ hlk)) (fun _ h => h) hv hd (kk H locs ls hP hD hS hl)
theorem v_pf {index ci j a : Nat} {fs : List Value} {v : Value} {tt : FieldType} {ws2 : va_W} (q kr : Nat) (C : CX E cc own ret cI rm) (hd : decode cc pc = .ok (.putfield index, 3)) (G : PF own index ci j tt false) (hr : ws[kr]? = some (a, .inr (ci, fs))) (hl2 : j < fs.length) (hn : narrow tt v = v) (hf : fits tt v = true) (hw : ws.set kr (a, .inr (ci, fs.set j v)) = ws2) (kk : VV E k n q lv st ws2) (hq : pc + 3 = q := by rfl) : VV E k n pc lv (v :: .ref a :: st) ws := by
  subst hq
  subst hw
  intro H locs ls hP hD hS hl
  obtain ⟨Cn, T, N, ty, hc, hj, hin, hty, hnm, hfin, hpd, -, hlk | ⟨-, host, hlk⟩⟩ := G
  · exact va_put C.1 C.2.1 C.2.2.2.2.1 hin ty hty hnm C.2.2.2.1 C.2.2.2.2.2.2.1 hP hD hS kr hr hc j hj (C.2.2.2.2.1 _ hlk) (fun _ h => h) hfin hpd hn hf hl2 hd (fun H1 locs1 hP1 hD1 hS1 => kk H1 locs1 ls hP1 hD1 hS1 hl)
  · exact va_putN C.1 C.2.1 C.2.2.2.2.1 hin ty hty hnm C.2.2.2.1 C.2.2.2.2.2.2.1 hP hD hS kr hr hc j hj (va_Nw.use rfl (C.2.2.2.2.2.1 _ hlk)) (fun _ h => h) hfin hpd hn hf hl2 hd (fun H1 locs1 hP1 hD1 hS1 => kk H1 locs1 ls hP1 hD1 hS1 hl)
theorem v_pfF {index ci j a : Nat} {fs : List Value} {v : Value} {tt : FieldType} {ws2 : va_W} (q kr : Nat) (C : CX E cc own ret cI rm) (hin2 : (ev_mt E).name = "<init>") (hown : (vwCl[ci]?).map (·.1) = some own) (hd : decode cc pc = .ok (.putfield index, 3)) (G : PF own index ci j tt true) (hr : ws[kr]? = some (a, .inr (ci, fs))) (hl2 : j < fs.length) (hn : narrow tt v = v) (hf : fits tt v = true) (hw : ws.set kr (a, .inr (ci, fs.set j v)) = ws2) (kk : VV E k n q lv st ws2) (hq : pc + 3 = q := by rfl) : VV E k n pc lv (v :: .ref a :: st) ws := by
  subst hq
  subst hw
  intro H locs ls hP hD hS hl
  obtain ⟨Cn, T, N, ty, hc, hj, hin, hty, hnm, hfin, hpd, hdecl, hlk | ⟨h0, -⟩⟩ := G
  · rw [hc] at hown
    have e : Cn = own := Option.some.inj hown
    exact va_putF C.1 C.2.1 C.2.2.2.2.1 hin ty hty hnm C.2.2.2.1 C.2.2.2.2.2.2.1 hP hD hS kr hr hc j hj (C.2.2.2.2.1 _ hlk) (fun _ h => h) hfin hin2 (by rw [hdecl, e]) hpd hn hf hl2 hd (fun H1 locs1 hP1 hD1 hS1 => kk H1 locs1 ls hP1 hD1 hS1 hl)
  · cases h0
theorem v_ial {a N : Nat} {f : Nat → Int32} {i v : Int32} (q kr : Nat) (C : CX E cc own ret cI rm) (hd : decode cc pc = .ok (.iaload, 1)) (hr : ws[kr]? = some (a, .inl (cI, N, .inl f))) (hin : vp_in i N) (hv : f i.toNatClampNeg = v) (kk : VV E k n q lv (.int v :: st) ws) (hq : pc + 1 = q := by rfl) : VV E k n pc lv (.int i :: .ref a :: st) ws := by
  subst hq
  subst hv
  intro H locs ls hP hD hS hl
  exact va_iald C.1 C.2.1 C.2.2.2.2.2.2.1 hP kr 0 hr rfl hin hd (kk H locs ls hP hD hS hl)
theorem v_ialn {a N i : Nat} {f : Nat → Int32} {v : Int32} (q kr : Nat) (C : CX E cc own ret cI rm) (hd : decode cc pc = .ok (.iaload, 1)) (hr : ws[kr]? = some (a, .inl (cI, N, .inl f))) (hin : i < N) (hv : f i = v) (kk : VV E k n q lv (.int v :: st) ws) (hN : N < 2 ^ 31 := by decide) (hq : pc + 1 = q := by rfl) : VV E k n pc lv (.int (nI i) :: .ref a :: st) ws :=
  v_ial q kr C hd hr (vp_in_nI hin hN) (by rw [nI_clamp (Nat.lt_trans hin hN)]; exact hv) kk hq
theorem v_ias {a N : Nat} {f : Nat → Int32} {i x : Int32} {ws2 : va_W} (q kr : Nat) (C : CX E cc own ret cI rm) (hd : decode cc pc = .ok (.iastore, 1)) (hr : ws[kr]? = some (a, .inl (cI, N, .inl f))) (hin : vp_in i N) (hw : ws.set kr (a, .inl (cI, N, .inl (upd f i.toNatClampNeg x))) = ws2) (kk : VV E k n q lv st ws2) (hq : pc + 1 = q := by rfl) : VV E k n pc lv (.int x :: .int i :: .ref a :: st) ws := by
  subst hq
  subst hw
  intro H locs ls hP hD hS hl
  exact va_iast C.1 C.2.1 C.2.2.2.2.2.2.1 hP hD hS kr 0 hr rfl hin hd (fun H1 locs1 hP1 hD1 hS1 => kk H1 locs1 ls hP1 hD1 hS1 hl)
theorem v_iasn {a N i : Nat} {f : Nat → Int32} {x : Int32} {ws2 : va_W} (q kr : Nat) (C : CX E cc own ret cI rm) (hd : decode cc pc = .ok (.iastore, 1)) (hr : ws[kr]? = some (a, .inl (cI, N, .inl f))) (hin : i < N) (hw : ws.set kr (a, .inl (cI, N, .inl (upd f i x))) = ws2) (kk : VV E k n q lv st ws2) (hN : N < 2 ^ 31 := by decide) (hq : pc + 1 = q := by rfl) : VV E k n pc lv (.int x :: .int (nI i) :: .ref a :: st) ws :=
  v_ias q kr C hd hr (vp_in_nI hin hN) (by rw [nI_clamp (Nat.lt_trans hin hN)]; exact hw) kk hq
theorem v_alen {a N : Nat} {f : Nat → Int32} (q kr : Nat) (C : CX E cc own ret cI rm) (hd : decode cc pc = .ok (.arraylength, 1)) (hr : ws[kr]? = some (a, .inl (cI, N, .inl f))) (kk : VV E k n q lv (.int (nI N) :: st) ws) (hq : pc + 1 = q := by rfl) : VV E k n pc lv (.ref a :: st) ws := by
  subst hq
  intro H locs ls hP hD hS hl
  exact va_alen C.1 C.2.1 C.2.2.2.2.2.2.1 hP kr 0 hr rfl rfl hd (kk H locs ls hP hD hS hl)
theorem v_cpy {a a0 n0 n1 : Nat} {f g : Nat → Int32} {sp dp m : Nat} {index : Nat} {ws2 : va_W} (q k0 k1 : Nat) (C : CX E cc own ret cI rm) (hd : decode cc pc = .ok (.invokestatic index, 3)) (hl1 : Cond.methodLink own index arraycopyName ∈ gw) (hl2 : Cond.native arraycopyName ∈ gw) (hl3 : Cond.static arraycopyName ∈ gw) (hl4 : Cond.initialized "java/lang/System" ∈ gw) (hr0 : ws[k0]? = some (a0, .inl (cI, n0, .inl f))) (hr1 : ws[k1]? = some (a, .inl (cI, n1, .inl g))) (h4 : sp + m ≤ n0) (h5 : dp + m ≤ n1) (hR : 1 ≤ rm.frames ∧ (st.map fun v => v.category).sum + (nativeFrameWords "java/lang/System" "arraycopy" 5 + 11) ≤ rm.locals) (hw : ws.set k1 (a, .inl (cI, n1, .inl (va_cpy f g sp dp m))) = ws2) (kk : VV E k n q lv st ws2) (hsp : sp < 2 ^ 31 := by decide) (hdp : dp < 2 ^ 31 := by decide) (hm : m < 2 ^ 31 := by decide) (hq : pc + 3 = q := by rfl) : VV E k n pc lv (.int (nI m) :: .int (nI dp) :: .ref a :: .int (nI sp) :: .ref a0 :: st) ws := by
  subst hq
  subst hw
  intro H locs ls hP hD hS hl
  have e1 := nI_clamp hsp
  have e2 := nI_clamp hdp
  have e3 := nI_clamp hm
  refine va_copyi C.1 C.2.1 (C.2.2.1.trans hl.1.symm) C.2.2.2.1 (C.2.2.2.2.1 _ hl1) (C.2.2.2.2.1 _ hl2) (C.2.2.2.2.1 _ hl3) (C.2.2.2.2.1 _ hl4) C.2.2.2.2.2.2.1 hP hD hS k0 k1 0 0 hr0 hr1 rfl rfl rfl (nI_pos hsp) (nI_pos hdp) (nI_pos hm) (by rw [e1, e3]; exact h4) (by rw [e2, e3]; exact h5) (fun _ _ => rfl) (by rw [C.2.2.2.2.2.2.2.2.2]; exact hR.1) (by rw [C.2.2.2.2.2.2.2.2.2]; exact hR.2) hd (fun H1 locs1 hP1 hD1 hS1 => ?_)
  rw [e1, e2, e3] at hP1 hD1
  exact kk H1 locs1 ls hP1 hD1 hS1 hl
end VR
section VE
variable {E : EV} {cc : ByteArray} {own : String} {ret : Option FieldType} {cI : ClassId} {rm : Room} {pc : Nat} {lv : List (Nat × Value)} {ws w0 : va_W} {post : Option Value → va_W → Prop}
theorem v_iret {v : Int32} (C : CX E cc own (some .int) cI rm) (T : RT E post w0) (hd : decode cc pc = .ok (.ireturn, 1)) (hp : post (some (.int v)) ws) (hm : ws.map (·.1) = w0.map (·.1) := by rfl) : VV E 0 0 pc lv [.int v] ws := by
  intro H locs ls hP hD hS hl
  rw [T.1]
  have hf : ∀ t : State, t.heap = H → va_F (va_A w0 (ev_s E).heap.size) (ev_s E) t := fun t ht => by have h := hS.F ht; rw [T.2] at h; exact h
  have hg := hS.2.2
  rw [T.2] at hg
  exact W.iret C.1 C.2.1 C.2.2.2.2.2.2.2.1 (fun t ht hW => ⟨⟨_, ws, rfl, hp, hm, by rw [ht]; exact hP⟩, hf t ht⟩) hg hd C.2.2.2.2.2.2.2.2.1
theorem v_zret {v : Int32} (C : CX E cc own (some .boolean) cI rm) (T : RT E post w0) (hd : decode cc pc = .ok (.ireturn, 1)) (hz : v = 0 ∨ v = 1) (hp : post (some (.int v)) ws) (hm : ws.map (·.1) = w0.map (·.1) := by rfl) : VV E 0 0 pc lv [.int v] ws := by
  intro H locs ls hP hD hS hl
  rw [T.1]
  have hf : ∀ t : State, t.heap = H → va_F (va_A w0 (ev_s E).heap.size) (ev_s E) t := fun t ht => by have h := hS.F ht; rw [T.2] at h; exact h
  have hg := hS.2.2
  rw [T.2] at hg
  exact W.zret (ty := .boolean) C.1 C.2.1 C.2.2.2.2.2.2.2.1 (by rcases hz with rfl | rfl <;> rfl) (fun t ht hW => ⟨⟨_, ws, rfl, hp, hm, by rw [ht]; exact hP⟩, hf t ht⟩) hg hd C.2.2.2.2.2.2.2.2.1
theorem v_lret {v : Int64} (C : CX E cc own (some .long) cI rm) (T : RT E post w0) (hd : decode cc pc = .ok (.lreturn, 1)) (hp : post (some (.long v)) ws) (hm : ws.map (·.1) = w0.map (·.1) := by rfl) : VV E 0 0 pc lv [.long v] ws := by
  intro H locs ls hP hD hS hl
  rw [T.1]
  have hf : ∀ t : State, t.heap = H → va_F (va_A w0 (ev_s E).heap.size) (ev_s E) t := fun t ht => by have h := hS.F ht; rw [T.2] at h; exact h
  have hg := hS.2.2
  rw [T.2] at hg
  exact W.lret C.1 C.2.1 C.2.2.2.2.2.2.2.1 (fun t ht hW => ⟨⟨_, ws, rfl, hp, hm, by rw [ht]; exact hP⟩, hf t ht⟩) hg hd C.2.2.2.2.2.2.2.2.1
theorem v_vret (C : CX E cc own none cI rm) (T : RT E post w0) (hd : decode cc pc = .ok (.return_, 1)) (hp : post none ws) (hm : ws.map (·.1) = w0.map (·.1) := by rfl) : VV E 0 0 pc lv [] ws := by
  intro H locs ls hP hD hS hl
  rw [T.1]
  have hf : ∀ t : State, t.heap = H → va_F (va_A w0 (ev_s E).heap.size) (ev_s E) t := fun t ht => by have h := hS.F ht; rw [T.2] at h; exact h
  have hg := hS.2.2
  rw [T.2] at hg
  exact W.vret C.1 C.2.1 C.2.2.2.2.2.2.2.1 (fun t ht hW => ⟨⟨_, ws, rfl, hp, hm, by rw [ht]; exact hP⟩, hf t ht⟩) hg hd C.2.2.2.2.2.2.2.2.1
end VE
/-! worlds with some cells put anew -/
def v_sa (ws : va_W) : List Nat → va_W → va_W
  | i :: is, q :: qs => v_sa (ws.set i q) is qs
  | _, _ => ws
theorem v_sa_get : ∀ (is : List Nat) (ws w1 : va_W), w1.length = is.length → ∀ (k : Nat) (x : Nat × va_E), (v_sa ws is w1)[k]? = some x → (∃ j : Nat, is[j]? = some k ∧ w1[j]? = some x) ∨ (k ∉ is ∧ ws[k]? = some x)
  | [], ws, w1, _, k, x, h => Or.inr ⟨List.not_mem_nil, by cases w1 <;> exact h⟩
  | i :: is, ws, [], hl, k, x, h => by cases hl
  | i :: is, ws, q :: qs, hl, k, x, h => by
    have hl2 : qs.length = is.length := by simpa using hl
    rcases v_sa_get is (ws.set i q) qs hl2 k x h with ⟨j, h1, h2⟩ | ⟨h1, h2⟩
    · exact Or.inl ⟨j + 1, h1, h2⟩
    · by_cases hk : i = k
      · subst hk
        rw [List.getElem?_set] at h2
        simp at h2
        exact Or.inl ⟨0, rfl, by simp [h2.2]⟩
      · rw [List.getElem?_set_ne hk] at h2
        exact Or.inr ⟨by simp [h1]; exact fun e => hk e.symm, h2⟩
theorem v_sa_fst : ∀ (is : List Nat) (ws w1 : va_W), (∀ (j i : Nat) (x : Nat × va_E), is[j]? = some i → w1[j]? = some x → (ws.map (·.1))[i]? = some x.1) → (v_sa ws is w1).map (·.1) = ws.map (·.1)
  | [], ws, w1, _ => by cases w1 <;> rfl
  | i :: is, ws, [], _ => rfl
  | i :: is, ws, q :: qs, h => by
    have h0 := h 0 i q rfl rfl
    have e : (ws.set i q).map (·.1) = ws.map (·.1) := by
      rw [List.map_set]
      obtain ⟨hi, h0⟩ := List.getElem?_eq_some_iff.mp h0
      rw [← h0]
      exact List.set_getElem_self hi
    show (v_sa (ws.set i q) is qs).map (·.1) = _
    rw [v_sa_fst is (ws.set i q) qs (fun j i x h1 h2 => by rw [e]; exact h (j + 1) i x h1 h2), e]
theorem va_D_fst {A : Nat → Prop} {ws w2 : va_W} (e : w2.map (·.1) = ws.map (·.1)) (h : va_D A ws) : va_D A w2 := by
  have g : ∀ (i : Nat) (p : Nat × va_E), w2[i]? = some p → ∃ p', ws[i]? = some p' ∧ p'.1 = p.1 := by
    intro i p hp
    have h1 : (w2.map (·.1))[i]? = some p.1 := by rw [List.getElem?_map, hp]; rfl
    rw [e, List.getElem?_map] at h1
    cases hw : ws[i]? with
    | none => rw [hw] at h1; cases h1
    | some p' => rw [hw] at h1; exact ⟨p', rfl, Option.some.inj h1⟩
  refine ⟨fun i j p q hp hq hpq => ?_, fun k q hq => ?_⟩
  · obtain ⟨p', h1, h2⟩ := g i p hp
    obtain ⟨q', h3, h4⟩ := g j q hq
    exact h.1 i j p' q' h1 h3 (by rw [h2, h4, hpq])
  · obtain ⟨q', h3, h4⟩ := g k q hq
    rw [← h4]
    exact h.2 k q' h3
theorem v_back {A0 : Nat → Prop} {D : va_G} {cl : List vw_C} {ws wc w1 : va_W} {H H1 : Heap} (hP : va_P D cl ws H) (hD : va_D A0 ws) (is : List Nat) (hC : is.map (fun i => ws[i]?) = wc.map some) (hm : w1.map (·.1) = wc.map (·.1)) (hk : ∀ q : Nat, q < H.size → ¬ va_A wc H.size q → H1[q]? = H[q]?) (hP1 : va_P D cl w1 H1) : va_P D cl (v_sa ws is w1) H1 ∧ va_D A0 (v_sa ws is w1) := by
  have at' : ∀ (j i : Nat), is[j]? = some i → ∃ q, wc[j]? = some q ∧ ws[i]? = some q := by
    intro j i hi
    have h1 : (is.map (fun i => ws[i]?))[j]? = some (ws[i]?) := by rw [List.getElem?_map, hi]; rfl
    rw [hC, List.getElem?_map] at h1
    cases hw : wc[j]? with
    | none => rw [hw] at h1; cases h1
    | some q => rw [hw] at h1; exact ⟨q, rfl, (Option.some.inj h1).symm⟩
  have hlen : w1.length = is.length := by
    have e1 := congrArg List.length hm
    have e2 := congrArg List.length hC
    simp only [List.length_map] at e1 e2
    omega
  refine ⟨fun k x hx => ?_, va_D_fst (v_sa_fst is ws w1 fun j i x h1 h2 => ?_) hD⟩
  · rcases v_sa_get is ws w1 hlen k x hx with ⟨j, h1, h2⟩ | ⟨h1, h2⟩
    · exact hP1 j x h2
    · have hlt := (hP k x h2).lt
      refine (hP k x h2).kept (hk x.1 hlt fun h => ?_)
      rcases h with ⟨j, e, h3⟩ | h3
      · have h4 : (is.map (fun i => ws[i]?))[j]? = some (some (x.1, e)) := by rw [hC, List.getElem?_map, h3]; rfl
        rw [List.getElem?_map] at h4
        cases hi : is[j]? with
        | none => rw [hi] at h4; cases h4
        | some i =>
          rw [hi] at h4
          have h5 := hD.1 i k (x.1, e) x (Option.some.inj h4) h2 rfl
          rw [h5] at hi
          exact h1 (List.mem_of_getElem? hi)
      · omega
  · obtain ⟨q, h3, h4⟩ := at' j i h1
    have e1 : (w1.map (·.1))[j]? = some x.1 := by rw [List.getElem?_map, h2]; rfl
    rw [hm, List.getElem?_map, h3] at e1
    rw [List.getElem?_map, h4]
    exact e1
/-! calls -/
def CF (y : MethodName) (b : ByteArray) (nL : Nat) (ret : Option FieldType) (np : Nat) : Prop := (Cond.code y b nL ret ∈ gw ∧ Cond.initialized y.cls ∈ gw ∧ y.cls ≠ "java/lang/invoke/MethodHandle" ∧ y.cls ≠ "java/lang/invoke/VarHandle" ∧ (parseMethodDescriptor y.desc).map (fun d => d.parameters.length) = some np)
def LK (own : String) (index : Nat) (y : MethodName) : Prop := Cond.methodLink own index y ∈ gw ∨ ∃ host, Cond.methodLinkNest own index y host ∈ vn
theorem CB_blind {D : va_G} {cI : ClassId} {ws : va_W} {sz : Nat} {av : List Value} : FrameBlind (va_Pc av (CB D cI ws sz)) := by
  intro a U g mk h
  obtain ⟨h0, h1, h2, h3, h4, h5⟩ := h
  exact ⟨h0, h1, h2, va_K.moved (u := U) (U := U.calling g mk a) (Vm.Alike.refl U.vm) h3, vnk_same (u := U) (U := U.calling g mk a) rfl h4, h5⟩
section VC
variable {E : EV} {cc : ByteArray} {own : String} {ret : Option FieldType} {cI : ClassId} {rm : Room} {k n pc : Nat} {lv : List (Nat × Value)} {st : List Value} {ws : va_W}
theorem v_goon {wc : va_W} {post : Option Value → va_W → Prop} {stk : List Value} {H : Heap} {locs : List Loc} {ls : Array Slot} {a : Array Value} (is : List Nat) (C : CX E cc own ret cI rm)
    (hr : va_Run (ev_p E) (ev_l E) (ev_e E) (ev_R E) (ev_s E) (ev_m E) (ev_a E) (ev_b E) (ev_mt E) (ev_c E) H locs k n 0 0 (F0 (ev_m E) pc ls stk) st (CQ (ev_D E) post wc H.size a) (va_A wc H.size))
    (hP : va_P (ev_D E) vwCl ws H) (hD : va_D (ev_A E) ws) (hS : va_S (ev_A E) (ev_s E).heap H locs) (hl : lv_has ls (ev_n E) lv) (hA : ∀ q, (ev_s E).heap.size ≤ q → ev_A E q) (hC : is.map (fun i => ws[i]?) = wc.map some)
    (kk : ∀ rv w1, post rv w1 → w1.map (·.1) = wc.map (·.1) → VV E k n (pc + 3) lv (rv.toList ++ st) (v_sa ws is w1)) : W (ev_p E) (ev_l E) (ev_e E) (ev_R E) (ev_s E) (ev_m E) (ev_a E) (ev_b E) (ev_mt E) (ev_c E) H locs k n (ev_Q E) (F0 (ev_m E) pc ls stk) := by
  intro T hT X
  obtain ⟨v, st₀, t, T', L, h0, X', hL, e1, e2, ⟨⟨r, w1, hv, hp, hm, hP1⟩, hz, hkk⟩, hgo⟩ := hr T hT X
  cases hv
  rw [h0] at hz hkk
  have hf : ∀ q, va_A wc H.size q → ev_A E q := va_free hD hS hA is hC
  have hS2 : va_S (ev_A E) (ev_s E).heap T'.heap (locs ++ L) := ⟨Nat.le_trans hS.1 (by rw [e1]; exact hz), fun q h1 h2 => by rw [e1, hkk q (Nat.lt_of_lt_of_le h1 hS.1) (fun z => h2 (hf q z))]; exact hS.2.1 q h1 h2, fun q hq => by
      rcases List.mem_append.mp hq with h | h
      · exact hS.2.2 q h
      · exact hf _ (hL q h)⟩
  obtain ⟨hP2, hD2⟩ := v_back (H1 := T'.heap) hP hD is hC hm (fun q h1 h2 => by rw [e1]; exact hkk q h1 h2) (by rw [e1]; exact hP1)
  obtain ⟨t2, a1, b1⟩ := kk v w1 hp hm T'.heap (locs ++ L) ls hP2 hD2 hS2 hl T' rfl X'
  exact ⟨t2, hgo t2 a1, b1⟩
theorem v_sub {wc : va_W} {is : List Nat} (hC : is.map (fun i => ws[i]?) = wc.map some) (hnd : va_nd is = true) {D : va_G} {A : Nat → Prop} {H : Heap} (hP : va_P D vwCl ws H) (hD : va_D A ws) : va_P D vwCl wc H ∧ va_D (fun _ => True) wc := by
  refine ⟨fun k q hq => ?_, (hD.sub is hnd hC).weaken (fun _ _ _ _ => trivial)⟩
  have h1 : (is.map (fun i => ws[i]?))[k]? = some (some q) := by rw [hC, List.getElem?_map, hq]; rfl
  rw [List.getElem?_map] at h1
  cases hi : is[k]? with
  | none => rw [hi] at h1; cases h1
  | some i => rw [hi] at h1; exact hP i q (Option.some.inj h1)
theorem v_cV {y : MethodName} {b : ByteArray} {nL : Nat} {ret2 : Option FieldType} {rm2 : Room} {As : List Value} {ra : Nat} {wc : va_W} {post : Option Value → va_W → Prop} {index np ci : Nat} {fs : List Value} {stk : List Value} (q kr : Nat) (is : List Nat) (C : CX E cc own ret cI rm) (hd : decode cc pc = .ok (.invokevirtual index, 3)) (hA : ∀ q, (ev_s E).heap.size ≤ q → ev_A E q)
    (hM : CT (ev_l E) y b nL ret2 rm2 (ev_D E) cI (.ref ra :: As) wc post) (F : CF y b nL ret2 np ∧ Cond.instanceMethod y ∈ gw ∧ Cond.selects y.cls y y ∈ gw) (hlk : LK own index y)
    (hn : As.length = np) (hs : stk = As.reverse ++ .ref ra :: st) (hC : is.map (fun i => ws[i]?) = wc.map some) (hr : ws[kr]? = some (ra, .inr (ci, fs))) (hci : (vwCl[ci]?).map (·.1) = some y.cls)
    (hR : (rm2.frames + 1 ≤ rm.frames ∧ 8 + (nL + 11) + rm2.locals ≤ rm.locals) ∧ (rm2.cells = 0 ∧ rm2.slots = 0) ∧ k ≤ rm.cells ∧ n ≤ rm.slots) (hst : (st.map fun v => v.category).sum ≤ 8) 
    (kk : ∀ rv w1, post rv w1 → w1.map (·.1) = wc.map (·.1) → VV E k n q lv (rv.toList ++ st) (v_sa ws is w1)) (hnd : va_nd is = true := by rfl) (hq : pc + 3 = q := by rfl) : VV E k n pc lv stk ws := by
  subst hq
  intro H locs ls hP hD hS hl
  obtain ⟨⟨f1, f2, f3, f4, f5⟩, f6, f7⟩ := F
  have hts := C.2.2.2.2.1
  have hK := C.2.2.2.2.2.2.1
  have hRm : ev_R E = rm := C.2.2.2.2.2.2.2.2.2
  obtain ⟨hPc, hDc⟩ := v_sub hC hnd hP hD
  obtain ⟨x, hx, hxc⟩ : ∃ x, vwCl[ci]? = some x ∧ x.1 = y.cls := by
    cases hv : vwCl[ci]? with
    | none => rw [hv] at hci; cases hci
    | some x => rw [hv] at hci; exact ⟨x, rfl, Option.some.inj hci⟩
  have hrecv := va_recv hK hP hx hr
  rw [hxc] at hrecv
  have hpre : PreV (ev_s E) H y.cls ra (va_Pc (.ref ra :: As) (CB (ev_D E) cI wc H.size)) As := ⟨CB_blind, hrecv, fun U hU hW => ⟨rfl, by rw [hU], by rw [hU]; exact hPc, va_K.moved hW.alike hK, vnk_warm hW C.2.2.2.2.2.1, hDc⟩⟩
  have hfit : k + 0 ≤ (ev_R E).cells ∧ n + 0 ≤ (ev_R E).slots := by rw [hRm]; exact ⟨hR.2.2.1, hR.2.2.2⟩
  have hroom : rm2.frames + 1 ≤ (ev_R E).frames ∧ 8 + (nL + 11) + rm2.locals ≤ (ev_R E).locals := by rw [hRm]; exact hR.1
  rcases hlk with hlk | ⟨host, hlk⟩
  · exact v_goon is C (va_runV (As := As) (rest := st) ⟨C.1, C.2.1, C.2.2.1, C.2.2.2.1, hts⟩ (hM H.size) ⟨callB_of np hts (mw_good f1) rfl hR.2.1.1 hR.2.1.2 (hts _ f2) (hts _ hlk) ⟨f3, f4, f5⟩ hroom, hts _ f6, hts _ f7⟩ hpre rfl hn hl.1 hs (lv_room hst) hd hfit) hP hD hS hl hA hC kk
  · exact v_goon is C (va_runVN (As := As) (rest := st) ⟨C.1, C.2.1, C.2.2.1, C.2.2.2.1, hts⟩ (hM H.size) ⟨va_cnB np hts (mw_good f1) rfl hR.2.1.1 hR.2.1.2 (C.2.2.2.2.2.1 _ hlk) (hts _ f2) ⟨f3, f4, f5⟩ hroom, hts _ f6, hts _ f7⟩ hpre rfl hn hl.1 hs (lv_room hst) hd hfit) hP hD hS hl hA hC kk
theorem v_cS {y : MethodName} {b : ByteArray} {nL : Nat} {ret2 : Option FieldType} {rm2 : Room} {As : List Value} {wc : va_W} {post : Option Value → va_W → Prop} {index np : Nat} {stk : List Value} (q : Nat) (is : List Nat) (C : CX E cc own ret cI rm) (hd : decode cc pc = .ok (.invokestatic index, 3)) (hA : ∀ q, (ev_s E).heap.size ≤ q → ev_A E q)
    (hM : CT (ev_l E) y b nL ret2 rm2 (ev_D E) cI As wc post) (F : CF y b nL ret2 np ∧ Cond.static y ∈ gw) (hlk : LK own index y)
    (hn : As.length = np) (hs : stk = As.reverse ++ st) (hC : is.map (fun i => ws[i]?) = wc.map some)
    (hR : (rm2.frames + 1 ≤ rm.frames ∧ 8 + (nL + 11) + rm2.locals ≤ rm.locals) ∧ (rm2.cells = 0 ∧ rm2.slots = 0) ∧ k ≤ rm.cells ∧ n ≤ rm.slots) (hst : (st.map fun v => v.category).sum ≤ 8)
    (kk : ∀ rv w1, post rv w1 → w1.map (·.1) = wc.map (·.1) → VV E k n q lv (rv.toList ++ st) (v_sa ws is w1)) (hnd : va_nd is = true := by rfl) (hq : pc + 3 = q := by rfl) : VV E k n pc lv stk ws := by
  subst hq
  intro H locs ls hP hD hS hl
  obtain ⟨⟨f1, f2, f3, f4, f5⟩, f6⟩ := F
  have hts := C.2.2.2.2.1
  have hK := C.2.2.2.2.2.2.1
  have hRm : ev_R E = rm := C.2.2.2.2.2.2.2.2.2
  obtain ⟨hPc, hDc⟩ := v_sub hC hnd hP hD
  have hpre : PreS (ev_s E) H (va_Pc As (CB (ev_D E) cI wc H.size)) As := ⟨CB_blind, fun U hU hW => ⟨rfl, by rw [hU], by rw [hU]; exact hPc, va_K.moved hW.alike hK, vnk_warm hW C.2.2.2.2.2.1, hDc⟩⟩
  have hfit : k + 0 ≤ (ev_R E).cells ∧ n + 0 ≤ (ev_R E).slots := by rw [hRm]; exact ⟨hR.2.2.1, hR.2.2.2⟩
  have hroom : rm2.frames + 1 ≤ (ev_R E).frames ∧ 8 + (nL + 11) + rm2.locals ≤ (ev_R E).locals := by rw [hRm]; exact hR.1
  rcases hlk with hlk | ⟨host, hlk⟩
  · exact v_goon is C (va_runS (As := As) (rest := st) ⟨C.1, C.2.1, C.2.2.1, C.2.2.2.1, hts⟩ (hM H.size) ⟨callB_of np hts (mw_good f1) rfl hR.2.1.1 hR.2.1.2 (hts _ f2) (hts _ hlk) ⟨f3, f4, f5⟩ hroom, hts _ f6⟩ hpre rfl hn hl.1 hs (lv_room hst) hd hfit) hP hD hS hl hA hC kk
  · exact v_goon is C (va_runSN (As := As) (rest := st) ⟨C.1, C.2.1, C.2.2.1, C.2.2.2.1, hts⟩ (hM H.size) ⟨va_cnB np hts (mw_good f1) rfl hR.2.1.1 hR.2.1.2 (C.2.2.2.2.2.1 _ hlk) (hts _ f2) ⟨f3, f4, f5⟩ hroom, hts _ f6, trivial⟩ hpre rfl hn hl.1 hs (lv_room hst) hd hfit) hP hD hS hl hA hC kk
end VC
theorem v_lvs {lv2 : List (Nat × Value)} {E : EV} {k n pc : Nat} {lv : List (Nat × Value)} {st : List Value} {ws : va_W} (ks : List Nat) (h : lv_pick lv ks = lv2) (kk : VV E k n pc lv2 st ws) : VV E k n pc lv st ws := fun H locs ls hP hD hS hl => kk H locs ls hP hD hS (lv_sub hl ks h)
/-! numbers that are truth values, bits -/
def bz (b : Bool) : Int32 := if b = true then 1 else 0
theorem bz_01 (b : Bool) : bz b = 0 ∨ bz b = 1 := by cases b <;> simp [bz]
theorem bz_nar (b : Bool) : narrow .boolean (.int (bz b)) = .int (bz b) := by cases b <;> rfl
theorem bz_fit (b : Bool) : fits .boolean (.int (bz b)) = true := by cases b <;> rfl
theorem bz_t {b : Bool} (h : ¬ bz b = 0) : b = true := by cases b <;> first | rfl | exact absurd rfl h
theorem bz_f {b : Bool} (h : bz b = 0) : b = false := by cases b <;> first | rfl | exact absurd h (by decide)
theorem bz_t1 {b : Bool} (h : bz b = nI 1) : b = true := by cases b <;> first | rfl | exact absurd h (by decide)
theorem bz_f1 {b : Bool} (h : ¬ bz b = nI 1) : b = false := by cases b <;> first | rfl | exact absurd rfl h
def bt (x : Int32) (k : Nat) : Bool := x.toBitVec.getLsbD k
def b1 (k : Nat) : Int32 := nI 1 <<< nI k
theorem sm_nI {k : Nat} (h : k < 32) : ((nI k).toBitVec.smod 32).toNat = k := by
  have g : ∀ j : Nat, j < 32 → ((nI j).toBitVec.smod 32).toNat = j := by decide +kernel
  exact g k h
theorem a31 {k : Nat} (h : k < 32) : nI k &&& 31 = nI k := by
  have g : ∀ j : Nat, j < 32 → nI j &&& 31 = nI j := by decide +kernel
  exact g k h
theorem b1_of {k : Nat} (h : k < 32) : nI 1 <<< (nI k &&& 31) = b1 k := by rw [a31 h]; rfl
theorem sh_of {x : Int32} {k : Nat} (h : k < 32) : x <<< (nI k &&& 31) = x <<< nI k := by rw [a31 h]
theorem sr_of {x : Int32} {k : Nat} (h : k < 32) : x >>> (nI k &&& 31) = x >>> nI k := by rw [a31 h]
theorem bt_of (x : Int32) {k : Nat} (h : k < 32) : (x >>> nI k) &&& nI 1 = bz (bt x k) := by
  apply Int32.toBitVec_inj.mp
  show (x.toBitVec.sshiftRight ((nI k).toBitVec.smod 32).toNat) &&& (nI 1).toBitVec = (bz (bt x k)).toBitVec
  rw [sm_nI h]
  apply BitVec.eq_of_getLsbD_eq
  intro i hi
  rw [BitVec.getLsbD_and, BitVec.getLsbD_sshiftRight, show (nI 1).toBitVec = 1#32 from rfl, BitVec.getLsbD_one]
  rcases Nat.eq_zero_or_pos i with rfl | hp
  · have e : (bz (bt x k)).toBitVec.getLsbD 0 = bt x k := by cases bt x k <;> rfl
    rw [e]
    simp [bt, h]
  · have e : (bz (bt x k)).toBitVec.getLsbD i = false := by
      cases bt x k
      · show (0#32).getLsbD i = false
        simp
      · show (1#32).getLsbD i = false
        rw [BitVec.getLsbD_one]
        simp
        omega
    rw [e]
    have hn : ¬ i = 0 := by omega
    simp [hn]
theorem lgc_lt (x y : Int64) : lg_cmp x y < 0 ↔ x < y := by
  unfold lg_cmp
  simp only [gt_iff_lt, Int64.lt_iff_toInt_lt, ← Int64.toInt_inj]
  split
  · simp; omega
  · split
    · simp; omega
    · simp; omega
theorem lgc_gt (x y : Int64) : 0 < lg_cmp x y ↔ y < x := by
  unfold lg_cmp
  simp only [gt_iff_lt, Int64.lt_iff_toInt_lt, ← Int64.toInt_inj]
  split
  · simp; omega
  · split
    · simp; omega
    · simp; omega
theorem lgc_eq (x y : Int64) : lg_cmp x y = 0 ↔ x = y := by
  unfold lg_cmp
  simp only [gt_iff_lt, Int64.lt_iff_toInt_lt, ← Int64.toInt_inj]
  split
  · simp; omega
  · split
    · simp; omega
    · simp; omega
theorem v_icmpn_lt {E : EV} {cc : ByteArray} {own : String} {ret : Option FieldType} {cI : ClassId} {rm : Room} {k n pc : Nat} {lv : List (Nat × Value)} {st : List Value} {ws : va_W} {a b : Nat} {off : Int} (t q : Nat) (C : CX E cc own ret cI rm) (hd : decode cc pc = .ok (.if_icmp .lt off, 3)) (kt : a < b → VV E k n t lv st ws) (kf : b ≤ a → VV E k n q lv st ws) (ha : a < 2 ^ 31 := by omega) (hb : b < 2 ^ 31 := by omega) (ht : (pc : Int) + off = (t : Int) := by rfl) (hq : pc + 3 = q := by rfl) : VV E k n pc lv (.int (nI b) :: .int (nI a) :: st) ws := v_icmp_lt t q C hd (fun c => kt ((nI_ltI ha hb).mp c)) (fun c => kf (by have h := mt (nI_ltI ha hb).mpr c; omega)) ht hq
theorem v_ifn_lt {E : EV} {cc : ByteArray} {own : String} {ret : Option FieldType} {cI : ClassId} {rm : Room} {k n pc : Nat} {lv : List (Nat × Value)} {st : List Value} {ws : va_W} {a : Nat} {off : Int} (t q : Nat) (C : CX E cc own ret cI rm) (hd : decode cc pc = .ok (.ifCond .lt off, 3)) (kt : a < 0 → VV E k n t lv st ws) (kf : 0 ≤ a → VV E k n q lv st ws) (ha : a < 2 ^ 31 := by omega) (ht : (pc : Int) + off = (t : Int) := by rfl) (hq : pc + 3 = q := by rfl) : VV E k n pc lv (.int (nI a) :: st) ws := v_if_lt t q C hd (fun c => kt ((nI_ltI ha (show (0 : Nat) < 2 ^ 31 by decide)).mp c)) (fun c => kf (by have h := mt (nI_ltI ha (show (0 : Nat) < 2 ^ 31 by decide)).mpr c; omega)) ht hq
theorem v_icmpn_ge {E : EV} {cc : ByteArray} {own : String} {ret : Option FieldType} {cI : ClassId} {rm : Room} {k n pc : Nat} {lv : List (Nat × Value)} {st : List Value} {ws : va_W} {a b : Nat} {off : Int} (t q : Nat) (C : CX E cc own ret cI rm) (hd : decode cc pc = .ok (.if_icmp .ge off, 3)) (kt : b ≤ a → VV E k n t lv st ws) (kf : a < b → VV E k n q lv st ws) (ha : a < 2 ^ 31 := by omega) (hb : b < 2 ^ 31 := by omega) (ht : (pc : Int) + off = (t : Int) := by rfl) (hq : pc + 3 = q := by rfl) : VV E k n pc lv (.int (nI b) :: .int (nI a) :: st) ws := v_icmp_ge t q C hd (fun c => kt ((nI_leI hb ha).mp c)) (fun c => kf (by have h := mt (nI_leI hb ha).mpr c; omega)) ht hq
theorem v_ifn_ge {E : EV} {cc : ByteArray} {own : String} {ret : Option FieldType} {cI : ClassId} {rm : Room} {k n pc : Nat} {lv : List (Nat × Value)} {st : List Value} {ws : va_W} {a : Nat} {off : Int} (t q : Nat) (C : CX E cc own ret cI rm) (hd : decode cc pc = .ok (.ifCond .ge off, 3)) (kt : 0 ≤ a → VV E k n t lv st ws) (kf : a < 0 → VV E k n q lv st ws) (ha : a < 2 ^ 31 := by omega) (ht : (pc : Int) + off = (t : Int) := by rfl) (hq : pc + 3 = q := by rfl) : VV E k n pc lv (.int (nI a) :: st) ws := v_if_ge t q C hd (fun c => kt ((nI_leI (show (0 : Nat) < 2 ^ 31 by decide) ha).mp c)) (fun c => kf (by have h := mt (nI_leI (show (0 : Nat) < 2 ^ 31 by decide) ha).mpr c; omega)) ht hq
theorem v_icmpn_gt {E : EV} {cc : ByteArray} {own : String} {ret : Option FieldType} {cI : ClassId} {rm : Room} {k n pc : Nat} {lv : List (Nat × Value)} {st : List Value} {ws : va_W} {a b : Nat} {off : Int} (t q : Nat) (C : CX E cc own ret cI rm) (hd : decode cc pc = .ok (.if_icmp .gt off, 3)) (kt : b < a → VV E k n t lv st ws) (kf : a ≤ b → VV E k n q lv st ws) (ha : a < 2 ^ 31 := by omega) (hb : b < 2 ^ 31 := by omega) (ht : (pc : Int) + off = (t : Int) := by rfl) (hq : pc + 3 = q := by rfl) : VV E k n pc lv (.int (nI b) :: .int (nI a) :: st) ws := v_icmp_gt t q C hd (fun c => kt ((nI_ltI hb ha).mp c)) (fun c => kf (by have h := mt (nI_ltI hb ha).mpr c; omega)) ht hq
theorem v_ifn_gt {E : EV} {cc : ByteArray} {own : String} {ret : Option FieldType} {cI : ClassId} {rm : Room} {k n pc : Nat} {lv : List (Nat × Value)} {st : List Value} {ws : va_W} {a : Nat} {off : Int} (t q : Nat) (C : CX E cc own ret cI rm) (hd : decode cc pc = .ok (.ifCond .gt off, 3)) (kt : 0 < a → VV E k n t lv st ws) (kf : a ≤ 0 → VV E k n q lv st ws) (ha : a < 2 ^ 31 := by omega) (ht : (pc : Int) + off = (t : Int) := by rfl) (hq : pc + 3 = q := by rfl) : VV E k n pc lv (.int (nI a) :: st) ws := v_if_gt t q C hd (fun c => kt ((nI_ltI (show (0 : Nat) < 2 ^ 31 by decide) ha).mp c)) (fun c => kf (by have h := mt (nI_ltI (show (0 : Nat) < 2 ^ 31 by decide) ha).mpr c; omega)) ht hq
theorem v_icmpn_le {E : EV} {cc : ByteArray} {own : String} {ret : Option FieldType} {cI : ClassId} {rm : Room} {k n pc : Nat} {lv : List (Nat × Value)} {st : List Value} {ws : va_W} {a b : Nat} {off : Int} (t q : Nat) (C : CX E cc own ret cI rm) (hd : decode cc pc = .ok (.if_icmp .le off, 3)) (kt : a ≤ b → VV E k n t lv st ws) (kf : b < a → VV E k n q lv st ws) (ha : a < 2 ^ 31 := by omega) (hb : b < 2 ^ 31 := by omega) (ht : (pc : Int) + off = (t : Int) := by rfl) (hq : pc + 3 = q := by rfl) : VV E k n pc lv (.int (nI b) :: .int (nI a) :: st) ws := v_icmp_le t q C hd (fun c => kt ((nI_leI ha hb).mp c)) (fun c => kf (by have h := mt (nI_leI ha hb).mpr c; omega)) ht hq
theorem v_ifn_le {E : EV} {cc : ByteArray} {own : String} {ret : Option FieldType} {cI : ClassId} {rm : Room} {k n pc : Nat} {lv : List (Nat × Value)} {st : List Value} {ws : va_W} {a : Nat} {off : Int} (t q : Nat) (C : CX E cc own ret cI rm) (hd : decode cc pc = .ok (.ifCond .le off, 3)) (kt : a ≤ 0 → VV E k n t lv st ws) (kf : 0 < a → VV E k n q lv st ws) (ha : a < 2 ^ 31 := by omega) (ht : (pc : Int) + off = (t : Int) := by rfl) (hq : pc + 3 = q := by rfl) : VV E k n pc lv (.int (nI a) :: st) ws := v_if_le t q C hd (fun c => kt ((nI_leI ha (show (0 : Nat) < 2 ^ 31 by decide)).mp c)) (fun c => kf (by have h := mt (nI_leI ha (show (0 : Nat) < 2 ^ 31 by decide)).mpr c; omega)) ht hq
theorem v_icmpn_eq {E : EV} {cc : ByteArray} {own : String} {ret : Option FieldType} {cI : ClassId} {rm : Room} {k n pc : Nat} {lv : List (Nat × Value)} {st : List Value} {ws : va_W} {a b : Nat} {off : Int} (t q : Nat) (C : CX E cc own ret cI rm) (hd : decode cc pc = .ok (.if_icmp .eq off, 3)) (kt : a = b → VV E k n t lv st ws) (kf : a ≠ b → VV E k n q lv st ws) (ha : a < 2 ^ 31 := by omega) (hb : b < 2 ^ 31 := by omega) (ht : (pc : Int) + off = (t : Int) := by rfl) (hq : pc + 3 = q := by rfl) : VV E k n pc lv (.int (nI b) :: .int (nI a) :: st) ws := v_icmp_eq t q C hd (fun c => kt ((nI_eq ha hb).mp c)) (fun c => kf (fun h => c ((nI_eq ha hb).mpr h))) ht hq
theorem v_ifn_eq {E : EV} {cc : ByteArray} {own : String} {ret : Option FieldType} {cI : ClassId} {rm : Room} {k n pc : Nat} {lv : List (Nat × Value)} {st : List Value} {ws : va_W} {a : Nat} {off : Int} (t q : Nat) (C : CX E cc own ret cI rm) (hd : decode cc pc = .ok (.ifCond .eq off, 3)) (kt : a = 0 → VV E k n t lv st ws) (kf : a ≠ 0 → VV E k n q lv st ws) (ha : a < 2 ^ 31 := by omega) (ht : (pc : Int) + off = (t : Int) := by rfl) (hq : pc + 3 = q := by rfl) : VV E k n pc lv (.int (nI a) :: st) ws := v_if_eq t q C hd (fun c => kt ((nI_eq ha (show (0 : Nat) < 2 ^ 31 by decide)).mp c)) (fun c => kf (fun h => c ((nI_eq ha (show (0 : Nat) < 2 ^ 31 by decide)).mpr h))) ht hq
theorem v_icmpn_ne {E : EV} {cc : ByteArray} {own : String} {ret : Option FieldType} {cI : ClassId} {rm : Room} {k n pc : Nat} {lv : List (Nat × Value)} {st : List Value} {ws : va_W} {a b : Nat} {off : Int} (t q : Nat) (C : CX E cc own ret cI rm) (hd : decode cc pc = .ok (.if_icmp .ne off, 3)) (kt : a ≠ b → VV E k n t lv st ws) (kf : a = b → VV E k n q lv st ws) (ha : a < 2 ^ 31 := by omega) (hb : b < 2 ^ 31 := by omega) (ht : (pc : Int) + off = (t : Int) := by rfl) (hq : pc + 3 = q := by rfl) : VV E k n pc lv (.int (nI b) :: .int (nI a) :: st) ws := v_icmp_ne t q C hd (fun c => kt (fun h => c ((nI_eq ha hb).mpr h))) (fun c => kf ((nI_eq ha hb).mp c)) ht hq
theorem v_ifn_ne {E : EV} {cc : ByteArray} {own : String} {ret : Option FieldType} {cI : ClassId} {rm : Room} {k n pc : Nat} {lv : List (Nat × Value)} {st : List Value} {ws : va_W} {a : Nat} {off : Int} (t q : Nat) (C : CX E cc own ret cI rm) (hd : decode cc pc = .ok (.ifCond .ne off, 3)) (kt : a ≠ 0 → VV E k n t lv st ws) (kf : a = 0 → VV E k n q lv st ws) (ha : a < 2 ^ 31 := by omega) (ht : (pc : Int) + off = (t : Int) := by rfl) (hq : pc + 3 = q := by rfl) : VV E k n pc lv (.int (nI a) :: st) ws := v_if_ne t q C hd (fun c => kt (fun h => c ((nI_eq ha (show (0 : Nat) < 2 ^ 31 by decide)).mpr h))) (fun c => kf ((nI_eq ha (show (0 : Nat) < 2 ^ 31 by decide)).mp c)) ht hq
theorem v_ifb_eq {E : EV} {cc : ByteArray} {own : String} {ret : Option FieldType} {cI : ClassId} {rm : Room} {k n pc : Nat} {lv : List (Nat × Value)} {st : List Value} {ws : va_W} {B : Bool} {off : Int} (t q : Nat) (C : CX E cc own ret cI rm) (hd : decode cc pc = .ok (.ifCond .eq off, 3)) (kt : B = false → VV E k n t lv st ws) (kf : B = true → VV E k n q lv st ws) (ht : (pc : Int) + off = (t : Int) := by rfl) (hq : pc + 3 = q := by rfl) : VV E k n pc lv (.int (bz B) :: st) ws := v_if_eq t q C hd (fun c => kt (bz_f c)) (fun c => kf (bz_t c)) ht hq
theorem v_icmpb1_eq {E : EV} {cc : ByteArray} {own : String} {ret : Option FieldType} {cI : ClassId} {rm : Room} {k n pc : Nat} {lv : List (Nat × Value)} {st : List Value} {ws : va_W} {B : Bool} {off : Int} (t q : Nat) (C : CX E cc own ret cI rm) (hd : decode cc pc = .ok (.if_icmp .eq off, 3)) (kt : B = true → VV E k n t lv st ws) (kf : B = false → VV E k n q lv st ws) (ht : (pc : Int) + off = (t : Int) := by rfl) (hq : pc + 3 = q := by rfl) : VV E k n pc lv (.int (nI 1) :: .int (bz B) :: st) ws := v_icmp_eq t q C hd (fun c => kt (bz_t1 c)) (fun c => kf (bz_f1 c)) ht hq
theorem v_ifb_ne {E : EV} {cc : ByteArray} {own : String} {ret : Option FieldType} {cI : ClassId} {rm : Room} {k n pc : Nat} {lv : List (Nat × Value)} {st : List Value} {ws : va_W} {B : Bool} {off : Int} (t q : Nat) (C : CX E cc own ret cI rm) (hd : decode cc pc = .ok (.ifCond .ne off, 3)) (kt : B = true → VV E k n t lv st ws) (kf : B = false → VV E k n q lv st ws) (ht : (pc : Int) + off = (t : Int) := by rfl) (hq : pc + 3 = q := by rfl) : VV E k n pc lv (.int (bz B) :: st) ws := v_if_ne t q C hd (fun c => kt (bz_t c)) (fun c => kf (bz_f c)) ht hq
theorem v_icmpb1_ne {E : EV} {cc : ByteArray} {own : String} {ret : Option FieldType} {cI : ClassId} {rm : Room} {k n pc : Nat} {lv : List (Nat × Value)} {st : List Value} {ws : va_W} {B : Bool} {off : Int} (t q : Nat) (C : CX E cc own ret cI rm) (hd : decode cc pc = .ok (.if_icmp .ne off, 3)) (kt : B = false → VV E k n t lv st ws) (kf : B = true → VV E k n q lv st ws) (ht : (pc : Int) + off = (t : Int) := by rfl) (hq : pc + 3 = q := by rfl) : VV E k n pc lv (.int (nI 1) :: .int (bz B) :: st) ws := v_icmp_ne t q C hd (fun c => kt (bz_f1 c)) (fun c => kf (bz_t1 c)) ht hq
theorem lgc_le (x y : Int64) : lg_cmp x y ≤ 0 ↔ x ≤ y := by
  have h := lgc_gt x y
  rw [← Int32.not_lt, h, Int64.not_lt]
theorem v_ifl_lt {E : EV} {cc : ByteArray} {own : String} {ret : Option FieldType} {cI : ClassId} {rm : Room} {k n pc : Nat} {lv : List (Nat × Value)} {st : List Value} {ws : va_W} {x y : Int64} {off : Int} (t q : Nat) (C : CX E cc own ret cI rm) (hd : decode cc pc = .ok (.ifCond .lt off, 3)) (kt : x < y → VV E k n t lv st ws) (kf : ¬ x < y → VV E k n q lv st ws) (ht : (pc : Int) + off = (t : Int) := by rfl) (hq : pc + 3 = q := by rfl) : VV E k n pc lv (.int (lg_cmp x y) :: st) ws := v_if_lt t q C hd (fun c => kt ((lgc_lt x y).mp c)) (fun c => kf (fun h => c ((lgc_lt x y).mpr h))) ht hq
theorem v_ifl_gt {E : EV} {cc : ByteArray} {own : String} {ret : Option FieldType} {cI : ClassId} {rm : Room} {k n pc : Nat} {lv : List (Nat × Value)} {st : List Value} {ws : va_W} {x y : Int64} {off : Int} (t q : Nat) (C : CX E cc own ret cI rm) (hd : decode cc pc = .ok (.ifCond .gt off, 3)) (kt : y < x → VV E k n t lv st ws) (kf : ¬ y < x → VV E k n q lv st ws) (ht : (pc : Int) + off = (t : Int) := by rfl) (hq : pc + 3 = q := by rfl) : VV E k n pc lv (.int (lg_cmp x y) :: st) ws := v_if_gt t q C hd (fun c => kt ((lgc_gt x y).mp c)) (fun c => kf (fun h => c ((lgc_gt x y).mpr h))) ht hq
theorem v_ifl_eq {E : EV} {cc : ByteArray} {own : String} {ret : Option FieldType} {cI : ClassId} {rm : Room} {k n pc : Nat} {lv : List (Nat × Value)} {st : List Value} {ws : va_W} {x y : Int64} {off : Int} (t q : Nat) (C : CX E cc own ret cI rm) (hd : decode cc pc = .ok (.ifCond .eq off, 3)) (kt : x = y → VV E k n t lv st ws) (kf : ¬ x = y → VV E k n q lv st ws) (ht : (pc : Int) + off = (t : Int) := by rfl) (hq : pc + 3 = q := by rfl) : VV E k n pc lv (.int (lg_cmp x y) :: st) ws := v_if_eq t q C hd (fun c => kt ((lgc_eq x y).mp c)) (fun c => kf (fun h => c ((lgc_eq x y).mpr h))) ht hq
theorem v_ifl_ne {E : EV} {cc : ByteArray} {own : String} {ret : Option FieldType} {cI : ClassId} {rm : Room} {k n pc : Nat} {lv : List (Nat × Value)} {st : List Value} {ws : va_W} {x y : Int64} {off : Int} (t q : Nat) (C : CX E cc own ret cI rm) (hd : decode cc pc = .ok (.ifCond .ne off, 3)) (kt : ¬ x = y → VV E k n t lv st ws) (kf : x = y → VV E k n q lv st ws) (ht : (pc : Int) + off = (t : Int) := by rfl) (hq : pc + 3 = q := by rfl) : VV E k n pc lv (.int (lg_cmp x y) :: st) ws := v_if_ne t q C hd (fun c => kt (fun h => c ((lgc_eq x y).mpr h))) (fun c => kf ((lgc_eq x y).mp c)) ht hq
theorem v_ifl_ge {E : EV} {cc : ByteArray} {own : String} {ret : Option FieldType} {cI : ClassId} {rm : Room} {k n pc : Nat} {lv : List (Nat × Value)} {st : List Value} {ws : va_W} {x y : Int64} {off : Int} (t q : Nat) (C : CX E cc own ret cI rm) (hd : decode cc pc = .ok (.ifCond .ge off, 3)) (kt : y ≤ x → VV E k n t lv st ws) (kf : ¬ y ≤ x → VV E k n q lv st ws) (ht : (pc : Int) + off = (t : Int) := by rfl) (hq : pc + 3 = q := by rfl) : VV E k n pc lv (.int (lg_cmp x y) :: st) ws := v_if_ge t q C hd (fun c => kt ((lg_cmp_ge x y).mp c)) (fun c => kf (fun h => c ((lg_cmp_ge x y).mpr h))) ht hq
theorem v_ifl_le {E : EV} {cc : ByteArray} {own : String} {ret : Option FieldType} {cI : ClassId} {rm : Room} {k n pc : Nat} {lv : List (Nat × Value)} {st : List Value} {ws : va_W} {x y : Int64} {off : Int} (t q : Nat) (C : CX E cc own ret cI rm) (hd : decode cc pc = .ok (.ifCond .le off, 3)) (kt : x ≤ y → VV E k n t lv st ws) (kf : ¬ x ≤ y → VV E k n q lv st ws) (ht : (pc : Int) + off = (t : Int) := by rfl) (hq : pc + 3 = q := by rfl) : VV E k n pc lv (.int (lg_cmp x y) :: st) ws := v_if_le t q C hd (fun c => kt ((lgc_le x y).mp c)) (fun c => kf (fun h => c ((lgc_le x y).mpr h))) ht hq
