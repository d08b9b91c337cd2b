/-- one of Throwable's two static fields: null or a reference -/
def thOne (n d : String) (A : Nat → Prop) (U : State) (H : Heap) : Prop :=
  ∃ (c : ClassId) (k : Class) (i : Nat) (f : Field) (a : Nat) (cell : Cell) (v : Value), U.vm.findClass Bundle.tN = some c ∧ U.fieldFound? Bundle.tN n d = some (c, k, i, f) ∧ f.isStatic = true ∧ k.statics = some a ∧ k.staticTypes[f.slot]? = some f.type ∧ H[a]? = some cell ∧ cell.vm.isStatics = true ∧ cell.cls = c ∧ f.slot < cell.slots.size ∧ cell.slots[f.slot]? = some v ∧ (v = .null ∨ ∃ x : Nat, v = .ref x) ∧ ¬ A a
theorem thOne.moved {n d : String} {A : Nat → Prop} {u U : State} {H : Heap} (hvm : u.vm.Alike U.vm) (h : thOne n d A u H) : thOne n d A U H := by
  obtain ⟨c, k, i, f, a, cell, v, h0, h1, h2, h3, h4, h5⟩ := h
  obtain ⟨k', hi', he⟩ := State.fieldFound?_setVm hvm h1
  exact ⟨c, k', i, f, a, cell, v, by rw [hvm.findClass]; exact h0, hi', h2, by rw [he]; exact h3, by rw [he]; exact h4, h5⟩
theorem thOne.kept {n d : String} {A : Nat → Prop} {U : State} {H H1 : Heap} (h : thOne n d A U H) (hq : ∀ a : Nat, a < H.size → ¬ A a → H1[a]? = H[a]?) : thOne n d A U H1 := by
  obtain ⟨c, k, i, f, a, cell, v, h0, h1, h2, h3, h4, h5, h6, h7, h8, h9, h10, h11⟩ := h
  exact ⟨c, k, i, f, a, cell, v, h0, h1, h2, h3, h4, by rw [hq a (Array.getElem?_eq_some_iff.mp h5).1 h11]; exact h5, h6, h7, h8, h9, h10, h11⟩
theorem thOne.narrow {n d : String} {A B : Nat → Prop} {U : State} {H : Heap} (h : thOne n d A U H) (hAB : ∀ q, B q → A q) : thOne n d B U H := by
  obtain ⟨c, k, i, f, a, cell, v, h0, h1, h2, h3, h4, h5, h6, h7, h8, h9, h10, h11⟩ := h
  exact ⟨c, k, i, f, a, cell, v, h0, h1, h2, h3, h4, h5, h6, h7, h8, h9, h10, fun q => h11 (hAB a q)⟩
theorem thOne.before {n d : String} {A : Nat → Prop} {U : State} {args : Array Value} (h : thOne n d A U U.heap) : (Cond.laysStatic Bundle.tN n d).before args U = true ∧ (Cond.isRef (.static Bundle.tN n d)).before args U = true := by
  obtain ⟨c, k, i, f, a, cell, v, h0, h1, h2, h3, h4, h5, h6, h7, h8, h9, h10, -⟩ := h
  refine ⟨by simp [Cond.before, Cond.holds, Cond.value, h0, h1, h2, h3, h4, h5, h6, h7, h8], ?_⟩
  have he : (Term.static Bundle.tN n d).eval args U none [] U = some v := by simp [Term.eval, State.fieldNamed?, h1, h2, h3, h5, h6, h9]
  simp only [Cond.before, Cond.holds, Cond.value, he]
  rcases h10 with e | ⟨x, e⟩ <;> simp [e]
theorem thOne.of {n d : String} {A : Nat → Prop} {s : State} {args : Array Value} (hl : (Cond.laysStatic Bundle.tN n d).before args s = true) (hr : (Cond.isRef (.static Bundle.tN n d)).before args s = true) (hA : ∀ a : Nat, a < s.heap.size → ¬ A a) : thOne n d A s s.heap := by
  obtain ⟨c, k, i, f, a, cell, hc, hf, hst, hsta, hcell, hiss, hcls, hlt, hty⟩ := Cond.laysStatic_spec hl
  have hv : cell.slots[f.slot]? = some cell.slots[f.slot] := Array.getElem?_eq_getElem hlt
  have he : (Term.static Bundle.tN n d).eval args s none [] s = some cell.slots[f.slot] := by simp [Term.eval, State.fieldNamed?, hf, hst, hsta, hcell, hiss, hv]
  refine ⟨c, k, i, f, a, cell, _, hc, hf, hst, hsta, hty, hcell, hiss, hcls, hlt, hv, ?_, hA a (Array.getElem?_eq_some_iff.mp hcell).1⟩
  simp only [Cond.before, Cond.holds, Cond.value, he] at hr
  revert hr
  cases cell.slots[f.slot] <;> simp
abbrev thW : List Cond := [.declares (Bundle.initS "java/lang/RuntimeException"), .declares (Bundle.initS "java/lang/Exception"), .declares (Bundle.initS Bundle.tN), .castable "java/lang/IndexOutOfBoundsException" "java/lang/IndexOutOfBoundsException", .castable "java/lang/IllegalArgumentException" "java/lang/IllegalArgumentException"]
theorem thD_mv {y : MethodName} {u U : State} (hvm : u.vm.Alike U.vm) (hZ : va_Nw (.declares y) u) : va_Nw (.declares y) U := va_tabs rfl (rfl : (u.setVm U.vm).vm = U.vm) (by rw [Cond.declares_setVm hvm]; exact hZ)
theorem thC_mv {x y : String} {u U : State} (hvm : u.vm.Alike U.vm) (hZ : va_Nw (.castable x y) u) : va_Nw (.castable x y) U := va_tabs rfl (rfl : (u.setVm U.vm).vm = U.vm) (by rw [Cond.castable_setVm hvm]; exact hZ)
theorem thW_mv {u U : State} (hvm : u.vm.Alike U.vm) (h : ∀ w ∈ thW, va_Nw w u) : ∀ w ∈ thW, va_Nw w U := by
  intro w hw
  have h1 := h w hw
  simp only [List.mem_cons, List.not_mem_nil, or_false] at hw
  rcases hw with rfl | rfl | rfl | rfl | rfl
  · exact thD_mv hvm h1
  · exact thD_mv hvm h1
  · exact thD_mv hvm h1
  · exact thC_mv hvm h1
  · exact thC_mv hvm h1
def thS (A : Nat → Prop) (U : State) (H : Heap) : Prop := thOne "UNASSIGNED_STACK" Bundle.steD A U H ∧ thOne "SUPPRESSED_SENTINEL" Bundle.listD A U H ∧ ∀ w ∈ thW, va_Nw w U
theorem thS.moved {A : Nat → Prop} {u U : State} {H : Heap} (hvm : u.vm.Alike U.vm) (h : thS A u H) : thS A U H := ⟨h.1.moved hvm, h.2.1.moved hvm, thW_mv hvm h.2.2⟩
theorem thS.kept {A : Nat → Prop} {U : State} {H H1 : Heap} (h : thS A U H) (hq : ∀ a : Nat, a < H.size → ¬ A a → H1[a]? = H[a]?) : thS A U H1 := ⟨h.1.kept hq, h.2.1.kept hq, h.2.2⟩
theorem thS.narrow {A B : Nat → Prop} {U : State} {H : Heap} (h : thS A U H) (hAB : ∀ q, B q → A q) : thS B U H := ⟨h.1.narrow hAB, h.2.1.narrow hAB, h.2.2⟩
theorem thS.mv {A B : Nat → Prop} {s U : State} {H : Heap} {locs : List Loc} (h : thS A s s.heap) (hS : va_S A s.heap H locs) (hAB : ∀ q, B q → A q) (hU : U.heap = H) (hW : s.WarmedH U.vm) : thS B U U.heap := by
  rw [hU]
  exact ((h.kept hS.2.1).narrow hAB).moved hW.alike
/-- how a method that throws a new X ends -/
def thQ (X : String) : Array Value → State → Outcome → State → Prop := fun _ st o t =>
  ∃ (x : Nat) (ce : Cell), o = .threw x ∧ (∀ q : Nat, q < st.heap.size → t.heap[q]? = st.heap[q]?) ∧ st.heap.size ≤ t.heap.size ∧ t.heap[x]? = some ce ∧ ce.vm = .none ∧ st.vm.findClass X = some ce.cls ∧ st.vm.assignable ce.cls ce.cls = true
/-- what a call that throws leaves behind: warmer tables, the old cells as they were, and no more than so many new ones -/
def thEnd (mc ms : Nat) (st t : State) : Prop := st.WarmedH t.vm ∧ st.sameButNew ({ t with vm := st.vm } : State) [] mc ms
def MQT (below : List Frame) (Qc : Array Value → State → Outcome → State → Prop) (a : Array Value) (s : State) (mc ms : Nat) : State → Prop := fun t =>
  ∃ o, t.status = .running ∧ Ended t below o ∧ Qc a s o t ∧ thEnd mc ms s t
def MetT (l : Launch) (y : MethodName) (ws : List Cond) (rm : Room) (Pc : Array Value → State → Prop) (Qc : Array Value → State → Outcome → State → Prop) (mc ms : Nat) : Prop :=
  MetFree l y (headSpec ws rm) Pc (fun _ _ _ _ _ => True) (fun a st o t => Qc a st o t ∧ thEnd mc ms st t)
theorem MetT.ofW {l : Launch} {y : MethodName} {ws ws' : List Cond} {rm : Room} {Pc : Array Value → State → Prop} {Qc : Array Value → State → Outcome → State → Prop} {mc ms : Nat} {cc : ByteArray} {maxL : Nat} {ret : Option FieldType}
    (hy : plainName y.cls = true) (hw : ws = Cond.code y cc maxL ret :: ws')
    (body : ∀ p e s m args below meth c s₁, BodyLoose p l y (headSpec ws rm) cc maxL ret e s m args below meth c s₁ → c.maxLocals = maxL → Pc args s →
      W p l e (headSpec ws rm).room s m args below meth c s.heap [] 0 0 (MQT below Qc args s mc ms) (entryFrame m args maxL)) : MetT l y ws rm Pc Qc mc ms := by
  refine MetFree.of_bodyS (code := cc) (maxLocals := maxL) (ret := ret) hy ?_ ?_
  · intro args s m h hn
    obtain ⟨meth, c, h1, h2, h3, h4, h5, h6, -, -⟩ := Cond.code_spec hn (atoms_spec (ws := ws) h _ (by rw [hw]; exact List.mem_cons_self))
    exact ⟨meth, c, h1, h2, h3, h4, h5, h6⟩
  · intro p e s m args below meth c s₁ B hml hP _
    have hh0 : s₁.heap = s.heap := by rw [B.state]; rfl
    obtain ⟨t, a1, o, b1, b2, b3⟩ := body p e s m args below meth c s₁ B hml hP s₁ hh0 (Stand.of_body B)
    exact ⟨t, o, a1, b1, b2, ⟨b3.1, b3.2⟩⟩
theorem thAtoms {own cls : String} {names : List String} {ic : Nat} {A : Nat → Prop} {s : State} {args : Array Value} {Ts : List Cond} (ht : ∀ w ∈ Ts, w.before args s = true) (hT : thS A s s.heap)
    (hin : ∀ w ∈ Bundle.ownAtoms own ic cls names, w ∈ Ts ∨ w ∈ ([.laysStatic Bundle.tN "UNASSIGNED_STACK" Bundle.steD, .laysStatic Bundle.tN "SUPPRESSED_SENTINEL" Bundle.listD, .isRef (.static Bundle.tN "UNASSIGNED_STACK" Bundle.steD), .isRef (.static Bundle.tN "SUPPRESSED_SENTINEL" Bundle.listD)] : List Cond) ∨ w ∈ thW) :
    ∀ w ∈ Bundle.ownAtoms own ic cls names, w.before args s = true := by
  intro w hw
  rcases hin w hw with h | h | h
  · exact ht w h
  rotate_left
  · have ho : ∀ w ∈ thW, w.onTables = true := by
      intro w hw
      simp only [List.mem_cons, List.not_mem_nil, or_false] at hw
      rcases hw with rfl | rfl | rfl | rfl | rfl <;> rfl
    exact va_Nw.use (ho w h) (hT.2.2 w h)
  · simp only [List.mem_cons, List.not_mem_nil, or_false] at h
    rcases h with rfl | rfl | rfl | rfl
    · exact hT.1.before.1
    · exact hT.2.1.before.1
    · exact hT.1.before.2
    · exact hT.2.1.before.2
section THR
variable {p : Program} {l : Launch} {e : Env} {R : Room} {s : State} {m : MethodId} {args : Array Value} {below : List Frame} {meth : Method} {c : Code} {H : Heap} {locs : List Loc} {cells slots : Nat} {Q : State → Prop}
theorem W.throwS {cc : ByteArray} (hexec : p.tables.exec = Jvm.exec) (hb : c.code = cc) (hl : l.flags = pinnedFlags ++ [noTraceFlag]) {own cls : String} {names : List String} {ic : Nat} (hown : s.vm.findClass own = some m.cls)
    (hcls : Bundle.fit cls = true) (hnames : ∀ n ∈ names, Bundle.fit n = true) (h : ∀ w ∈ Bundle.ownAtoms own ic cls names, w.before args s = true)
    {a : Nat} {cX : ClassId} {kX : Class} (hfoundX : s.vm.findClass cls = some cX) (hkX : s.vm.classes[cX]? = some kX) (hcell : H[a]? = some (freshCell cX kX)) (hnew : s.heap.size ≤ a) {msg : Value} (hmsg : msg.isRef = true)
    {pc : Nat} {ls : Array Slot} (hsize : ls.size = c.maxLocals) (hd6 : decode cc pc = .ok (.invokespecial ic, 3)) (hd9 : decode cc (pc + 3) = .ok (.athrow, 1)) (hout : c.exceptionTable.isEmpty = true)
    (hRf : names.length + 3 < R.frames) (hRl : 43 + 13 * (names.length + 1) ≤ R.locals)
    (hlocks : meth.locks = false) : W p l e R s m args below meth c H [] cells slots (MQT below (thQ cls) args s cells slots) (F0 m pc ls [msg, .ref a, .ref a]) := by
  intro T hT X
  subst hT; subst hb
  have h0 : c.exceptionTable.toList = [] := by
    have h0 : c.exceptionTable.size = 0 := by simpa [Array.isEmpty] using hout
    exact List.eq_nil_of_length_eq_zero (by simpa using h0)
  obtain ⟨U, st, hrun, hend, hW, hsame, ce, hce, O⟩ := X.ctorThrowS hexec (Launch.traces_off hl X.admits) hown hcls hnames h (fun x hx => by cases hx) hfoundX hkX hcell hnew hmsg (g := F0 m pc ls [msg, .ref a, .ref a]) rfl hsize rfl rfl (rest := []) rfl hd6 hd9 (fun x hx => by rw [h0] at hx; cases hx) hRf (by show 2 * 0 + (([Value.ref a] : List Value).map fun v => v.category).sum + _ ≤ _; simp [Value.category]; omega) hlocks
  refine ⟨U, st, .threw a, hrun, hend, ⟨a, ce, rfl, fun q hq => ?_, hsame.2.1, hce, O.vm, O.cls, O.self⟩, hW, hsame⟩
  have h1 : s.heap[q]? = some s.heap[q] := Array.getElem?_eq_getElem hq
  rw [h1]
  exact hsame.kept_nil h1
/-- the search behind a catch type that may be unresolved yet: as from the tables that its resolution leaves -/
theorem thCold {t : State} {g : JFrame} {a : Addr} {x : ExceptionTableEntry} {cT : ClassId} {vm1 : Vm} (hcov : covers x g.pc = true) (h0 : x.catchType ≠ 0)
    (hg : (Jvm.resolveClass g.method.cls x.catchType).Gives e.toSetting t.vm (.ok cT) vm1) (hr : vm1.classReady g.method.cls x.catchType cT) (hsz : vm1.classes.size ≤ t.vm.classes.size)
    {Q : Handler → Pre} {E : CtlPost} {d : Bool} {acts : List Action} : wp (findHandler.go g a [x]) Q E e d acts t ↔ wp (findHandler.go g a [x]) Q E e d acts (t.setVm vm1) := by
  obtain ⟨ha, ht⟩ := hg.op (op := VmOp.resolveClass g.method.cls x.catchType) rfl
  obtain ⟨k, hk, hres⟩ := hr
  simp only [covers] at hcov
  simp [findHandler.go, hcov, h0, ha, ht, hsz, resolveClass_memo e hk hres, VmOp.dirties, VmOp.acts]
  exact Iff.rfl
/-- the only handler of a method takes a new X that is thrown in its range -/
theorem W.catches {T : State} (X : Stand p l e R s m args below meth c T locs cells slots) {own Xn : String} (hown : s.vm.findClass own = some m.cls) {pc : Nat} {ls : Array Slot} {st : List Value} {a : Nat} {ce : Cell}
    (x : ExceptionTableEntry) (hex : c.exceptionTable.toList = [x]) (hcov : covers x pc = true) (h0 : x.catchType ≠ 0) (hlink : (Cond.classLink own x.catchType Xn).before args s = true)
    (hcell : T.heap[a]? = some ce) (hvm : ce.vm = .none) (hfc : s.vm.findClass Xn = some ce.cls) (hasg : s.vm.assignable ce.cls ce.cls = true)
    (kk : W p l e R s m args below meth c T.heap locs cells slots Q (F0 m x.handlerPc ls [.ref a])) :
    ∃ t, Steps p.tables e below ((T.setTop (F0 m pc ls st)).pushFrame (.throwing a)) t ∧ Q t := by
  obtain ⟨cT, hcT, hcl⟩ := Cond.classLink_spec hown hlink e.platform (by rw [X.admits.platform])
  cases hfc.symm.trans hcT
  obtain ⟨dk, _, _, kt, hd, _, _, _, _, hkt, _, hopen⟩ := hcl.here
  have hcold := X.warmed.classLinks hcl
  have hWn : s.WarmedH (T.vm.noted m.cls x.catchType (.cls ce.cls)) := X.warmed.noted hd hopen (State.rightAt_cls hcl)
  obtain ⟨kn, hkn, -⟩ := hWn.alike.2.2 _ _ hkt
  obtain ⟨t', hst, hq⟩ := kk (T.setVm (T.vm.noted m.cls x.catchType (.cls ce.cls))) rfl (X.noted hWn)
  obtain ⟨hgo, hwi⟩ := At.throwing (g := F0 m pc ls st) X.here a
  obtain ⟨g₀, hfr⟩ := X.frames_eq
  have hfr' : (T.setVm (T.vm.noted m.cls x.catchType (.cls ce.cls))).frames = .java g₀ :: below := hfr
  refine ⟨t', Steps.head hgo hwi ?_, hq⟩
  rw [stepThread_throwing (frames_entered X.here.top _), X.tail]
  have hsees : ∀ (Q : Handler → Pre) (E : CtlPost) (d : Bool) (acts : List Action), wp (findHandler (F0 m pc ls st) a) Q E e d acts ((T.setTop (F0 m pc ls st)).pushFrame (.throwing a)) ↔ Q (.found x.handlerPc) d acts (((T.setTop (F0 m pc ls st)).pushFrame (.throwing a)).setVm (T.vm.noted m.cls x.catchType (.cls ce.cls))) := by
    intro Q E d acts
    rw [W.findHandler_eq (meth := meth) (code := c) (by rw [Stand.throwing_vm]; exact X.method') X.code, hex,
      thCold (vm1 := T.vm.noted m.cls x.catchType (.cls ce.cls)) (cT := ce.cls) hcov h0 (by rw [Stand.throwing_vm]; exact resolveClass_links e.toSetting hcold) hcold.ready (by rw [Stand.throwing_vm, Vm.size_noted]; exact Nat.le_refl _),
      W.findHandler_go_class (c := ce.cls) (cell := ce) hcov h0 hcold.ready (by show ((T.setTop (F0 m pc ls st)).pushFrame (.throwing a)).heap[a]? = _; rw [Stand.throwing_heap]; exact hcell) (fun k h => by rw [hvm] at h; cases h) ⟨kn, hkn⟩ ⟨kn, hkn⟩,
      if_pos (by show (T.vm.noted m.cls x.catchType (.cls ce.cls)).assignable ce.cls ce.cls = true; rw [hWn.alike.assignable]; exact hasg)]
  have hone : (stepThrowing e ((T.setTop (F0 m pc ls st)).pushFrame (.throwing a)) a (.java (F0 m pc ls st) :: below)).1 = (T.setVm (T.vm.noted m.cls x.catchType (.cls ce.cls))).setTop (F0 m x.handlerPc ls [.ref a]) := by
    rw [State.setTop_of_frames _ hfr']
    have hP : ((T.setTop (F0 m pc ls st)).pushFrame (.throwing a)).setVm (T.vm.noted m.cls x.catchType (.cls ce.cls)) = (T.setVm (T.vm.noted m.cls x.catchType (.cls ce.cls))).setFrames (.throwing a :: .java (F0 m pc ls st) :: below) := by
      rw [State.pushFrame, State.frames_setTop _ hfr, State.setTop_of_frames _ hfr, State.setFrames_setFrames]
      rfl
    simp only [stepThrowing, searchFrame, vmDo]
    generalize hr : Sem.go _ e false [] _ = res
    obtain ⟨as, rfl, -⟩ := Sem.eq_ok_of hr (a := Handler.found x.handlerPc) (s' := ((T.setTop (F0 m pc ls st)).pushFrame (.throwing a)).setVm (T.vm.noted m.cls x.catchType (.cls ce.cls))) (acts' := []) (by simp [hsees _ _ _ _])
    show (((T.setTop (F0 m pc ls st)).pushFrame (.throwing a)).setVm (T.vm.noted m.cls x.catchType (.cls ce.cls))).setFrames _ = _
    rw [hP, State.setFrames_setFrames]
  rw [hone]
  exact hst
/-- where a call that threw has left its caller -/
theorem thLand {U t : State} {g g₀ : JFrame} {mk : MethodId} {a : Array Value} {v : Addr} {mc ms : Nat} (htop : U.topJava?.isSome) (hU : U.frames = .java g₀ :: below) (hf : t.frames = .throwing v :: .java g :: below) (h : thEnd mc ms (U.calling g mk a) t) :
    ∃ (n1 : Nat) (vm1 : Vm), t = ((({ U with heap := t.heap, slotsUsed := n1 } : State).setVm vm1).setTop g).pushFrame (.throwing v) ∧ U.WarmedH vm1 ∧ U.sameButNew ({ U with heap := t.heap, slotsUsed := n1 } : State) [] mc ms := by
  obtain ⟨hw, h1, h2⟩ := h
  rw [State.calling_eq htop] at hw h1 h2
  obtain ⟨th, hth, -⟩ := State.frames_cons hU
  have hfr : (({ U with heap := t.heap, slotsUsed := t.slotsUsed } : State).setVm t.vm).frames = .java g₀ :: below := hU
  refine ⟨t.slotsUsed, t.vm, ?_, hw, ?_, h2⟩
  · rw [State.pushFrame, State.frames_setTop _ hfr, State.setTop_of_frames _ hfr, State.setFrames_setFrames, ← hf]
    have h0 := congrArg (fun z : State => z.setVm t.vm) h1
    have h3 : t = ({ (U.setFrames (.invoking mk a :: .java g :: U.frames.tail)).setFrames t.frames with heap := t.heap, slotsUsed := t.slotsUsed } : State).setVm t.vm := h0
    rw [State.setFrames_setFrames] at h3
    exact h3
  · show ({ U with heap := t.heap, slotsUsed := t.slotsUsed } : State) = { U.setFrames U.frames with heap := t.heap, slotsUsed := t.slotsUsed }
    rw [State.setFrames_self hth]
/-- a call of a method that throws a new X, caught by the only handler of the caller -/
theorem W.callCaught {cc : ByteArray} (hexec : p.tables.exec = Jvm.exec) (hb : c.code = cc) {own C Xn : String} {index maxL mc ms : Nat} {y : MethodName} {bytes : ByteArray} {ret : Option FieldType} {ws : List Cond} {rm : Room} {Pc : Array Value → State → Prop}
    (hown : s.vm.findClass own = some m.cls) (hlink : (Cond.methodLink own index y).before args s = true) (hinst : (Cond.instanceMethod y).before args s = true) (hsel : (Cond.selects C y y).before args s = true)
    (hcode : (Cond.code y bytes maxL ret).before args s = true) (hy : y.cls ≠ "java/lang/invoke/MethodHandle" ∧ y.cls ≠ "java/lang/invoke/VarHandle")
    (hM : MetT l y ws rm Pc (thQ Xn) mc ms) (hblind : FrameBlind Pc) (hrc : rm.cells = mc) (hrs : rm.slots = ms) (hframes : rm.frames + 1 ≤ R.frames) (hlocals : 8 + (maxL + 11) + rm.locals ≤ R.locals)
    (hws : ∀ w ∈ ws, ∀ a' U, s.WarmedH U.vm → w.before a' U = true) (hcw : Cond.code y bytes maxL ret ∈ ws) (hinit : (Cond.initialized y.cls).before args s = true)
    {b : Addr} {cellB : Cell} (hcell : H[b]? = some cellB) (hobj : cellB.vm.isStatics = false) (hcls : s.vm.findClass C = some cellB.cls)
    {pc : Nat} {ls : Array Slot} (hsize : ls.size = c.maxLocals) {argsL rest : List Value} (hlen : ∀ sig, parseMethodDescriptor y.desc = some sig → argsL.length = sig.parameters.length)
    (hW : (rest.map fun v => v.category).sum ≤ 8) (hdg : decode cc pc = .ok (.invokevirtual index, 3)) (hcs : cells + mc ≤ R.cells ∧ slots + ms ≤ R.slots)
    (hPc : ∀ U : State, U.heap = H → s.WarmedH U.vm → Pc (Value.ref b :: argsL).toArray U)
    (x : ExceptionTableEntry) (hex : c.exceptionTable.toList = [x]) (hcov : covers x pc = true) (h0 : x.catchType ≠ 0) (hlinkC : (Cond.classLink own x.catchType Xn).before args s = true)
    (kk : ∀ (a : Nat) (H1 : Heap), H.size ≤ H1.size → (∀ q : Nat, q < H.size → H1[q]? = H[q]?) → W p l e R s m args below meth c H1 locs (cells + mc) (slots + ms) Q (F0 m x.handlerPc ls [.ref a])) :
    W p l e R s m args below meth c H locs cells slots Q (F0 m pc ls (argsL.reverse ++ .ref b :: rest)) := by
  intro T hT X
  subst hb
  obtain ⟨mk, methM, hnamed, hmethM, hstM, habM⟩ := Cond.instanceMethod_spec hinst
  obtain ⟨methM', cM, hmethM', -, -, -, -, -, -, hsigM⟩ := Cond.code_spec hnamed hcode
  cases hmethM.symm.trans hmethM'
  obtain ⟨c2, r2, m2, q1, q2, q3, q4, kP, hkP, hkPi⟩ := Cond.selects_spec hsel
  cases hcls.symm.trans q1
  cases (State.methodFound?_of_named hnamed hy).symm.trans q2
  cases hnamed.symm.trans q3
  have hselP : selectMethod e.platform s.vm cellB.cls mk = .method mk := by rw [Launch.admits_selectMethod X.admits]; exact q4
  obtain ⟨vm₁, X₁, hstep₁⟩ := X.invokevirtual hexec hown hlink hnamed hmethM hstM hkP hkPi hy (a := b) (cell := cellB) (by rw [hT]; exact hcell)
    (fun z h => by rw [h] at hobj; cases hobj) hselP hmethM habM hkP hkPi (g := F0 m pc ls (argsL.reverse ++ .ref b :: rest)) rfl (argsL := argsL) (rest := rest) (hlen _ hsigM) rfl hdg
  have hn := X₁.named hnamed
  obtain ⟨methY, cY, hmY, hcY, -, hlY, -, -, -, -⟩ := Cond.code_spec hn (hws _ hcw (Value.ref b :: argsL).toArray _ X₁.warmed)
  obtain ⟨kY, hkY, -⟩ := className_of_methodNamed hn
  have hripe : kY.init = .initialized := Cond.initialized_spec (findClass_of_methodNamed hn) hkY (word_at (a' := (Value.ref b :: argsL).toArray) X₁.warmed (Or.inl (by first | rfl | simp [Cond.onTables, Cond.keeps, Cond.steady])) hinit)
  have hroom := X₁.room_calling (g := F0 m pc ls rest) (args' := (Value.ref b :: argsL).toArray) (R' := rm) hsize hmY hcY hframes (by rw [hlY]; show 2 * 0 + (rest.map fun v => v.category).sum + (maxL + 11) + rm.locals ≤ R.locals; omega) (by rw [hrc]; exact hcs.1) (by rw [hrs]; exact hcs.2)
  have happ : (headSpec ws rm).appliesLoose y e.platform ((T.setVm vm₁).calling (F0 m pc ls rest) mk (Value.ref b :: argsL).toArray) = true :=
    Spec.appliesLoose_calling (g := F0 m pc ls rest) X₁.here hdg hn hkY hripe hroom (atoms_intro fun w hw => hws w hw _ _ X₁.warmed)
  obtain ⟨g₁, hfr₁⟩ := X₁.frames_eq
  have hfr : ((T.setVm vm₁).setTop (F0 m pc ls rest)).frames = [.java (F0 m pc ls rest)] ++ below := State.frames_setTop _ hfr₁
  obtain ⟨o, t, hsteps, -, hend, ⟨xa, ce, ho, hk, hz, hce, hvm, hfc, hasg⟩, hE⟩ := Steps.callFree hM p X₁.admits X₁.cas X₁.clock (acts := []) hfr happ (hblind _ _ (F0 m pc ls rest) mk (hPc (T.setVm vm₁) hT X₁.warmed)) trivial
  subst ho
  rw [hfr] at hend
  obtain ⟨n1, vm1, ht, hW1, hs1⟩ := thLand X₁.here.top hfr₁ hend hE
  have X' := X₁.moved (T₂ := ({ T.setVm vm₁ with heap := t.heap, slotsUsed := n1 } : State).setVm vm1) ((X₁.here.setHeapUsed t.heap n1).setVm hW1.alike) X₁.tail rfl rfl hW1 hs1
  rw [List.append_nil] at X'
  have hH : ((T.setVm vm₁).calling (F0 m pc ls rest) mk (Value.ref b :: argsL).toArray).heap = H := hT
  have hfc' : s.vm.findClass Xn = some ce.cls := by rw [← X₁.warmed.alike.findClass]; exact hfc
  have hasg' : s.vm.assignable ce.cls ce.cls = true := by rw [← X₁.warmed.alike.assignable]; exact hasg
  obtain ⟨t', a1, b1⟩ := W.catches X' hown (pc := pc) (ls := ls) (st := rest) x hex hcov h0 hlinkC hce hvm hfc' hasg' (kk xa t.heap (by rw [← hH]; exact hz) (fun q hq => by rw [← hH] at hq ⊢; exact hk q hq))
  refine ⟨t', hstep₁ _ fun acts => ?_, b1⟩
  rw [doInvoke_state]
  refine hsteps.trans ?_
  rw [ht]
  exact a1
end THR
