-- ===== exceptions, second half: a method with a table of handlers; its call =====
section XU
variable {p : Program} {l : Launch} {e : Env} {R : Room} {s : State} {m : MethodId} {args : Array Value} {below : List Frame} {meth : Method} {c : Code} {H : Heap} {locs : List Loc} {cells slots : Nat} {Q : State → Prop}
/-- one row of a table, its class linked: it takes what is thrown, or the search goes on -/
theorem xt_row {Qh : Handler → Pre} {E : CtlPost} {d : Bool} {acts : List Action} {S : State} {f : JFrame} {a : Addr} {x : ExceptionTableEntry} {t : List ExceptionTableEntry} {k : ClassId} {cell : Cell} {kc kt : Class}
    (hx : covers x f.pc = true) (h0 : x.catchType ≠ 0) (hl : S.vm.ClassLinks e.platform f.method.cls x.catchType k) (hcell : S.heap[a]? = some cell) (hobj : cell.vm = .none) (hkc : S.vm.classes[cell.cls]? = some kc) (hkt : S.vm.classes[k]? = some kt) :
    wp (findHandler.go f a (x :: t)) Qh E e d acts S ↔ (if S.vm.assignable cell.cls k = true then Qh (.found x.handlerPc) d acts (S.setVm (S.vm.noted f.method.cls x.catchType (.cls k))) else wp (findHandler.go f a t) Qh E e d acts (S.setVm (S.vm.noted f.method.cls x.catchType (.cls k)))) := by
  simp only [covers] at hx
  obtain ⟨ha, ht⟩ := (resolveClass_links e.toSetting hl).op (op := VmOp.resolveClass f.method.cls x.catchType) rfl
  have hal : S.vm.Alike (S.vm.noted f.method.cls x.catchType (.cls k)) := (Vm.Alike.refl S.vm).noted _ _ _
  obtain ⟨k1, hk1, -⟩ := hal.2.2 _ _ hkc
  obtain ⟨k2, hk2, -⟩ := hal.2.2 _ _ hkt
  have hns : ∀ z, cell.vm ≠ .statics z := fun z h => by rw [hobj] at h; cases h
  by_cases hfit : S.vm.assignable cell.cls k = true
  · have hfit' : (S.vm.noted f.method.cls x.catchType (.cls k)).assignable cell.cls k = true := by rw [hal.assignable]; exact hfit
    simp [findHandler.go, hx, h0, ha, ht, hcell, hns, hk1, hk2, hfit, hfit', VmOp.dirties, VmOp.acts]
  · have hfit2 : S.vm.assignable cell.cls k = false := by simpa using hfit
    have hfit' : (S.vm.noted f.method.cls x.catchType (.cls k)).assignable cell.cls k = false := by rw [hal.assignable]; exact hfit2
    simp [findHandler.go, hx, h0, ha, ht, hcell, hns, hk1, hk2, hfit2, hfit', VmOp.dirties, VmOp.acts]
/-- the rows of a table that a throw of class thr at pc passes, and the one, at handler r, that takes it -/
def xt_Tab (pl : Platform) (s : State) (d : ClassId) (pc : Nat) (thr : ClassId) : List ExceptionTableEntry → Nat → Prop
  | [], _ => False
  | x :: t, r => covers x pc = true ∧ x.catchType ≠ 0 ∧ ∃ k : ClassId, s.vm.ClassLinks pl d x.catchType k ∧ ((s.vm.assignable thr k = true ∧ r = x.handlerPc) ∨ (s.vm.assignable thr k = false ∧ xt_Tab pl s d pc thr t r))
theorem xt_search {f : JFrame} {a : Addr} {cell : Cell} {kc : Class} (hobj : cell.vm = .none) (hkc : s.vm.classes[cell.cls]? = some kc) : ∀ (rows : List ExceptionTableEntry) (S : State) (r : Nat), s.WarmedH S.vm → S.heap[a]? = some cell → xt_Tab e.platform s f.method.cls f.pc cell.cls rows r →
    ∃ vm', s.WarmedH vm' ∧ ∀ (Qh : Handler → Pre) (E : CtlPost) (d : Bool) (acts : List Action), wp (findHandler.go f a rows) Qh E e d acts S ↔ Qh (.found r) d acts (S.setVm vm') := by
  intro rows
  induction rows with
  | nil => intro S r _ _ h; exact False.elim h
  | cons x t ih =>
    intro S r hW hcell h
    obtain ⟨hx, h0, k, hl, hor⟩ := h
    obtain ⟨dk, _, _, kt, hd, _, _, _, _, hkt, _, hopen⟩ := hl.here
    obtain ⟨kt', hkt', -⟩ := hW.alike.2.2 _ _ hkt
    obtain ⟨kc', hkc', -⟩ := hW.alike.2.2 _ _ hkc
    have hW1 : s.WarmedH (S.vm.noted f.method.cls x.catchType (.cls k)) := hW.noted hd hopen (State.rightAt_cls hl)
    have has : S.vm.assignable cell.cls k = s.vm.assignable cell.cls k := by rw [hW.alike.assignable]
    rcases hor with ⟨hfit, rfl⟩ | ⟨hno, hrest⟩
    · exact ⟨_, hW1, fun Qh E d acts => by rw [xt_row hx h0 (hW.classLinks hl) hcell hobj hkc' hkt', if_pos (has.trans hfit)]⟩
    · obtain ⟨vm', hW', hq⟩ := ih (S.setVm (S.vm.noted f.method.cls x.catchType (.cls k))) r hW1 hcell hrest
      exact ⟨vm', hW', fun Qh E d acts => by
        rw [xt_row hx h0 (hW.classLinks hl) hcell hobj hkc' hkt', if_neg (by rw [has, hno]; decide)]
        exact hq Qh E d acts⟩
theorem xt_took {T : State} (X : Stand p l e R s m args below meth c T locs cells slots) {g : JFrame} (hg : g.method = m) {a : Addr} {cell : Cell} {kc : Class} (hcell : T.heap[a]? = some cell) (hobj : cell.vm = .none) (hkc : s.vm.classes[cell.cls]? = some kc) {r : Nat} (htab : xt_Tab e.platform s m.cls g.pc cell.cls c.exceptionTable.toList r) :
    ∃ vm', Stand p l e R s m args below meth c (T.setVm vm') locs cells slots ∧ ∀ target, Steps p.tables e below ((T.setVm vm').setTop { g with pc := r, stack := [.ref a] }) target → Steps p.tables e below ((T.setTop g).pushFrame (.throwing a)) target := by
  subst hg
  obtain ⟨vm', hW', hq⟩ := xt_search (e := e) (s := s) (f := g) (a := a) hobj hkc c.exceptionTable.toList ((T.setTop g).pushFrame (.throwing a)) r (by rw [throwing_vm]; exact X.warmed) (by rw [throwing_heap]; exact hcell) htab
  refine ⟨vm', X.noted hW', fun target hrest => ?_⟩
  obtain ⟨hgo, hw⟩ := X.here.throwing a
  refine Steps.head hgo hw ?_
  have hfind : ∀ (Qh : Handler → Pre) (E : CtlPost) (d : Bool) (acts : List Action), wp (findHandler g a) Qh E e d acts ((T.setTop g).pushFrame (.throwing a)) ↔ Qh (.found r) d acts (((T.setTop g).pushFrame (.throwing a)).setVm vm') := fun Qh E d acts => by
    rw [_root_.Jvm.W.findHandler_eq (meth := meth) (code := c) (by rw [throwing_vm]; exact X.method') X.code]
    exact hq Qh E d acts
  have hstep : (stepThrowing e ((T.setTop g).pushFrame (.throwing a)) a (.java g :: T.frames.tail)).Is ((((T.setTop g).pushFrame (.throwing a)).setVm vm').setFrames (.java { g with pc := r, stack := [.ref a] } :: T.frames.tail)) [] := by
    simp only [stepThrowing, searchFrame, vmDo]
    generalize hr : Sem.go _ e false [] ((T.setTop g).pushFrame (.throwing a)) = res
    obtain ⟨as, rfl, ha⟩ := Sem.eq_ok_of hr (a := Handler.found r) (s' := ((T.setTop g).pushFrame (.throwing a)).setVm vm') (acts' := []) (by simp [hfind])
    exact ⟨rfl, ha⟩
  rw [stepThread_throwing (frames_entered X.here.top _), hstep.1]
  obtain ⟨g₀, hfr⟩ := X.frames_eq
  have hfr' : (T.setVm vm').frames = .java g₀ :: below := hfr
  rw [State.setTop_of_frames _ hfr'] at hrest
  have hS : (((T.setTop g).pushFrame (.throwing a)).setVm vm').setFrames (.java { g with pc := r, stack := [.ref a] } :: T.frames.tail) = (T.setVm vm').setFrames (.java { g with pc := r, stack := [.ref a] } :: below) := by
    rw [X.tail, State.pushFrame, State.setTop_of_frames _ hfr, State.setFrames_setFrames]
    show ((T.setVm vm').setFrames _).setFrames _ = _
    rw [State.setFrames_setFrames]
  rw [hS]
  exact hrest
/-- the same in words: rows (from, to, handler, entry), a throw of E at pc -/
def xt_Row (args : Array Value) (s : State) (own E : String) (pc : Nat) : List (Nat × Nat × Nat × Nat) → Nat → Prop
  | [], _ => False
  | x :: t, r => (x.1 ≤ pc ∧ pc < x.2.1) ∧ x.2.2.2 ≠ 0 ∧ ∃ nm : String, (Cond.classLink own x.2.2.2 nm).before args s = true ∧ (((Cond.castable E nm).before args s = true ∧ r = x.2.2.1) ∨ (va_Nc E nm s ∧ xt_Row args s own E pc t r))
theorem xt_tabOf {pl : Platform} (hpl : pl.magicAccessors = ({} : Platform).magicAccessors) {own E : String} {d thr : ClassId} {pc : Nat} (hown : s.vm.findClass own = some d) (hE : s.vm.findClass E = some thr) : ∀ (l : List ExceptionTableEntry) (r : Nat), xt_Row args s own E pc (l.map (fun h => (h.startPc, h.endPc, h.handlerPc, h.catchType))) r → xt_Tab pl s d pc thr l r := by
  intro l
  induction l with
  | nil => intro r h; exact h
  | cons x t ih =>
    intro r h
    obtain ⟨⟨h1, h2⟩, h3, nm, hl, hor⟩ := h
    obtain ⟨k, hk, hcl⟩ := Cond.classLink_spec hown hl pl hpl
    refine ⟨by simp only [covers, Bool.and_eq_true, decide_eq_true_eq]; exact ⟨h1, h2⟩, h3, k, hcl, ?_⟩
    rcases hor with ⟨hc, rfl⟩ | ⟨hn, hrest⟩
    · obtain ⟨c3, c4, e3, e4, has⟩ := Cond.castable_spec hc
      cases Option.some.inj (e3.symm.trans hE)
      cases Option.some.inj (e4.symm.trans hk)
      exact Or.inl ⟨has, rfl⟩
    · obtain ⟨c3, c4, e3, e4, has⟩ := hn
      cases Option.some.inj (e3.symm.trans hE)
      cases Option.some.inj (e4.symm.trans hk)
      exact Or.inr ⟨has, ih r hrest⟩
/-- caught by a row of the method's own table -/
theorem xt_catch {own E : String} {ce : Cell} {q : Addr} {pc r : Nat} {ls : Array Slot} {rest : List Value} {rows : List (Nat × Nat × Nat × Nat)} (hown : s.vm.findClass own = some m.cls) (htab : c.exceptionTable.toList.map (fun h => (h.startPc, h.endPc, h.handlerPc, h.catchType)) = rows)
    (hrow : xt_Row args s own E pc rows r) (hce : H[q]? = some ce) (hcv : ce.vm = .none) (hcl : s.vm.findClass E = some ce.cls) (kk : W p l e R s m args below meth c H locs cells slots Q (F0 m r ls [.ref q])) :
    xt_N p l e R s m args below meth c H locs cells slots Q (F0 m pc ls rest) q := by
  intro T hT X
  have hpl : e.platform.magicAccessors = ({} : Platform).magicAccessors := by rw [X.admits.platform]
  obtain ⟨kc, hkc⟩ := Vm.classAt_of_findClass hcl
  subst htab
  obtain ⟨vm', X', st⟩ := xt_took X (g := F0 m pc ls rest) rfl (by rw [hT]; exact hce) hcv hkc (xt_tabOf hpl hown hcl _ _ hrow)
  obtain ⟨t, a1, b1⟩ := kk (T.setVm vm') hT X'
  exact ⟨t, st t a1, b1⟩
/-- the contract of a method with a table that catches all it meets -/
theorem xt_ofT {y : MethodName} {ws ws' : List Cond} {rm : Room} {Pc : Array Value → State → Prop} {Qc : Array Value → State → Outcome → State → Prop} {mc ms : Nat} {free : Addr → Prop} {cc : ByteArray} {maxL : Nat} {ret : Option FieldType} {rows : List (Nat × Nat × Nat × Nat)}
    (hy : plainName y.cls = true) (hw : ws = Cond.codeWith y cc maxL ret rows :: ws')
    (body : ∀ p e s m args below meth c s₁, BodyLoose p l y (headSpec ws rm) cc maxL ret e s m args below meth c s₁ → c.maxLocals = maxL → c.exceptionTable.toList.map (fun h => (h.startPc, h.endPc, h.handlerPc, h.catchType)) = rows → Pc args s →
      W p l e (headSpec ws rm).room s m args below meth c s.heap [] 0 0 (MQ below Qc args s mc ms free) (entryFrame m args maxL)) : Met l y ws rm Pc Qc mc ms free := by
  have hat : ∀ (args : Array Value) (s : State), (headSpec ws rm).pre.before args s = true → (Cond.codeWith y cc maxL ret rows).before args s = true := fun args s h => atoms_spec (ws := ws) h _ (by rw [hw]; exact List.mem_cons_self)
  refine MetFree.of_bodyS (code := cc) (maxLocals := maxL) (ret := ret) hy ?_ ?_
  · intro args s m h hn
    obtain ⟨m', meth, c, h0, h1, h2, h3, h4, -, h5, h6, -⟩ := Cond.codeWith_spec (hat args s h)
    cases Option.some.inj (h0.symm.trans hn)
    exact ⟨meth, c, h1, h2, h3, h4, h5, h6⟩
  · intro p e s m args below meth c s₁ B hml hP _
    have hh0 : s₁.heap = s.heap := by rw [B.state]; rfl
    obtain ⟨m', meth', c', h0, h1, h2, h3, h4, h5, -⟩ := Cond.codeWith_spec (hat args s B.pre)
    cases Option.some.inj (h0.symm.trans B.named)
    cases Option.some.inj (h1.symm.trans B.method)
    cases Option.some.inj (h2.symm.trans (Stand.of_body B).code)
    obtain ⟨t, a1, o, b1, b2, b3⟩ := body p e s m args below meth c s₁ B hml h5 hP s₁ hh0 (Stand.of_body B)
    exact ⟨t, o, a1, b1, b2, ⟨b3.1, b3.2⟩⟩
/-- the words and the room of a static call of a method with a table -/
def xt_CW (R : Room) (s : State) (args : Array Value) (own : String) (index : Nat) (y : MethodName) (bytes : ByteArray) (maxL : Nat) (ret : Option FieldType) (rows : List (Nat × Nat × Nat × Nat)) (ws : List Cond) (rm : Room) (mc ms n : Nat) : Prop :=
  (rm.cells = mc ∧ rm.slots = ms ∧ rm.frames + 1 ≤ R.frames ∧ 8 + (maxL + 11) + rm.locals ≤ R.locals ∧ (∀ w ∈ ws, ∀ (a' : Array Value) (U : State), s.WarmedH U.vm → w.before a' U = true)) ∧
  (Cond.codeWith y bytes maxL ret rows ∈ ws ∧ (Cond.codeWith y bytes maxL ret rows).before args s = true ∧ (Cond.initialized y.cls).before args s = true ∧ (Cond.static y).before args s = true ∧ (Cond.methodLink own index y).before args s = true) ∧
  (y.cls ≠ "java/lang/invoke/MethodHandle" ∧ y.cls ≠ "java/lang/invoke/VarHandle") ∧ (∀ sig, parseMethodDescriptor y.desc = some sig → n = sig.parameters.length)
theorem xt_cw {Ts ws ws' : List Cond} {own : String} {index maxL mc ms : Nat} {y : MethodName} {bytes : ByteArray} {ret : Option FieldType} {rows : List (Nat × Nat × Nat × Nat)} {rm : Room} (n : Nat) (ht : ∀ w ∈ Ts, w.before args s = true) (hT : GoodIn Ts ws) (hw : ws = Cond.codeWith y bytes maxL ret rows :: ws') (hrc : rm.cells = mc) (hrs : rm.slots = ms)
    (hini : (Cond.initialized y.cls).before args s = true) (hst : (Cond.static y).before args s = true) (hl : (Cond.methodLink own index y).before args s = true)
    (hd : y.cls ≠ "java/lang/invoke/MethodHandle" ∧ y.cls ≠ "java/lang/invoke/VarHandle" ∧ (parseMethodDescriptor y.desc).map (fun d => d.parameters.length) = some n) (hR : rm.frames + 1 ≤ R.frames ∧ 8 + (maxL + 11) + rm.locals ≤ R.locals) : xt_CW R s args own index y bytes maxL ret rows ws rm mc ms n := by
  have hc : Cond.codeWith y bytes maxL ret rows ∈ ws := by rw [hw]; exact List.mem_cons_self
  refine ⟨⟨hrc, hrs, hR.1, hR.2, pay_in ht hT⟩, ⟨hc, ht _ (hT _ hc).1, hini, hst, hl⟩, ⟨hd.1, hd.2.1⟩, fun sig h => ?_⟩
  have h2 := hd.2.2
  rw [h] at h2
  exact (Option.some.inj h2).symm
theorem xt_runT {y : MethodName} {bytes cc : ByteArray} {maxL nL mc ms n index : Nat} {ret : Option FieldType} {rows : List (Nat × Nat × Nat × Nat)} {ws : List Cond} {rm : Room} {Pc : Array Value → State → Prop} {Qc : Array Value → State → Outcome → State → Prop} {free : Addr → Prop} {Ts : List Cond} {own : String} {As rest : List Value} {g : JFrame}
    (S : CallFix p m c cc nL s args Ts own) (hM : Met l y ws rm Pc Qc mc ms free) (cw : xt_CW R s args own index y bytes maxL ret rows ws rm mc ms n) (hp : PreS s H Pc As)
    (hg : g.method = m) (hn : As.length = n) (hsize : g.locals.size = nL) (hstack : g.stack = As.reverse ++ rest) (hW : 2 * g.monitorRoom + (rest.map fun v => v.category).sum ≤ 8) (hdg : decode cc g.pc = .ok (.invokestatic index, 3)) (hf : cells + mc ≤ R.cells ∧ slots + ms ≤ R.slots) :
    va_Run p l e R s m args below meth c H locs cells slots mc ms g rest (Qc As.toArray) free := by
  obtain ⟨⟨hrc, hrs, hfr, hlo, hws⟩, ⟨hcw, hcode, hini, hstt, hl⟩, hy, hlen⟩ := cw
  obtain ⟨hx, hb, hml, ho, -⟩ := S
  obtain ⟨hbl, hPc⟩ := hp
  intro T hT X
  obtain ⟨mk, methM, cM, hnamed, hmethM, -, -, -, -, -, -, hsigM⟩ := Cond.codeWith_spec hcode
  have hstatic : methM.isStatic = true := Cond.static_spec hnamed hmethM hstt
  obtain ⟨kP, hkP, -⟩ := className_of_methodNamed hnamed
  have hinitP : kP.init = .initialized := Cond.initialized_spec (findClass_of_methodNamed hnamed) hkP hini
  have hdg' : decode c.code g.pc = .ok (.invokestatic index, 3) := by rw [hb]; exact hdg
  obtain ⟨vm₁, X₁, hstep₁⟩ := X.invokestatic hx ho hl hnamed hmethM hstatic hkP hinitP hy (g := g) hg (argsL := As) (rest := rest) (hn.trans (hlen _ hsigM)) hstack hdg'
  have hn1 : (T.setVm vm₁).methodNamed? y = some mk := X₁.named hnamed
  obtain ⟨mk', methY, cY, hnY, hmY, hcY, -, hlY, -, -, -, -⟩ := Cond.codeWith_spec (hws _ hcw As.toArray (T.setVm vm₁) X₁.warmed)
  cases Option.some.inj (hnY.symm.trans hn1)
  obtain ⟨kY, hkY, -⟩ := className_of_methodNamed hn1
  have hinitY : kY.init = .initialized := Cond.initialized_spec (findClass_of_methodNamed hn1) hkY (word_at (a' := As.toArray) X₁.warmed (Or.inl (by first | rfl | simp [Cond.onTables, Cond.keeps, Cond.steady])) hini)
  have h : At (T.setVm vm₁) g.method c below := by rw [hg]; exact X₁.here
  have hsz : ({ g with stack := rest } : JFrame).locals.size = c.maxLocals := hsize.trans hml.symm
  have happ : (headSpec ws rm).appliesLoose y e.platform ((T.setVm vm₁).calling { g with stack := rest } mk As.toArray) = true :=
    Spec.appliesLoose_calling (g := { g with stack := rest }) h hdg' hn1 hkY hinitY (X₁.room_calling (g := { g with stack := rest }) (R' := rm) hsz hmY hcY hfr (by rw [hlY]; show 2 * g.monitorRoom + (rest.map fun v => v.category).sum + (maxL + 11) + rm.locals ≤ R.locals; omega) (by rw [hrc]; exact hf.1) (by rw [hrs]; exact hf.2)) (atoms_intro fun w hw => hws w hw _ _ X₁.warmed)
  obtain ⟨mid, hmid⟩ := h.above
  have hfr' : ((T.setVm vm₁).setTop { g with stack := rest }).frames = (.java { g with stack := rest } :: mid) ++ below := by rw [State.frames_setTop' _ h.top, hmid]; rfl
  obtain ⟨o, t, hsteps, -, hend, hq⟩ := Steps.callFree hM p X₁.admits X₁.cas X₁.clock (acts := []) hfr' happ (hbl _ _ _ _ (hPc (T.setVm vm₁) hT X₁.warmed)) trivial
  obtain ⟨hq, L, ⟨⟨v, rfl⟩, hW2, hsame⟩, hL⟩ := hq
  rw [State.frames_setTop' _ h.top, X₁.tail] at hend
  obtain ⟨T', X', -, -, ht⟩ := X₁.outOf (g := { g with stack := rest }) hg hdg' hend hW2 hsame
  refine ⟨v, (T.setVm vm₁).calling { g with stack := rest } mk As.toArray, t, T', L, hT, X', hL, ?_, ?_, hq, fun target h9 => hstep₁ _ fun acts => ?_⟩
  · rw [ht]; simp [State.setTop, State.modifyTopJava, State.setFrames]
  · rw [ht]; simp [State.setTop, State.modifyTopJava, State.setFrames]
  · rw [doInvoke_state]
    refine hsteps.trans ?_
    rw [ht]
    exact h9
end XU

