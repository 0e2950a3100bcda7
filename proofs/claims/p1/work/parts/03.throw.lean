/-! Rows of my own for what this class does and the kit's rows have no word for: a method that throws, its catching, a call of a method with a table, a call that leaves the heap as it is. -/
section TXA
variable {l : Launch}
/-- q was thrown, an object of the class E; at most mc cells of ms slots are new, nothing old has changed -/
def tx_Q (E : String) (mc ms : Nat) (st : State) (o : Outcome) (t : State) : Prop :=
  ∃ (q : Addr) (ce : Cell), o = .threw q ∧ t.heap[q]? = some ce ∧ ce.vm = .none ∧ st.vm.findClass E = some ce.cls ∧ st.WarmedH t.vm ∧ st.sameButNew ({ t with vm := st.vm } : State) [] mc ms
/-- the contract of a method that throws -/
def tx_Met (l : Launch) (y : MethodName) (ws : List Cond) (rm : Room) (Pc : Array Value → State → Prop) (E : String) (mc ms : Nat) : Prop :=
  MetFree l y (headSpec ws rm) Pc (fun _ _ _ _ _ => True) (fun _ st o t => tx_Q E mc ms st o t)
def tx_MQ (below : List Frame) (E : String) (s : State) (mc ms : Nat) : State → Prop := fun t => ∃ o, t.status = .running ∧ Ended t below o ∧ tx_Q E mc ms s o t
theorem tx_ofW {y : MethodName} {ws ws' : List Cond} {rm : Room} {Pc : Array Value → State → Prop} {E : String} {mc ms : Nat} {cc : ByteArray} {maxL : Nat} {ret : Option FieldType}
    (hy : plainName y.cls = true) (hw : ws = Cond.code y cc maxL ret :: ws')
    (body : ∀ p e s m args below meth c s₁, BodyLoose p l y (headSpec ws rm) cc maxL ret e s m args below meth c s₁ → c.maxLocals = maxL → Pc args s →
      W p l e (headSpec ws rm).room s m args below meth c s.heap [] 0 0 (tx_MQ below E s mc ms) (entryFrame m args maxL)) : tx_Met l y ws rm Pc E mc ms := by
  refine MetFree.of_bodyS (code := cc) (maxLocals := maxL) (ret := ret) hy ?_ ?_
  · intro args s m h hn
    obtain ⟨meth, c, h1, h2, h3, h4, h5, h6, -, -⟩ := Cond.code_spec hn (atoms_spec (ws := ws) h _ (by rw [hw]; exact List.mem_cons_self))
    exact ⟨meth, c, h1, h2, h3, h4, h5, h6⟩
  · intro p e s m args below meth c s₁ B hml hP _
    have hh0 : s₁.heap = s.heap := by rw [B.state]; rfl
    obtain ⟨t, a1, o, b1, b2, b3⟩ := body p e s m args below meth c s₁ B hml hP s₁ hh0 (Stand.of_body B)
    exact ⟨t, o, a1, b1, b2, b3⟩
end TXA
section TXB
variable {p : Program} {l : Launch} {e : Env} {R : Room} {s : State} {m : MethodId} {args : Array Value} {below : List Frame} {meth : Method} {c : Code} {H : Heap} {locs : List Loc} {cells slots : Nat} {Q : State → Prop}
/-- throw new E(), where nothing has been written so far -/
theorem tx_throw {cc : ByteArray} {pc : Nat} {ls : Array Slot} {rest : List Value} (hexec : p.tables.exec = Jvm.exec) (hb : c.code = cc) (hl : l.stackTraces = false) {own cls : String} {names : List String} {ik ic mc ms : Nat}
    (hown : s.vm.findClass own = some m.cls) (hcls : Bundle.fit cls = true) (hnames : ∀ n ∈ names, Bundle.fit n = true)
    (hk : (Cond.classLink own ik cls).before args s = true) (hini : (Cond.initialized cls).before args s = true) (hat : ∀ w ∈ Bundle.ownAtoms0 own ic cls names, w.before args s = true)
    (hsize : ls.size = c.maxLocals) (d0 : decode cc pc = .ok (.new ik, 3)) (d3 : decode cc (pc + 3) = .ok (.dup, 1)) (d4 : decode cc (pc + 4) = .ok (.invokespecial ic, 3)) (d7 : decode cc (pc + 7) = .ok (.athrow, 1))
    (hout : ∀ x ∈ c.exceptionTable.toList, covers x (pc + 7) = false)
    (hRf : names.length + 3 < R.frames) (hRl : (rest.map fun v => v.category).sum + (13 * (names.length + 1) + 42) ≤ R.locals) (hRc : 1 ≤ R.cells) (hRs : 6 ≤ R.slots) (hlocks : meth.locks = false) (hc : 1 ≤ mc) (hs : 6 ≤ ms) :
    W p l e R s m args below meth c s.heap [] 0 0 (tx_MQ below cls s mc ms) (F0 m pc ls rest) := by
  intro T hT X
  have htr : e.platform.stackTraces = false := (show e.platform.stackTraces = l.stackTraces by rw [X.admits.platform]).trans hl
  have hins : (Cond.instantiable cls 6).before args s = true := hat _ (by simp [Bundle.ownAtoms0])
  obtain ⟨vm₁, cX, kX, hfX, hkX, -, -, X₁, st1⟩ := X.newCold hexec (own := own) (C := cls) (index := ik) (n := 6) hown hk hins hini (g := F0 m pc ls rest) rfl (by rw [hb]; exact d0) (by omega) (by omega)
  generalize hT1 : (T.setVm vm₁).pushCell { cls := cX, slots := kX.instanceTypes.map defaultValue, vm := .none } = T1 at X₁ st1
  have hcellA : T1.heap[T.heap.size]? = some (freshCell cX kX) := by rw [← hT1]; exact State.heap_pushCell_size _ _
  have hcat : (Value.ref T.heap.size).category = 1 := rfl
  have d3' : decode c.code (pc + 3) = .ok (.dup, 1) := by rw [hb]; exact d3
  obtain ⟨U, hsteps, hrun, hend, hW, hsame, ce, hce, hO⟩ := X₁.ctorThrow0 hexec htr (own := own) (cls := cls) (names := names) (ic := ic) hown hcls hnames hat (fun x hx => nomatch hx) hfX hkX hcellA (by rw [hT]; exact Nat.le_refl _)
    (g := { method := m, pc := pc + 4, locals := ls, stack := .ref T.heap.size :: .ref T.heap.size :: rest, locked := none }) rfl hsize rfl rfl (rest := rest) rfl
    (by rw [hb]; exact d4) (by rw [hb]; exact d7) hout hRf (by simp only [List.map_cons, List.sum_cons, hcat]; omega) hlocks
  refine ⟨U, ?_, .threw T.heap.size, hrun, hend, T.heap.size, ce, rfl, hce, hO.vm, hO.cls, hW, hsame.mono (by omega) (by omega)⟩
  refine st1 _ ?_
  show Steps p.tables e below (T1.setTop { method := m, pc := pc + 3, locals := ls, stack := .ref T.heap.size :: rest, locked := none }) _
  jvm_step X₁.here [X₁.here.top, hexec, d3', Value.category]
  exact hsteps
/-- a callee that throws, behind the invoking instruction's own step -/
theorem tx_after {T : State} (X : Stand p l e R s m args below meth c T locs cells slots) {y : MethodName} {ws : List Cond} {rm : Room} {Pc : Array Value → State → Prop} {E : String} {mc ms maxL len : Nat} {bytes : ByteArray} {ret : Option FieldType}
    (hM : tx_Met l y ws rm Pc E mc ms) (hblind : FrameBlind Pc) (hrc : rm.cells = mc) (hrs : rm.slots = ms) (hframes : rm.frames + 1 ≤ R.frames) (hlocals : 8 + (maxL + 11) + rm.locals ≤ R.locals)
    (hws : ∀ w ∈ ws, ∀ a' U, s.WarmedH U.vm → w.before a' U = true) (hcode : Cond.code y bytes maxL ret ∈ ws) (hinit : ∀ a' U, s.WarmedH U.vm → (Cond.initialized y.cls).before a' U = true)
    {g : JFrame} {ig : Instr} {mk : MethodId} {a : Array Value} (hg : g.method = m) (hsize : g.locals.size = c.maxLocals) (hdg : decode c.code g.pc = .ok (ig, len)) (hW : 2 * g.monitorRoom + (g.stack.map fun v => v.category).sum ≤ 8)
    (hn : T.methodNamed? y = some mk) (hc : cells + mc ≤ R.cells) (hs : slots + ms ≤ R.slots) (hp : Pc a T) :
    ∃ (q : Addr) (ce : Cell) (T' : State), Stand p l e R s m args below meth c T' locs (cells + mc) (slots + ms) ∧ T'.heap[q]? = some ce ∧ ce.vm = .none ∧ T.vm.findClass E = some ce.cls ∧ (∀ (z : Addr) (d : Cell), T.heap[z]? = some d → T'.heap[z]? = some d) ∧ T.heap.size ≤ T'.heap.size ∧
      Steps p.tables e below (doInvoke e (T.setTop g) [] mk a).1 ((T'.setTop g).pushFrame (.throwing q)) := by
  have h1 : (headSpec ws rm).pre.before a T = true := atoms_intro fun w hw => hws w hw _ _ X.warmed
  have h2 : (Cond.code y bytes maxL ret).before a T = true := hws _ hcode _ _ X.warmed
  have h3 : (Cond.initialized y.cls).before a T = true := hinit _ _ X.warmed
  have h4 : cells + (headSpec ws rm).room.cells ≤ R.cells := by rw [show (headSpec ws rm).room.cells = mc from hrc]; exact hc
  have h5 : slots + (headSpec ws rm).room.slots ≤ R.slots := by rw [show (headSpec ws rm).room.slots = ms from hrs]; exact hs
  obtain ⟨methY, cY, hmY, hcY, -, hlY, -, -, -, -⟩ := Cond.code_spec hn h2
  obtain ⟨kY, hkY, -⟩ := className_of_methodNamed hn
  have hinitY : kY.init = .initialized := Cond.initialized_spec (findClass_of_methodNamed hn) hkY h3
  have h : At T g.method c below := by rw [hg]; exact X.here
  have hlo : 8 + (maxL + 11) + (headSpec ws rm).room.locals ≤ R.locals := hlocals
  have happ : (headSpec ws rm).appliesLoose y e.platform (T.calling g mk a) = true :=
    Spec.appliesLoose_calling (g := g) h hdg hn hkY hinitY (X.room_calling (g := g) (R' := (headSpec ws rm).room) hsize hmY hcY hframes (by rw [hlY]; omega) h4 h5) h1
  obtain ⟨mid, hmid⟩ := h.above
  have hfr : (T.setTop g).frames = (.java g :: mid) ++ below := by rw [State.frames_setTop' g h.top, hmid]; rfl
  obtain ⟨o, s₂, hsteps, -, hend, q, ce, rfl, hce, hcv, hcl, hW₂, hsm⟩ := Steps.callFree hM p X.admits X.cas X.clock (acts := []) hfr happ (hblind _ _ _ _ hp) trivial
  rw [State.frames_setTop' g h.top, X.tail] at hend
  obtain ⟨T', X', hW', hsame, rfl⟩ := X.outOfThrown hg hend hW₂ hsm
  rw [List.append_nil] at X'
  have hh : T'.heap = ((T'.setTop g).pushFrame (.throwing q)).heap := (Stand.throwing_heap T' g q).symm
  refine ⟨q, ce, T', X', by rw [hh]; exact hce, hcv, hcl, fun z d hd => ?_, hsame.2.1, hsteps⟩
  have := State.sameButNew.old_cell hsame hd
  exact this
end TXB
section TXC
variable {p : Program} {l : Launch} {e : Env} {R : Room} {s : State} {m : MethodId} {args : Array Value} {below : List Frame} {meth : Method} {c : Code} {H : Heap} {locs : List Loc} {cells slots : Nat} {Q : State → Prop}
/-- the search for a handler: its first row covers, its class is not resolved yet or is, and takes the object -/
theorem tx_go {S : State} {f : JFrame} {a : Addr} {cell : Cell} {x : ExceptionTableEntry} {t : List ExceptionTableEntry} {k : ClassId} (hx : covers x f.pc = true) (h0 : x.catchType ≠ 0)
    (hl : S.vm.ClassLinks e.platform f.method.cls x.catchType k) (hcell : S.heap[a]? = some cell) (hobj : ∀ z, cell.vm ≠ .statics z) (hk : ∃ z, S.vm.classes[cell.cls]? = some z) (hc : ∃ z, S.vm.classes[k]? = some z) (hfit : S.vm.assignable cell.cls k = true)
    (Q : Handler → Pre) (E : CtlPost) (d : Bool) (acts : List Action) :
    wp (findHandler.go f a (x :: t)) Q E e d acts S ↔ Q (.found x.handlerPc) d acts (S.setVm (S.vm.noted f.method.cls x.catchType (.cls k))) := by
  simp only [covers] at hx
  obtain ⟨ha, ht⟩ := (resolveClass_links e.toSetting hl).op (op := VmOp.resolveClass f.method.cls x.catchType) rfl
  have hal : S.vm.Alike (S.vm.noted f.method.cls x.catchType (.cls k)) := (Vm.Alike.refl S.vm).noted _ _ _
  obtain ⟨k1, hk1⟩ := hk
  obtain ⟨k2, hk2⟩ := hc
  obtain ⟨k1', hk1', -⟩ := hal.2.2 _ _ hk1
  obtain ⟨k2', hk2', -⟩ := hal.2.2 _ _ hk2
  have hfit' : (S.vm.noted f.method.cls x.catchType (.cls k)).assignable cell.cls k = true := by rw [hal.assignable]; exact hfit
  simp [findHandler.go, hx, h0, ha, ht, hcell, hobj, hk1', hk2', hfit', VmOp.dirties, VmOp.acts]
/-- one step of the unwinding, where the search has noted a class -/
theorem tx_step {S : State} {f : JFrame} {a : Addr} {r : List Frame} {pc : Nat} {vm' : Vm} (hfind : ∀ (Q : Handler → Pre) (E : CtlPost) (d : Bool) (acts : List Action), wp (findHandler f a) Q E e d acts S ↔ Q (.found pc) d acts (S.setVm vm')) :
    (stepThrowing e S a (.java f :: r)).Is ((S.setVm vm').setFrames (.java { f with pc := pc, stack := [.ref a] } :: r)) [] := by
  simp only [stepThrowing, searchFrame, vmDo]
  generalize hr : Sem.go _ e false [] S = res
  obtain ⟨as, rfl, ha⟩ := Sem.eq_ok_of hr (a := Handler.found pc) (s' := S.setVm vm') (acts' := []) (by simp [hfind _ _ _ _])
  exact ⟨rfl, ha⟩
theorem tx_caught {S target : State} {g : JFrame} {a : Addr} (h : At S g.method c below) {pc : Nat} {vm' : Vm}
    (hfind : ∀ (Q : Handler → Pre) (E : CtlPost) (d : Bool) (acts : List Action), wp (findHandler g a) Q E e d acts ((S.setTop g).pushFrame (.throwing a)) ↔ Q (.found pc) d acts (((S.setTop g).pushFrame (.throwing a)).setVm vm'))
    (hrest : Steps p.tables e below ((S.setVm vm').setTop { g with pc := pc, stack := [.ref a] }) target) : Steps p.tables e below ((S.setTop g).pushFrame (.throwing a)) target := by
  obtain ⟨hgo, hw⟩ := h.throwing a
  refine Steps.head hgo hw ?_
  rw [stepThread_throwing (frames_entered h.top _), (tx_step (S := (S.setTop g).pushFrame (.throwing a)) hfind).1]
  obtain ⟨g₀, hg⟩ := Option.isSome_iff_exists.mp h.top
  obtain ⟨r, hr⟩ := State.topJava?_eq_some.mp hg
  have hr' : (S.setVm vm').frames = .java g₀ :: r := hr
  rw [State.setTop_of_frames _ hr'] at hrest
  have e1 : (((S.setTop g).pushFrame (.throwing a)).setVm vm').setFrames (.java { g with pc := pc, stack := [.ref a] } :: S.frames.tail) = (S.setVm vm').setFrames (.java { g with pc := pc, stack := [.ref a] } :: r) := by
    rw [State.pushFrame, State.setTop_of_frames _ hr, State.setFrames_setFrames, hr]
    show ((S.setVm vm').setFrames _).setFrames _ = _
    rw [State.setFrames_setFrames]
    rfl
  rw [e1]
  exact hrest
/-- a thrown object over the frame, caught by the first row of this method's table -/
theorem tx_catch {T : State} (X : Stand p l e R s m args below meth c T locs cells slots) {own name E : String} {ce : Cell} {q : Addr} {g : JFrame} (hg : g.method = m) (hown : s.vm.findClass own = some m.cls) {x : ExceptionTableEntry} {suf : List ExceptionTableEntry}
    (htab : c.exceptionTable.toList = x :: suf) (hx : covers x g.pc = true) (h0 : x.catchType ≠ 0) (hlink : (Cond.classLink own x.catchType name).before args s = true) (hcast : (Cond.castable E name).before args s = true)
    (hcell : T.heap[q]? = some ce) (hv : ce.vm = .none) (hcl : s.vm.findClass E = some ce.cls) :
    ∃ vm', Stand p l e R s m args below meth c (T.setVm vm') locs cells slots ∧ ∀ tg, Steps p.tables e below ((T.setVm vm').setTop { g with pc := x.handlerPc, stack := [.ref q] }) tg → Steps p.tables e below ((T.setTop g).pushFrame (.throwing q)) tg := by
  subst hg
  have hpl : e.platform.magicAccessors = ({} : Platform).magicAccessors := by rw [X.admits.platform]
  obtain ⟨c3, c4, hc3, hc4, hasg⟩ := Cond.castable_spec hcast
  cases Option.some.inj (hc3.symm.trans hcl)
  obtain ⟨c5, hc5, hl5⟩ := Cond.classLink_spec hown hlink e.platform hpl
  cases Option.some.inj (hc4.symm.trans hc5)
  obtain ⟨dk, _, _, kt, hd, _, _, _, _, hkt, _, hopen⟩ := hl5.here
  have hW := X.warmed
  obtain ⟨kt', hkt', -⟩ := hW.alike.2.2 _ _ hkt
  obtain ⟨k9, h9, -⟩ := Vm.findClass_spec hcl
  obtain ⟨k9', h9', -⟩ := hW.alike.2.2 _ _ h9
  have hlT : T.vm.ClassLinks e.platform g.method.cls x.catchType c4 := hW.classLinks hl5
  have hfitT : T.vm.assignable ce.cls c4 = true := by rw [hW.alike.assignable]; exact hasg
  refine ⟨T.vm.noted g.method.cls x.catchType (.cls c4), X.noted (hW.noted hd hopen (State.rightAt_cls hl5)), fun tg hrest => ?_⟩
  refine tx_caught X.here (pc := x.handlerPc) (vm' := T.vm.noted g.method.cls x.catchType (.cls c4)) (fun Q E d acts => ?_) hrest
  rw [W.findHandler_eq (meth := meth) (code := c) (by rw [Stand.throwing_vm]; exact X.method') X.code, htab]
  have hvm := Stand.throwing_vm T g q
  have hhp := Stand.throwing_heap T g q
  have := tx_go (e := e) (S := (T.setTop g).pushFrame (.throwing q)) (f := g) (a := q) (cell := ce) (x := x) (t := suf) (k := c4) hx h0 (by rw [hvm]; exact hlT) (by rw [hhp]; exact hcell) (fun z hz => by rw [hv] at hz; cases hz) (by rw [hvm]; exact ⟨k9', h9'⟩) (by rw [hvm]; exact ⟨kt', hkt'⟩) (by rw [hvm]; exact hfitT) Q E d acts
  rw [hvm] at this
  exact this
/-- x.m(..) of a method that throws, in a method whose first row takes what it throws -/
theorem tx_callV {cc : ByteArray} {nL : Nat} {Ts : List Cond} {own C name E : String} {index : Nat} {y : MethodName} {bytes : ByteArray} {maxL mc ms n pc : Nat} {ret : Option FieldType} {ws : List Cond} {rm : Room} {Pc : Array Value → State → Prop} {b : Addr} {As rest : List Value} {ls : Array Slot} {st0 : List Value}
    (S : CallFix p m c cc nL s args Ts own) (hM : tx_Met l y ws rm Pc E mc ms) (cw : CallW R s args own C index y bytes maxL ret ws rm mc ms n) (hp : PreV s H C b Pc As)
    (hn : As.length = n) (hsize : ls.size = nL) (hstack : st0 = As.reverse ++ .ref b :: rest) (hW : 2 * (F0 m pc ls st0).monitorRoom + (rest.map fun v => v.category).sum ≤ 8) (hdg : decode cc pc = .ok (.invokevirtual index, 3)) (hf : cells + mc ≤ R.cells ∧ slots + ms ≤ R.slots)
    {x : ExceptionTableEntry} {suf : List ExceptionTableEntry} (htab : c.exceptionTable.toList = x :: suf) (hx : covers x pc = true) (h0 : x.catchType ≠ 0) (hlink : (Cond.classLink own x.catchType name).before args s = true) (hcast : (Cond.castable E name).before args s = true)
    (kk : ∀ (q : Addr) (H1 : Heap), H.size ≤ H1.size → (∀ (z : Addr) (d : Cell), H[z]? = some d → H1[z]? = some d) → W p l e R s m args below meth c H1 locs (cells + mc) (slots + ms) Q (F0 m x.handlerPc ls [.ref q])) :
    W p l e R s m args below meth c H locs cells slots Q (F0 m pc ls st0) := by
  intro T hT X
  obtain ⟨⟨hrc, hrs, hfr, hlo, hws, hcw, hcode, hini, hy, hlen, hl⟩, hinst, hsel⟩ := cw
  obtain ⟨hexec, hb, hml, hown, -⟩ := S
  obtain ⟨hbl, ⟨cellB, hcB, hoB, hclB⟩, hPc⟩ := hp
  obtain ⟨mk, methM, hnamed, hmethM, hstM, habM⟩ := Cond.instanceMethod_spec hinst
  obtain ⟨methM', cM, hmethM', -, -, -, -, -, -, hsigM⟩ := Cond.code_spec hnamed hcode
  cases hmethM.symm.trans hmethM'
  obtain ⟨c2, r2, m2, q1, q2, q3, q4, kP, hkP, hkPi⟩ := Cond.selects_spec hsel
  cases hclB.symm.trans q1
  cases (State.methodFound?_of_named hnamed hy).symm.trans q2
  cases hnamed.symm.trans q3
  have hselP : selectMethod e.platform s.vm cellB.cls mk = .method mk := by rw [Launch.admits_selectMethod X.admits]; exact q4
  obtain ⟨vm₁, X₁, hstep₁⟩ := X.invokevirtual hexec hown hl hnamed hmethM hstM hkP hkPi hy (a := b) (cell := cellB) (by rw [hT]; exact hcB)
    (fun z h => by rw [h] at hoB; cases hoB) hselP hmethM habM hkP hkPi (g := F0 m pc ls st0) rfl (argsL := As) (rest := rest) (hn.trans (hlen _ hsigM)) hstack (by rw [hb]; exact hdg)
  obtain ⟨q, ce, T', X', hce, hcv, hcl, hold, hgrow, hsteps⟩ := tx_after X₁ (bytes := bytes) (maxL := maxL) (ret := ret) hM hbl hrc hrs hfr hlo hws hcw (fun a' U hW => word_at hW (Or.inl (by first | rfl | simp [Cond.onTables, Cond.keeps, Cond.steady])) hini)
    (g := { F0 m pc ls st0 with stack := rest }) (ig := .invokevirtual index) (len := 3) (mk := mk) (a := (Value.ref b :: As).toArray) rfl (hsize.trans hml.symm) (by rw [hb]; exact hdg) hW (X₁.named hnamed) hf.1 hf.2 (hPc (T.setVm vm₁) hT X₁.warmed)
  have hclS : s.vm.findClass E = some ce.cls := by
    have h1 : vm₁.findClass E = some ce.cls := hcl
    have h2 : s.WarmedH vm₁ := X₁.warmed
    rw [h2.alike.findClass] at h1
    exact h1
  obtain ⟨vm', X'', st2⟩ := tx_catch X' (g := { F0 m pc ls st0 with stack := rest }) rfl hown htab hx h0 hlink hcast hce hcv hclS
  obtain ⟨t, a1, b1⟩ := kk q T'.heap (by rw [← hT]; exact hgrow) (fun z d hd => hold z d (by rw [← hT] at hd; exact hd)) (T'.setVm vm') rfl X''
  exact ⟨t, hstep₁ _ fun acts => by rw [doInvoke_state]; exact hsteps.trans (st2 t a1), b1⟩
end TXC
