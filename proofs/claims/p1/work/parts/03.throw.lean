/-! Rows of my own for what this class does and the kit's rows have no word for: a method that throws, its catching, a call of a method with a table, a call that leaves the heap as it is. -/
section TXA
variable {l : Launch}
/-- q was thrown, an object of the class E; at most mc cells of ms slots are new, nothing old has changed -/
def tx_Q (E : String) (mc ms : Nat) (st : State) (o : Outcome) (t : State) : Prop :=
  ∃ (q : Addr) (ce : Cell), o = .threw q ∧ t.heap[q]? = some ce ∧ ce.vm = .none ∧ st.vm.findClass E = some ce.cls ∧ st.WarmedH t.vm ∧ st.sameButNew ({ t with vm := st.vm } : State) [] mc ms
/-- the contract of a method that throws -/
def tx_Met (l : Launch) (y : MethodName) (ws : List Cond) (rm : Room) (Pc : Array Value → State → Prop) (E : String) (mc ms : Nat) : Prop :=
  MetFree l y (headSpec ws rm) Pc (fun _ _ _ _ _ => True) (fun _ st o t => tx_Q E mc ms st o t)
def tx_MQ (below : List Frame) (E : String) (s : State) (mc ms : Nat) : State → Prop := fun t => ∃ o, t.status = .running ∧ Ended t below o ∧ tx_Q E mc ms s o t
theorem tx_ofW {y : MethodName} {ws ws' : List Cond} {rm : Room} {Pc : Array Value → State → Prop} {E : String} {mc ms : Nat} {cc : ByteArray} {maxL : Nat} {ret : Option FieldType}
    (hy : plainName y.cls = true) (hw : ws = Cond.code y cc maxL ret :: ws')
    (body : ∀ p e s m args below meth c s₁, BodyLoose p l y (headSpec ws rm) cc maxL ret e s m args below meth c s₁ → c.maxLocals = maxL → Pc args s →
      W p l e (headSpec ws rm).room s m args below meth c s.heap [] 0 0 (tx_MQ below E s mc ms) (entryFrame m args maxL)) : tx_Met l y ws rm Pc E mc ms := by
  refine MetFree.of_bodyS (code := cc) (maxLocals := maxL) (ret := ret) hy ?_ ?_
  · intro args s m h hn
    obtain ⟨meth, c, h1, h2, h3, h4, h5, h6, -, -⟩ := Cond.code_spec hn (atoms_spec (ws := ws) h _ (by rw [hw]; exact List.mem_cons_self))
    exact ⟨meth, c, h1, h2, h3, h4, h5, h6⟩
  · intro p e s m args below meth c s₁ B hml hP _
    have hh0 : s₁.heap = s.heap := by rw [B.state]; rfl
    obtain ⟨t, a1, o, b1, b2, b3⟩ := body p e s m args below meth c s₁ B hml hP s₁ hh0 (Stand.of_body B)
    exact ⟨t, o, a1, b1, b2, b3⟩
end TXA
section TXB
variable {p : Program} {l : Launch} {e : Env} {R : Room} {s : State} {m : MethodId} {args : Array Value} {below : List Frame} {meth : Method} {c : Code} {H : Heap} {locs : List Loc} {cells slots : Nat} {Q : State → Prop}
/-- throw new E(), where nothing has been written so far -/
theorem tx_throw {cc : ByteArray} {pc : Nat} {ls : Array Slot} {rest : List Value} (hexec : p.tables.exec = Jvm.exec) (hb : c.code = cc) (hl : l.stackTraces = false) {own cls : String} {names : List String} {ik ic mc ms : Nat}
    (hown : s.vm.findClass own = some m.cls) (hcls : Bundle.fit cls = true) (hnames : ∀ n ∈ names, Bundle.fit n = true)
    (hk : (Cond.classLink own ik cls).before args s = true) (hini : (Cond.initialized cls).before args s = true) (hat : ∀ w ∈ Bundle.ownAtoms0 own ic cls names, w.before args s = true)
    (hsize : ls.size = c.maxLocals) (d0 : decode cc pc = .ok (.new ik, 3)) (d3 : decode cc (pc + 3) = .ok (.dup, 1)) (d4 : decode cc (pc + 4) = .ok (.invokespecial ic, 3)) (d7 : decode cc (pc + 7) = .ok (.athrow, 1))
    (hout : ∀ x ∈ c.exceptionTable.toList, covers x (pc + 7) = false)
    (hRf : names.length + 3 < R.frames) (hRl : (rest.map fun v => v.category).sum + (13 * (names.length + 1) + 42) ≤ R.locals) (hRc : 1 ≤ R.cells) (hRs : 6 ≤ R.slots) (hlocks : meth.locks = false) (hc : 1 ≤ mc) (hs : 6 ≤ ms) :
    W p l e R s m args below meth c s.heap [] 0 0 (tx_MQ below cls s mc ms) (F0 m pc ls rest) := by
  intro T hT X
  have htr : e.platform.stackTraces = false := (show e.platform.stackTraces = l.stackTraces by rw [X.admits.platform]).trans hl
  have hins : (Cond.instantiable cls 6).before args s = true := hat _ (by simp [Bundle.ownAtoms0])
  obtain ⟨vm₁, cX, kX, hfX, hkX, -, -, X₁, st1⟩ := X.newCold hexec (own := own) (C := cls) (index := ik) (n := 6) hown hk hins hini (g := F0 m pc ls rest) rfl (by rw [hb]; exact d0) (by omega) (by omega)
  generalize hT1 : (T.setVm vm₁).pushCell { cls := cX, slots := kX.instanceTypes.map defaultValue, vm := .none } = T1 at X₁ st1
  have hcellA : T1.heap[T.heap.size]? = some (freshCell cX kX) := by rw [← hT1]; exact State.heap_pushCell_size _ _
  have hcat : (Value.ref T.heap.size).category = 1 := rfl
  have d3' : decode c.code (pc + 3) = .ok (.dup, 1) := by rw [hb]; exact d3
  obtain ⟨U, hsteps, hrun, hend, hW, hsame, ce, hce, hO⟩ := X₁.ctorThrow0 hexec htr (own := own) (cls := cls) (names := names) (ic := ic) hown hcls hnames hat (fun x hx => nomatch hx) hfX hkX hcellA (by rw [hT]; exact Nat.le_refl _)
    (g := { method := m, pc := pc + 4, locals := ls, stack := .ref T.heap.size :: .ref T.heap.size :: rest, locked := none }) rfl hsize rfl rfl (rest := rest) rfl
    (by rw [hb]; exact d4) (by rw [hb]; exact d7) hout hRf (by simp only [List.map_cons, List.sum_cons, hcat]; omega) hlocks
  refine ⟨U, ?_, .threw T.heap.size, hrun, hend, T.heap.size, ce, rfl, hce, hO.vm, hO.cls, hW, hsame.mono (by omega) (by omega)⟩
  refine st1 _ ?_
  show Steps p.tables e below (T1.setTop { method := m, pc := pc + 3, locals := ls, stack := .ref T.heap.size :: rest, locked := none }) _
  jvm_step X₁.here [X₁.here.top, hexec, d3', Value.category]
  exact hsteps
/-- a callee that throws, behind the invoking instruction's own step -/
theorem tx_after {T : State} (X : Stand p l e R s m args below meth c T locs cells slots) {y : MethodName} {ws : List Cond} {rm : Room} {Pc : Array Value → State → Prop} {E : String} {mc ms maxL len : Nat} {bytes : ByteArray} {ret : Option FieldType}
    (hM : tx_Met l y ws rm Pc E mc ms) (hblind : FrameBlind Pc) (hrc : rm.cells = mc) (hrs : rm.slots = ms) (hframes : rm.frames + 1 ≤ R.frames) (hlocals : 8 + (maxL + 11) + rm.locals ≤ R.locals)
    (hws : ∀ w ∈ ws, ∀ a' U, s.WarmedH U.vm → w.before a' U = true) (hcode : Cond.code y bytes maxL ret ∈ ws) (hinit : ∀ a' U, s.WarmedH U.vm → (Cond.initialized y.cls).before a' U = true)
    {g : JFrame} {ig : Instr} {mk : MethodId} {a : Array Value} (hg : g.method = m) (hsize : g.locals.size = c.maxLocals) (hdg : decode c.code g.pc = .ok (ig, len)) (hW : 2 * g.monitorRoom + (g.stack.map fun v => v.category).sum ≤ 8)
    (hn : T.methodNamed? y = some mk) (hc : cells + mc ≤ R.cells) (hs : slots + ms ≤ R.slots) (hp : Pc a T) :
    ∃ (q : Addr) (ce : Cell) (T' : State), Stand p l e R s m args below meth c T' locs (cells + mc) (slots + ms) ∧ T'.heap[q]? = some ce ∧ ce.vm = .none ∧ T.vm.findClass E = some ce.cls ∧ (∀ (z : Addr) (d : Cell), T.heap[z]? = some d → T'.heap[z]? = some d) ∧ T.heap.size ≤ T'.heap.size ∧
      Steps p.tables e below (doInvoke e (T.setTop g) [] mk a).1 ((T'.setTop g).pushFrame (.throwing q)) := by
  have h1 : (headSpec ws rm).pre.before a T = true := atoms_intro fun w hw => hws w hw _ _ X.warmed
  have h2 : (Cond.code y bytes maxL ret).before a T = true := hws _ hcode _ _ X.warmed
  have h3 : (Cond.initialized y.cls).before a T = true := hinit _ _ X.warmed
  have h4 : cells + (headSpec ws rm).room.cells ≤ R.cells := by rw [show (headSpec ws rm).room.cells = mc from hrc]; exact hc
  have h5 : slots + (headSpec ws rm).room.slots ≤ R.slots := by rw [show (headSpec ws rm).room.slots = ms from hrs]; exact hs
  obtain ⟨methY, cY, hmY, hcY, -, hlY, -, -, -, -⟩ := Cond.code_spec hn h2
  obtain ⟨kY, hkY, -⟩ := className_of_methodNamed hn
  have hinitY : kY.init = .initialized := Cond.initialized_spec (findClass_of_methodNamed hn) hkY h3
  have h : At T g.method c below := by rw [hg]; exact X.here
  have hlo : 8 + (maxL + 11) + (headSpec ws rm).room.locals ≤ R.locals := hlocals
  have happ : (headSpec ws rm).appliesLoose y e.platform (T.calling g mk a) = true :=
    Spec.appliesLoose_calling (g := g) h hdg hn hkY hinitY (X.room_calling (g := g) (R' := (headSpec ws rm).room) hsize hmY hcY hframes (by rw [hlY]; omega) h4 h5) h1
  obtain ⟨mid, hmid⟩ := h.above
  have hfr : (T.setTop g).frames = (.java g :: mid) ++ below := by rw [State.frames_setTop' g h.top, hmid]; rfl
  obtain ⟨o, s₂, hsteps, -, hend, q, ce, rfl, hce, hcv, hcl, hW₂, hsm⟩ := Steps.callFree hM p X.admits X.cas X.clock (acts := []) hfr happ (hblind _ _ _ _ hp) trivial
  rw [State.frames_setTop' g h.top, X.tail] at hend
  obtain ⟨T', X', hW', hsame, rfl⟩ := X.outOfThrown hg hend hW₂ hsm
  rw [List.append_nil] at X'
  have hh : T'.heap = ((T'.setTop g).pushFrame (.throwing q)).heap := (Stand.throwing_heap T' g q).symm
  refine ⟨q, ce, T', X', by rw [hh]; exact hce, hcv, hcl, fun z d hd => ?_, hsame.2.1, hsteps⟩
  have := State.sameButNew.old_cell hsame hd
  exact this
end TXB
section TXC
variable {p : Program} {l : Launch} {e : Env} {R : Room} {s : State} {m : MethodId} {args : Array Value} {below : List Frame} {meth : Method} {c : Code} {H : Heap} {locs : List Loc} {cells slots : Nat} {Q : State → Prop}
/-- the class of the first row is looked up: whether it is noted already or noted only now, the search is the one from the tables that have it noted -/
theorem tx_warm {S : State} {f : JFrame} {a : Addr} {x : ExceptionTableEntry} {t : List ExceptionTableEntry} {k : ClassId} (hx : covers x f.pc = true) (h0 : x.catchType ≠ 0)
    (hg : (resolveClass f.method.cls x.catchType).Gives e.toSetting S.vm (.ok k) (S.vm.noted f.method.cls x.catchType (.cls k))) (hr : (S.vm.noted f.method.cls x.catchType (.cls k)).classReady f.method.cls x.catchType k)
    {P : Handler → Pre} {E : CtlPost} {d : Bool} {acts : List Action} :
    wp (findHandler.go f a (x :: t)) P E e d acts S ↔ wp (findHandler.go f a (x :: t)) P E e d acts (S.setVm (S.vm.noted f.method.cls x.catchType (.cls k))) := by
  obtain ⟨kd, hkd, hnoted⟩ := hr
  have cold := hg.op (op := VmOp.resolveClass f.method.cls x.catchType) rfl
  have warm := resolveClass_memo e hkd hnoted
  have hc : (decide (x.startPc ≤ f.pc) && decide (f.pc < x.endPc)) = true := hx
  rw [findHandler.go, if_pos hc, if_neg (by simpa using h0)]
  simp [cold.1, cold.2, warm, VmOp.dirties, VmOp.acts]
  exact Iff.rfl
/-- one step of the machine with a throw noted on top, once it is known what the search gives -/
theorem tx_turn {tb : Tables} {C D : State} {g : JFrame} {q : Addr} {pc : Nat} {r : List Frame} (hfr : C.frames = .throwing q :: .java g :: r)
    (hfind : ∀ (P : Handler → Pre) (E : CtlPost) (d : Bool) (acts : List Action), wp (findHandler g q) P E e d acts C ↔ P (.found pc) d acts D) :
    (stepThread tb e C).1 = D.setFrames (.java { g with pc := pc, stack := [.ref q] } :: r) := by
  rw [stepThread_throwing hfr, show stepThrowing e C q (.java g :: r) = searchFrame e C [] q g g r from rfl]
  unfold searchFrame vmDo
  generalize hgo : Sem.go _ e false [] C = out
  obtain ⟨_, rfl, -⟩ := Sem.eq_ok_of hgo (a := Handler.found pc) (s' := D) (acts' := []) (by simp [hfind _ _ _ _])
  rfl
/-- a thrown object over the frame, caught by the first row of this method's table -/
theorem tx_catch {T : State} (X : Stand p l e R s m args below meth c T locs cells slots) {own name E : String} {ce : Cell} {q : Addr} {g : JFrame} (hg : g.method = m) (hown : s.vm.findClass own = some m.cls) {x : ExceptionTableEntry} {suf : List ExceptionTableEntry}
    (htab : c.exceptionTable.toList = x :: suf) (hx : covers x g.pc = true) (h0 : x.catchType ≠ 0) (hlink : (Cond.classLink own x.catchType name).before args s = true) (hcast : (Cond.castable E name).before args s = true)
    (hcell : T.heap[q]? = some ce) (hv : ce.vm = .none) (hcl : s.vm.findClass E = some ce.cls) :
    ∃ vm', Stand p l e R s m args below meth c (T.setVm vm') locs cells slots ∧ ∀ tg, Steps p.tables e below ((T.setVm vm').setTop { g with pc := x.handlerPc, stack := [.ref q] }) tg → Steps p.tables e below ((T.setTop g).pushFrame (.throwing q)) tg := by
  subst hg
  obtain ⟨cE, cN, fE, fN, hfit⟩ := Cond.castable_spec hcast
  obtain rfl : cE = ce.cls := Option.some.inj (fE.symm.trans hcl)
  obtain ⟨dN, gN, hlk⟩ := Cond.classLink_spec hown hlink e.platform (by rw [X.admits.platform])
  obtain rfl : dN = cN := Option.some.inj (gN.symm.trans fN)
  obtain ⟨hgives, hwarm, hready⟩ := State.classEntry (e := e) X.warmed hlk
  obtain ⟨g₀, hr⟩ := X.frames_eq
  refine ⟨_, X.noted hwarm, fun tg hrest => ?_⟩
  obtain ⟨hgo, hin⟩ := X.here.throwing (g := g) q
  refine Steps.head hgo hin ?_
  rw [tx_turn (frames_entered X.here.top _) (pc := x.handlerPc) (D := ((T.setTop g).pushFrame (.throwing q)).setVm (T.vm.noted g.method.cls x.catchType (.cls dN))) fun P E d acts => ?_]
  · have same : (((T.setTop g).pushFrame (.throwing q)).setVm (T.vm.noted g.method.cls x.catchType (.cls dN))).setFrames (.java { g with pc := x.handlerPc, stack := [.ref q] } :: T.frames.tail) = (T.setVm (T.vm.noted g.method.cls x.catchType (.cls dN))).setTop { g with pc := x.handlerPc, stack := [.ref q] } := by
      rw [X.tail, State.setTop_of_frames (s := T.setVm (T.vm.noted g.method.cls x.catchType (.cls dN))) _ hr, State.setTop_of_frames (s := T) _ hr]
      show (((T.setVm _).setFrames _).setFrames _).setFrames _ = _
      rw [State.setFrames_setFrames, State.setFrames_setFrames]
      rfl
    rw [same]
    exact hrest
  · have hvm := Stand.throwing_vm T g q
    rw [W.findHandler_eq (meth := meth) (code := c) (by rw [hvm]; exact X.method') X.code, htab, tx_warm (k := dN) hx h0 (by rw [hvm]; exact hgives) (by rw [hvm]; exact hready)]
    rw [hvm, W.findHandler_go_class (c := dN) (cell := ce) hx h0 hready (by show ((T.setTop g).pushFrame (.throwing q)).heap[q]? = _; rw [Stand.throwing_heap]; exact hcell) (fun z hz => by rw [hv] at hz; cases hz)
      (Vm.classAt_of_findClass (by rw [← hcl]; exact hwarm.alike.findClass _ _)) (Vm.classAt_of_findClass (by rw [← fN]; exact hwarm.alike.findClass _ _)), if_pos]
    show Vm.assignable (T.vm.noted g.method.cls x.catchType (.cls dN)) ce.cls dN = true
    rw [hwarm.alike.assignable]
    exact hfit
/-- x.m(..) of a method that throws, in a method whose first row takes what it throws -/
theorem tx_callV {cc : ByteArray} {nL : Nat} {Ts : List Cond} {own C name E : String} {index : Nat} {y : MethodName} {bytes : ByteArray} {maxL mc ms n pc : Nat} {ret : Option FieldType} {ws : List Cond} {rm : Room} {Pc : Array Value → State → Prop} {b : Addr} {As rest : List Value} {ls : Array Slot} {st0 : List Value}
    (S : CallFix p m c cc nL s args Ts own) (hM : tx_Met l y ws rm Pc E mc ms) (cw : CallW R s args own C index y bytes maxL ret ws rm mc ms n) (hp : PreV s H C b Pc As)
    (hn : As.length = n) (hsize : ls.size = nL) (hstack : st0 = As.reverse ++ .ref b :: rest) (hW : 2 * (F0 m pc ls st0).monitorRoom + (rest.map fun v => v.category).sum ≤ 8) (hdg : decode cc pc = .ok (.invokevirtual index, 3)) (hf : cells + mc ≤ R.cells ∧ slots + ms ≤ R.slots)
    {x : ExceptionTableEntry} {suf : List ExceptionTableEntry} (htab : c.exceptionTable.toList = x :: suf) (hx : covers x pc = true) (h0 : x.catchType ≠ 0) (hlink : (Cond.classLink own x.catchType name).before args s = true) (hcast : (Cond.castable E name).before args s = true)
    (kk : ∀ (q : Addr) (H1 : Heap), H.size ≤ H1.size → (∀ (z : Addr) (d : Cell), H[z]? = some d → H1[z]? = some d) → W p l e R s m args below meth c H1 locs (cells + mc) (slots + ms) Q (F0 m x.handlerPc ls [.ref q])) :
    W p l e R s m args below meth c H locs cells slots Q (F0 m pc ls st0) := by
  intro T hT X
  obtain ⟨⟨hrc, hrs, hfr, hlo, hws, hcw, hcode, hini, hy, hlen, hl⟩, hinst, hsel⟩ := cw
  obtain ⟨hexec, hb, hml, hown, -⟩ := S
  obtain ⟨hbl, ⟨cellB, hcB, hoB, hclB⟩, hPc⟩ := hp
  subst hT
  obtain ⟨mk, methM, hnamed, hmethM, hstM, habM⟩ := Cond.instanceMethod_spec hinst
  have hpar : As.length = methM.sig.parameters.length := by
    obtain ⟨methM2, _, hm2, _, _, _, _, _, _, hsig⟩ := Cond.code_spec hnamed hcode
    obtain rfl : methM = methM2 := Option.some.inj (hmethM.symm.trans hm2)
    exact hn.trans (hlen _ hsig)
  obtain ⟨kP, hkP, hkPi, hselP⟩ : ∃ kP, s.vm.classes[mk.cls]? = some kP ∧ kP.isInterface = false ∧ selectMethod e.platform s.vm cellB.cls mk = .method mk := by
    obtain ⟨cB, r2, m2, e1, e2, e3, e4, kP, e5, e6⟩ := Cond.selects_spec hsel
    obtain rfl : cB = cellB.cls := Option.some.inj (e1.symm.trans hclB)
    obtain rfl : m2 = mk := Option.some.inj (e3.symm.trans hnamed)
    obtain rfl : r2 = m2 := Option.some.inj (e2.symm.trans (State.methodFound?_of_named hnamed hy))
    exact ⟨kP, e5, e6, (Launch.admits_selectMethod X.admits _ _ _).trans e4⟩
  have hobj : ∀ z, cellB.vm ≠ .statics z := VmData.ne_statics_of hoB
  have hdc : decode c.code pc = .ok (.invokevirtual index, 3) := by rw [hb]; exact hdg
  obtain ⟨v1, X1, enter⟩ := X.invokevirtual hexec hown hl hnamed hmethM hstM hkP hkPi hy hcB hobj hselP hmethM habM hkP hkPi (g := F0 m pc ls st0) rfl hpar hstack hdc
  have hyi : ∀ a' U, s.WarmedH U.vm → (Cond.initialized y.cls).before a' U = true := fun a' U hW => word_at hW (Or.inl (by first | rfl | simp [Cond.onTables, Cond.keeps, Cond.steady])) hini
  obtain ⟨q, ce, T1, XT, hce, hcv, hcl, hold, hgrow, thrown⟩ := tx_after X1 hM hbl hrc hrs hfr hlo hws hcw hyi (g := { F0 m pc ls st0 with stack := rest }) rfl (hsize.trans hml.symm) hdc hW (X1.named hnamed) hf.1 hf.2 (hPc (T.setVm v1) rfl X1.warmed)
  have hclS : s.vm.findClass E = some ce.cls := (X1.warmed.alike.findClass E _).symm.trans hcl
  obtain ⟨v2, XH, caught⟩ := tx_catch XT (g := { F0 m pc ls st0 with stack := rest }) rfl hown htab hx h0 hlink hcast hce hcv hclS
  obtain ⟨t, st, ht⟩ := kk q T1.heap hgrow hold (T1.setVm v2) rfl XH
  exact ⟨t, enter _ fun _ => by rw [doInvoke_state]; exact thrown.trans (caught t st), ht⟩
end TXC
