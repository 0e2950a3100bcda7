/-! multianewarray of two dimensions of ints: the kit's rows have no word for it -/
section MXA
def mx_f (h i j : Nat) : Value := if j < i then .ref (h + 1 + j) else .null
abbrev mx_out (cA : ClassId) (N h i : Nat) : Cell := arrV cA N (mx_f h i)
abbrev mx_in (cI : ClassId) (M : Nat) : Cell := arrV cI M (fun _ => .int 0)
def mx_fill (S : State) (cA cI : ClassId) (N M : Nat) : Nat → State
  | 0 => S.pushCell (mx_out cA N S.heap.size 0)
  | i + 1 => ((mx_fill S cA cI N M i).pushCell (mx_in cI M)).setCell S.heap.size (mx_out cA N S.heap.size (i + 1))
theorem mx_next (cA : ClassId) (N h i : Nat) : (mx_out cA N h i).setSlot i (.ref (h + 1 + i)) = mx_out cA N h (i + 1) := by
  rw [arrV_store]
  refine congrArg (arrV cA N) (funext fun j => ?_)
  by_cases e : j = i
  · subst e; simp [updV, mx_f]
  · by_cases h2 : j < i
    · simp [updV, mx_f, e, h2, Nat.lt_succ_of_lt h2]
    · simp [updV, mx_f, e, h2, show ¬ j < i + 1 by omega]
theorem mx_size (S : State) (cA cI : ClassId) (N M : Nat) : ∀ i, (mx_fill S cA cI N M i).heap.size = S.heap.size + 1 + i
  | 0 => by simp [mx_fill]
  | i + 1 => by
    have := mx_size S cA cI N M i
    simp [mx_fill, State.setCell, this]; omega
theorem mx_vm (S : State) (cA cI : ClassId) (N M : Nat) : ∀ i, (mx_fill S cA cI N M i).vm = S.vm
  | 0 => rfl
  | i + 1 => by
    have := mx_vm S cA cI N M i
    simp [mx_fill, this]
theorem mx_used (S : State) (cA cI : ClassId) (N M : Nat) : ∀ i, (mx_fill S cA cI N M i).slotsUsed = S.slotsUsed + N + i * M
  | 0 => by simp [mx_fill, arrV_size]
  | i + 1 => by
    have := mx_used S cA cI N M i
    simp [mx_fill, this, arrV_size, Nat.succ_mul]; omega
theorem mx_self (S : State) (cA cI : ClassId) (N M : Nat) : ∀ i, (mx_fill S cA cI N M i).heap[S.heap.size]? = some (mx_out cA N S.heap.size i)
  | 0 => by simp [mx_fill]
  | i + 1 => by
    have h1 := mx_self S cA cI N M i
    have h2 : S.heap.size < (mx_fill S cA cI N M i).heap.size := by rw [mx_size]; omega
    have h3 : ((mx_fill S cA cI N M i).pushCell (mx_in cI M)).heap[S.heap.size]? = some (mx_out cA N S.heap.size i) := by rw [State.heap_pushCell_of_lt (h := h2)]; exact h1
    exact State.heap_setCell_self h3
theorem mx_old (S : State) (cA cI : ClassId) (N M : Nat) {a : Addr} (ha : a < S.heap.size) : ∀ i, (mx_fill S cA cI N M i).heap[a]? = S.heap[a]?
  | 0 => State.heap_pushCell_of_lt _ _ ha
  | i + 1 => by
    have h2 : a < (mx_fill S cA cI N M i).heap.size := Nat.lt_of_lt_of_le ha (by rw [mx_size]; omega)
    show (((mx_fill S cA cI N M i).pushCell (mx_in cI M)).setCell S.heap.size _).heap[a]? = _
    rw [State.heap_setCell_other (Nat.ne_of_gt ha), State.heap_pushCell_of_lt (h := h2)]
    exact mx_old S cA cI N M ha i
theorem mx_row (S : State) (cA cI : ClassId) (N M : Nat) : ∀ i j, j < i → (mx_fill S cA cI N M i).heap[S.heap.size + 1 + j]? = some (mx_in cI M)
  | 0, _, h => absurd h (Nat.not_lt_zero _)
  | i + 1, j, h => by
    show (((mx_fill S cA cI N M i).pushCell (mx_in cI M)).setCell S.heap.size _).heap[S.heap.size + 1 + j]? = _
    rw [State.heap_setCell_other (show S.heap.size ≠ S.heap.size + 1 + j by omega)]
    by_cases hj : j < i
    · have h2 : S.heap.size + 1 + j < (mx_fill S cA cI N M i).heap.size := by rw [mx_size]; omega
      rw [State.heap_pushCell_of_lt (h := h2)]
      exact mx_row S cA cI N M i j hj
    · have e : j = i := by omega
      subst e
      rw [← mx_size S cA cI N M j]
      exact State.heap_pushCell_size _ _
theorem mx_top (S : State) (f : JFrame) (cA cI : ClassId) (N M : Nat) : ∀ i, mx_fill (S.setTop f) cA cI N M i = (mx_fill S cA cI N M i).setTop f
  | 0 => rfl
  | i + 1 => by simp only [mx_fill, mx_top S f cA cI N M i, State.heap_setTop, State.pushCell_setTop, State.setCell_setTop]
end MXA
section MXB
variable {E : CtlPost} {e : Env} {d : Bool} {acts : List Action} {S : State}
theorem mx_wpNew {c comp : ClassId} {k : Class} {type : FieldType} {len : Nat} {init : Value} (hk : S.vm.classes[c]? = some k) (hkind : k.kind = .array comp type)
    (hlimit : ¬ len > e.platform.arrayLengthLimit) (hheap : ¬ len * componentBytes type > e.platform.maxHeapBytes) (hfit : fits type init = true) (hdef : init.isDefault = true) {Q : Addr → Pre}
    (h1 : S.heap.size < e.platform.maxCells) (h2 : S.slotsUsed + len ≤ e.platform.maxSlots) (hq : Q S.heap.size d acts (S.pushCell (arrV c len (fun _ => init)))) :
    wp (Jvm.newArray c len init) Q E e d acts S := by
  rw [← arrV_new] at hq
  have hfits : ∀ i v, (Array.replicate len init)[i]? = some v → S.fitsSlot c .none i v = true := by
    intro i v hv
    simp only [Array.getElem?_replicate] at hv
    split at hv
    · cases hv; simp [State.fitsSlot, State.slotType?, hk, hkind, hfit]
    · cases hv
  have hda : allocActs (Array.replicate len init) S.heap.size acts = acts := by
    have hall : ((Array.replicate len init).all (·.isDefault)) = true := by
      rw [Array.all_replicate]; split <;> simp [hdef]
    unfold allocActs; rw [if_pos hall]
  simp only [Jvm.newArray, Jvm.arrayFits, wp_bind', W.ask, W.ite, hlimit, if_false, wp_pure', W.theClass, hk, hkind, hheap, W.alloc, W.stop, Option.some.injEq, exists_eq_left', Array.size_replicate, hda]
  rw [if_neg (by omega)]
  exact ⟨h1, h2, hfits, hq⟩
theorem mx_wp1 {cI cc : ClassId} {kc : Class} {m : Int32} (hkc : S.vm.classes[cI]? = some kc) (hkindc : kc.kind = .array cc .int) (hm : ¬ m < 0)
    (hl2 : ¬ m.toNatClampNeg > e.platform.arrayLengthLimit) (hh2 : ¬ m.toNatClampNeg * componentBytes .int > e.platform.maxHeapBytes)
    (h1 : S.heap.size < e.platform.maxCells) (h2 : S.slotsUsed + m.toNatClampNeg ≤ e.platform.maxSlots)
    {Q : Addr → Pre} (hq : Q S.heap.size d acts (S.pushCell (mx_in cI m.toNatClampNeg))) : wp (Op.multianewarray.make cI [m]) Q E e d acts S := by
  rw [Op.multianewarray.make]
  simp only [wp_bind', W.ite, hm, if_false, wp_pure', W.theClass, hkc, hkindc, Option.some.injEq, exists_eq_left']
  exact mx_wpNew hkc hkindc hl2 hh2 rfl rfl h1 h2 hq
theorem mx_wp2 {cA cI cc : ClassId} {k kc : Class} {n m : Int32} (hk : S.vm.classes[cA]? = some k) (hkind : k.kind = .array cI (.array .int)) (hkc : S.vm.classes[cI]? = some kc) (hkindc : kc.kind = .array cc .int) (hn : ¬ n < 0) (hm : ¬ m < 0)
    (hl1 : ¬ n.toNatClampNeg > e.platform.arrayLengthLimit) (hh1 : ¬ n.toNatClampNeg * componentBytes (.array .int) > e.platform.maxHeapBytes) (hl2 : ¬ m.toNatClampNeg > e.platform.arrayLengthLimit) (hh2 : ¬ m.toNatClampNeg * componentBytes .int > e.platform.maxHeapBytes)
    (hc : S.heap.size + 1 + n.toNatClampNeg ≤ e.platform.maxCells) (hs : S.slotsUsed + n.toNatClampNeg + n.toNatClampNeg * m.toNatClampNeg ≤ e.platform.maxSlots)
    {Q : Addr → Pre} (hq : ∀ d' acts', Q S.heap.size d' acts' (mx_fill S cA cI n.toNatClampNeg m.toNatClampNeg n.toNatClampNeg)) : wp (Op.multianewarray.make cA [n, m]) Q E e d acts S := by
  generalize hN : n.toNatClampNeg = N at *
  generalize hM : m.toNatClampNeg = M at *
  have hfind : ([m].find? (· < 0)) = none := by simp [hm]
  rw [Op.multianewarray.make]
  simp only [wp_bind', W.ite, hn, if_false, wp_pure', W.theClass, hk, hkind, Option.some.injEq, exists_eq_left', hN]
  refine mx_wpNew hk hkind hl1 hh1 rfl rfl (by omega) (by have := Nat.zero_le (N * M); omega) ?_
  simp only [hfind]
  rw [ite_self, wp_bind', Std.Legacy.Range.forIn_eq_forIn_range']
  have hsz : ([:N] : Std.Legacy.Range).size = N := by simp [Std.Legacy.Range.size]
  rw [hsz]
  have h0 : S.pushCell (arrV cA N (fun _ => Value.null)) = mx_fill S cA cI N M 0 := by
    show _ = S.pushCell (arrV cA N (mx_f S.heap.size 0))
    refine congrArg (fun f => S.pushCell (arrV cA N f)) (funext fun j => ?_)
    simp [mx_f]
  rw [h0]
  show wp (forIn (List.range' 0 N 1) PUnit.unit _) _ E e d acts _
  refine wp_forIn_inv (fun rest s' => ∃ i, i ≤ N ∧ rest = List.range' i (N - i) ∧ s' = mx_fill S cA cI N M i) _ _ ⟨0, Nat.zero_le _, rfl, rfl⟩ ?_ ?_
  · rintro x rest s' d' acts' Q' ⟨i, hi, hl, rfl⟩ hnext
    have hlt : i < N := by
      rcases Nat.lt_or_ge i N with h | h
      · exact h
      · rw [show N - i = 0 by omega] at hl; simp at hl
    rw [show N - i = (N - (i + 1)) + 1 by omega, List.range'_succ] at hl
    obtain ⟨rfl, hrest⟩ := List.cons.inj hl
    have hmul : x * M + M ≤ N * M := by
      have := Nat.mul_le_mul_right M (show x + 1 ≤ N from hlt)
      rw [Nat.succ_mul] at this; exact this
    simp only [wp_bind']
    refine mx_wp1 (by rw [mx_vm]; exact hkc) hkindc hm (by rw [hM]; exact hl2) (by rw [hM]; exact hh2) (by rw [mx_size]; omega) (by rw [mx_used, hM]; omega) ?_
    have hlt0 : S.heap.size < (mx_fill S cA cI N M x).heap.size := by rw [mx_size]; omega
    simp only [wp_bind', W.writeLoc, wp_pure', hM]
    refine ⟨mx_out cA N S.heap.size x, by rw [State.heap_pushCell_of_lt (h := hlt0)]; exact mx_self S cA cI N M x, by simp [arrV], by rw [arrV_size]; exact hlt, ?_, hnext _ _ _ ⟨x + 1, hlt, hrest, ?_⟩⟩
    · simp [State.fitsSlot, State.slotType?, mx_vm, hk, hkind, arrV, fits]
    · rw [mx_size, mx_next]; rfl
  · rintro s' d' acts' ⟨i, hi, hl, rfl⟩
    have hiN : i = N := by
      rcases Nat.lt_or_ge i N with h | h
      · rw [show N - i = (N - (i + 1)) + 1 by omega, List.range'_succ] at hl; cases hl
      · omega
    subst hiN
    simp only [wp_pure']
    exact hq _ _
end MXB
section MXD
/-- int[][] and int[] by their names, in the tables -/
def mx_A (U : State) : Prop := ∃ (cI cA : ClassId) (kA : Class), U.vm.findClass "[I" = some cI ∧ U.vm.classes[cA]? = some kA ∧ kA.kind = .array cI (.array .int) ∧ U.vm.findClass "[[I" = some cA
theorem mx_A.moved {u U : State} (hvm : u.vm.Alike U.vm) (h : mx_A u) : mx_A U := by
  obtain ⟨cI, cA, kA, h1, h2, h3, h4⟩ := h
  obtain ⟨k', hk', he⟩ := hvm.2.2 _ _ h2
  exact ⟨cI, cA, k', by rw [hvm.findClass]; exact h1, hk', by rw [he]; exact h3, by rw [hvm.findClass]; exact h4⟩
theorem mx_A.of {args : Array Value} {s : State} (hover : (Cond.arrayOver (.array .int)).before args s = true) : mx_A s := by
  have h := hover
  simp only [Cond.before, Cond.holds, Cond.value, beq_iff_eq] at h
  cases hc : s.vm.findClass (FieldType.array .int).toString with
  | none => simp [hc] at h
  | some comp =>
    simp only [hc, Option.bind_some, Option.bind_eq_some_iff, Option.map_eq_some_iff] at h
    obtain ⟨c9, hi, k9, hk9, hb9⟩ := h
    obtain ⟨hlt, hp9, -⟩ := Array.findIdx?_eq_some_iff_getElem.mp hi
    have hkk : s.vm.classes[c9] = k9 := (Array.getElem?_eq_some_iff.mp hk9).2
    rw [hkk] at hp9
    cases hkind : k9.kind with
    | array component ty =>
      rw [hkind] at hb9 hp9
      simp at hb9 hp9
      exact ⟨comp, c9, k9, hc, hk9, by rw [hkind, hp9, hb9.1], hb9.2⟩
    | _ => rw [hkind] at hb9; simp at hb9
end MXD
section MXC
variable {p : Program} {l : Launch} {e : Env} {R : Room} {s : State} {m : MethodId} {args : Array Value} {below : List Frame} {meth : Method} {c : Code} {H : Heap} {locs : List Loc} {cells slots : Nat} {Q : State → Prop}
theorem mx_stand {T : State} (X : Stand p l e R s m args below meth c T locs cells slots) (cA cI : ClassId) (N M : Nat) : ∀ i, Stand p l e R s m args below meth c (mx_fill T cA cI N M i) locs (cells + 1 + i) (slots + N + i * M)
  | 0 => by
    have h := X.pushed (mx_out cA N T.heap.size 0)
    rw [arrV_size] at h
    simpa [mx_fill] using h
  | i + 1 => by
    have Xi := mx_stand X cA cI N M i
    have h2 : T.heap.size < (mx_fill T cA cI N M i).heap.size := by rw [mx_size]; omega
    have hcell : ((mx_fill T cA cI N M i).pushCell (mx_in cI M)).heap[T.heap.size]? = some (mx_out cA N T.heap.size i) := by rw [State.heap_pushCell_of_lt (h := h2)]; exact mx_self T cA cI N M i
    have h := (Xi.pushed (mx_in cI M)).stored hcell i (.ref (T.heap.size + 1 + i))
    rw [arrV_size, mx_next] at h
    have e3 : slots + N + (i + 1) * M = slots + N + i * M + M := by rw [Nat.succ_mul]; omega
    rw [e3]
    exact Stand.forget (extra := [⟨T.heap.size, i⟩]) h (fun y hy => by rw [List.mem_singleton.mp hy]; exact X.same.2.1)
/-- new int[n][k] -/
theorem mx_new {cc : ByteArray} {pc N M : Nat} {ls : Array Slot} {rest : List Value} {n k : Int32} (hexec : p.tables.exec = Jvm.exec) (hb : c.code = cc) {own : String} {index : Nat}
    (hown : s.vm.findClass own = some m.cls) (hclink : (Cond.classLink own index "[[I").before args s = true) (hA : mx_A s) (harr : (Cond.arrayClass .int).before args s = true)
    (hdg : decode cc pc = .ok (.multianewarray index 2, 4)) (hn : ¬ n < 0) (hk : ¬ k < 0) (hN : n.toNatClampNeg = N) (hM : k.toNatClampNeg = M) (hb1 : N * 4 ≤ 536870912) (hb2 : M * 4 ≤ 536870912)
    (hcells : cells + (1 + N) ≤ R.cells) (hslots : slots + (N + N * M) ≤ R.slots)
    (kk : ∀ (q : Nat) (cA cI : ClassId) (H1 : Heap), H.size ≤ q → q + N < H1.size → (∀ a : Nat, a < H.size → H1[a]? = H[a]?) → H1[q]? = some (arrV cA N (mx_f q N)) → (∀ j : Nat, j < N → H1[q + 1 + j]? = some (arrV cI M (fun _ => .int 0))) →
      ArrOfT s cA (.array .int) → ArrOfT s cI .int → s.vm.findClass "[[I" = some cA → s.vm.findClass "[I" = some cI → W p l e R s m args below meth c H1 locs (cells + 1 + N) (slots + N + N * M) Q (F0 m (pc + 4) ls (.ref q :: rest))) :
    W p l e R s m args below meth c H locs cells slots Q (F0 m pc ls (.int k :: .int n :: rest)) := by
  intro T hT X
  subst hN; subst hM
  have hpl : e.platform.magicAccessors = ({} : Platform).magicAccessors := by rw [X.admits.platform]
  obtain ⟨cI, cA, kA, hcI, hkA, hkindA, hcA⟩ := hA
  obtain ⟨cI', kC, cc', hcI', hkC, hkindC⟩ := Cond.arrayClass_spec harr
  have ecI : cI' = cI := Option.some.inj (hcI'.symm.trans hcI)
  subst ecI
  obtain ⟨c0, hfc0, hcl⟩ := Cond.classLink_spec hown hclink e.platform hpl
  cases hcA.symm.trans hfc0
  obtain ⟨hg₁, hwarm₁, hready₁⟩ := State.classEntry (e := e) X.warmed hcl
  generalize T.vm.noted m.cls index (.cls cA) = vm₁ at hg₁ hwarm₁ hready₁
  obtain ⟨kA₁, hkA₁, heA⟩ := hwarm₁.alike.2.2 _ _ hkA
  obtain ⟨kC₁, hkC₁, heC⟩ := hwarm₁.alike.2.2 _ _ hkC
  have hkindA₁ : kA₁.kind = .array cI' (.array .int) := by rw [heA]; exact hkindA
  have hkindC₁ : kC₁.kind = .array cc' .int := by rw [heC]; exact hkindC
  have X₁ := X.noted hwarm₁
  have XF := mx_stand X₁ cA cI' n.toNatClampNeg k.toNatClampNeg n.toNatClampNeg
  obtain ⟨hr1, hr2⟩ := X.roomAbove hcells hslots
  have hh : (T.setVm vm₁).heap = H := hT
  obtain ⟨t, a1, b1⟩ := kk H.size cA cI' (mx_fill (T.setVm vm₁) cA cI' n.toNatClampNeg k.toNatClampNeg n.toNatClampNeg).heap (Nat.le_refl _) (by rw [mx_size, hh]; omega) (fun a ha => by rw [mx_old _ _ _ _ _ (by rw [hh]; exact ha), hh])
    (by have := mx_self (T.setVm vm₁) cA cI' n.toNatClampNeg k.toNatClampNeg n.toNatClampNeg; rw [hh] at this; exact this) (fun j hj => by have := mx_row (T.setVm vm₁) cA cI' n.toNatClampNeg k.toNatClampNeg n.toNatClampNeg j hj; rw [hh] at this; exact this)
    (fun n z => ⟨fun k h => (by cases h), kA, hkA, cI', hkindA⟩) (fun n z => ⟨fun k h => (by cases h), kC, hkC, cc', hkindC⟩) hcA hcI _ rfl XF
  refine ⟨t, ?_, b1⟩
  have hl1 : ¬ n.toNatClampNeg > e.platform.arrayLengthLimit := by rw [Launch.admits_arrayLengthLimit X.admits]; omega
  have hh1 : ¬ n.toNatClampNeg * componentBytes (.array .int) > e.platform.maxHeapBytes := by rw [Launch.admits_maxHeapBytes X.admits]; show ¬ n.toNatClampNeg * 4 > 536870912; omega
  have hl2 : ¬ k.toNatClampNeg > e.platform.arrayLengthLimit := by rw [Launch.admits_arrayLengthLimit X.admits]; omega
  have hh2 : ¬ k.toNatClampNeg * componentBytes .int > e.platform.maxHeapBytes := by rw [Launch.admits_maxHeapBytes X.admits]; show ¬ k.toNatClampNeg * 4 > 536870912; omega
  have hdg' : decode c.code pc = .ok (.multianewarray index 2, 4) := by rw [hb]; exact hdg
  jvm_step X.here [hexec, hdg']
  simp only [Op.multianewarray.sem, wp_bind', W.resolveClassAt_links (State.method?_setTop (F0 m pc ls (.int k :: .int n :: rest)) X.here.top) hg₁]
  rw [W.popN, if_neg (by decide)]
  refine ⟨F0 m pc ls (.int k :: .int n :: rest), State.topJava?_setTop' (s := T.setVm vm₁) _ X.here.top, [.int n, .int k], rest, rfl, rfl, ?_⟩
  simp only [List.mapM_cons, List.mapM_nil, wp_bind', wp_pure']
  refine mx_wp2 (k := kA₁) (kc := kC₁) (cI := cI') (cc := cc') hkA₁ hkindA₁ hkC₁ hkindC₁ hn hk hl1 hh1 hl2 hh2 (by show T.heap.size + 1 + _ ≤ _; omega) (by show T.slotsUsed + _ + _ ≤ _; omega) (fun d' acts' => ?_)
  have eS : ((T.setTop (F0 m pc ls (.int k :: .int n :: rest))).setVm vm₁).setTop { F0 m pc ls (.int k :: .int n :: rest) with stack := rest } = (T.setVm vm₁).setTop { F0 m pc ls (.int k :: .int n :: rest) with stack := rest } := by
    show ((T.setVm vm₁).setTop _).setTop _ = _
    rw [State.setTop_setTop]
  rw [eS, mx_top]
  simp only [wp_bind', W.mark, W.pushRef, State.topJava?_setTop' _ XF.here.top, Option.some.injEq, exists_eq_left', State.setTop_setTop, State.heap_setTop]
  intro acts
  simp [jvm, XF.here.top]
  rw [← hh] at a1
  exact a1
end MXC
