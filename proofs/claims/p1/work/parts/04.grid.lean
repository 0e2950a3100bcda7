/-! new int[n][k]. The grid lies in one piece behind what was there: the outer array, then its rows; so the state after i rows is written down in closed form, and read by the place's number. -/
section MXA
/-- what the outer array at h holds when i rows are made -/
def mx_f (h i j : Nat) : Value := if j < i then .ref (h + 1 + j) else .null
theorem mx_f0 (h : Nat) : (fun _ : Nat => Value.null) = mx_f h 0 := funext fun j => (if_neg (Nat.not_lt_zero j)).symm
theorem mx_fs (h i : Nat) : updV (mx_f h i) i (.ref (h + 1 + i)) = mx_f h (i + 1) := by
  funext j
  unfold updV mx_f
  rcases Nat.lt_trichotomy j i with hl | rfl | hg
  · rw [if_neg (Nat.ne_of_lt hl), if_pos hl, if_pos (Nat.lt_succ_of_lt hl)]
  · rw [if_pos rfl, if_pos (Nat.lt_succ_self _)]
  · rw [if_neg (Nat.ne_of_gt hg), if_neg (Nat.not_lt.mpr (Nat.le_of_lt hg)), if_neg (by omega)]
/-- T with the outer array o and i rows r behind all that it had -/
def mx_st (T : State) (o r : Cell) (i : Nat) : State := { T with heap := T.heap.push o ++ Array.replicate i r, slotsUsed := T.slotsUsed + o.slots.size + i * r.slots.size }
theorem mx_look (T : State) (o r : Cell) (i a : Nat) : (mx_st T o r i).heap[a]? = if a < T.heap.size then T.heap[a]? else if a = T.heap.size then some o else if a ≤ T.heap.size + i then some r else none := by
  show (T.heap.push o ++ Array.replicate i r)[a]? = _
  rw [Array.getElem?_append, Array.size_push, Array.getElem?_push, Array.getElem?_replicate]
  by_cases h1 : a < T.heap.size
  · rw [if_pos (by omega), if_neg (by omega), if_pos h1]
  · by_cases h2 : a = T.heap.size
    · rw [if_pos (by omega), if_pos h2, if_neg h1, if_pos h2]
    · rw [if_neg (by omega), if_neg h1, if_neg h2]
      by_cases h3 : a ≤ T.heap.size + i
      · rw [if_pos (by omega), if_pos h3]
      · rw [if_neg (by omega), if_neg h3]
theorem mx_size (T : State) (o r : Cell) (i : Nat) : (mx_st T o r i).heap.size = T.heap.size + 1 + i := by
  show (T.heap.push o ++ Array.replicate i r).size = _
  rw [Array.size_append, Array.size_push, Array.size_replicate]
theorem mx_st0 (T : State) (o r : Cell) : T.pushCell o = mx_st T o r 0 := by
  unfold mx_st State.pushCell
  rw [Array.replicate_zero, Array.append_empty, Nat.zero_mul, Nat.add_zero]
theorem mx_stS (T : State) {o o' r : Cell} (ho : o'.slots.size = o.slots.size) (i : Nat) : ((mx_st T o r i).pushCell r).setCell T.heap.size o' = mx_st T o' r (i + 1) := by
  have hh : ((mx_st T o r i).heap.push r).setIfInBounds T.heap.size o' = (mx_st T o' r (i + 1)).heap := by
    refine Array.ext_getElem? fun a => ?_
    rw [Array.getElem?_setIfInBounds, Array.getElem?_push, Array.size_push, mx_look, mx_look, mx_size]
    by_cases h1 : a < T.heap.size
    · rw [if_neg (by omega), if_neg (by omega), if_pos h1, if_pos h1]
    · by_cases h2 : a = T.heap.size
      · rw [if_pos h2.symm, if_pos (by omega), if_neg h1, if_pos h2]
      · rw [if_neg (fun h => h2 h.symm), if_neg h1, if_neg h1, if_neg h2, if_neg h2]
        by_cases h3 : a = T.heap.size + 1 + i
        · rw [if_pos h3, if_pos (by omega)]
        · by_cases h4 : a ≤ T.heap.size + i
          · rw [if_neg h3, if_pos h4, if_pos (by omega)]
          · rw [if_neg h3, if_neg h4, if_neg (by omega)]
  have hu : T.slotsUsed + o.slots.size + i * r.slots.size + r.slots.size = T.slotsUsed + o'.slots.size + (i + 1) * r.slots.size := by rw [ho, Nat.add_mul, Nat.one_mul, Nat.add_assoc]
  show ({ T with heap := ((mx_st T o r i).heap.push r).setIfInBounds T.heap.size o', slotsUsed := T.slotsUsed + o.slots.size + i * r.slots.size + r.slots.size } : State) = _
  rw [hh, hu]
  rfl
end MXA
section MXD
/-- int[][] and int[] by their names, in the tables -/
def mx_A (U : State) : Prop := ∃ (cI cA : ClassId) (kA : Class), U.vm.findClass "[I" = some cI ∧ U.vm.classes[cA]? = some kA ∧ kA.kind = .array cI (.array .int) ∧ U.vm.findClass "[[I" = some cA
theorem mx_A.moved {u U : State} (hvm : u.vm.Alike U.vm) (h : mx_A u) : mx_A U := by
  obtain ⟨cI, cA, kA, h1, h2, h3, h4⟩ := h
  obtain ⟨k', hk', he⟩ := hvm.2.2 _ _ h2
  exact ⟨cI, cA, k', by rw [hvm.findClass]; exact h1, hk', by rw [he]; exact h3, by rw [hvm.findClass]; exact h4⟩
theorem mx_A.of {args : Array Value} {s : State} (hover : (Cond.arrayOver (.array .int)).before args s = true) : mx_A s := by
  have h := beq_iff_eq.mp hover
  simp only [Cond.value, Option.bind_eq_some_iff, Option.map_eq_some_iff] at h
  obtain ⟨cI, hI, cA, hfind, kA, hkA, hlast⟩ := h
  obtain ⟨hin, hcomp, -⟩ := Array.findIdx?_eq_some_iff_getElem.mp hfind
  rw [show s.vm.classes[cA] = kA from (Array.getElem?_eq_some_iff.mp hkA).2] at hcomp
  cases hkd : kA.kind with
  | array c9 t9 =>
    rw [hkd] at hcomp hlast
    obtain ⟨ht, hnm⟩ := Bool.and_eq_true_iff.mp hlast
    exact ⟨cI, cA, kA, hI, hkA, by rw [hkd, of_decide_eq_true ht, beq_iff_eq.mp hcomp], of_decide_eq_true hnm⟩
  | ordinary => rw [hkd] at hlast; cases hlast
  | primitive _ => rw [hkd] at hlast; cases hlast
end MXD
section MXC
variable {p : Program} {l : Launch} {e : Env} {R : Room} {s : State} {m : MethodId} {args : Array Value} {below : List Frame} {meth : Method} {c : Code} {H : Heap} {locs : List Loc} {cells slots : Nat} {Q : State → Prop}
theorem mx_stand {T : State} (X : Stand p l e R s m args below meth c T locs cells slots) (cA cI : ClassId) (N M : Nat) (i : Nat) :
    Stand p l e R s m args below meth c (mx_st T (arrV cA N (mx_f T.heap.size i)) (arrV cI M fun _ => .int 0) i) locs (cells + 1 + i) (slots + N + i * M) := by
  induction i with
  | zero =>
    have X0 := X.pushed (arrV cA N (mx_f T.heap.size 0))
    rw [mx_st0 _ _ (arrV cI M fun _ => .int 0), arrV_size] at X0
    rw [Nat.zero_mul]
    exact X0
  | succ i ih =>
    have X1 := ih.pushed (arrV cI M fun _ => .int 0)
    have X2 := X1.stored (a := T.heap.size) (cell := arrV cA N (mx_f T.heap.size i)) (by
      show ((mx_st T _ _ i).heap.push _)[T.heap.size]? = _
      rw [Array.getElem?_push, mx_size, if_neg (by omega), mx_look, if_neg (Nat.lt_irrefl _), if_pos rfl]) i (.ref (T.heap.size + 1 + i))
    rw [arrV_store, mx_fs, mx_stS T (by rw [arrV_size, arrV_size]), arrV_size] at X2
    have X3 := X2.forget (fun z hz => by cases List.mem_singleton.mp hz; exact X.same.2.1)
    rw [Nat.add_mul, Nat.one_mul, ← Nat.add_assoc (slots + N)]
    exact X3
/-- the model's own making of the grid, out of a state with a frame on top -/
theorem mx_make {T : State} (X : Stand p l e R s m args below meth c T locs cells slots) (g : JFrame) {cA cI cz : ClassId} {kA kI : Class} (hkA : T.vm.classes[cA]? = some kA) (hA : kA.kind = .array cI (.array .int)) (hkI : T.vm.classes[cI]? = some kI) (hI : kI.kind = .array cz .int)
    {n k : Int32} {N M : Nat} (hn : ¬ n < 0) (hk : ¬ k < 0) (hN : n.toNatClampNeg = N) (hM : k.toNatClampNeg = M) (hb1 : N * 4 ≤ 536870912) (hb2 : M * 4 ≤ 536870912) (hcells : cells + (1 + N) ≤ R.cells) (hslots : slots + (N + N * M) ≤ R.slots)
    {E : CtlPost} {d : Bool} {acts : List Action} {P : Addr → Pre} (hq : ∀ d' acts', P T.heap.size d' acts' ((mx_st T (arrV cA N (mx_f T.heap.size N)) (arrV cI M fun _ => .int 0) N).setTop g)) :
    wp (Op.multianewarray.make cA [n, k]) P E e d acts (T.setTop g) := by
  have lim : ∀ z : Nat, z * 4 ≤ 536870912 → (¬ z > e.platform.arrayLengthLimit) ∧ ¬ z * 4 > e.platform.maxHeapBytes := fun z hz => by
    rw [Launch.admits_arrayLengthLimit X.admits, Launch.admits_maxHeapBytes X.admits]; omega
  obtain ⟨ra, rb⟩ := X.roomAbove hcells hslots
  have hnone : [k].find? (fun z => decide (z < 0)) = none := List.find?_eq_none.mpr fun z hz => by cases List.mem_singleton.mp hz; simpa using hk
  rw [Op.multianewarray.make]
  simp only [wp_bind', W.ite, if_neg hn, wp_pure', W.theClass, State.vm_setTop, hkA, hA, Option.some.injEq, exists_eq_left', hN]
  refine W.newArray_of (k := kA) (type := .array .int) hkA hA (lim N hb1).1 (lim N hb1).2 (by show T.heap.size < _; omega) (by show T.slotsUsed + N ≤ _; omega) rfl fun acts1 => ?_
  rw [arrV_new, mx_f0 T.heap.size]
  show wp _ _ E e d acts1 ((T.pushCell (arrV cA N (mx_f T.heap.size 0))).setTop g)
  rw [mx_st0 _ _ (arrV cI M fun _ => .int 0)]
  simp only [hnone, ite_self, wp_bind', Std.Legacy.Range.forIn_eq_forIn_range', Std.Legacy.Range.size, Nat.sub_zero, Nat.add_sub_cancel, Nat.div_one]
  refine wp_forIn_inv (fun todo S => ∃ i : Nat, todo = List.range' i todo.length ∧ i + todo.length = N ∧ S = (mx_st T (arrV cA N (mx_f T.heap.size i)) (arrV cI M fun _ => .int 0) i).setTop g) _ _ ⟨0, by rw [List.length_range'], by rw [List.length_range']; omega, rfl⟩ ?_ ?_
  · rintro x todo S d1 acts2 P1 ⟨i, ht, hi, rfl⟩ next
    rw [List.length_cons] at ht hi
    rw [List.range'_succ] at ht
    obtain ⟨rfl, ht⟩ := List.cons.inj ht
    have hxM : (x + 1) * M ≤ N * M := Nat.mul_le_mul_right M (by omega)
    rw [Nat.add_mul, Nat.one_mul] at hxM
    simp only [wp_bind']
    rw [Op.multianewarray.make]
    simp only [wp_bind', W.ite, if_neg hk, wp_pure', W.theClass, State.vm_setTop, show (mx_st T (arrV cA N (mx_f T.heap.size x)) (arrV cI M fun _ => .int 0) x).vm = T.vm from rfl, hkI, hI, Option.some.injEq, exists_eq_left', hM]
    refine W.newArray_of (k := kI) (type := .int) hkI hI (lim M hb2).1 (lim M hb2).2 (by rw [State.heap_setTop, mx_size]; omega) (by show T.slotsUsed + (arrV _ _ _).slots.size + x * (arrV _ _ _).slots.size + M ≤ _; rw [arrV_size, arrV_size]; omega) rfl fun acts3 => ?_
    rw [show defaultValue .int = Value.int 0 from rfl, arrV_new]
    simp only [wp_bind', W.writeLoc, wp_pure']
    refine ⟨arrV cA N (mx_f T.heap.size x), ?_, by simp [arrV], by rw [arrV_size]; omega, ?_, next _ _ _ ⟨x + 1, ht, by omega, ?_⟩⟩
    · show ((mx_st T _ _ x).heap.push _)[T.heap.size]? = _
      rw [Array.getElem?_push, mx_size, if_neg (by omega), mx_look, if_neg (Nat.lt_irrefl _), if_pos rfl]
    · have hfit : ∀ U : State, U.vm = T.vm → ∀ z : Addr, U.fitsSlot cA .none x (.ref z) = true := fun U hU z => by simp [State.fitsSlot, State.slotType?, hU, hkA, hA, fits]
      exact hfit _ rfl _
    · simp only [State.heap_setTop]
      rw [arrV_store, mx_size, mx_fs]
      show (((mx_st T _ _ x).pushCell _).setCell T.heap.size _).setTop g = _
      rw [mx_stS T (by rw [arrV_size, arrV_size])]
  · rintro S d1 acts2 ⟨i, -, hi, rfl⟩
    rw [List.length_nil, Nat.add_zero] at hi
    subst hi
    exact hq _ _
/-- new int[n][k] -/
theorem mx_new {cc : ByteArray} {pc N M : Nat} {ls : Array Slot} {rest : List Value} {n k : Int32} (hexec : p.tables.exec = Jvm.exec) (hb : c.code = cc) {own : String} {index : Nat}
    (hown : s.vm.findClass own = some m.cls) (hclink : (Cond.classLink own index "[[I").before args s = true) (hA : mx_A s) (harr : (Cond.arrayClass .int).before args s = true)
    (hdg : decode cc pc = .ok (.multianewarray index 2, 4)) (hn : ¬ n < 0) (hk : ¬ k < 0) (hN : n.toNatClampNeg = N) (hM : k.toNatClampNeg = M) (hb1 : N * 4 ≤ 536870912) (hb2 : M * 4 ≤ 536870912)
    (hcells : cells + (1 + N) ≤ R.cells) (hslots : slots + (N + N * M) ≤ R.slots)
    (kk : ∀ (q : Nat) (cA cI : ClassId) (H1 : Heap), H.size ≤ q → q + N < H1.size → (∀ a : Nat, a < H.size → H1[a]? = H[a]?) → H1[q]? = some (arrV cA N (mx_f q N)) → (∀ j : Nat, j < N → H1[q + 1 + j]? = some (arrV cI M (fun _ => .int 0))) →
      ArrOfT s cA (.array .int) → ArrOfT s cI .int → s.vm.findClass "[[I" = some cA → s.vm.findClass "[I" = some cI → W p l e R s m args below meth c H1 locs (cells + 1 + N) (slots + N + N * M) Q (F0 m (pc + 4) ls (.ref q :: rest))) :
    W p l e R s m args below meth c H locs cells slots Q (F0 m pc ls (.int k :: .int n :: rest)) := by
  intro T hT X
  subst hT
  obtain ⟨cI, cA, kA, fI, hkA, hkindA, fA⟩ := hA
  obtain ⟨dI, kI, cz, gI, hkI, hkindI⟩ := Cond.arrayClass_spec harr
  obtain rfl : dI = cI := Option.some.inj (gI.symm.trans fI)
  obtain ⟨dA, gA, hlk⟩ := Cond.classLink_spec hown hclink e.platform (by rw [X.admits.platform])
  obtain rfl : dA = cA := Option.some.inj (gA.symm.trans fA)
  obtain ⟨hgives, hwarm, -⟩ := State.classEntry (e := e) X.warmed hlk
  generalize T.vm.noted m.cls index (.cls dA) = v at hgives hwarm
  obtain ⟨kA', hkA', eA⟩ := hwarm.alike.2.2 _ _ hkA
  obtain ⟨kI', hkI', eI⟩ := hwarm.alike.2.2 _ _ hkI
  have XV := X.noted hwarm
  have XG := mx_stand XV dA dI N M N
  have look := mx_look (T.setVm v) (arrV dA N (mx_f T.heap.size N)) (arrV dI M fun _ => .int 0) N
  have hz : (T.setVm v).heap.size = T.heap.size := rfl
  obtain ⟨t, st, ht⟩ := kk T.heap.size dA dI (mx_st (T.setVm v) (arrV dA N (mx_f T.heap.size N)) (arrV dI M fun _ => .int 0) N).heap (Nat.le_refl _) (by rw [mx_size, hz]; omega)
    (fun a ha => (look a).trans (if_pos ha)) (by rw [look, hz, if_neg (Nat.lt_irrefl _), if_pos rfl]) (fun j hj => by rw [look, hz, if_neg (by omega), if_neg (by omega), if_pos (by omega)])
    (fun _ _ => ⟨fun _ h => (nomatch h), kA, hkA, dI, hkindA⟩) (fun _ _ => ⟨fun _ h => (nomatch h), kI, hkI, cz, hkindI⟩) fA fI _ rfl XG
  refine ⟨t, ?_, ht⟩
  have hdg' : decode c.code pc = .ok (.multianewarray index 2, 4) := by rw [hb]; exact hdg
  jvm_step X.here [hexec, hdg']
  simp only [Op.multianewarray.sem, wp_bind', W.resolveClassAt_links (State.method?_setTop (F0 m pc ls (.int k :: .int n :: rest)) X.here.top) hgives]
  refine (Op.popN_top (s := T.setVm v) (f := F0 m pc ls (.int k :: .int n :: rest)) (args := [.int n, .int k]) (rest := rest) X.here.top rfl).mpr ?_
  simp only [List.mapM_cons, List.mapM_nil, wp_bind', wp_pure']
  refine mx_make XV _ hkA' (by rw [eA]; exact hkindA) hkI' (by rw [eI]; exact hkindI) hn hk hN hM hb1 hb2 hcells hslots fun d' acts' => ?_
  simp only [wp_bind', W.mark, W.pushRef, State.topJava?_setTop' _ XG.here.top, Option.some.injEq, exists_eq_left', State.setTop_setTop]
  intro acts
  simp [jvm, XG.here.top]
  exact st
end MXC
