/-! The tables' words as every contract of mine takes them: one list for all methods. -/
def gx_B : List Cond := lw_tbl.filter goodWord
theorem gx_mem {w : Cond} (k : Nat) (h : lw_tbl[k]? = some w) (g : goodWord w = true) : w ∈ gx_B := List.mem_filter.mpr ⟨List.mem_of_getElem? h, g⟩
theorem gx_ok {w : Cond} (h : w ∈ gx_B) : (w.onTables && w.keeps) = true ∨ ∃ ty, w = .arrayClass ty := good_of_word (List.mem_filter.mp h).2
theorem gx_good {w w1 : Cond} (h : w ∈ gx_B) : GoodIn (w1 :: gx_B) (w :: gx_B) := fun v hv => by
  have hv' : v ∈ gx_B := (List.mem_cons.mp hv).elim (fun e => by rw [e]; exact h) id
  exact ⟨List.mem_cons_of_mem _ hv', gx_ok hv'⟩
theorem gx_goodV {own C : String} {idx : Nat} {y : MethodName} {w w1 : Cond} (h1 : Cond.methodLink own idx y ∈ gx_B) (h2 : Cond.instanceMethod y ∈ gx_B) (h3 : Cond.selects C y y ∈ gx_B) (h4 : Cond.initialized C ∈ gx_B) (h : w ∈ gx_B) : GoodIn (w1 :: gx_B) (wsV own idx C y (w :: gx_B)) := fun v hv => by
  have hv' : v ∈ gx_B := by
    simp only [wsV, List.mem_append, List.mem_cons, List.not_mem_nil, or_false] at hv
    rcases hv with (rfl | rfl | rfl | rfl) | rfl | hv
    · exact h1
    · exact h2
    · exact h3
    · exact h4
    · exact h
    · exact hv
  exact ⟨List.mem_cons_of_mem _ hv', gx_ok hv'⟩
theorem gx_goodS {own : String} {idx : Nat} {y : MethodName} {w w1 : Cond} (h1 : Cond.methodLink own idx y ∈ gx_B) (h2 : Cond.static y ∈ gx_B) (h4 : Cond.initialized own ∈ gx_B) (h : w ∈ gx_B) : GoodIn (w1 :: gx_B) (wsS own idx y (w :: gx_B)) := fun v hv => by
  have hv' : v ∈ gx_B := by
    simp only [wsS, List.mem_append, List.mem_cons, List.not_mem_nil, or_false] at hv
    rcases hv with (rfl | rfl | rfl) | rfl | hv
    · exact h1
    · exact h2
    · exact h4
    · exact h
    · exact hv
  exact ⟨List.mem_cons_of_mem _ hv', gx_ok hv'⟩
theorem gx_u {C : String} {T : u_T} {N : Nat} (ps : List Nat) (hp : u_ws C T N = ps.filterMap (fun i => lw_tbl[i]?)) (hg : (u_ws C T N).all goodWord = true) : ∀ w ∈ u_ws C T N, w ∈ gx_B := fun w hw => by
  refine List.mem_filter.mpr ⟨?_, List.all_eq_true.mp hg w hw⟩
  rw [hp] at hw
  obtain ⟨i, -, hi⟩ := List.mem_filterMap.mp hw
  exact List.mem_of_getElem? hi
/-! Words of the tables that aren't good ones: nest links, casts, declared constructors. -/
def gx_nk : Cond → Bool
  | .methodLinkNest .. => true
  | .castable .. => true
  | .declares _ => true
  | _ => false
theorem gx_nk_warm {w : Cond} (hw : gx_nk w = true) {s U : State} (hW : s.WarmedH U.vm) (h : va_Nw w s) : va_Nw w U := by
  cases w with
  | methodLinkNest a i x h9 => exact va_Nw.warmM hW h
  | castable a b => exact va_Nw.warmC hW h
  | declares x => exact va_Nw.warmD hW h
  | _ => simp [gx_nk] at hw
theorem gx_nk_on {w : Cond} (hw : gx_nk w = true) : w.onTables = true := by
  cases w <;> first | rfl | (simp [gx_nk] at hw)
/-- a static field of Throwable: where it lies, and that it holds a reference or null -/
def jx_st (n d : String) (aS : Nat) (cS : Cell) (U : State) : Prop := ∃ (c : ClassId) (k : Class) (i : Nat) (f : Field), U.vm.findClass Bundle.tN = some c ∧ U.fieldFound? Bundle.tN n d = some (c, k, i, f) ∧ f.isStatic = true ∧ k.statics = some aS ∧ cS.vm.isStatics = true ∧ cS.cls = c ∧ f.slot < cS.slots.size ∧ k.staticTypes[f.slot]? = some f.type ∧ ∃ v : Value, cS.slots[f.slot]? = some v ∧ v.isRef = true
theorem jx_st.moved {n d : String} {aS : Nat} {cS : Cell} {u U : State} (hvm : u.vm.Alike U.vm) (h : jx_st n d aS cS u) : jx_st n d aS cS U := by
  obtain ⟨c, k, i, f, h1, h2, h3, h4, h5, h6, h7, h8, h9⟩ := h
  obtain ⟨k', hi', he⟩ := State.fieldFound?_setVm hvm h2
  exact ⟨c, k', i, f, by rw [hvm.findClass]; exact h1, hi', h3, by rw [he]; exact h4, h5, h6, h7, by rw [he]; exact h8, h9⟩
theorem jx_st.lays {n d : String} {aS : Nat} {cS : Cell} {U : State} {args : Array Value} (h : jx_st n d aS cS U) (hc : U.heap[aS]? = some cS) : (Cond.laysStatic Bundle.tN n d).before args U = true := by
  obtain ⟨c, k, i, f, h1, h2, h3, h4, h5, h6, h7, h8, h9⟩ := h
  show (Cond.laysStatic Bundle.tN n d).holds args U none U [] = true
  exact Cond.laysStatic_of h1 h2 h3 h4 hc h5 h6 h7 h8
theorem jx_st.isRef {n d : String} {aS : Nat} {cS : Cell} {U : State} {args : Array Value} (h : jx_st n d aS cS U) (hc : U.heap[aS]? = some cS) : (Cond.isRef (.static Bundle.tN n d)).before args U = true := by
  obtain ⟨c, k, i, f, h1, h2, h3, h4, h5, h6, h7, h8, v, h9, h10⟩ := h
  have he : (Term.static Bundle.tN n d).eval args U none [] U = some v := by simp [Term.eval, State.fieldNamed?, h2, h3, h4, hc, h5, h9]
  simp only [Cond.before, Cond.holds, Cond.value, he]
  cases v <;> simp_all [Value.isRef]
theorem jx_st.of {n d : String} {U : State} {args : Array Value} (hl : (Cond.laysStatic Bundle.tN n d).before args U = true) (hr : (Cond.isRef (.static Bundle.tN n d)).before args U = true) : ∃ (aS : Nat) (cS : Cell), U.heap[aS]? = some cS ∧ jx_st n d aS cS U := by
  obtain ⟨c, k, i, f, a, cell, h1, h2, h3, h4, h5, h6, h7, h8, h9⟩ := Cond.laysStatic_spec hl
  cases hv : cell.slots[f.slot]? with
  | none => exact absurd (Array.getElem?_eq_none_iff.mp hv) (by omega)
  | some v =>
    have he : (Term.static Bundle.tN n d).eval args U none [] U = some v := by simp [Term.eval, State.fieldNamed?, h2, h3, h4, h5, h6, hv]
    refine ⟨a, cell, h5, c, k, i, f, h1, h2, h3, h4, h6, h7, h8, h9, v, hv, ?_⟩
    simp only [Cond.before, Cond.holds, Cond.value, he] at hr
    cases v <;> simp_all [Value.isRef]
