/-! The law's own world: the object, the reference, the array for answers. -/
theorem gy_good {w : Cond} (h : w ∈ gx_B) : GoodIn gx_B (w :: gx_B) := fun v hv => by
  have hv' : v ∈ gx_B := (List.mem_cons.mp hv).elim (fun e => by rw [e]; exact h) id
  exact ⟨hv', gx_ok hv'⟩
theorem gy_goodV {own C : String} {idx : Nat} {y : MethodName} {w : Cond} (h1 : Cond.methodLink own idx y ∈ gx_B) (h2 : Cond.instanceMethod y ∈ gx_B) (h3 : Cond.selects C y y ∈ gx_B) (h4 : Cond.initialized C ∈ gx_B) (h : w ∈ gx_B) : GoodIn gx_B (wsV own idx C y (w :: gx_B)) := fun v hv => by
  have hv' : v ∈ gx_B := by
    simp only [wsV, List.mem_append, List.mem_cons, List.not_mem_nil, or_false] at hv
    rcases hv with (rfl | rfl | rfl | rfl) | rfl | hv
    · exact h1
    · exact h2
    · exact h3
    · exact h4
    · exact h
    · exact hv
  exact ⟨hv', gx_ok hv'⟩
abbrev wO (o0 : Nat) (cO : ClassId) : va_W := [(o0, .inl (cO, 1, .inr (.inl (fun _ => 0))))]
abbrev wJ (x0 m0 o0 : Nat) (q r : Nat → Nat) (ci cj : Nat → ClassId) (cO : ClassId) : va_W := (wTS x0 q ci ++ wMo m0 r cj) ++ wO o0 cO
abbrev kJ (ci cj : Nat → ClassId) (cO : ClassId) : List (ClassId × FieldType) := (kTS ci ++ kMo cj) ++ [(cO, .long)]
abbrev lA (s : State) : Nat → Prop := fun q => s.heap.size ≤ q
theorem wj_l {D : va_G} {cl : List vw_C} {a b : va_W} {H : Heap} (h : va_P D cl (a ++ b) H) : va_P D cl a H := fun k q hk => h k q (by
  rw [List.getElem?_append_left (List.getElem?_eq_some_iff.mp hk).1]; exact hk)
theorem wj_r {D : va_G} {cl : List vw_C} {a b : va_W} {H : Heap} (h : va_P D cl (a ++ b) H) : va_P D cl b H := fun k q hk => h (a.length + k) q (by
  rw [List.getElem?_append_right (by omega), Nat.add_sub_cancel_left]; exact hk)
theorem wj_Dl {A : Nat → Prop} {a b : va_W} (h : va_D A (a ++ b)) : va_D A a := ⟨fun i j p q hi hj e => h.1 i j p q (by rw [List.getElem?_append_left (List.getElem?_eq_some_iff.mp hi).1]; exact hi) (by rw [List.getElem?_append_left (List.getElem?_eq_some_iff.mp hj).1]; exact hj) e, fun k q hk => h.2 k q (by rw [List.getElem?_append_left (List.getElem?_eq_some_iff.mp hk).1]; exact hk)⟩
theorem wj_Dr {A : Nat → Prop} {a b : va_W} (h : va_D A (a ++ b)) : va_D A b := ⟨fun i j p q hi hj e => by
  have := h.1 (a.length + i) (a.length + j) p q (by rw [List.getElem?_append_right (by omega), Nat.add_sub_cancel_left]; exact hi) (by rw [List.getElem?_append_right (by omega), Nat.add_sub_cancel_left]; exact hj) e
  omega, fun k q hk => h.2 (a.length + k) q (by rw [List.getElem?_append_right (by omega), Nat.add_sub_cancel_left]; exact hk)⟩
theorem wj_ne {A : Nat → Prop} {a b : va_W} (h : va_D A (a ++ b)) : ∀ (i j : Nat) (p q : Nat × va_E), a[i]? = some p → b[j]? = some q → p.1 ≠ q.1 := fun i j p q hi hj e => by
  have h1 := (List.getElem?_eq_some_iff.mp hi).1
  have := h.1 i (a.length + j) p q (by rw [List.getElem?_append_left h1]; exact hi) (by rw [List.getElem?_append_right (by omega), Nat.add_sub_cancel_left]; exact hj) e
  omega
/-- cells that a callee can't reach are as they were -/
theorem wj_keep {D : va_G} {cl : List vw_C} {wc wm : va_W} {H H1 : Heap} (hP : va_P D cl wm H) (hne : ∀ (i j : Nat) (p q : Nat × va_E), wc[i]? = some p → wm[j]? = some q → p.1 ≠ q.1) (hk : ∀ q : Nat, q < H.size → ¬ va_A wc H.size q → H1[q]? = H[q]?) : va_P D cl wm H1 :=
  hP.kept fun k x hx => hk x.1 (hP k x hx).lt fun h9 => by
    rcases h9 with ⟨i, e, hi⟩ | h9
    · exact hne i k _ _ hi hx rfl
    · have := (hP k x hx).lt
      omega
theorem wj_sub {wc ws wm : va_W} (hne : ∀ (i j : Nat) (p q : Nat × va_E), ws[i]? = some p → wm[j]? = some q → p.1 ≠ q.1) (f : Nat → Nat) (hf : ∀ (i : Nat) (p : Nat × va_E), wc[i]? = some p → ws[f i]? = some p) : ∀ (i j : Nat) (p q : Nat × va_E), wc[i]? = some p → wm[j]? = some q → p.1 ≠ q.1 := fun i j p q hi hj => hne (f i) j p q (hf i p hi) hj
theorem wj_old {H H1 : Heap} (h : ∀ (z : Addr) (d : Cell), H[z]? = some d → H1[z]? = some d) (z : Nat) (hz : z < H.size) : H1[z]? = H[z]? := by
  rw [h z H[z] (Array.getElem?_eq_getElem hz), Array.getElem?_eq_getElem hz]
theorem wj_all {D : va_G} {cl : List vw_C} {ws : va_W} {H H1 : Heap} (hP : va_P D cl ws H) (h : ∀ (z : Addr) (d : Cell), H[z]? = some d → H1[z]? = some d) : va_P D cl ws H1 := hP.kept fun k x hx => wj_old h x.1 (hP k x hx).lt
/-- a row of the cartridge -/
theorem wj_row {D : va_G} {cl : List vw_C} {A : Nat → Prop} {x0 : Nat} {q : Nat → Nat} {ci : Nat → ClassId} {j : Nat} (hj : j < 44) : (wTS x0 q ci)[12 + j]? = some (q 1 + 1 + j, .inl (ci 1, 64, .inl (fun _ => 0))) := by
  show (_ ++ mx_Y (q 1) (ci 1))[12 + j]? = _
  rw [List.getElem?_append_right (by simp)]
  show (mx_Y (q 1) (ci 1))[12 + j - 12]? = _
  rw [Nat.add_sub_cancel_left]
  unfold mx_Y
  rw [List.getElem?_map, List.getElem?_range hj]
  rfl
theorem wj_nd3 : ∀ j, j < 44 → va_nd [0, 1, 2, 12 + j] = true := by decide
theorem wj_nd4 : ∀ j, j < 44 → va_nd [0, 1, 2, 3, 12 + j] = true := by decide
/-- the words of the tables -/
theorem law_B {args : Array Value} {s : State} (hts : ∀ w ∈ lw_tbl, w.before args s = true) : ∀ w ∈ gx_B, w.before args s = true := fun w h => hts w (List.mem_filter.mp h).1
theorem law_K {args : Array Value} {s : State} (hB : ∀ w ∈ gx_B, w.before args s = true) (hi : ∀ (c : Nat) (q : vw_C), gx_cl[c]? = some q → ∃ (cC : ClassId) (iS : Nat → Nat), u_Kn s q.1 q.2.1 q.2.2 cC iS) : ∃ (dC : Nat → ClassId) (dI : Nat → Nat → Nat), va_K (dC, dI) gx_cl [] s := by
  have h : ∀ c : Nat, ∃ z : ClassId × (Nat → Nat), ∀ q : vw_C, gx_cl[c]? = some q → u_Kn s q.1 q.2.1 q.2.2 z.1 z.2 := fun c => by
    cases hq : gx_cl[c]? with
    | none => exact ⟨(0, fun _ => 0), fun q h => by cases h⟩
    | some q =>
      obtain ⟨cC, iS, h⟩ := hi c q hq
      exact ⟨(cC, iS), fun q' h' => by cases h'; exact h⟩
  exact ⟨fun c => (Classical.choose (h c)).1, fun c => (Classical.choose (h c)).2, fun c q hq => Classical.choose_spec (h c) q hq, fun _ _ h => by cases h⟩
