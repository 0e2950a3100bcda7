/-- what every method of mine is given beside its words: the words that aren't good ones, int[][] and Label[] in the tables, Throwable's two statics -/
def jx (aS aT : Nat) (cS cT : Cell) (U : State) : Prop := (∀ w ∈ lw_tbl, gx_nk w = true → va_Nw w U) ∧ mx_A U ∧ va_AO "TapeSealer$Label" U ∧ jx_st "UNASSIGNED_STACK" Bundle.steD aS cS U ∧ jx_st "SUPPRESSED_SENTINEL" Bundle.listD aT cT U ∧ U.heap[aS]? = some cS ∧ U.heap[aT]? = some cT
theorem jx.move {aS aT : Nat} {cS cT : Cell} {s U : State} (hW : s.WarmedH U.vm) (h1 : U.heap[aS]? = s.heap[aS]?) (h2 : U.heap[aT]? = s.heap[aT]?) (h : jx aS aT cS cT s) : jx aS aT cS cT U :=
  ⟨fun w hw hk => gx_nk_warm hk hW (h.1 w hw hk), h.2.1.moved hW.alike, va_AO.moved hW.alike h.2.2.1, h.2.2.2.1.moved hW.alike, h.2.2.2.2.1.moved hW.alike, by rw [h1]; exact h.2.2.2.2.2.1, by rw [h2]; exact h.2.2.2.2.2.2⟩
theorem jx.word {aS aT : Nat} {cS cT : Cell} {U : State} {args : Array Value} (h : jx aS aT cS cT U) {w : Cond} (k : Nat) (hk : lw_tbl[k]? = some w) (hn : gx_nk w = true) : w.before args U = true := va_Nw.use (gx_nk_on hn) (h.1 w (List.mem_of_getElem? hk) hn)
theorem jx.call {aS aT : Nat} {cS cT : Cell} {U : State} (g : JFrame) (mk : MethodId) (a : Array Value) (h : jx aS aT cS cT U) : jx aS aT cS cT (U.calling g mk a) := h.move (s := U) (U := U.calling g mk a) (State.WarmedH.refl U) rfl rfl
/-- the words of 'throw new E()' -/
theorem jx.own {aS aT : Nat} {cS cT : Cell} {s : State} {args : Array Value} (h : jx aS aT cS cT s) (hB : ∀ w ∈ gx_B, w.before args s = true) {own cls : String} {ic : Nat} {names : List String}
    (hd : ∀ w ∈ Bundle.ownAtoms0 own ic cls names, w ∈ lw_tbl ∨ w = .isRef (.static Bundle.tN "UNASSIGNED_STACK" Bundle.steD) ∨ w = .isRef (.static Bundle.tN "SUPPRESSED_SENTINEL" Bundle.listD))
    (hk : (Bundle.ownAtoms0 own ic cls names).all (fun w => goodWord w || gx_nk w || decide (w = .isRef (.static Bundle.tN "UNASSIGNED_STACK" Bundle.steD)) || decide (w = .isRef (.static Bundle.tN "SUPPRESSED_SENTINEL" Bundle.listD)) || decide (w = .laysStatic Bundle.tN "UNASSIGNED_STACK" Bundle.steD) || decide (w = .laysStatic Bundle.tN "SUPPRESSED_SENTINEL" Bundle.listD)) = true) :
    ∀ w ∈ Bundle.ownAtoms0 own ic cls names, w.before args s = true := fun w hw => by
  obtain ⟨h1, -, -, h4, h5, h6, h7⟩ := h
  have hk := List.all_eq_true.mp hk w hw
  simp only [Bool.or_eq_true, decide_eq_true_eq] at hk
  rcases hk with ((((hk | hk) | hk) | hk) | hk) | hk
  · rcases hd w hw with h9 | h9 | h9
    · exact hB w (List.mem_filter.mpr ⟨h9, hk⟩)
    · rw [h9]; exact h4.isRef h6
    · rw [h9]; exact h5.isRef h7
  · rcases hd w hw with h9 | h9 | h9
    · exact va_Nw.use (gx_nk_on hk) (h1 w h9 hk)
    · rw [h9]; exact h4.isRef h6
    · rw [h9]; exact h5.isRef h7
  · rw [hk]; exact h4.isRef h6
  · rw [hk]; exact h5.isRef h7
  · rw [hk]; exact h4.lays h6
  · rw [hk]; exact h5.lays h7
theorem jx_st.stat {n d : String} {aS : Nat} {cS : Cell} {U : State} (h : jx_st n d aS cS U) : cS.vm.isStatics = true := by
  obtain ⟨c, k, i, f, h1, h2, h3, h4, h5, -⟩ := h
  exact h5
theorem jx_off {D : va_G} {cl : List vw_C} {ws : va_W} {H : Heap} {a sz : Nat} {c : Cell} (hP : va_P D cl ws H) (h : H[a]? = some c) (hv : c.vm.isStatics = true) (hsz : a < sz) : ¬ va_A ws sz a := by
  intro h9
  rcases h9 with ⟨k, e, hk⟩ | h9
  · have h1 := hP k _ hk
    cases e with
    | inl x =>
      have h2 : H[a]? = some (vp_cell x.1 x.2) := h1
      rw [h] at h2
      have h3 := Option.some.inj h2
      rw [h3] at hv
      obtain ⟨c9, n9, f9⟩ := x
      rcases f9 with f9 | f9 | f9 | f9 | f9 <;> cases hv
    | inr o =>
      obtain ⟨r, -, cell, g1, g2, g3, -⟩ := h1
      have g1' : H[a]? = some cell := g1
      rw [h] at g1'
      rw [Option.some.inj g1', g3] at hv
      cases hv
  · omega
