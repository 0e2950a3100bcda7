/-- the 44 rows of 64 zeros that lie behind the outer array at q -/
def mx_Y (q : Nat) (cI : ClassId) : va_W := (List.range 44).map (fun j => (q + 1 + j, .inl (cI, 64, .inl (fun _ => 0))))
def mx_g (q N i : Nat) : Option Nat := if i < N then some (q + 1 + i) else none
theorem mx_fg (q N : Nat) : mx_f q N = fun j => va_rf (mx_g q N j) := by
  funext j
  unfold mx_f mx_g
  by_cases h : j < N
  · rw [if_pos h, if_pos h]; rfl
  · rw [if_neg h, if_neg h]; rfl
section MXE
variable {p : Program} {l : Launch} {e : Env} {R : Room} {s : State} {m : MethodId} {args : Array Value} {below : List Frame} {meth : Method} {c : Code} {H : Heap} {locs : List Loc} {cells slots : Nat} {Q : State → Prop}
variable {cc : ByteArray} {pc : Nat} {ls : Array Slot} {rest : List Value} {D : va_G} {cl : List vw_C} {A : Nat → Prop} {tys : List (ClassId × FieldType)} {ws : va_W} {H0 : Heap}
theorem mx_S {H1 : Heap} (hS : va_S A H0 H locs) (hz : H.size ≤ H1.size) (ho : ∀ a : Nat, a < H.size → H1[a]? = H[a]?) : va_S A H0 H1 locs :=
  ⟨Nat.le_trans hS.1 hz, fun q h1 h2 => (ho q (Nat.lt_of_lt_of_le h1 hS.1)).trans (hS.2.1 q h1 h2), hS.2.2⟩
/-- new int[n][k], nothing of it is kept in the world -/
theorem mx_newD {N M : Nat} {n k : Int32} (hexec : p.tables.exec = Jvm.exec) (hb : c.code = cc) {own : String} {index : Nat}
    (hown : s.vm.findClass own = some m.cls) (hclink : (Cond.classLink own index "[[I").before args s = true) (hM9 : mx_A s) (harr : (Cond.arrayClass .int).before args s = true)
    (hP : va_P D cl ws H) (hS : va_S A H0 H locs) (hn : ¬ n < 0) (hk : ¬ k < 0) (hN : n.toNatClampNeg = N) (hM : k.toNatClampNeg = M) (hb1 : N * 4 ≤ 536870912) (hb2 : M * 4 ≤ 536870912)
    (hcells : cells + (1 + N) ≤ R.cells) (hslots : slots + (N + N * M) ≤ R.slots) (hdg : decode cc pc = .ok (.multianewarray index 2, 4))
    (kk : ∀ (q : Nat) (H1 : Heap), va_P D cl ws H1 → va_S A H0 H1 locs → W p l e R s m args below meth c H1 locs (cells + 1 + N) (slots + N + N * M) Q (F0 m (pc + 4) ls (.ref q :: rest))) :
    W p l e R s m args below meth c H locs cells slots Q (F0 m pc ls (.int k :: .int n :: rest)) :=
  mx_new hexec hb hown hclink hM9 harr hdg hn hk hN hM hb1 hb2 hcells hslots fun q cA cI H1 h1 h2 h3 _ _ _ _ _ _ =>
    kk q H1 (hP.kept fun k9 x hx => h3 x.1 (hP k9 x hx).lt) (mx_S hS (by omega) h3)
/-- new int[44][64], all of it is kept -/
theorem mx_newK {n k : Int32} (hexec : p.tables.exec = Jvm.exec) (hb : c.code = cc) {own : String} {index : Nat}
    (hown : s.vm.findClass own = some m.cls) (hclink : (Cond.classLink own index "[[I").before args s = true) (hM9 : mx_A s) (harr : (Cond.arrayClass .int).before args s = true)
    (hK : va_K D cl tys s) (hP : va_P D cl ws H) (hD : va_D A ws) (hS : va_S A H0 H locs) (hA : ∀ q, H0.size ≤ q → A q) (hn : ¬ n < 0) (hk : ¬ k < 0) (hN : n.toNatClampNeg = 44) (hM : k.toNatClampNeg = 64)
    (hcells : cells + 45 ≤ R.cells) (hslots : slots + 2860 ≤ R.slots) (hdg : decode cc pc = .ok (.multianewarray index 2, 4))
    (kk : ∀ (q : Nat) (cA cI : ClassId) (H1 : Heap), va_K D cl (tys ++ [(cA, .array .int), (cI, .int)]) s → va_P D cl (ws ++ ([(q, .inl (cA, 44, .inr (.inr (.inr (.inr (mx_g q 44))))))] ++ mx_Y q cI)) H1 → va_D A (ws ++ ([(q, .inl (cA, 44, .inr (.inr (.inr (.inr (mx_g q 44))))))] ++ mx_Y q cI)) → va_S A H0 H1 locs →
      W p l e R s m args below meth c H1 locs (cells + 45) (slots + 2860) Q (F0 m (pc + 4) ls (.ref q :: rest))) :
    W p l e R s m args below meth c H locs cells slots Q (F0 m pc ls (.int k :: .int n :: rest)) := by
  refine mx_new (N := 44) (M := 64) hexec hb hown hclink hM9 harr hdg hn hk hN hM (by decide) (by decide) (by omega) (by omega) fun q cA cI H1 h1 h2 h3 h4 h5 h6 h7 h8 h9 => ?_
  have hP1 : va_P D cl ws H1 := hP.kept fun k9 x hx => h3 x.1 (hP k9 x hx).lt
  have hlt : ∀ (k9 : Nat) (x : Nat × va_E), ws[k9]? = some x → x.1 < q := fun k9 x hx => Nat.lt_of_lt_of_le (hP k9 x hx).lt h1
  have hget : ∀ (i : Nat) (x : Nat × va_E), (mx_Y q cI)[i]? = some x → i < 44 ∧ x = (q + 1 + i, .inl (cI, 64, .inl (fun _ => 0))) := fun i x hx => by
    unfold mx_Y at hx
    rw [List.getElem?_map] at hx
    by_cases hi : i < 44
    · rw [List.getElem?_range hi] at hx
      exact ⟨hi, (Option.some.inj hx).symm⟩
    · rw [List.getElem?_eq_none (by simpa using hi)] at hx
      cases hx
  have hone : ∀ (i : Nat) (x : Nat × va_E), ([(q, .inl (cA, 44, .inr (.inr (.inr (.inr (mx_g q 44))))))] : va_W)[i]? = some x → i = 0 ∧ x = (q, .inl (cA, 44, .inr (.inr (.inr (.inr (mx_g q 44)))))) := fun i x hx => by
    have hi : i < 1 := (List.getElem?_eq_some_iff.mp hx).1
    have hi0 : i = 0 := by omega
    subst hi0
    exact ⟨rfl, (Option.some.inj hx).symm⟩
  have hAq : ∀ z : Nat, q ≤ z → A z := fun z hz => hA z (Nat.le_trans hS.1 (Nat.le_trans h1 hz))
  have hPY : va_P D cl ([(q, .inl (cA, 44, .inr (.inr (.inr (.inr (mx_g q 44))))))] ++ mx_Y q cI) H1 := by
    refine va_P.app (fun i x hx => ?_) (fun i x hx => ?_)
    · obtain ⟨-, rfl⟩ := hone i x hx
      show H1[q]? = some (vp_cell _ _)
      rw [vp_cell_q, ← mx_fg]
      exact h4
    · obtain ⟨hi, rfl⟩ := hget i x hx
      exact h5 i hi
  have hDY : va_D A ([(q, .inl (cA, 44, .inr (.inr (.inr (.inr (mx_g q 44))))))] ++ mx_Y q cI) := by
    refine va_D.app ⟨fun i j x y hx hy e => ?_, fun i x hx => ?_⟩ ⟨fun i j x y hx hy e => ?_, fun i x hx => ?_⟩ (fun i j x y hx hy e => ?_)
    · rw [(hone i x hx).1, (hone j y hy).1]
    · rw [(hone i x hx).2]; exact hAq q (Nat.le_refl _)
    · rw [(hget i x hx).2, (hget j y hy).2] at e
      have e9 : q + 1 + i = q + 1 + j := e
      omega
    · rw [(hget i x hx).2]; exact hAq _ (by show q ≤ q + 1 + i; omega)
    · rw [(hone i x hx).2, (hget j y hy).2] at e
      have e9 : q = q + 1 + j := e
      omega
  have hge : ∀ (i : Nat) (x : Nat × va_E), ([(q, .inl (cA, 44, .inr (.inr (.inr (.inr (mx_g q 44))))))] ++ mx_Y q cI : va_W)[i]? = some x → q ≤ x.1 := fun i x hx => by
    rcases Nat.lt_or_ge i 1 with hi | hi
    · rw [List.getElem?_append_left (by simpa using hi)] at hx
      rw [(hone i x hx).2]
      exact Nat.le_refl _
    · rw [List.getElem?_append_right (by simpa using hi)] at hx
      rw [(hget _ x hx).2]
      show q ≤ q + 1 + _
      omega
  refine kk q cA cI H1 ⟨hK.1, fun k9 x hx => ?_⟩ (hP1.app hPY) (va_D.app hD hDY (fun i j x y hx hy e => ?_)) (mx_S hS (by omega) h3)
  · by_cases hl : k9 < tys.length
    · rw [List.getElem?_append_left hl] at hx
      exact hK.2 k9 x hx
    · rw [List.getElem?_append_right (by omega)] at hx
      have hz : k9 - tys.length < 2 := (List.getElem?_eq_some_iff.mp hx).1
      rcases (show k9 - tys.length = 0 ∨ k9 - tys.length = 1 by omega) with h0 | h0
      · rw [h0] at hx; cases hx
        exact ⟨h6, h8⟩
      · rw [h0] at hx; cases hx
        exact ⟨h7, h9⟩
  · have := hlt i x hx
    have := hge j y hy
    rw [e] at *
    omega
end MXE
theorem gx_P0 {D : va_G} {cl : List vw_C} {H : Heap} : va_P D cl [] H := fun _ _ h => by cases h
theorem gx_D0 {A : Nat → Prop} : va_D A [] := And.intro (fun _ _ _ _ h => by cases h) (fun _ _ h => by cases h)
abbrev gx_L4 (a b c d : Nat) : Nat → Option Nat := va_up (va_up (va_up (va_up (fun _ => none) 0 (some a)) 1 (some b)) 2 (some c)) 3 (some d)
