theorem wj_bc {A : Nat → Prop} {a b c : va_W} (h : va_D A ((a ++ b) ++ c)) : ∀ (i j : Nat) (p q : Nat × va_E), b[i]? = some p → c[j]? = some q → p.1 ≠ q.1 := fun i j p q hi hj => wj_ne h (a.length + i) j p q (by rw [List.getElem?_append_right (by omega), Nat.add_sub_cancel_left]; exact hi) hj
theorem wj_sym {b c : va_W} (h : ∀ (i j : Nat) (p q : Nat × va_E), b[i]? = some p → c[j]? = some q → p.1 ≠ q.1) : ∀ (i j : Nat) (p q : Nat × va_E), c[i]? = some p → b[j]? = some q → p.1 ≠ q.1 := fun i j p q hi hj => (h j i q p hj hi).symm
theorem gx_lt44 {b : Int32} (h1 : ¬ b < 0) (h2 : ¬ 44 ≤ b) : b.toNatClampNeg < 44 := Nat.not_le.mp fun q => gx_in44 h1 h2 (Or.inr q)
theorem wj_one {o0 : Nat} {e e' : va_E} {b : va_W} (h : ∀ (i j : Nat) (p q : Nat × va_E), b[i]? = some p → ([(o0, e)] : va_W)[j]? = some q → p.1 ≠ q.1) : ∀ (i j : Nat) (p q : Nat × va_E), b[i]? = some p → ([(o0, e')] : va_W)[j]? = some q → p.1 ≠ q.1 := fun i j p q hi hj => by
  have h1 : j < 1 := (List.getElem?_eq_some_iff.mp hj).1
  have h2 : j = 0 := by omega
  subst h2
  cases hj
  exact h i 0 p (o0, e) hi rfl
