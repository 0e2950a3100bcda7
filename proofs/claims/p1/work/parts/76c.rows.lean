theorem gx_pos1 {g : Int32} (h : ¬ g < 1) : 0 ≤ g := by
  rw [Int32.lt_iff_toInt_lt] at h
  rw [Int32.le_iff_toInt_le]
  have h1 : (1 : Int32).toInt = 1 := by decide
  have h0 : (0 : Int32).toInt = 0 := by decide
  omega
theorem gx_nlt64 {g : Int32} (h : 64 ≤ g) : ¬ g < 64 := by
  rw [Int32.le_iff_toInt_le] at h; rw [Int32.lt_iff_toInt_lt]; omega
theorem gx_lt64 {g : Int32} (h : ¬ 64 ≤ g) : g < 64 := by
  rw [Int32.le_iff_toInt_le] at h; rw [Int32.lt_iff_toInt_lt]; omega
theorem gx_nlt5 {g : Int32} (h : 5 < g) : ¬ g < 0 := by
  rw [Int32.lt_iff_toInt_lt] at h ⊢
  have h1 : (5 : Int32).toInt = 5 := by decide
  have h0 : (0 : Int32).toInt = 0 := by decide
  omega
theorem gx_nle5 {g : Int32} (h : 5 < g) : ¬ g ≤ 5 := by
  rw [Int32.lt_iff_toInt_lt] at h; rw [Int32.le_iff_toInt_le]; omega
theorem gx_in2816 {b i : Int32} (h1 : ¬ b < 0) (h2 : ¬ 44 ≤ b) (h3 : ¬ i < 0) (h4 : ¬ 64 ≤ i) : vp_in (64 * b + i) 2816 := by
  obtain ⟨x, hx, rfl⟩ := vp_in_of (gx_in44 h1 h2) (by decide)
  obtain ⟨y, hy, rfl⟩ := vp_in_of (gx_in64 h3 h4) (by decide)
  have e1 : (64 : Int32) = nI 64 := rfl
  rw [e1, pk_mul, nI_add]
  exact vp_in_nI (by omega) (by decide)
set_option maxHeartbeats 4000000 in
set_option maxRecDepth 100000 in
theorem m_Mo_put1 (l : Launch) (dC : Nat → ClassId) (dI : Nat → Nat → Nat) (sz : Nat) (h0 : Nat) (q : Nat → Nat) (ci : Nat → ClassId) (p0 : Int32) : Met l y_Mo_put w_Mo_put ({ frames := 0, cells := 0, slots := 0, locals := 0 }) (va_Pc [.ref h0, .int p0, .int 1] (fun U => U.heap.size = sz ∧ va_P (dC, dI) gx_cl (wMo h0 q ci) U.heap ∧ va_K (dC, dI) gx_cl (kMo ci) U ∧ va_D (fun _ => True) (wMo h0 q ci))) (va_Qi (fun (r : Int32) (_ : Unit) => r = 1) (fun _ t => ∃ fs : List Value, va_P (dC, dI) gx_cl [(h0, .inr (9, .int 0 :: fs))] t.heap ∧ va_D (va_A (wMo h0 q ci) sz) [(h0, .inr (9, .int 0 :: fs))]) (va_A (wMo h0 q ci) sz)) 0 0 (va_A (wMo h0 q ci) sz) := by
  refine Met.ofW (cc := b_Mo_put) (maxL := 4) (ret := (some .boolean)) (by decide) rfl ?_
  intro p e s m args below meth c s₁ B hml hv
  obtain ⟨rfl, hsz, hP, hK, hD0⟩ := hv
  have hx := B.exec
  have hb := B.bytes
  have hr := B.returns
  have hts := atoms_spec (ws := w_Mo_put) B.pre
  have hB : ∀ w ∈ gx_B, w.before _ s = true := fun w h => hts w (List.mem_cons_of_mem _ h)
  have hown : s.vm.findClass "TapeSealerModel" = some m.cls := findClass_of_methodNamed B.named
  have hlocks := B.notSynchronized
  subst hsz
  have hD := hD0.self (sz := s.heap.size)
  generalize hAe : va_A (wMo h0 q ci) s.heap.size = A at hD ⊢
  have hA : ∀ q : Nat, s.heap.size ≤ q → A q := fun q h => by rw [← hAe]; exact Or.inr h
  have hS : va_S A s.heap s.heap [] := va_S.rf
  have hl := lv_entry ([.ref h0, .int p0, .int 1]) (n := 4) (Nat.le_of_ble_eq_true rfl)
  rw [lg_entry_eq]
  generalize (lg_sl ([.ref h0, .int p0, .int 1]) ++ List.replicate (4 - (lg_sl ([.ref h0, .int p0, .int 1])).length) Slot.unset).toArray = ls at hl ⊢
  have hl : lv_has ls 4 [(0, .ref h0), (1, .int p0), (2, .int 1)] := hl
  refine lv_aload_n hx hb d_Mo_put_0 rfl (lv_at hl 0 rfl) ?_
  refine lv_iconst (v := 0) hx hb d_Mo_put_1 (by decide) ?_
  refine va_put (D := (dC, dI)) (ci := 9) (v := .int 0) (ty := .int) (C := RMo) (T := FMo) (N := 45) hx hb hB in_Mo tMo tMo_ok nMo hown hK hP hD hS 0 rfl rfl 0 (by decide) (hB _ hw_890) (fun _ h9 => h9) rfl (by decide +kernel) rfl rfl (Nat.le_of_ble_eq_true rfl) d_Mo_put_2 (fun H locs hP hD hS => ?_)
  have hP : va_P (dC, dI) gx_cl (wMo h0 q ci) H := hP
  have hD : va_D A (wMo h0 q ci) := hD
  refine lv_iload_n hx hb d_Mo_put_5 rfl (lv_at hl 2 rfl) ?_
  refine lv_iconst (v := 1) hx hb d_Mo_put_6 (by decide) ?_
  refine lv_icmp_lt (tgt := 27) hx hb d_Mo_put_7 (by decide) (fun h9 => absurd h9 (by decide)) (fun _ => ?_)
  refine lv_iload_n hx hb d_Mo_put_10 rfl (lv_at hl 2 rfl) ?_
  refine lv_iconst (v := 4) hx hb d_Mo_put_11 (by decide) ?_
  refine lv_icmp_gt (tgt := 27) hx hb d_Mo_put_12 (by decide) (fun h9 => absurd h9 (by decide)) (fun _ => ?_)
  refine lv_aload_n hx hb d_Mo_put_15 rfl (lv_at hl 0 rfl) ?_
  refine va_get (D := (dC, dI)) (ci := 9) (v := .int 0) (C := RMo) (T := FMo) (N := 45) hx hb hB in_Mo hown hK hP 0 rfl rfl 4 (by decide) (hB _ hw_894) (fun _ h9 => h9) rfl d_Mo_put_16 ?_
  refine lv_iload_n hx hb d_Mo_put_19 rfl (lv_at hl 2 rfl) ?_
  refine lv_iadd hx hb d_Mo_put_20 ?_
  refine lv_topi (fun z1 z1_e => ?_)
  obtain rfl : z1 = 1 := z1_e.trans (by decide)
  refine lv_sipush (v := 192) hx hb d_Mo_put_21 (by decide) ?_
  refine lv_icmp_le (tgt := 29) hx hb d_Mo_put_24 (by decide) (fun _ => ?_) (fun h9 => absurd (by decide) h9)
  refine lv_iload_n hx hb d_Mo_put_29 rfl (lv_at hl 2 rfl) ?_
  refine lv_iconst (v := 1) hx hb d_Mo_put_30 (by decide) ?_
  refine lv_isub hx hb d_Mo_put_31 ?_
  refine lv_topi (fun z2 z2_e => ?_)
  obtain rfl : z2 = 0 := z2_e.trans (by decide)
  refine lv_istore_n hx hb d_Mo_put_32 rfl hl (by decide) rfl (fun ls hl => ?_)
  have hl : lv_has ls 4 [(3, .int 0), (0, .ref h0), (1, .int p0), (2, .int 1)] := hl
  refine lv_iload_n hx hb d_Mo_put_33 rfl (lv_at hl 0 rfl) ?_
  refine lv_if_lt (tgt := 72) hx hb d_Mo_put_34 (by decide) (fun h9 => absurd h9 (by decide)) (fun _ => ?_)
  refine lv_aload_n hx hb d_Mo_put_37 rfl (lv_at hl 1 rfl) ?_
  refine va_get (D := (dC, dI)) (ci := 9) (v := .ref (q 3)) (C := RMo) (T := FMo) (N := 45) hx hb hB in_Mo hown hK hP 0 rfl rfl 3 (by decide) (hB _ hw_893) (fun _ h9 => h9) rfl d_Mo_put_38 ?_
  refine lv_aload_n hx hb d_Mo_put_41 rfl (lv_at hl 1 rfl) ?_
  refine va_get (D := (dC, dI)) (ci := 9) (v := .int 0) (C := RMo) (T := FMo) (N := 45) hx hb hB in_Mo hown hK hP 0 rfl rfl 4 (by decide) (hB _ hw_894) (fun _ h9 => h9) rfl d_Mo_put_42 ?_
  refine lv_iload_n hx hb d_Mo_put_45 rfl (lv_at hl 2 rfl) ?_
  refine lv_bipush (v := 8) hx hb d_Mo_put_46 (by decide) ?_
  refine lv_iload_n hx hb d_Mo_put_48 rfl (lv_at hl 0 rfl) ?_
  refine lv_imul hx hb d_Mo_put_49 ?_
  refine lv_topi (fun z3 z3_e => ?_)
  obtain rfl : z3 = 0 := z3_e.trans (by decide)
  refine lv_iushr hx hb d_Mo_put_50 rfl ?_
  refine lv_topi (fun z4 z4_e => ?_)
  refine lv_sipush (v := 255) hx hb d_Mo_put_51 (by decide) ?_
  refine lv_iand hx hb d_Mo_put_54 ?_
  refine lv_topi (fun z5 z5_e => ?_)
  refine va_iast (D := (dC, dI)) hx hb hK hP hD hS 3 2 rfl rfl (by unfold vp_in; decide) d_Mo_put_55 (fun H locs hP hD hS => ?_)
  have hP : va_P (dC, dI) gx_cl [(h0, .inr (9, [.int 0, .ref (q 1), .ref (q 2), .ref (q 3), .int 0, .int 0, .ref (q 6), .ref (q 7), .int 0, .int 0, .int 0, .ref (q 11), .int 0, .int 0, .int (-1), .int 0, .ref (q 16), .int 0, .ref (q 18), .ref (q 19), .ref (q 20), .int 0, .ref (q 22), .int 0, .ref (q 24), .ref (q 25), .ref (q 26), .ref (q 27), .ref (q 28), .int 0, .ref (q 30), .ref (q 31), .ref (q 32), .ref (q 33), .int 0, .int 0, .int 0, .int 0, .int 0, .int 0, .ref (q 40), .int 0, .ref (q 42), .ref (q 43), .ref (q 44)])), ((q 1), .inl ((ci 0), 2816, .inl (fun _ => 0))), ((q 2), .inl ((ci 1), 44, .inl (fun _ => 0))), ((q 3), .inl ((ci 2), 192, .inl (upd (fun _ => 0) (Int32.toNatClampNeg 0) z5))), ((q 7), .inl ((ci 3), 10, .inl (fun _ => 0)))] H := hP
  have hD : va_D A [(h0, .inr (9, [.int 0, .ref (q 1), .ref (q 2), .ref (q 3), .int 0, .int 0, .ref (q 6), .ref (q 7), .int 0, .int 0, .int 0, .ref (q 11), .int 0, .int 0, .int (-1), .int 0, .ref (q 16), .int 0, .ref (q 18), .ref (q 19), .ref (q 20), .int 0, .ref (q 22), .int 0, .ref (q 24), .ref (q 25), .ref (q 26), .ref (q 27), .ref (q 28), .int 0, .ref (q 30), .ref (q 31), .ref (q 32), .ref (q 33), .int 0, .int 0, .int 0, .int 0, .int 0, .int 0, .ref (q 40), .int 0, .ref (q 42), .ref (q 43), .ref (q 44)])), ((q 1), .inl ((ci 0), 2816, .inl (fun _ => 0))), ((q 2), .inl ((ci 1), 44, .inl (fun _ => 0))), ((q 3), .inl ((ci 2), 192, .inl (upd (fun _ => 0) (Int32.toNatClampNeg 0) z5))), ((q 7), .inl ((ci 3), 10, .inl (fun _ => 0)))] := hD
  refine lv_aload_n hx hb d_Mo_put_56 rfl (lv_at hl 1 rfl) ?_
  refine lv_dup hx hb d_Mo_put_57 rfl ?_
  refine va_get (D := (dC, dI)) (ci := 9) (v := .int 0) (C := RMo) (T := FMo) (N := 45) hx hb hB in_Mo hown hK hP 0 rfl rfl 4 (by decide) (hB _ hw_894) (fun _ h9 => h9) rfl d_Mo_put_58 ?_
  refine lv_iconst (v := 1) hx hb d_Mo_put_61 (by decide) ?_
  refine lv_iadd hx hb d_Mo_put_62 ?_
  refine lv_topi (fun z6 z6_e => ?_)
  obtain rfl : z6 = 1 := z6_e.trans (by decide)
  refine va_put (D := (dC, dI)) (ci := 9) (v := .int 1) (ty := .int) (C := RMo) (T := FMo) (N := 45) hx hb hB in_Mo tMo tMo_ok nMo hown hK hP hD hS 0 rfl rfl 4 (by decide) (hB _ hw_894) (fun _ h9 => h9) rfl (by decide +kernel) rfl rfl (Nat.le_of_ble_eq_true rfl) d_Mo_put_63 (fun H locs hP hD hS => ?_)
  have hP : va_P (dC, dI) gx_cl [(h0, .inr (9, [.int 0, .ref (q 1), .ref (q 2), .ref (q 3), .int 1, .int 0, .ref (q 6), .ref (q 7), .int 0, .int 0, .int 0, .ref (q 11), .int 0, .int 0, .int (-1), .int 0, .ref (q 16), .int 0, .ref (q 18), .ref (q 19), .ref (q 20), .int 0, .ref (q 22), .int 0, .ref (q 24), .ref (q 25), .ref (q 26), .ref (q 27), .ref (q 28), .int 0, .ref (q 30), .ref (q 31), .ref (q 32), .ref (q 33), .int 0, .int 0, .int 0, .int 0, .int 0, .int 0, .ref (q 40), .int 0, .ref (q 42), .ref (q 43), .ref (q 44)])), ((q 1), .inl ((ci 0), 2816, .inl (fun _ => 0))), ((q 2), .inl ((ci 1), 44, .inl (fun _ => 0))), ((q 3), .inl ((ci 2), 192, .inl (upd (fun _ => 0) (Int32.toNatClampNeg 0) z5))), ((q 7), .inl ((ci 3), 10, .inl (fun _ => 0)))] H := hP
  have hD : va_D A [(h0, .inr (9, [.int 0, .ref (q 1), .ref (q 2), .ref (q 3), .int 1, .int 0, .ref (q 6), .ref (q 7), .int 0, .int 0, .int 0, .ref (q 11), .int 0, .int 0, .int (-1), .int 0, .ref (q 16), .int 0, .ref (q 18), .ref (q 19), .ref (q 20), .int 0, .ref (q 22), .int 0, .ref (q 24), .ref (q 25), .ref (q 26), .ref (q 27), .ref (q 28), .int 0, .ref (q 30), .ref (q 31), .ref (q 32), .ref (q 33), .int 0, .int 0, .int 0, .int 0, .int 0, .int 0, .ref (q 40), .int 0, .ref (q 42), .ref (q 43), .ref (q 44)])), ((q 1), .inl ((ci 0), 2816, .inl (fun _ => 0))), ((q 2), .inl ((ci 1), 44, .inl (fun _ => 0))), ((q 3), .inl ((ci 2), 192, .inl (upd (fun _ => 0) (Int32.toNatClampNeg 0) z5))), ((q 7), .inl ((ci 3), 10, .inl (fun _ => 0)))] := hD
  refine lv_iinc (k := 0) (v := (-1)) hx hb d_Mo_put_66 hl rfl (by decide) (by decide) rfl (fun ls hl => ?_)
  have hl : lv_has ls 4 [(3, .int (-1)), (0, .ref h0), (1, .int p0), (2, .int 1)] := hl
  refine lv_goto (tgt := 33) hx hb d_Mo_put_69 (by decide) ?_
  refine lv_iload_n hx hb d_Mo_put_33 rfl (lv_at hl 0 rfl) ?_
  refine lv_if_lt (tgt := 72) hx hb d_Mo_put_34 (by decide) (fun _ => ?_) (fun h9 => absurd (by decide) h9)
  refine lv_iconst (v := 1) hx hb d_Mo_put_72 (by decide) ?_
  have hP9 := hP.sub (ws' := [(h0, .inr (9, [.int 0, .ref (q 1), .ref (q 2), .ref (q 3), .int 1, .int 0, .ref (q 6), .ref (q 7), .int 0, .int 0, .int 0, .ref (q 11), .int 0, .int 0, .int (-1), .int 0, .ref (q 16), .int 0, .ref (q 18), .ref (q 19), .ref (q 20), .int 0, .ref (q 22), .int 0, .ref (q 24), .ref (q 25), .ref (q 26), .ref (q 27), .ref (q 28), .int 0, .ref (q 30), .ref (q 31), .ref (q 32), .ref (q 33), .int 0, .int 0, .int 0, .int 0, .int 0, .int 0, .ref (q 40), .int 0, .ref (q 42), .ref (q 43), .ref (q 44)]))]) [0] rfl
  have hD9 := hD.sub (ws' := [(h0, .inr (9, [.int 0, .ref (q 1), .ref (q 2), .ref (q 3), .int 1, .int 0, .ref (q 6), .ref (q 7), .int 0, .int 0, .int 0, .ref (q 11), .int 0, .int 0, .int (-1), .int 0, .ref (q 16), .int 0, .ref (q 18), .ref (q 19), .ref (q 20), .int 0, .ref (q 22), .int 0, .ref (q 24), .ref (q 25), .ref (q 26), .ref (q 27), .ref (q 28), .int 0, .ref (q 30), .ref (q 31), .ref (q 32), .ref (q 33), .int 0, .int 0, .int 0, .int 0, .int 0, .int 0, .ref (q 40), .int 0, .ref (q 42), .ref (q 43), .ref (q 44)]))]) [0] (by decide) rfl
  refine W.widen (k := 0) (n := 0) (Nat.le_of_ble_eq_true rfl) (Nat.le_of_ble_eq_true rfl) ?_
  exact W.zret (v := 1) hx hb hr rfl (fun t ht hW => ⟨⟨1, (), rfl, rfl, [.ref (q 1), .ref (q 2), .ref (q 3), .int 1, .int 0, .ref (q 6), .ref (q 7), .int 0, .int 0, .int 0, .ref (q 11), .int 0, .int 0, .int (-1), .int 0, .ref (q 16), .int 0, .ref (q 18), .ref (q 19), .ref (q 20), .int 0, .ref (q 22), .int 0, .ref (q 24), .ref (q 25), .ref (q 26), .ref (q 27), .ref (q 28), .int 0, .ref (q 30), .ref (q 31), .ref (q 32), .ref (q 33), .int 0, .int 0, .int 0, .int 0, .int 0, .int 0, .ref (q 40), .int 0, .ref (q 42), .ref (q 43), .ref (q 44)], by rw [ht]; exact hP9, hD9⟩, hS.F ht⟩) hS.2.2 d_Mo_put_73
set_option maxHeartbeats 4000000 in
set_option maxRecDepth 100000 in
theorem m_Mo_put2 (l : Launch) (dC : Nat → ClassId) (dI : Nat → Nat → Nat) (sz : Nat) (h0 : Nat) (q : Nat → Nat) (ci : Nat → ClassId) (p0 : Int32) : Met l y_Mo_put w_Mo_put ({ frames := 0, cells := 0, slots := 0, locals := 0 }) (va_Pc [.ref h0, .int p0, .int 2] (fun U => U.heap.size = sz ∧ va_P (dC, dI) gx_cl (wMo h0 q ci) U.heap ∧ va_K (dC, dI) gx_cl (kMo ci) U ∧ va_D (fun _ => True) (wMo h0 q ci))) (va_Qi (fun (r : Int32) (_ : Unit) => r = 1) (fun _ t => ∃ fs : List Value, va_P (dC, dI) gx_cl [(h0, .inr (9, .int 0 :: fs))] t.heap ∧ va_D (va_A (wMo h0 q ci) sz) [(h0, .inr (9, .int 0 :: fs))]) (va_A (wMo h0 q ci) sz)) 0 0 (va_A (wMo h0 q ci) sz) := by
  refine Met.ofW (cc := b_Mo_put) (maxL := 4) (ret := (some .boolean)) (by decide) rfl ?_
  intro p e s m args below meth c s₁ B hml hv
  obtain ⟨rfl, hsz, hP, hK, hD0⟩ := hv
  have hx := B.exec
  have hb := B.bytes
  have hr := B.returns
  have hts := atoms_spec (ws := w_Mo_put) B.pre
  have hB : ∀ w ∈ gx_B, w.before _ s = true := fun w h => hts w (List.mem_cons_of_mem _ h)
  have hown : s.vm.findClass "TapeSealerModel" = some m.cls := findClass_of_methodNamed B.named
  have hlocks := B.notSynchronized
  subst hsz
  have hD := hD0.self (sz := s.heap.size)
  generalize hAe : va_A (wMo h0 q ci) s.heap.size = A at hD ⊢
  have hA : ∀ q : Nat, s.heap.size ≤ q → A q := fun q h => by rw [← hAe]; exact Or.inr h
  have hS : va_S A s.heap s.heap [] := va_S.rf
  have hl := lv_entry ([.ref h0, .int p0, .int 2]) (n := 4) (Nat.le_of_ble_eq_true rfl)
  rw [lg_entry_eq]
  generalize (lg_sl ([.ref h0, .int p0, .int 2]) ++ List.replicate (4 - (lg_sl ([.ref h0, .int p0, .int 2])).length) Slot.unset).toArray = ls at hl ⊢
  have hl : lv_has ls 4 [(0, .ref h0), (1, .int p0), (2, .int 2)] := hl
  refine lv_aload_n hx hb d_Mo_put_0 rfl (lv_at hl 0 rfl) ?_
  refine lv_iconst (v := 0) hx hb d_Mo_put_1 (by decide) ?_
  refine va_put (D := (dC, dI)) (ci := 9) (v := .int 0) (ty := .int) (C := RMo) (T := FMo) (N := 45) hx hb hB in_Mo tMo tMo_ok nMo hown hK hP hD hS 0 rfl rfl 0 (by decide) (hB _ hw_890) (fun _ h9 => h9) rfl (by decide +kernel) rfl rfl (Nat.le_of_ble_eq_true rfl) d_Mo_put_2 (fun H locs hP hD hS => ?_)
  have hP : va_P (dC, dI) gx_cl (wMo h0 q ci) H := hP
  have hD : va_D A (wMo h0 q ci) := hD
  refine lv_iload_n hx hb d_Mo_put_5 rfl (lv_at hl 2 rfl) ?_
  refine lv_iconst (v := 1) hx hb d_Mo_put_6 (by decide) ?_
  refine lv_icmp_lt (tgt := 27) hx hb d_Mo_put_7 (by decide) (fun h9 => absurd h9 (by decide)) (fun _ => ?_)
  refine lv_iload_n hx hb d_Mo_put_10 rfl (lv_at hl 2 rfl) ?_
  refine lv_iconst (v := 4) hx hb d_Mo_put_11 (by decide) ?_
  refine lv_icmp_gt (tgt := 27) hx hb d_Mo_put_12 (by decide) (fun h9 => absurd h9 (by decide)) (fun _ => ?_)
  refine lv_aload_n hx hb d_Mo_put_15 rfl (lv_at hl 0 rfl) ?_
  refine va_get (D := (dC, dI)) (ci := 9) (v := .int 0) (C := RMo) (T := FMo) (N := 45) hx hb hB in_Mo hown hK hP 0 rfl rfl 4 (by decide) (hB _ hw_894) (fun _ h9 => h9) rfl d_Mo_put_16 ?_
  refine lv_iload_n hx hb d_Mo_put_19 rfl (lv_at hl 2 rfl) ?_
  refine lv_iadd hx hb d_Mo_put_20 ?_
  refine lv_topi (fun z1 z1_e => ?_)
  obtain rfl : z1 = 2 := z1_e.trans (by decide)
  refine lv_sipush (v := 192) hx hb d_Mo_put_21 (by decide) ?_
  refine lv_icmp_le (tgt := 29) hx hb d_Mo_put_24 (by decide) (fun _ => ?_) (fun h9 => absurd (by decide) h9)
  refine lv_iload_n hx hb d_Mo_put_29 rfl (lv_at hl 2 rfl) ?_
  refine lv_iconst (v := 1) hx hb d_Mo_put_30 (by decide) ?_
  refine lv_isub hx hb d_Mo_put_31 ?_
  refine lv_topi (fun z2 z2_e => ?_)
  obtain rfl : z2 = 1 := z2_e.trans (by decide)
  refine lv_istore_n hx hb d_Mo_put_32 rfl hl (by decide) rfl (fun ls hl => ?_)
  have hl : lv_has ls 4 [(3, .int 1), (0, .ref h0), (1, .int p0), (2, .int 2)] := hl
  refine lv_iload_n hx hb d_Mo_put_33 rfl (lv_at hl 0 rfl) ?_
  refine lv_if_lt (tgt := 72) hx hb d_Mo_put_34 (by decide) (fun h9 => absurd h9 (by decide)) (fun _ => ?_)
  refine lv_aload_n hx hb d_Mo_put_37 rfl (lv_at hl 1 rfl) ?_
  refine va_get (D := (dC, dI)) (ci := 9) (v := .ref (q 3)) (C := RMo) (T := FMo) (N := 45) hx hb hB in_Mo hown hK hP 0 rfl rfl 3 (by decide) (hB _ hw_893) (fun _ h9 => h9) rfl d_Mo_put_38 ?_
  refine lv_aload_n hx hb d_Mo_put_41 rfl (lv_at hl 1 rfl) ?_
  refine va_get (D := (dC, dI)) (ci := 9) (v := .int 0) (C := RMo) (T := FMo) (N := 45) hx hb hB in_Mo hown hK hP 0 rfl rfl 4 (by decide) (hB _ hw_894) (fun _ h9 => h9) rfl d_Mo_put_42 ?_
  refine lv_iload_n hx hb d_Mo_put_45 rfl (lv_at hl 2 rfl) ?_
  refine lv_bipush (v := 8) hx hb d_Mo_put_46 (by decide) ?_
  refine lv_iload_n hx hb d_Mo_put_48 rfl (lv_at hl 0 rfl) ?_
  refine lv_imul hx hb d_Mo_put_49 ?_
  refine lv_topi (fun z3 z3_e => ?_)
  obtain rfl : z3 = 8 := z3_e.trans (by decide)
  refine lv_iushr hx hb d_Mo_put_50 rfl ?_
  refine lv_topi (fun z4 z4_e => ?_)
  refine lv_sipush (v := 255) hx hb d_Mo_put_51 (by decide) ?_
  refine lv_iand hx hb d_Mo_put_54 ?_
  refine lv_topi (fun z5 z5_e => ?_)
  refine va_iast (D := (dC, dI)) hx hb hK hP hD hS 3 2 rfl rfl (by unfold vp_in; decide) d_Mo_put_55 (fun H locs hP hD hS => ?_)
  have hP : va_P (dC, dI) gx_cl [(h0, .inr (9, [.int 0, .ref (q 1), .ref (q 2), .ref (q 3), .int 0, .int 0, .ref (q 6), .ref (q 7), .int 0, .int 0, .int 0, .ref (q 11), .int 0, .int 0, .int (-1), .int 0, .ref (q 16), .int 0, .ref (q 18), .ref (q 19), .ref (q 20), .int 0, .ref (q 22), .int 0, .ref (q 24), .ref (q 25), .ref (q 26), .ref (q 27), .ref (q 28), .int 0, .ref (q 30), .ref (q 31), .ref (q 32), .ref (q 33), .int 0, .int 0, .int 0, .int 0, .int 0, .int 0, .ref (q 40), .int 0, .ref (q 42), .ref (q 43), .ref (q 44)])), ((q 1), .inl ((ci 0), 2816, .inl (fun _ => 0))), ((q 2), .inl ((ci 1), 44, .inl (fun _ => 0))), ((q 3), .inl ((ci 2), 192, .inl (upd (fun _ => 0) (Int32.toNatClampNeg 0) z5))), ((q 7), .inl ((ci 3), 10, .inl (fun _ => 0)))] H := hP
  have hD : va_D A [(h0, .inr (9, [.int 0, .ref (q 1), .ref (q 2), .ref (q 3), .int 0, .int 0, .ref (q 6), .ref (q 7), .int 0, .int 0, .int 0, .ref (q 11), .int 0, .int 0, .int (-1), .int 0, .ref (q 16), .int 0, .ref (q 18), .ref (q 19), .ref (q 20), .int 0, .ref (q 22), .int 0, .ref (q 24), .ref (q 25), .ref (q 26), .ref (q 27), .ref (q 28), .int 0, .ref (q 30), .ref (q 31), .ref (q 32), .ref (q 33), .int 0, .int 0, .int 0, .int 0, .int 0, .int 0, .ref (q 40), .int 0, .ref (q 42), .ref (q 43), .ref (q 44)])), ((q 1), .inl ((ci 0), 2816, .inl (fun _ => 0))), ((q 2), .inl ((ci 1), 44, .inl (fun _ => 0))), ((q 3), .inl ((ci 2), 192, .inl (upd (fun _ => 0) (Int32.toNatClampNeg 0) z5))), ((q 7), .inl ((ci 3), 10, .inl (fun _ => 0)))] := hD
  refine lv_aload_n hx hb d_Mo_put_56 rfl (lv_at hl 1 rfl) ?_
  refine lv_dup hx hb d_Mo_put_57 rfl ?_
  refine va_get (D := (dC, dI)) (ci := 9) (v := .int 0) (C := RMo) (T := FMo) (N := 45) hx hb hB in_Mo hown hK hP 0 rfl rfl 4 (by decide) (hB _ hw_894) (fun _ h9 => h9) rfl d_Mo_put_58 ?_
  refine lv_iconst (v := 1) hx hb d_Mo_put_61 (by decide) ?_
  refine lv_iadd hx hb d_Mo_put_62 ?_
  refine lv_topi (fun z6 z6_e => ?_)
  obtain rfl : z6 = 1 := z6_e.trans (by decide)
  refine va_put (D := (dC, dI)) (ci := 9) (v := .int 1) (ty := .int) (C := RMo) (T := FMo) (N := 45) hx hb hB in_Mo tMo tMo_ok nMo hown hK hP hD hS 0 rfl rfl 4 (by decide) (hB _ hw_894) (fun _ h9 => h9) rfl (by decide +kernel) rfl rfl (Nat.le_of_ble_eq_true rfl) d_Mo_put_63 (fun H locs hP hD hS => ?_)
  have hP : va_P (dC, dI) gx_cl [(h0, .inr (9, [.int 0, .ref (q 1), .ref (q 2), .ref (q 3), .int 1, .int 0, .ref (q 6), .ref (q 7), .int 0, .int 0, .int 0, .ref (q 11), .int 0, .int 0, .int (-1), .int 0, .ref (q 16), .int 0, .ref (q 18), .ref (q 19), .ref (q 20), .int 0, .ref (q 22), .int 0, .ref (q 24), .ref (q 25), .ref (q 26), .ref (q 27), .ref (q 28), .int 0, .ref (q 30), .ref (q 31), .ref (q 32), .ref (q 33), .int 0, .int 0, .int 0, .int 0, .int 0, .int 0, .ref (q 40), .int 0, .ref (q 42), .ref (q 43), .ref (q 44)])), ((q 1), .inl ((ci 0), 2816, .inl (fun _ => 0))), ((q 2), .inl ((ci 1), 44, .inl (fun _ => 0))), ((q 3), .inl ((ci 2), 192, .inl (upd (fun _ => 0) (Int32.toNatClampNeg 0) z5))), ((q 7), .inl ((ci 3), 10, .inl (fun _ => 0)))] H := hP
  have hD : va_D A [(h0, .inr (9, [.int 0, .ref (q 1), .ref (q 2), .ref (q 3), .int 1, .int 0, .ref (q 6), .ref (q 7), .int 0, .int 0, .int 0, .ref (q 11), .int 0, .int 0, .int (-1), .int 0, .ref (q 16), .int 0, .ref (q 18), .ref (q 19), .ref (q 20), .int 0, .ref (q 22), .int 0, .ref (q 24), .ref (q 25), .ref (q 26), .ref (q 27), .ref (q 28), .int 0, .ref (q 30), .ref (q 31), .ref (q 32), .ref (q 33), .int 0, .int 0, .int 0, .int 0, .int 0, .int 0, .ref (q 40), .int 0, .ref (q 42), .ref (q 43), .ref (q 44)])), ((q 1), .inl ((ci 0), 2816, .inl (fun _ => 0))), ((q 2), .inl ((ci 1), 44, .inl (fun _ => 0))), ((q 3), .inl ((ci 2), 192, .inl (upd (fun _ => 0) (Int32.toNatClampNeg 0) z5))), ((q 7), .inl ((ci 3), 10, .inl (fun _ => 0)))] := hD
  refine lv_iinc (k := 0) (v := 0) hx hb d_Mo_put_66 hl rfl (by decide) (by decide) rfl (fun ls hl => ?_)
  have hl : lv_has ls 4 [(3, .int 0), (0, .ref h0), (1, .int p0), (2, .int 2)] := hl
  refine lv_goto (tgt := 33) hx hb d_Mo_put_69 (by decide) ?_
  refine lv_iload_n hx hb d_Mo_put_33 rfl (lv_at hl 0 rfl) ?_
  refine lv_if_lt (tgt := 72) hx hb d_Mo_put_34 (by decide) (fun h9 => absurd h9 (by decide)) (fun _ => ?_)
  refine lv_aload_n hx hb d_Mo_put_37 rfl (lv_at hl 1 rfl) ?_
  refine va_get (D := (dC, dI)) (ci := 9) (v := .ref (q 3)) (C := RMo) (T := FMo) (N := 45) hx hb hB in_Mo hown hK hP 0 rfl rfl 3 (by decide) (hB _ hw_893) (fun _ h9 => h9) rfl d_Mo_put_38 ?_
  refine lv_aload_n hx hb d_Mo_put_41 rfl (lv_at hl 1 rfl) ?_
  refine va_get (D := (dC, dI)) (ci := 9) (v := .int 1) (C := RMo) (T := FMo) (N := 45) hx hb hB in_Mo hown hK hP 0 rfl rfl 4 (by decide) (hB _ hw_894) (fun _ h9 => h9) rfl d_Mo_put_42 ?_
  refine lv_iload_n hx hb d_Mo_put_45 rfl (lv_at hl 2 rfl) ?_
  refine lv_bipush (v := 8) hx hb d_Mo_put_46 (by decide) ?_
  refine lv_iload_n hx hb d_Mo_put_48 rfl (lv_at hl 0 rfl) ?_
  refine lv_imul hx hb d_Mo_put_49 ?_
  refine lv_topi (fun z7 z7_e => ?_)
  obtain rfl : z7 = 0 := z7_e.trans (by decide)
  refine lv_iushr hx hb d_Mo_put_50 rfl ?_
  refine lv_topi (fun z8 z8_e => ?_)
  refine lv_sipush (v := 255) hx hb d_Mo_put_51 (by decide) ?_
  refine lv_iand hx hb d_Mo_put_54 ?_
  refine lv_topi (fun z9 z9_e => ?_)
  refine va_iast (D := (dC, dI)) hx hb hK hP hD hS 3 2 rfl rfl (by unfold vp_in; decide) d_Mo_put_55 (fun H locs hP hD hS => ?_)
  have hP : va_P (dC, dI) gx_cl [(h0, .inr (9, [.int 0, .ref (q 1), .ref (q 2), .ref (q 3), .int 1, .int 0, .ref (q 6), .ref (q 7), .int 0, .int 0, .int 0, .ref (q 11), .int 0, .int 0, .int (-1), .int 0, .ref (q 16), .int 0, .ref (q 18), .ref (q 19), .ref (q 20), .int 0, .ref (q 22), .int 0, .ref (q 24), .ref (q 25), .ref (q 26), .ref (q 27), .ref (q 28), .int 0, .ref (q 30), .ref (q 31), .ref (q 32), .ref (q 33), .int 0, .int 0, .int 0, .int 0, .int 0, .int 0, .ref (q 40), .int 0, .ref (q 42), .ref (q 43), .ref (q 44)])), ((q 1), .inl ((ci 0), 2816, .inl (fun _ => 0))), ((q 2), .inl ((ci 1), 44, .inl (fun _ => 0))), ((q 3), .inl ((ci 2), 192, .inl (upd (upd (fun _ => 0) (Int32.toNatClampNeg 0) z5) (Int32.toNatClampNeg 1) z9))), ((q 7), .inl ((ci 3), 10, .inl (fun _ => 0)))] H := hP
  have hD : va_D A [(h0, .inr (9, [.int 0, .ref (q 1), .ref (q 2), .ref (q 3), .int 1, .int 0, .ref (q 6), .ref (q 7), .int 0, .int 0, .int 0, .ref (q 11), .int 0, .int 0, .int (-1), .int 0, .ref (q 16), .int 0, .ref (q 18), .ref (q 19), .ref (q 20), .int 0, .ref (q 22), .int 0, .ref (q 24), .ref (q 25), .ref (q 26), .ref (q 27), .ref (q 28), .int 0, .ref (q 30), .ref (q 31), .ref (q 32), .ref (q 33), .int 0, .int 0, .int 0, .int 0, .int 0, .int 0, .ref (q 40), .int 0, .ref (q 42), .ref (q 43), .ref (q 44)])), ((q 1), .inl ((ci 0), 2816, .inl (fun _ => 0))), ((q 2), .inl ((ci 1), 44, .inl (fun _ => 0))), ((q 3), .inl ((ci 2), 192, .inl (upd (upd (fun _ => 0) (Int32.toNatClampNeg 0) z5) (Int32.toNatClampNeg 1) z9))), ((q 7), .inl ((ci 3), 10, .inl (fun _ => 0)))] := hD
  refine lv_aload_n hx hb d_Mo_put_56 rfl (lv_at hl 1 rfl) ?_
  refine lv_dup hx hb d_Mo_put_57 rfl ?_
  refine va_get (D := (dC, dI)) (ci := 9) (v := .int 1) (C := RMo) (T := FMo) (N := 45) hx hb hB in_Mo hown hK hP 0 rfl rfl 4 (by decide) (hB _ hw_894) (fun _ h9 => h9) rfl d_Mo_put_58 ?_
  refine lv_iconst (v := 1) hx hb d_Mo_put_61 (by decide) ?_
  refine lv_iadd hx hb d_Mo_put_62 ?_
  refine lv_topi (fun z10 z10_e => ?_)
  obtain rfl : z10 = 2 := z10_e.trans (by decide)
  refine va_put (D := (dC, dI)) (ci := 9) (v := .int 2) (ty := .int) (C := RMo) (T := FMo) (N := 45) hx hb hB in_Mo tMo tMo_ok nMo hown hK hP hD hS 0 rfl rfl 4 (by decide) (hB _ hw_894) (fun _ h9 => h9) rfl (by decide +kernel) rfl rfl (Nat.le_of_ble_eq_true rfl) d_Mo_put_63 (fun H locs hP hD hS => ?_)
  have hP : va_P (dC, dI) gx_cl [(h0, .inr (9, [.int 0, .ref (q 1), .ref (q 2), .ref (q 3), .int 2, .int 0, .ref (q 6), .ref (q 7), .int 0, .int 0, .int 0, .ref (q 11), .int 0, .int 0, .int (-1), .int 0, .ref (q 16), .int 0, .ref (q 18), .ref (q 19), .ref (q 20), .int 0, .ref (q 22), .int 0, .ref (q 24), .ref (q 25), .ref (q 26), .ref (q 27), .ref (q 28), .int 0, .ref (q 30), .ref (q 31), .ref (q 32), .ref (q 33), .int 0, .int 0, .int 0, .int 0, .int 0, .int 0, .ref (q 40), .int 0, .ref (q 42), .ref (q 43), .ref (q 44)])), ((q 1), .inl ((ci 0), 2816, .inl (fun _ => 0))), ((q 2), .inl ((ci 1), 44, .inl (fun _ => 0))), ((q 3), .inl ((ci 2), 192, .inl (upd (upd (fun _ => 0) (Int32.toNatClampNeg 0) z5) (Int32.toNatClampNeg 1) z9))), ((q 7), .inl ((ci 3), 10, .inl (fun _ => 0)))] H := hP
  have hD : va_D A [(h0, .inr (9, [.int 0, .ref (q 1), .ref (q 2), .ref (q 3), .int 2, .int 0, .ref (q 6), .ref (q 7), .int 0, .int 0, .int 0, .ref (q 11), .int 0, .int 0, .int (-1), .int 0, .ref (q 16), .int 0, .ref (q 18), .ref (q 19), .ref (q 20), .int 0, .ref (q 22), .int 0, .ref (q 24), .ref (q 25), .ref (q 26), .ref (q 27), .ref (q 28), .int 0, .ref (q 30), .ref (q 31), .ref (q 32), .ref (q 33), .int 0, .int 0, .int 0, .int 0, .int 0, .int 0, .ref (q 40), .int 0, .ref (q 42), .ref (q 43), .ref (q 44)])), ((q 1), .inl ((ci 0), 2816, .inl (fun _ => 0))), ((q 2), .inl ((ci 1), 44, .inl (fun _ => 0))), ((q 3), .inl ((ci 2), 192, .inl (upd (upd (fun _ => 0) (Int32.toNatClampNeg 0) z5) (Int32.toNatClampNeg 1) z9))), ((q 7), .inl ((ci 3), 10, .inl (fun _ => 0)))] := hD
  refine lv_iinc (k := 0) (v := (-1)) hx hb d_Mo_put_66 hl rfl (by decide) (by decide) rfl (fun ls hl => ?_)
  have hl : lv_has ls 4 [(3, .int (-1)), (0, .ref h0), (1, .int p0), (2, .int 2)] := hl
  refine lv_goto (tgt := 33) hx hb d_Mo_put_69 (by decide) ?_
  refine lv_iload_n hx hb d_Mo_put_33 rfl (lv_at hl 0 rfl) ?_
  refine lv_if_lt (tgt := 72) hx hb d_Mo_put_34 (by decide) (fun _ => ?_) (fun h9 => absurd (by decide) h9)
  refine lv_iconst (v := 1) hx hb d_Mo_put_72 (by decide) ?_
  have hP9 := hP.sub (ws' := [(h0, .inr (9, [.int 0, .ref (q 1), .ref (q 2), .ref (q 3), .int 2, .int 0, .ref (q 6), .ref (q 7), .int 0, .int 0, .int 0, .ref (q 11), .int 0, .int 0, .int (-1), .int 0, .ref (q 16), .int 0, .ref (q 18), .ref (q 19), .ref (q 20), .int 0, .ref (q 22), .int 0, .ref (q 24), .ref (q 25), .ref (q 26), .ref (q 27), .ref (q 28), .int 0, .ref (q 30), .ref (q 31), .ref (q 32), .ref (q 33), .int 0, .int 0, .int 0, .int 0, .int 0, .int 0, .ref (q 40), .int 0, .ref (q 42), .ref (q 43), .ref (q 44)]))]) [0] rfl
  have hD9 := hD.sub (ws' := [(h0, .inr (9, [.int 0, .ref (q 1), .ref (q 2), .ref (q 3), .int 2, .int 0, .ref (q 6), .ref (q 7), .int 0, .int 0, .int 0, .ref (q 11), .int 0, .int 0, .int (-1), .int 0, .ref (q 16), .int 0, .ref (q 18), .ref (q 19), .ref (q 20), .int 0, .ref (q 22), .int 0, .ref (q 24), .ref (q 25), .ref (q 26), .ref (q 27), .ref (q 28), .int 0, .ref (q 30), .ref (q 31), .ref (q 32), .ref (q 33), .int 0, .int 0, .int 0, .int 0, .int 0, .int 0, .ref (q 40), .int 0, .ref (q 42), .ref (q 43), .ref (q 44)]))]) [0] (by decide) rfl
  refine W.widen (k := 0) (n := 0) (Nat.le_of_ble_eq_true rfl) (Nat.le_of_ble_eq_true rfl) ?_
  exact W.zret (v := 1) hx hb hr rfl (fun t ht hW => ⟨⟨1, (), rfl, rfl, [.ref (q 1), .ref (q 2), .ref (q 3), .int 2, .int 0, .ref (q 6), .ref (q 7), .int 0, .int 0, .int 0, .ref (q 11), .int 0, .int 0, .int (-1), .int 0, .ref (q 16), .int 0, .ref (q 18), .ref (q 19), .ref (q 20), .int 0, .ref (q 22), .int 0, .ref (q 24), .ref (q 25), .ref (q 26), .ref (q 27), .ref (q 28), .int 0, .ref (q 30), .ref (q 31), .ref (q 32), .ref (q 33), .int 0, .int 0, .int 0, .int 0, .int 0, .int 0, .ref (q 40), .int 0, .ref (q 42), .ref (q 43), .ref (q 44)], by rw [ht]; exact hP9, hD9⟩, hS.F ht⟩) hS.2.2 d_Mo_put_73
set_option maxHeartbeats 4000000 in
set_option maxRecDepth 100000 in
theorem m_Mo_put3 (l : Launch) (dC : Nat → ClassId) (dI : Nat → Nat → Nat) (sz : Nat) (h0 : Nat) (q : Nat → Nat) (ci : Nat → ClassId) (p0 : Int32) : Met l y_Mo_put w_Mo_put ({ frames := 0, cells := 0, slots := 0, locals := 0 }) (va_Pc [.ref h0, .int p0, .int 3] (fun U => U.heap.size = sz ∧ va_P (dC, dI) gx_cl (wMo h0 q ci) U.heap ∧ va_K (dC, dI) gx_cl (kMo ci) U ∧ va_D (fun _ => True) (wMo h0 q ci))) (va_Qi (fun (r : Int32) (_ : Unit) => r = 1) (fun _ t => ∃ fs : List Value, va_P (dC, dI) gx_cl [(h0, .inr (9, .int 0 :: fs))] t.heap ∧ va_D (va_A (wMo h0 q ci) sz) [(h0, .inr (9, .int 0 :: fs))]) (va_A (wMo h0 q ci) sz)) 0 0 (va_A (wMo h0 q ci) sz) := by
  refine Met.ofW (cc := b_Mo_put) (maxL := 4) (ret := (some .boolean)) (by decide) rfl ?_
  intro p e s m args below meth c s₁ B hml hv
  obtain ⟨rfl, hsz, hP, hK, hD0⟩ := hv
  have hx := B.exec
  have hb := B.bytes
  have hr := B.returns
  have hts := atoms_spec (ws := w_Mo_put) B.pre
  have hB : ∀ w ∈ gx_B, w.before _ s = true := fun w h => hts w (List.mem_cons_of_mem _ h)
  have hown : s.vm.findClass "TapeSealerModel" = some m.cls := findClass_of_methodNamed B.named
  have hlocks := B.notSynchronized
  subst hsz
  have hD := hD0.self (sz := s.heap.size)
  generalize hAe : va_A (wMo h0 q ci) s.heap.size = A at hD ⊢
  have hA : ∀ q : Nat, s.heap.size ≤ q → A q := fun q h => by rw [← hAe]; exact Or.inr h
  have hS : va_S A s.heap s.heap [] := va_S.rf
  have hl := lv_entry ([.ref h0, .int p0, .int 3]) (n := 4) (Nat.le_of_ble_eq_true rfl)
  rw [lg_entry_eq]
  generalize (lg_sl ([.ref h0, .int p0, .int 3]) ++ List.replicate (4 - (lg_sl ([.ref h0, .int p0, .int 3])).length) Slot.unset).toArray = ls at hl ⊢
  have hl : lv_has ls 4 [(0, .ref h0), (1, .int p0), (2, .int 3)] := hl
  refine lv_aload_n hx hb d_Mo_put_0 rfl (lv_at hl 0 rfl) ?_
  refine lv_iconst (v := 0) hx hb d_Mo_put_1 (by decide) ?_
  refine va_put (D := (dC, dI)) (ci := 9) (v := .int 0) (ty := .int) (C := RMo) (T := FMo) (N := 45) hx hb hB in_Mo tMo tMo_ok nMo hown hK hP hD hS 0 rfl rfl 0 (by decide) (hB _ hw_890) (fun _ h9 => h9) rfl (by decide +kernel) rfl rfl (Nat.le_of_ble_eq_true rfl) d_Mo_put_2 (fun H locs hP hD hS => ?_)
  have hP : va_P (dC, dI) gx_cl (wMo h0 q ci) H := hP
  have hD : va_D A (wMo h0 q ci) := hD
  refine lv_iload_n hx hb d_Mo_put_5 rfl (lv_at hl 2 rfl) ?_
  refine lv_iconst (v := 1) hx hb d_Mo_put_6 (by decide) ?_
  refine lv_icmp_lt (tgt := 27) hx hb d_Mo_put_7 (by decide) (fun h9 => absurd h9 (by decide)) (fun _ => ?_)
  refine lv_iload_n hx hb d_Mo_put_10 rfl (lv_at hl 2 rfl) ?_
  refine lv_iconst (v := 4) hx hb d_Mo_put_11 (by decide) ?_
  refine lv_icmp_gt (tgt := 27) hx hb d_Mo_put_12 (by decide) (fun h9 => absurd h9 (by decide)) (fun _ => ?_)
  refine lv_aload_n hx hb d_Mo_put_15 rfl (lv_at hl 0 rfl) ?_
  refine va_get (D := (dC, dI)) (ci := 9) (v := .int 0) (C := RMo) (T := FMo) (N := 45) hx hb hB in_Mo hown hK hP 0 rfl rfl 4 (by decide) (hB _ hw_894) (fun _ h9 => h9) rfl d_Mo_put_16 ?_
  refine lv_iload_n hx hb d_Mo_put_19 rfl (lv_at hl 2 rfl) ?_
  refine lv_iadd hx hb d_Mo_put_20 ?_
  refine lv_topi (fun z1 z1_e => ?_)
  obtain rfl : z1 = 3 := z1_e.trans (by decide)
  refine lv_sipush (v := 192) hx hb d_Mo_put_21 (by decide) ?_
  refine lv_icmp_le (tgt := 29) hx hb d_Mo_put_24 (by decide) (fun _ => ?_) (fun h9 => absurd (by decide) h9)
  refine lv_iload_n hx hb d_Mo_put_29 rfl (lv_at hl 2 rfl) ?_
  refine lv_iconst (v := 1) hx hb d_Mo_put_30 (by decide) ?_
  refine lv_isub hx hb d_Mo_put_31 ?_
  refine lv_topi (fun z2 z2_e => ?_)
  obtain rfl : z2 = 2 := z2_e.trans (by decide)
  refine lv_istore_n hx hb d_Mo_put_32 rfl hl (by decide) rfl (fun ls hl => ?_)
  have hl : lv_has ls 4 [(3, .int 2), (0, .ref h0), (1, .int p0), (2, .int 3)] := hl
  refine lv_iload_n hx hb d_Mo_put_33 rfl (lv_at hl 0 rfl) ?_
  refine lv_if_lt (tgt := 72) hx hb d_Mo_put_34 (by decide) (fun h9 => absurd h9 (by decide)) (fun _ => ?_)
  refine lv_aload_n hx hb d_Mo_put_37 rfl (lv_at hl 1 rfl) ?_
  refine va_get (D := (dC, dI)) (ci := 9) (v := .ref (q 3)) (C := RMo) (T := FMo) (N := 45) hx hb hB in_Mo hown hK hP 0 rfl rfl 3 (by decide) (hB _ hw_893) (fun _ h9 => h9) rfl d_Mo_put_38 ?_
  refine lv_aload_n hx hb d_Mo_put_41 rfl (lv_at hl 1 rfl) ?_
  refine va_get (D := (dC, dI)) (ci := 9) (v := .int 0) (C := RMo) (T := FMo) (N := 45) hx hb hB in_Mo hown hK hP 0 rfl rfl 4 (by decide) (hB _ hw_894) (fun _ h9 => h9) rfl d_Mo_put_42 ?_
  refine lv_iload_n hx hb d_Mo_put_45 rfl (lv_at hl 2 rfl) ?_
  refine lv_bipush (v := 8) hx hb d_Mo_put_46 (by decide) ?_
  refine lv_iload_n hx hb d_Mo_put_48 rfl (lv_at hl 0 rfl) ?_
  refine lv_imul hx hb d_Mo_put_49 ?_
  refine lv_topi (fun z3 z3_e => ?_)
  obtain rfl : z3 = 16 := z3_e.trans (by decide)
  refine lv_iushr hx hb d_Mo_put_50 rfl ?_
  refine lv_topi (fun z4 z4_e => ?_)
  refine lv_sipush (v := 255) hx hb d_Mo_put_51 (by decide) ?_
  refine lv_iand hx hb d_Mo_put_54 ?_
  refine lv_topi (fun z5 z5_e => ?_)
  refine va_iast (D := (dC, dI)) hx hb hK hP hD hS 3 2 rfl rfl (by unfold vp_in; decide) d_Mo_put_55 (fun H locs hP hD hS => ?_)
  have hP : va_P (dC, dI) gx_cl [(h0, .inr (9, [.int 0, .ref (q 1), .ref (q 2), .ref (q 3), .int 0, .int 0, .ref (q 6), .ref (q 7), .int 0, .int 0, .int 0, .ref (q 11), .int 0, .int 0, .int (-1), .int 0, .ref (q 16), .int 0, .ref (q 18), .ref (q 19), .ref (q 20), .int 0, .ref (q 22), .int 0, .ref (q 24), .ref (q 25), .ref (q 26), .ref (q 27), .ref (q 28), .int 0, .ref (q 30), .ref (q 31), .ref (q 32), .ref (q 33), .int 0, .int 0, .int 0, .int 0, .int 0, .int 0, .ref (q 40), .int 0, .ref (q 42), .ref (q 43), .ref (q 44)])), ((q 1), .inl ((ci 0), 2816, .inl (fun _ => 0))), ((q 2), .inl ((ci 1), 44, .inl (fun _ => 0))), ((q 3), .inl ((ci 2), 192, .inl (upd (fun _ => 0) (Int32.toNatClampNeg 0) z5))), ((q 7), .inl ((ci 3), 10, .inl (fun _ => 0)))] H := hP
  have hD : va_D A [(h0, .inr (9, [.int 0, .ref (q 1), .ref (q 2), .ref (q 3), .int 0, .int 0, .ref (q 6), .ref (q 7), .int 0, .int 0, .int 0, .ref (q 11), .int 0, .int 0, .int (-1), .int 0, .ref (q 16), .int 0, .ref (q 18), .ref (q 19), .ref (q 20), .int 0, .ref (q 22), .int 0, .ref (q 24), .ref (q 25), .ref (q 26), .ref (q 27), .ref (q 28), .int 0, .ref (q 30), .ref (q 31), .ref (q 32), .ref (q 33), .int 0, .int 0, .int 0, .int 0, .int 0, .int 0, .ref (q 40), .int 0, .ref (q 42), .ref (q 43), .ref (q 44)])), ((q 1), .inl ((ci 0), 2816, .inl (fun _ => 0))), ((q 2), .inl ((ci 1), 44, .inl (fun _ => 0))), ((q 3), .inl ((ci 2), 192, .inl (upd (fun _ => 0) (Int32.toNatClampNeg 0) z5))), ((q 7), .inl ((ci 3), 10, .inl (fun _ => 0)))] := hD
  refine lv_aload_n hx hb d_Mo_put_56 rfl (lv_at hl 1 rfl) ?_
  refine lv_dup hx hb d_Mo_put_57 rfl ?_
  refine va_get (D := (dC, dI)) (ci := 9) (v := .int 0) (C := RMo) (T := FMo) (N := 45) hx hb hB in_Mo hown hK hP 0 rfl rfl 4 (by decide) (hB _ hw_894) (fun _ h9 => h9) rfl d_Mo_put_58 ?_
  refine lv_iconst (v := 1) hx hb d_Mo_put_61 (by decide) ?_
  refine lv_iadd hx hb d_Mo_put_62 ?_
  refine lv_topi (fun z6 z6_e => ?_)
  obtain rfl : z6 = 1 := z6_e.trans (by decide)
  refine va_put (D := (dC, dI)) (ci := 9) (v := .int 1) (ty := .int) (C := RMo) (T := FMo) (N := 45) hx hb hB in_Mo tMo tMo_ok nMo hown hK hP hD hS 0 rfl rfl 4 (by decide) (hB _ hw_894) (fun _ h9 => h9) rfl (by decide +kernel) rfl rfl (Nat.le_of_ble_eq_true rfl) d_Mo_put_63 (fun H locs hP hD hS => ?_)
  have hP : va_P (dC, dI) gx_cl [(h0, .inr (9, [.int 0, .ref (q 1), .ref (q 2), .ref (q 3), .int 1, .int 0, .ref (q 6), .ref (q 7), .int 0, .int 0, .int 0, .ref (q 11), .int 0, .int 0, .int (-1), .int 0, .ref (q 16), .int 0, .ref (q 18), .ref (q 19), .ref (q 20), .int 0, .ref (q 22), .int 0, .ref (q 24), .ref (q 25), .ref (q 26), .ref (q 27), .ref (q 28), .int 0, .ref (q 30), .ref (q 31), .ref (q 32), .ref (q 33), .int 0, .int 0, .int 0, .int 0, .int 0, .int 0, .ref (q 40), .int 0, .ref (q 42), .ref (q 43), .ref (q 44)])), ((q 1), .inl ((ci 0), 2816, .inl (fun _ => 0))), ((q 2), .inl ((ci 1), 44, .inl (fun _ => 0))), ((q 3), .inl ((ci 2), 192, .inl (upd (fun _ => 0) (Int32.toNatClampNeg 0) z5))), ((q 7), .inl ((ci 3), 10, .inl (fun _ => 0)))] H := hP
  have hD : va_D A [(h0, .inr (9, [.int 0, .ref (q 1), .ref (q 2), .ref (q 3), .int 1, .int 0, .ref (q 6), .ref (q 7), .int 0, .int 0, .int 0, .ref (q 11), .int 0, .int 0, .int (-1), .int 0, .ref (q 16), .int 0, .ref (q 18), .ref (q 19), .ref (q 20), .int 0, .ref (q 22), .int 0, .ref (q 24), .ref (q 25), .ref (q 26), .ref (q 27), .ref (q 28), .int 0, .ref (q 30), .ref (q 31), .ref (q 32), .ref (q 33), .int 0, .int 0, .int 0, .int 0, .int 0, .int 0, .ref (q 40), .int 0, .ref (q 42), .ref (q 43), .ref (q 44)])), ((q 1), .inl ((ci 0), 2816, .inl (fun _ => 0))), ((q 2), .inl ((ci 1), 44, .inl (fun _ => 0))), ((q 3), .inl ((ci 2), 192, .inl (upd (fun _ => 0) (Int32.toNatClampNeg 0) z5))), ((q 7), .inl ((ci 3), 10, .inl (fun _ => 0)))] := hD
  refine lv_iinc (k := 0) (v := 1) hx hb d_Mo_put_66 hl rfl (by decide) (by decide) rfl (fun ls hl => ?_)
  have hl : lv_has ls 4 [(3, .int 1), (0, .ref h0), (1, .int p0), (2, .int 3)] := hl
  refine lv_goto (tgt := 33) hx hb d_Mo_put_69 (by decide) ?_
  refine lv_iload_n hx hb d_Mo_put_33 rfl (lv_at hl 0 rfl) ?_
  refine lv_if_lt (tgt := 72) hx hb d_Mo_put_34 (by decide) (fun h9 => absurd h9 (by decide)) (fun _ => ?_)
  refine lv_aload_n hx hb d_Mo_put_37 rfl (lv_at hl 1 rfl) ?_
  refine va_get (D := (dC, dI)) (ci := 9) (v := .ref (q 3)) (C := RMo) (T := FMo) (N := 45) hx hb hB in_Mo hown hK hP 0 rfl rfl 3 (by decide) (hB _ hw_893) (fun _ h9 => h9) rfl d_Mo_put_38 ?_
  refine lv_aload_n hx hb d_Mo_put_41 rfl (lv_at hl 1 rfl) ?_
  refine va_get (D := (dC, dI)) (ci := 9) (v := .int 1) (C := RMo) (T := FMo) (N := 45) hx hb hB in_Mo hown hK hP 0 rfl rfl 4 (by decide) (hB _ hw_894) (fun _ h9 => h9) rfl d_Mo_put_42 ?_
  refine lv_iload_n hx hb d_Mo_put_45 rfl (lv_at hl 2 rfl) ?_
  refine lv_bipush (v := 8) hx hb d_Mo_put_46 (by decide) ?_
  refine lv_iload_n hx hb d_Mo_put_48 rfl (lv_at hl 0 rfl) ?_
  refine lv_imul hx hb d_Mo_put_49 ?_
  refine lv_topi (fun z7 z7_e => ?_)
  obtain rfl : z7 = 8 := z7_e.trans (by decide)
  refine lv_iushr hx hb d_Mo_put_50 rfl ?_
  refine lv_topi (fun z8 z8_e => ?_)
  refine lv_sipush (v := 255) hx hb d_Mo_put_51 (by decide) ?_
  refine lv_iand hx hb d_Mo_put_54 ?_
  refine lv_topi (fun z9 z9_e => ?_)
  refine va_iast (D := (dC, dI)) hx hb hK hP hD hS 3 2 rfl rfl (by unfold vp_in; decide) d_Mo_put_55 (fun H locs hP hD hS => ?_)
  have hP : va_P (dC, dI) gx_cl [(h0, .inr (9, [.int 0, .ref (q 1), .ref (q 2), .ref (q 3), .int 1, .int 0, .ref (q 6), .ref (q 7), .int 0, .int 0, .int 0, .ref (q 11), .int 0, .int 0, .int (-1), .int 0, .ref (q 16), .int 0, .ref (q 18), .ref (q 19), .ref (q 20), .int 0, .ref (q 22), .int 0, .ref (q 24), .ref (q 25), .ref (q 26), .ref (q 27), .ref (q 28), .int 0, .ref (q 30), .ref (q 31), .ref (q 32), .ref (q 33), .int 0, .int 0, .int 0, .int 0, .int 0, .int 0, .ref (q 40), .int 0, .ref (q 42), .ref (q 43), .ref (q 44)])), ((q 1), .inl ((ci 0), 2816, .inl (fun _ => 0))), ((q 2), .inl ((ci 1), 44, .inl (fun _ => 0))), ((q 3), .inl ((ci 2), 192, .inl (upd (upd (fun _ => 0) (Int32.toNatClampNeg 0) z5) (Int32.toNatClampNeg 1) z9))), ((q 7), .inl ((ci 3), 10, .inl (fun _ => 0)))] H := hP
  have hD : va_D A [(h0, .inr (9, [.int 0, .ref (q 1), .ref (q 2), .ref (q 3), .int 1, .int 0, .ref (q 6), .ref (q 7), .int 0, .int 0, .int 0, .ref (q 11), .int 0, .int 0, .int (-1), .int 0, .ref (q 16), .int 0, .ref (q 18), .ref (q 19), .ref (q 20), .int 0, .ref (q 22), .int 0, .ref (q 24), .ref (q 25), .ref (q 26), .ref (q 27), .ref (q 28), .int 0, .ref (q 30), .ref (q 31), .ref (q 32), .ref (q 33), .int 0, .int 0, .int 0, .int 0, .int 0, .int 0, .ref (q 40), .int 0, .ref (q 42), .ref (q 43), .ref (q 44)])), ((q 1), .inl ((ci 0), 2816, .inl (fun _ => 0))), ((q 2), .inl ((ci 1), 44, .inl (fun _ => 0))), ((q 3), .inl ((ci 2), 192, .inl (upd (upd (fun _ => 0) (Int32.toNatClampNeg 0) z5) (Int32.toNatClampNeg 1) z9))), ((q 7), .inl ((ci 3), 10, .inl (fun _ => 0)))] := hD
  refine lv_aload_n hx hb d_Mo_put_56 rfl (lv_at hl 1 rfl) ?_
  refine lv_dup hx hb d_Mo_put_57 rfl ?_
  refine va_get (D := (dC, dI)) (ci := 9) (v := .int 1) (C := RMo) (T := FMo) (N := 45) hx hb hB in_Mo hown hK hP 0 rfl rfl 4 (by decide) (hB _ hw_894) (fun _ h9 => h9) rfl d_Mo_put_58 ?_
  refine lv_iconst (v := 1) hx hb d_Mo_put_61 (by decide) ?_
  refine lv_iadd hx hb d_Mo_put_62 ?_
  refine lv_topi (fun z10 z10_e => ?_)
  obtain rfl : z10 = 2 := z10_e.trans (by decide)
  refine va_put (D := (dC, dI)) (ci := 9) (v := .int 2) (ty := .int) (C := RMo) (T := FMo) (N := 45) hx hb hB in_Mo tMo tMo_ok nMo hown hK hP hD hS 0 rfl rfl 4 (by decide) (hB _ hw_894) (fun _ h9 => h9) rfl (by decide +kernel) rfl rfl (Nat.le_of_ble_eq_true rfl) d_Mo_put_63 (fun H locs hP hD hS => ?_)
  have hP : va_P (dC, dI) gx_cl [(h0, .inr (9, [.int 0, .ref (q 1), .ref (q 2), .ref (q 3), .int 2, .int 0, .ref (q 6), .ref (q 7), .int 0, .int 0, .int 0, .ref (q 11), .int 0, .int 0, .int (-1), .int 0, .ref (q 16), .int 0, .ref (q 18), .ref (q 19), .ref (q 20), .int 0, .ref (q 22), .int 0, .ref (q 24), .ref (q 25), .ref (q 26), .ref (q 27), .ref (q 28), .int 0, .ref (q 30), .ref (q 31), .ref (q 32), .ref (q 33), .int 0, .int 0, .int 0, .int 0, .int 0, .int 0, .ref (q 40), .int 0, .ref (q 42), .ref (q 43), .ref (q 44)])), ((q 1), .inl ((ci 0), 2816, .inl (fun _ => 0))), ((q 2), .inl ((ci 1), 44, .inl (fun _ => 0))), ((q 3), .inl ((ci 2), 192, .inl (upd (upd (fun _ => 0) (Int32.toNatClampNeg 0) z5) (Int32.toNatClampNeg 1) z9))), ((q 7), .inl ((ci 3), 10, .inl (fun _ => 0)))] H := hP
  have hD : va_D A [(h0, .inr (9, [.int 0, .ref (q 1), .ref (q 2), .ref (q 3), .int 2, .int 0, .ref (q 6), .ref (q 7), .int 0, .int 0, .int 0, .ref (q 11), .int 0, .int 0, .int (-1), .int 0, .ref (q 16), .int 0, .ref (q 18), .ref (q 19), .ref (q 20), .int 0, .ref (q 22), .int 0, .ref (q 24), .ref (q 25), .ref (q 26), .ref (q 27), .ref (q 28), .int 0, .ref (q 30), .ref (q 31), .ref (q 32), .ref (q 33), .int 0, .int 0, .int 0, .int 0, .int 0, .int 0, .ref (q 40), .int 0, .ref (q 42), .ref (q 43), .ref (q 44)])), ((q 1), .inl ((ci 0), 2816, .inl (fun _ => 0))), ((q 2), .inl ((ci 1), 44, .inl (fun _ => 0))), ((q 3), .inl ((ci 2), 192, .inl (upd (upd (fun _ => 0) (Int32.toNatClampNeg 0) z5) (Int32.toNatClampNeg 1) z9))), ((q 7), .inl ((ci 3), 10, .inl (fun _ => 0)))] := hD
  refine lv_iinc (k := 0) (v := 0) hx hb d_Mo_put_66 hl rfl (by decide) (by decide) rfl (fun ls hl => ?_)
  have hl : lv_has ls 4 [(3, .int 0), (0, .ref h0), (1, .int p0), (2, .int 3)] := hl
  refine lv_goto (tgt := 33) hx hb d_Mo_put_69 (by decide) ?_
  refine lv_iload_n hx hb d_Mo_put_33 rfl (lv_at hl 0 rfl) ?_
  refine lv_if_lt (tgt := 72) hx hb d_Mo_put_34 (by decide) (fun h9 => absurd h9 (by decide)) (fun _ => ?_)
  refine lv_aload_n hx hb d_Mo_put_37 rfl (lv_at hl 1 rfl) ?_
  refine va_get (D := (dC, dI)) (ci := 9) (v := .ref (q 3)) (C := RMo) (T := FMo) (N := 45) hx hb hB in_Mo hown hK hP 0 rfl rfl 3 (by decide) (hB _ hw_893) (fun _ h9 => h9) rfl d_Mo_put_38 ?_
  refine lv_aload_n hx hb d_Mo_put_41 rfl (lv_at hl 1 rfl) ?_
  refine va_get (D := (dC, dI)) (ci := 9) (v := .int 2) (C := RMo) (T := FMo) (N := 45) hx hb hB in_Mo hown hK hP 0 rfl rfl 4 (by decide) (hB _ hw_894) (fun _ h9 => h9) rfl d_Mo_put_42 ?_
  refine lv_iload_n hx hb d_Mo_put_45 rfl (lv_at hl 2 rfl) ?_
  refine lv_bipush (v := 8) hx hb d_Mo_put_46 (by decide) ?_
  refine lv_iload_n hx hb d_Mo_put_48 rfl (lv_at hl 0 rfl) ?_
  refine lv_imul hx hb d_Mo_put_49 ?_
  refine lv_topi (fun z11 z11_e => ?_)
  obtain rfl : z11 = 0 := z11_e.trans (by decide)
  refine lv_iushr hx hb d_Mo_put_50 rfl ?_
  refine lv_topi (fun z12 z12_e => ?_)
  refine lv_sipush (v := 255) hx hb d_Mo_put_51 (by decide) ?_
  refine lv_iand hx hb d_Mo_put_54 ?_
  refine lv_topi (fun z13 z13_e => ?_)
  refine va_iast (D := (dC, dI)) hx hb hK hP hD hS 3 2 rfl rfl (by unfold vp_in; decide) d_Mo_put_55 (fun H locs hP hD hS => ?_)
  have hP : va_P (dC, dI) gx_cl [(h0, .inr (9, [.int 0, .ref (q 1), .ref (q 2), .ref (q 3), .int 2, .int 0, .ref (q 6), .ref (q 7), .int 0, .int 0, .int 0, .ref (q 11), .int 0, .int 0, .int (-1), .int 0, .ref (q 16), .int 0, .ref (q 18), .ref (q 19), .ref (q 20), .int 0, .ref (q 22), .int 0, .ref (q 24), .ref (q 25), .ref (q 26), .ref (q 27), .ref (q 28), .int 0, .ref (q 30), .ref (q 31), .ref (q 32), .ref (q 33), .int 0, .int 0, .int 0, .int 0, .int 0, .int 0, .ref (q 40), .int 0, .ref (q 42), .ref (q 43), .ref (q 44)])), ((q 1), .inl ((ci 0), 2816, .inl (fun _ => 0))), ((q 2), .inl ((ci 1), 44, .inl (fun _ => 0))), ((q 3), .inl ((ci 2), 192, .inl (upd (upd (upd (fun _ => 0) (Int32.toNatClampNeg 0) z5) (Int32.toNatClampNeg 1) z9) (Int32.toNatClampNeg 2) z13))), ((q 7), .inl ((ci 3), 10, .inl (fun _ => 0)))] H := hP
  have hD : va_D A [(h0, .inr (9, [.int 0, .ref (q 1), .ref (q 2), .ref (q 3), .int 2, .int 0, .ref (q 6), .ref (q 7), .int 0, .int 0, .int 0, .ref (q 11), .int 0, .int 0, .int (-1), .int 0, .ref (q 16), .int 0, .ref (q 18), .ref (q 19), .ref (q 20), .int 0, .ref (q 22), .int 0, .ref (q 24), .ref (q 25), .ref (q 26), .ref (q 27), .ref (q 28), .int 0, .ref (q 30), .ref (q 31), .ref (q 32), .ref (q 33), .int 0, .int 0, .int 0, .int 0, .int 0, .int 0, .ref (q 40), .int 0, .ref (q 42), .ref (q 43), .ref (q 44)])), ((q 1), .inl ((ci 0), 2816, .inl (fun _ => 0))), ((q 2), .inl ((ci 1), 44, .inl (fun _ => 0))), ((q 3), .inl ((ci 2), 192, .inl (upd (upd (upd (fun _ => 0) (Int32.toNatClampNeg 0) z5) (Int32.toNatClampNeg 1) z9) (Int32.toNatClampNeg 2) z13))), ((q 7), .inl ((ci 3), 10, .inl (fun _ => 0)))] := hD
  refine lv_aload_n hx hb d_Mo_put_56 rfl (lv_at hl 1 rfl) ?_
  refine lv_dup hx hb d_Mo_put_57 rfl ?_
  refine va_get (D := (dC, dI)) (ci := 9) (v := .int 2) (C := RMo) (T := FMo) (N := 45) hx hb hB in_Mo hown hK hP 0 rfl rfl 4 (by decide) (hB _ hw_894) (fun _ h9 => h9) rfl d_Mo_put_58 ?_
  refine lv_iconst (v := 1) hx hb d_Mo_put_61 (by decide) ?_
  refine lv_iadd hx hb d_Mo_put_62 ?_
  refine lv_topi (fun z14 z14_e => ?_)
  obtain rfl : z14 = 3 := z14_e.trans (by decide)
  refine va_put (D := (dC, dI)) (ci := 9) (v := .int 3) (ty := .int) (C := RMo) (T := FMo) (N := 45) hx hb hB in_Mo tMo tMo_ok nMo hown hK hP hD hS 0 rfl rfl 4 (by decide) (hB _ hw_894) (fun _ h9 => h9) rfl (by decide +kernel) rfl rfl (Nat.le_of_ble_eq_true rfl) d_Mo_put_63 (fun H locs hP hD hS => ?_)
  have hP : va_P (dC, dI) gx_cl [(h0, .inr (9, [.int 0, .ref (q 1), .ref (q 2), .ref (q 3), .int 3, .int 0, .ref (q 6), .ref (q 7), .int 0, .int 0, .int 0, .ref (q 11), .int 0, .int 0, .int (-1), .int 0, .ref (q 16), .int 0, .ref (q 18), .ref (q 19), .ref (q 20), .int 0, .ref (q 22), .int 0, .ref (q 24), .ref (q 25), .ref (q 26), .ref (q 27), .ref (q 28), .int 0, .ref (q 30), .ref (q 31), .ref (q 32), .ref (q 33), .int 0, .int 0, .int 0, .int 0, .int 0, .int 0, .ref (q 40), .int 0, .ref (q 42), .ref (q 43), .ref (q 44)])), ((q 1), .inl ((ci 0), 2816, .inl (fun _ => 0))), ((q 2), .inl ((ci 1), 44, .inl (fun _ => 0))), ((q 3), .inl ((ci 2), 192, .inl (upd (upd (upd (fun _ => 0) (Int32.toNatClampNeg 0) z5) (Int32.toNatClampNeg 1) z9) (Int32.toNatClampNeg 2) z13))), ((q 7), .inl ((ci 3), 10, .inl (fun _ => 0)))] H := hP
  have hD : va_D A [(h0, .inr (9, [.int 0, .ref (q 1), .ref (q 2), .ref (q 3), .int 3, .int 0, .ref (q 6), .ref (q 7), .int 0, .int 0, .int 0, .ref (q 11), .int 0, .int 0, .int (-1), .int 0, .ref (q 16), .int 0, .ref (q 18), .ref (q 19), .ref (q 20), .int 0, .ref (q 22), .int 0, .ref (q 24), .ref (q 25), .ref (q 26), .ref (q 27), .ref (q 28), .int 0, .ref (q 30), .ref (q 31), .ref (q 32), .ref (q 33), .int 0, .int 0, .int 0, .int 0, .int 0, .int 0, .ref (q 40), .int 0, .ref (q 42), .ref (q 43), .ref (q 44)])), ((q 1), .inl ((ci 0), 2816, .inl (fun _ => 0))), ((q 2), .inl ((ci 1), 44, .inl (fun _ => 0))), ((q 3), .inl ((ci 2), 192, .inl (upd (upd (upd (fun _ => 0) (Int32.toNatClampNeg 0) z5) (Int32.toNatClampNeg 1) z9) (Int32.toNatClampNeg 2) z13))), ((q 7), .inl ((ci 3), 10, .inl (fun _ => 0)))] := hD
  refine lv_iinc (k := 0) (v := (-1)) hx hb d_Mo_put_66 hl rfl (by decide) (by decide) rfl (fun ls hl => ?_)
  have hl : lv_has ls 4 [(3, .int (-1)), (0, .ref h0), (1, .int p0), (2, .int 3)] := hl
  refine lv_goto (tgt := 33) hx hb d_Mo_put_69 (by decide) ?_
  refine lv_iload_n hx hb d_Mo_put_33 rfl (lv_at hl 0 rfl) ?_
  refine lv_if_lt (tgt := 72) hx hb d_Mo_put_34 (by decide) (fun _ => ?_) (fun h9 => absurd (by decide) h9)
  refine lv_iconst (v := 1) hx hb d_Mo_put_72 (by decide) ?_
  have hP9 := hP.sub (ws' := [(h0, .inr (9, [.int 0, .ref (q 1), .ref (q 2), .ref (q 3), .int 3, .int 0, .ref (q 6), .ref (q 7), .int 0, .int 0, .int 0, .ref (q 11), .int 0, .int 0, .int (-1), .int 0, .ref (q 16), .int 0, .ref (q 18), .ref (q 19), .ref (q 20), .int 0, .ref (q 22), .int 0, .ref (q 24), .ref (q 25), .ref (q 26), .ref (q 27), .ref (q 28), .int 0, .ref (q 30), .ref (q 31), .ref (q 32), .ref (q 33), .int 0, .int 0, .int 0, .int 0, .int 0, .int 0, .ref (q 40), .int 0, .ref (q 42), .ref (q 43), .ref (q 44)]))]) [0] rfl
  have hD9 := hD.sub (ws' := [(h0, .inr (9, [.int 0, .ref (q 1), .ref (q 2), .ref (q 3), .int 3, .int 0, .ref (q 6), .ref (q 7), .int 0, .int 0, .int 0, .ref (q 11), .int 0, .int 0, .int (-1), .int 0, .ref (q 16), .int 0, .ref (q 18), .ref (q 19), .ref (q 20), .int 0, .ref (q 22), .int 0, .ref (q 24), .ref (q 25), .ref (q 26), .ref (q 27), .ref (q 28), .int 0, .ref (q 30), .ref (q 31), .ref (q 32), .ref (q 33), .int 0, .int 0, .int 0, .int 0, .int 0, .int 0, .ref (q 40), .int 0, .ref (q 42), .ref (q 43), .ref (q 44)]))]) [0] (by decide) rfl
  refine W.widen (k := 0) (n := 0) (Nat.le_of_ble_eq_true rfl) (Nat.le_of_ble_eq_true rfl) ?_
  exact W.zret (v := 1) hx hb hr rfl (fun t ht hW => ⟨⟨1, (), rfl, rfl, [.ref (q 1), .ref (q 2), .ref (q 3), .int 3, .int 0, .ref (q 6), .ref (q 7), .int 0, .int 0, .int 0, .ref (q 11), .int 0, .int 0, .int (-1), .int 0, .ref (q 16), .int 0, .ref (q 18), .ref (q 19), .ref (q 20), .int 0, .ref (q 22), .int 0, .ref (q 24), .ref (q 25), .ref (q 26), .ref (q 27), .ref (q 28), .int 0, .ref (q 30), .ref (q 31), .ref (q 32), .ref (q 33), .int 0, .int 0, .int 0, .int 0, .int 0, .int 0, .ref (q 40), .int 0, .ref (q 42), .ref (q 43), .ref (q 44)], by rw [ht]; exact hP9, hD9⟩, hS.F ht⟩) hS.2.2 d_Mo_put_73
set_option maxHeartbeats 4000000 in
set_option maxRecDepth 100000 in
theorem m_Mo_put4 (l : Launch) (dC : Nat → ClassId) (dI : Nat → Nat → Nat) (sz : Nat) (h0 : Nat) (q : Nat → Nat) (ci : Nat → ClassId) (p0 : Int32) : Met l y_Mo_put w_Mo_put ({ frames := 0, cells := 0, slots := 0, locals := 0 }) (va_Pc [.ref h0, .int p0, .int 4] (fun U => U.heap.size = sz ∧ va_P (dC, dI) gx_cl (wMo h0 q ci) U.heap ∧ va_K (dC, dI) gx_cl (kMo ci) U ∧ va_D (fun _ => True) (wMo h0 q ci))) (va_Qi (fun (r : Int32) (_ : Unit) => r = 1) (fun _ t => ∃ fs : List Value, va_P (dC, dI) gx_cl [(h0, .inr (9, .int 0 :: fs))] t.heap ∧ va_D (va_A (wMo h0 q ci) sz) [(h0, .inr (9, .int 0 :: fs))]) (va_A (wMo h0 q ci) sz)) 0 0 (va_A (wMo h0 q ci) sz) := by
  refine Met.ofW (cc := b_Mo_put) (maxL := 4) (ret := (some .boolean)) (by decide) rfl ?_
  intro p e s m args below meth c s₁ B hml hv
  obtain ⟨rfl, hsz, hP, hK, hD0⟩ := hv
  have hx := B.exec
  have hb := B.bytes
  have hr := B.returns
  have hts := atoms_spec (ws := w_Mo_put) B.pre
  have hB : ∀ w ∈ gx_B, w.before _ s = true := fun w h => hts w (List.mem_cons_of_mem _ h)
  have hown : s.vm.findClass "TapeSealerModel" = some m.cls := findClass_of_methodNamed B.named
  have hlocks := B.notSynchronized
  subst hsz
  have hD := hD0.self (sz := s.heap.size)
  generalize hAe : va_A (wMo h0 q ci) s.heap.size = A at hD ⊢
  have hA : ∀ q : Nat, s.heap.size ≤ q → A q := fun q h => by rw [← hAe]; exact Or.inr h
  have hS : va_S A s.heap s.heap [] := va_S.rf
  have hl := lv_entry ([.ref h0, .int p0, .int 4]) (n := 4) (Nat.le_of_ble_eq_true rfl)
  rw [lg_entry_eq]
  generalize (lg_sl ([.ref h0, .int p0, .int 4]) ++ List.replicate (4 - (lg_sl ([.ref h0, .int p0, .int 4])).length) Slot.unset).toArray = ls at hl ⊢
  have hl : lv_has ls 4 [(0, .ref h0), (1, .int p0), (2, .int 4)] := hl
  refine lv_aload_n hx hb d_Mo_put_0 rfl (lv_at hl 0 rfl) ?_
  refine lv_iconst (v := 0) hx hb d_Mo_put_1 (by decide) ?_
  refine va_put (D := (dC, dI)) (ci := 9) (v := .int 0) (ty := .int) (C := RMo) (T := FMo) (N := 45) hx hb hB in_Mo tMo tMo_ok nMo hown hK hP hD hS 0 rfl rfl 0 (by decide) (hB _ hw_890) (fun _ h9 => h9) rfl (by decide +kernel) rfl rfl (Nat.le_of_ble_eq_true rfl) d_Mo_put_2 (fun H locs hP hD hS => ?_)
  have hP : va_P (dC, dI) gx_cl (wMo h0 q ci) H := hP
  have hD : va_D A (wMo h0 q ci) := hD
  refine lv_iload_n hx hb d_Mo_put_5 rfl (lv_at hl 2 rfl) ?_
  refine lv_iconst (v := 1) hx hb d_Mo_put_6 (by decide) ?_
  refine lv_icmp_lt (tgt := 27) hx hb d_Mo_put_7 (by decide) (fun h9 => absurd h9 (by decide)) (fun _ => ?_)
  refine lv_iload_n hx hb d_Mo_put_10 rfl (lv_at hl 2 rfl) ?_
  refine lv_iconst (v := 4) hx hb d_Mo_put_11 (by decide) ?_
  refine lv_icmp_gt (tgt := 27) hx hb d_Mo_put_12 (by decide) (fun h9 => absurd h9 (by decide)) (fun _ => ?_)
  refine lv_aload_n hx hb d_Mo_put_15 rfl (lv_at hl 0 rfl) ?_
  refine va_get (D := (dC, dI)) (ci := 9) (v := .int 0) (C := RMo) (T := FMo) (N := 45) hx hb hB in_Mo hown hK hP 0 rfl rfl 4 (by decide) (hB _ hw_894) (fun _ h9 => h9) rfl d_Mo_put_16 ?_
  refine lv_iload_n hx hb d_Mo_put_19 rfl (lv_at hl 2 rfl) ?_
  refine lv_iadd hx hb d_Mo_put_20 ?_
  refine lv_topi (fun z1 z1_e => ?_)
  obtain rfl : z1 = 4 := z1_e.trans (by decide)
  refine lv_sipush (v := 192) hx hb d_Mo_put_21 (by decide) ?_
  refine lv_icmp_le (tgt := 29) hx hb d_Mo_put_24 (by decide) (fun _ => ?_) (fun h9 => absurd (by decide) h9)
  refine lv_iload_n hx hb d_Mo_put_29 rfl (lv_at hl 2 rfl) ?_
  refine lv_iconst (v := 1) hx hb d_Mo_put_30 (by decide) ?_
  refine lv_isub hx hb d_Mo_put_31 ?_
  refine lv_topi (fun z2 z2_e => ?_)
  obtain rfl : z2 = 3 := z2_e.trans (by decide)
  refine lv_istore_n hx hb d_Mo_put_32 rfl hl (by decide) rfl (fun ls hl => ?_)
  have hl : lv_has ls 4 [(3, .int 3), (0, .ref h0), (1, .int p0), (2, .int 4)] := hl
  refine lv_iload_n hx hb d_Mo_put_33 rfl (lv_at hl 0 rfl) ?_
  refine lv_if_lt (tgt := 72) hx hb d_Mo_put_34 (by decide) (fun h9 => absurd h9 (by decide)) (fun _ => ?_)
  refine lv_aload_n hx hb d_Mo_put_37 rfl (lv_at hl 1 rfl) ?_
  refine va_get (D := (dC, dI)) (ci := 9) (v := .ref (q 3)) (C := RMo) (T := FMo) (N := 45) hx hb hB in_Mo hown hK hP 0 rfl rfl 3 (by decide) (hB _ hw_893) (fun _ h9 => h9) rfl d_Mo_put_38 ?_
  refine lv_aload_n hx hb d_Mo_put_41 rfl (lv_at hl 1 rfl) ?_
  refine va_get (D := (dC, dI)) (ci := 9) (v := .int 0) (C := RMo) (T := FMo) (N := 45) hx hb hB in_Mo hown hK hP 0 rfl rfl 4 (by decide) (hB _ hw_894) (fun _ h9 => h9) rfl d_Mo_put_42 ?_
  refine lv_iload_n hx hb d_Mo_put_45 rfl (lv_at hl 2 rfl) ?_
  refine lv_bipush (v := 8) hx hb d_Mo_put_46 (by decide) ?_
  refine lv_iload_n hx hb d_Mo_put_48 rfl (lv_at hl 0 rfl) ?_
  refine lv_imul hx hb d_Mo_put_49 ?_
  refine lv_topi (fun z3 z3_e => ?_)
  obtain rfl : z3 = 24 := z3_e.trans (by decide)
  refine lv_iushr hx hb d_Mo_put_50 rfl ?_
  refine lv_topi (fun z4 z4_e => ?_)
  refine lv_sipush (v := 255) hx hb d_Mo_put_51 (by decide) ?_
  refine lv_iand hx hb d_Mo_put_54 ?_
  refine lv_topi (fun z5 z5_e => ?_)
  refine va_iast (D := (dC, dI)) hx hb hK hP hD hS 3 2 rfl rfl (by unfold vp_in; decide) d_Mo_put_55 (fun H locs hP hD hS => ?_)
  have hP : va_P (dC, dI) gx_cl [(h0, .inr (9, [.int 0, .ref (q 1), .ref (q 2), .ref (q 3), .int 0, .int 0, .ref (q 6), .ref (q 7), .int 0, .int 0, .int 0, .ref (q 11), .int 0, .int 0, .int (-1), .int 0, .ref (q 16), .int 0, .ref (q 18), .ref (q 19), .ref (q 20), .int 0, .ref (q 22), .int 0, .ref (q 24), .ref (q 25), .ref (q 26), .ref (q 27), .ref (q 28), .int 0, .ref (q 30), .ref (q 31), .ref (q 32), .ref (q 33), .int 0, .int 0, .int 0, .int 0, .int 0, .int 0, .ref (q 40), .int 0, .ref (q 42), .ref (q 43), .ref (q 44)])), ((q 1), .inl ((ci 0), 2816, .inl (fun _ => 0))), ((q 2), .inl ((ci 1), 44, .inl (fun _ => 0))), ((q 3), .inl ((ci 2), 192, .inl (upd (fun _ => 0) (Int32.toNatClampNeg 0) z5))), ((q 7), .inl ((ci 3), 10, .inl (fun _ => 0)))] H := hP
  have hD : va_D A [(h0, .inr (9, [.int 0, .ref (q 1), .ref (q 2), .ref (q 3), .int 0, .int 0, .ref (q 6), .ref (q 7), .int 0, .int 0, .int 0, .ref (q 11), .int 0, .int 0, .int (-1), .int 0, .ref (q 16), .int 0, .ref (q 18), .ref (q 19), .ref (q 20), .int 0, .ref (q 22), .int 0, .ref (q 24), .ref (q 25), .ref (q 26), .ref (q 27), .ref (q 28), .int 0, .ref (q 30), .ref (q 31), .ref (q 32), .ref (q 33), .int 0, .int 0, .int 0, .int 0, .int 0, .int 0, .ref (q 40), .int 0, .ref (q 42), .ref (q 43), .ref (q 44)])), ((q 1), .inl ((ci 0), 2816, .inl (fun _ => 0))), ((q 2), .inl ((ci 1), 44, .inl (fun _ => 0))), ((q 3), .inl ((ci 2), 192, .inl (upd (fun _ => 0) (Int32.toNatClampNeg 0) z5))), ((q 7), .inl ((ci 3), 10, .inl (fun _ => 0)))] := hD
  refine lv_aload_n hx hb d_Mo_put_56 rfl (lv_at hl 1 rfl) ?_
  refine lv_dup hx hb d_Mo_put_57 rfl ?_
  refine va_get (D := (dC, dI)) (ci := 9) (v := .int 0) (C := RMo) (T := FMo) (N := 45) hx hb hB in_Mo hown hK hP 0 rfl rfl 4 (by decide) (hB _ hw_894) (fun _ h9 => h9) rfl d_Mo_put_58 ?_
  refine lv_iconst (v := 1) hx hb d_Mo_put_61 (by decide) ?_
  refine lv_iadd hx hb d_Mo_put_62 ?_
  refine lv_topi (fun z6 z6_e => ?_)
  obtain rfl : z6 = 1 := z6_e.trans (by decide)
  refine va_put (D := (dC, dI)) (ci := 9) (v := .int 1) (ty := .int) (C := RMo) (T := FMo) (N := 45) hx hb hB in_Mo tMo tMo_ok nMo hown hK hP hD hS 0 rfl rfl 4 (by decide) (hB _ hw_894) (fun _ h9 => h9) rfl (by decide +kernel) rfl rfl (Nat.le_of_ble_eq_true rfl) d_Mo_put_63 (fun H locs hP hD hS => ?_)
  have hP : va_P (dC, dI) gx_cl [(h0, .inr (9, [.int 0, .ref (q 1), .ref (q 2), .ref (q 3), .int 1, .int 0, .ref (q 6), .ref (q 7), .int 0, .int 0, .int 0, .ref (q 11), .int 0, .int 0, .int (-1), .int 0, .ref (q 16), .int 0, .ref (q 18), .ref (q 19), .ref (q 20), .int 0, .ref (q 22), .int 0, .ref (q 24), .ref (q 25), .ref (q 26), .ref (q 27), .ref (q 28), .int 0, .ref (q 30), .ref (q 31), .ref (q 32), .ref (q 33), .int 0, .int 0, .int 0, .int 0, .int 0, .int 0, .ref (q 40), .int 0, .ref (q 42), .ref (q 43), .ref (q 44)])), ((q 1), .inl ((ci 0), 2816, .inl (fun _ => 0))), ((q 2), .inl ((ci 1), 44, .inl (fun _ => 0))), ((q 3), .inl ((ci 2), 192, .inl (upd (fun _ => 0) (Int32.toNatClampNeg 0) z5))), ((q 7), .inl ((ci 3), 10, .inl (fun _ => 0)))] H := hP
  have hD : va_D A [(h0, .inr (9, [.int 0, .ref (q 1), .ref (q 2), .ref (q 3), .int 1, .int 0, .ref (q 6), .ref (q 7), .int 0, .int 0, .int 0, .ref (q 11), .int 0, .int 0, .int (-1), .int 0, .ref (q 16), .int 0, .ref (q 18), .ref (q 19), .ref (q 20), .int 0, .ref (q 22), .int 0, .ref (q 24), .ref (q 25), .ref (q 26), .ref (q 27), .ref (q 28), .int 0, .ref (q 30), .ref (q 31), .ref (q 32), .ref (q 33), .int 0, .int 0, .int 0, .int 0, .int 0, .int 0, .ref (q 40), .int 0, .ref (q 42), .ref (q 43), .ref (q 44)])), ((q 1), .inl ((ci 0), 2816, .inl (fun _ => 0))), ((q 2), .inl ((ci 1), 44, .inl (fun _ => 0))), ((q 3), .inl ((ci 2), 192, .inl (upd (fun _ => 0) (Int32.toNatClampNeg 0) z5))), ((q 7), .inl ((ci 3), 10, .inl (fun _ => 0)))] := hD
  refine lv_iinc (k := 0) (v := 2) hx hb d_Mo_put_66 hl rfl (by decide) (by decide) rfl (fun ls hl => ?_)
  have hl : lv_has ls 4 [(3, .int 2), (0, .ref h0), (1, .int p0), (2, .int 4)] := hl
  refine lv_goto (tgt := 33) hx hb d_Mo_put_69 (by decide) ?_
  refine lv_iload_n hx hb d_Mo_put_33 rfl (lv_at hl 0 rfl) ?_
  refine lv_if_lt (tgt := 72) hx hb d_Mo_put_34 (by decide) (fun h9 => absurd h9 (by decide)) (fun _ => ?_)
  refine lv_aload_n hx hb d_Mo_put_37 rfl (lv_at hl 1 rfl) ?_
  refine va_get (D := (dC, dI)) (ci := 9) (v := .ref (q 3)) (C := RMo) (T := FMo) (N := 45) hx hb hB in_Mo hown hK hP 0 rfl rfl 3 (by decide) (hB _ hw_893) (fun _ h9 => h9) rfl d_Mo_put_38 ?_
  refine lv_aload_n hx hb d_Mo_put_41 rfl (lv_at hl 1 rfl) ?_
  refine va_get (D := (dC, dI)) (ci := 9) (v := .int 1) (C := RMo) (T := FMo) (N := 45) hx hb hB in_Mo hown hK hP 0 rfl rfl 4 (by decide) (hB _ hw_894) (fun _ h9 => h9) rfl d_Mo_put_42 ?_
  refine lv_iload_n hx hb d_Mo_put_45 rfl (lv_at hl 2 rfl) ?_
  refine lv_bipush (v := 8) hx hb d_Mo_put_46 (by decide) ?_
  refine lv_iload_n hx hb d_Mo_put_48 rfl (lv_at hl 0 rfl) ?_
  refine lv_imul hx hb d_Mo_put_49 ?_
  refine lv_topi (fun z7 z7_e => ?_)
  obtain rfl : z7 = 16 := z7_e.trans (by decide)
  refine lv_iushr hx hb d_Mo_put_50 rfl ?_
  refine lv_topi (fun z8 z8_e => ?_)
  refine lv_sipush (v := 255) hx hb d_Mo_put_51 (by decide) ?_
  refine lv_iand hx hb d_Mo_put_54 ?_
  refine lv_topi (fun z9 z9_e => ?_)
  refine va_iast (D := (dC, dI)) hx hb hK hP hD hS 3 2 rfl rfl (by unfold vp_in; decide) d_Mo_put_55 (fun H locs hP hD hS => ?_)
  have hP : va_P (dC, dI) gx_cl [(h0, .inr (9, [.int 0, .ref (q 1), .ref (q 2), .ref (q 3), .int 1, .int 0, .ref (q 6), .ref (q 7), .int 0, .int 0, .int 0, .ref (q 11), .int 0, .int 0, .int (-1), .int 0, .ref (q 16), .int 0, .ref (q 18), .ref (q 19), .ref (q 20), .int 0, .ref (q 22), .int 0, .ref (q 24), .ref (q 25), .ref (q 26), .ref (q 27), .ref (q 28), .int 0, .ref (q 30), .ref (q 31), .ref (q 32), .ref (q 33), .int 0, .int 0, .int 0, .int 0, .int 0, .int 0, .ref (q 40), .int 0, .ref (q 42), .ref (q 43), .ref (q 44)])), ((q 1), .inl ((ci 0), 2816, .inl (fun _ => 0))), ((q 2), .inl ((ci 1), 44, .inl (fun _ => 0))), ((q 3), .inl ((ci 2), 192, .inl (upd (upd (fun _ => 0) (Int32.toNatClampNeg 0) z5) (Int32.toNatClampNeg 1) z9))), ((q 7), .inl ((ci 3), 10, .inl (fun _ => 0)))] H := hP
  have hD : va_D A [(h0, .inr (9, [.int 0, .ref (q 1), .ref (q 2), .ref (q 3), .int 1, .int 0, .ref (q 6), .ref (q 7), .int 0, .int 0, .int 0, .ref (q 11), .int 0, .int 0, .int (-1), .int 0, .ref (q 16), .int 0, .ref (q 18), .ref (q 19), .ref (q 20), .int 0, .ref (q 22), .int 0, .ref (q 24), .ref (q 25), .ref (q 26), .ref (q 27), .ref (q 28), .int 0, .ref (q 30), .ref (q 31), .ref (q 32), .ref (q 33), .int 0, .int 0, .int 0, .int 0, .int 0, .int 0, .ref (q 40), .int 0, .ref (q 42), .ref (q 43), .ref (q 44)])), ((q 1), .inl ((ci 0), 2816, .inl (fun _ => 0))), ((q 2), .inl ((ci 1), 44, .inl (fun _ => 0))), ((q 3), .inl ((ci 2), 192, .inl (upd (upd (fun _ => 0) (Int32.toNatClampNeg 0) z5) (Int32.toNatClampNeg 1) z9))), ((q 7), .inl ((ci 3), 10, .inl (fun _ => 0)))] := hD
  refine lv_aload_n hx hb d_Mo_put_56 rfl (lv_at hl 1 rfl) ?_
  refine lv_dup hx hb d_Mo_put_57 rfl ?_
  refine va_get (D := (dC, dI)) (ci := 9) (v := .int 1) (C := RMo) (T := FMo) (N := 45) hx hb hB in_Mo hown hK hP 0 rfl rfl 4 (by decide) (hB _ hw_894) (fun _ h9 => h9) rfl d_Mo_put_58 ?_
  refine lv_iconst (v := 1) hx hb d_Mo_put_61 (by decide) ?_
  refine lv_iadd hx hb d_Mo_put_62 ?_
  refine lv_topi (fun z10 z10_e => ?_)
  obtain rfl : z10 = 2 := z10_e.trans (by decide)
  refine va_put (D := (dC, dI)) (ci := 9) (v := .int 2) (ty := .int) (C := RMo) (T := FMo) (N := 45) hx hb hB in_Mo tMo tMo_ok nMo hown hK hP hD hS 0 rfl rfl 4 (by decide) (hB _ hw_894) (fun _ h9 => h9) rfl (by decide +kernel) rfl rfl (Nat.le_of_ble_eq_true rfl) d_Mo_put_63 (fun H locs hP hD hS => ?_)
  have hP : va_P (dC, dI) gx_cl [(h0, .inr (9, [.int 0, .ref (q 1), .ref (q 2), .ref (q 3), .int 2, .int 0, .ref (q 6), .ref (q 7), .int 0, .int 0, .int 0, .ref (q 11), .int 0, .int 0, .int (-1), .int 0, .ref (q 16), .int 0, .ref (q 18), .ref (q 19), .ref (q 20), .int 0, .ref (q 22), .int 0, .ref (q 24), .ref (q 25), .ref (q 26), .ref (q 27), .ref (q 28), .int 0, .ref (q 30), .ref (q 31), .ref (q 32), .ref (q 33), .int 0, .int 0, .int 0, .int 0, .int 0, .int 0, .ref (q 40), .int 0, .ref (q 42), .ref (q 43), .ref (q 44)])), ((q 1), .inl ((ci 0), 2816, .inl (fun _ => 0))), ((q 2), .inl ((ci 1), 44, .inl (fun _ => 0))), ((q 3), .inl ((ci 2), 192, .inl (upd (upd (fun _ => 0) (Int32.toNatClampNeg 0) z5) (Int32.toNatClampNeg 1) z9))), ((q 7), .inl ((ci 3), 10, .inl (fun _ => 0)))] H := hP
  have hD : va_D A [(h0, .inr (9, [.int 0, .ref (q 1), .ref (q 2), .ref (q 3), .int 2, .int 0, .ref (q 6), .ref (q 7), .int 0, .int 0, .int 0, .ref (q 11), .int 0, .int 0, .int (-1), .int 0, .ref (q 16), .int 0, .ref (q 18), .ref (q 19), .ref (q 20), .int 0, .ref (q 22), .int 0, .ref (q 24), .ref (q 25), .ref (q 26), .ref (q 27), .ref (q 28), .int 0, .ref (q 30), .ref (q 31), .ref (q 32), .ref (q 33), .int 0, .int 0, .int 0, .int 0, .int 0, .int 0, .ref (q 40), .int 0, .ref (q 42), .ref (q 43), .ref (q 44)])), ((q 1), .inl ((ci 0), 2816, .inl (fun _ => 0))), ((q 2), .inl ((ci 1), 44, .inl (fun _ => 0))), ((q 3), .inl ((ci 2), 192, .inl (upd (upd (fun _ => 0) (Int32.toNatClampNeg 0) z5) (Int32.toNatClampNeg 1) z9))), ((q 7), .inl ((ci 3), 10, .inl (fun _ => 0)))] := hD
  refine lv_iinc (k := 0) (v := 1) hx hb d_Mo_put_66 hl rfl (by decide) (by decide) rfl (fun ls hl => ?_)
  have hl : lv_has ls 4 [(3, .int 1), (0, .ref h0), (1, .int p0), (2, .int 4)] := hl
  refine lv_goto (tgt := 33) hx hb d_Mo_put_69 (by decide) ?_
  refine lv_iload_n hx hb d_Mo_put_33 rfl (lv_at hl 0 rfl) ?_
  refine lv_if_lt (tgt := 72) hx hb d_Mo_put_34 (by decide) (fun h9 => absurd h9 (by decide)) (fun _ => ?_)
  refine lv_aload_n hx hb d_Mo_put_37 rfl (lv_at hl 1 rfl) ?_
  refine va_get (D := (dC, dI)) (ci := 9) (v := .ref (q 3)) (C := RMo) (T := FMo) (N := 45) hx hb hB in_Mo hown hK hP 0 rfl rfl 3 (by decide) (hB _ hw_893) (fun _ h9 => h9) rfl d_Mo_put_38 ?_
  refine lv_aload_n hx hb d_Mo_put_41 rfl (lv_at hl 1 rfl) ?_
  refine va_get (D := (dC, dI)) (ci := 9) (v := .int 2) (C := RMo) (T := FMo) (N := 45) hx hb hB in_Mo hown hK hP 0 rfl rfl 4 (by decide) (hB _ hw_894) (fun _ h9 => h9) rfl d_Mo_put_42 ?_
  refine lv_iload_n hx hb d_Mo_put_45 rfl (lv_at hl 2 rfl) ?_
  refine lv_bipush (v := 8) hx hb d_Mo_put_46 (by decide) ?_
  refine lv_iload_n hx hb d_Mo_put_48 rfl (lv_at hl 0 rfl) ?_
  refine lv_imul hx hb d_Mo_put_49 ?_
  refine lv_topi (fun z11 z11_e => ?_)
  obtain rfl : z11 = 8 := z11_e.trans (by decide)
  refine lv_iushr hx hb d_Mo_put_50 rfl ?_
  refine lv_topi (fun z12 z12_e => ?_)
  refine lv_sipush (v := 255) hx hb d_Mo_put_51 (by decide) ?_
  refine lv_iand hx hb d_Mo_put_54 ?_
  refine lv_topi (fun z13 z13_e => ?_)
  refine va_iast (D := (dC, dI)) hx hb hK hP hD hS 3 2 rfl rfl (by unfold vp_in; decide) d_Mo_put_55 (fun H locs hP hD hS => ?_)
  have hP : va_P (dC, dI) gx_cl [(h0, .inr (9, [.int 0, .ref (q 1), .ref (q 2), .ref (q 3), .int 2, .int 0, .ref (q 6), .ref (q 7), .int 0, .int 0, .int 0, .ref (q 11), .int 0, .int 0, .int (-1), .int 0, .ref (q 16), .int 0, .ref (q 18), .ref (q 19), .ref (q 20), .int 0, .ref (q 22), .int 0, .ref (q 24), .ref (q 25), .ref (q 26), .ref (q 27), .ref (q 28), .int 0, .ref (q 30), .ref (q 31), .ref (q 32), .ref (q 33), .int 0, .int 0, .int 0, .int 0, .int 0, .int 0, .ref (q 40), .int 0, .ref (q 42), .ref (q 43), .ref (q 44)])), ((q 1), .inl ((ci 0), 2816, .inl (fun _ => 0))), ((q 2), .inl ((ci 1), 44, .inl (fun _ => 0))), ((q 3), .inl ((ci 2), 192, .inl (upd (upd (upd (fun _ => 0) (Int32.toNatClampNeg 0) z5) (Int32.toNatClampNeg 1) z9) (Int32.toNatClampNeg 2) z13))), ((q 7), .inl ((ci 3), 10, .inl (fun _ => 0)))] H := hP
  have hD : va_D A [(h0, .inr (9, [.int 0, .ref (q 1), .ref (q 2), .ref (q 3), .int 2, .int 0, .ref (q 6), .ref (q 7), .int 0, .int 0, .int 0, .ref (q 11), .int 0, .int 0, .int (-1), .int 0, .ref (q 16), .int 0, .ref (q 18), .ref (q 19), .ref (q 20), .int 0, .ref (q 22), .int 0, .ref (q 24), .ref (q 25), .ref (q 26), .ref (q 27), .ref (q 28), .int 0, .ref (q 30), .ref (q 31), .ref (q 32), .ref (q 33), .int 0, .int 0, .int 0, .int 0, .int 0, .int 0, .ref (q 40), .int 0, .ref (q 42), .ref (q 43), .ref (q 44)])), ((q 1), .inl ((ci 0), 2816, .inl (fun _ => 0))), ((q 2), .inl ((ci 1), 44, .inl (fun _ => 0))), ((q 3), .inl ((ci 2), 192, .inl (upd (upd (upd (fun _ => 0) (Int32.toNatClampNeg 0) z5) (Int32.toNatClampNeg 1) z9) (Int32.toNatClampNeg 2) z13))), ((q 7), .inl ((ci 3), 10, .inl (fun _ => 0)))] := hD
  refine lv_aload_n hx hb d_Mo_put_56 rfl (lv_at hl 1 rfl) ?_
  refine lv_dup hx hb d_Mo_put_57 rfl ?_
  refine va_get (D := (dC, dI)) (ci := 9) (v := .int 2) (C := RMo) (T := FMo) (N := 45) hx hb hB in_Mo hown hK hP 0 rfl rfl 4 (by decide) (hB _ hw_894) (fun _ h9 => h9) rfl d_Mo_put_58 ?_
  refine lv_iconst (v := 1) hx hb d_Mo_put_61 (by decide) ?_
  refine lv_iadd hx hb d_Mo_put_62 ?_
  refine lv_topi (fun z14 z14_e => ?_)
  obtain rfl : z14 = 3 := z14_e.trans (by decide)
  refine va_put (D := (dC, dI)) (ci := 9) (v := .int 3) (ty := .int) (C := RMo) (T := FMo) (N := 45) hx hb hB in_Mo tMo tMo_ok nMo hown hK hP hD hS 0 rfl rfl 4 (by decide) (hB _ hw_894) (fun _ h9 => h9) rfl (by decide +kernel) rfl rfl (Nat.le_of_ble_eq_true rfl) d_Mo_put_63 (fun H locs hP hD hS => ?_)
  have hP : va_P (dC, dI) gx_cl [(h0, .inr (9, [.int 0, .ref (q 1), .ref (q 2), .ref (q 3), .int 3, .int 0, .ref (q 6), .ref (q 7), .int 0, .int 0, .int 0, .ref (q 11), .int 0, .int 0, .int (-1), .int 0, .ref (q 16), .int 0, .ref (q 18), .ref (q 19), .ref (q 20), .int 0, .ref (q 22), .int 0, .ref (q 24), .ref (q 25), .ref (q 26), .ref (q 27), .ref (q 28), .int 0, .ref (q 30), .ref (q 31), .ref (q 32), .ref (q 33), .int 0, .int 0, .int 0, .int 0, .int 0, .int 0, .ref (q 40), .int 0, .ref (q 42), .ref (q 43), .ref (q 44)])), ((q 1), .inl ((ci 0), 2816, .inl (fun _ => 0))), ((q 2), .inl ((ci 1), 44, .inl (fun _ => 0))), ((q 3), .inl ((ci 2), 192, .inl (upd (upd (upd (fun _ => 0) (Int32.toNatClampNeg 0) z5) (Int32.toNatClampNeg 1) z9) (Int32.toNatClampNeg 2) z13))), ((q 7), .inl ((ci 3), 10, .inl (fun _ => 0)))] H := hP
  have hD : va_D A [(h0, .inr (9, [.int 0, .ref (q 1), .ref (q 2), .ref (q 3), .int 3, .int 0, .ref (q 6), .ref (q 7), .int 0, .int 0, .int 0, .ref (q 11), .int 0, .int 0, .int (-1), .int 0, .ref (q 16), .int 0, .ref (q 18), .ref (q 19), .ref (q 20), .int 0, .ref (q 22), .int 0, .ref (q 24), .ref (q 25), .ref (q 26), .ref (q 27), .ref (q 28), .int 0, .ref (q 30), .ref (q 31), .ref (q 32), .ref (q 33), .int 0, .int 0, .int 0, .int 0, .int 0, .int 0, .ref (q 40), .int 0, .ref (q 42), .ref (q 43), .ref (q 44)])), ((q 1), .inl ((ci 0), 2816, .inl (fun _ => 0))), ((q 2), .inl ((ci 1), 44, .inl (fun _ => 0))), ((q 3), .inl ((ci 2), 192, .inl (upd (upd (upd (fun _ => 0) (Int32.toNatClampNeg 0) z5) (Int32.toNatClampNeg 1) z9) (Int32.toNatClampNeg 2) z13))), ((q 7), .inl ((ci 3), 10, .inl (fun _ => 0)))] := hD
  refine lv_iinc (k := 0) (v := 0) hx hb d_Mo_put_66 hl rfl (by decide) (by decide) rfl (fun ls hl => ?_)
  have hl : lv_has ls 4 [(3, .int 0), (0, .ref h0), (1, .int p0), (2, .int 4)] := hl
  refine lv_goto (tgt := 33) hx hb d_Mo_put_69 (by decide) ?_
  refine lv_iload_n hx hb d_Mo_put_33 rfl (lv_at hl 0 rfl) ?_
  refine lv_if_lt (tgt := 72) hx hb d_Mo_put_34 (by decide) (fun h9 => absurd h9 (by decide)) (fun _ => ?_)
  refine lv_aload_n hx hb d_Mo_put_37 rfl (lv_at hl 1 rfl) ?_
  refine va_get (D := (dC, dI)) (ci := 9) (v := .ref (q 3)) (C := RMo) (T := FMo) (N := 45) hx hb hB in_Mo hown hK hP 0 rfl rfl 3 (by decide) (hB _ hw_893) (fun _ h9 => h9) rfl d_Mo_put_38 ?_
  refine lv_aload_n hx hb d_Mo_put_41 rfl (lv_at hl 1 rfl) ?_
  refine va_get (D := (dC, dI)) (ci := 9) (v := .int 3) (C := RMo) (T := FMo) (N := 45) hx hb hB in_Mo hown hK hP 0 rfl rfl 4 (by decide) (hB _ hw_894) (fun _ h9 => h9) rfl d_Mo_put_42 ?_
  refine lv_iload_n hx hb d_Mo_put_45 rfl (lv_at hl 2 rfl) ?_
  refine lv_bipush (v := 8) hx hb d_Mo_put_46 (by decide) ?_
  refine lv_iload_n hx hb d_Mo_put_48 rfl (lv_at hl 0 rfl) ?_
  refine lv_imul hx hb d_Mo_put_49 ?_
  refine lv_topi (fun z15 z15_e => ?_)
  obtain rfl : z15 = 0 := z15_e.trans (by decide)
  refine lv_iushr hx hb d_Mo_put_50 rfl ?_
  refine lv_topi (fun z16 z16_e => ?_)
  refine lv_sipush (v := 255) hx hb d_Mo_put_51 (by decide) ?_
  refine lv_iand hx hb d_Mo_put_54 ?_
  refine lv_topi (fun z17 z17_e => ?_)
  refine va_iast (D := (dC, dI)) hx hb hK hP hD hS 3 2 rfl rfl (by unfold vp_in; decide) d_Mo_put_55 (fun H locs hP hD hS => ?_)
  have hP : va_P (dC, dI) gx_cl [(h0, .inr (9, [.int 0, .ref (q 1), .ref (q 2), .ref (q 3), .int 3, .int 0, .ref (q 6), .ref (q 7), .int 0, .int 0, .int 0, .ref (q 11), .int 0, .int 0, .int (-1), .int 0, .ref (q 16), .int 0, .ref (q 18), .ref (q 19), .ref (q 20), .int 0, .ref (q 22), .int 0, .ref (q 24), .ref (q 25), .ref (q 26), .ref (q 27), .ref (q 28), .int 0, .ref (q 30), .ref (q 31), .ref (q 32), .ref (q 33), .int 0, .int 0, .int 0, .int 0, .int 0, .int 0, .ref (q 40), .int 0, .ref (q 42), .ref (q 43), .ref (q 44)])), ((q 1), .inl ((ci 0), 2816, .inl (fun _ => 0))), ((q 2), .inl ((ci 1), 44, .inl (fun _ => 0))), ((q 3), .inl ((ci 2), 192, .inl (upd (upd (upd (upd (fun _ => 0) (Int32.toNatClampNeg 0) z5) (Int32.toNatClampNeg 1) z9) (Int32.toNatClampNeg 2) z13) (Int32.toNatClampNeg 3) z17))), ((q 7), .inl ((ci 3), 10, .inl (fun _ => 0)))] H := hP
  have hD : va_D A [(h0, .inr (9, [.int 0, .ref (q 1), .ref (q 2), .ref (q 3), .int 3, .int 0, .ref (q 6), .ref (q 7), .int 0, .int 0, .int 0, .ref (q 11), .int 0, .int 0, .int (-1), .int 0, .ref (q 16), .int 0, .ref (q 18), .ref (q 19), .ref (q 20), .int 0, .ref (q 22), .int 0, .ref (q 24), .ref (q 25), .ref (q 26), .ref (q 27), .ref (q 28), .int 0, .ref (q 30), .ref (q 31), .ref (q 32), .ref (q 33), .int 0, .int 0, .int 0, .int 0, .int 0, .int 0, .ref (q 40), .int 0, .ref (q 42), .ref (q 43), .ref (q 44)])), ((q 1), .inl ((ci 0), 2816, .inl (fun _ => 0))), ((q 2), .inl ((ci 1), 44, .inl (fun _ => 0))), ((q 3), .inl ((ci 2), 192, .inl (upd (upd (upd (upd (fun _ => 0) (Int32.toNatClampNeg 0) z5) (Int32.toNatClampNeg 1) z9) (Int32.toNatClampNeg 2) z13) (Int32.toNatClampNeg 3) z17))), ((q 7), .inl ((ci 3), 10, .inl (fun _ => 0)))] := hD
  refine lv_aload_n hx hb d_Mo_put_56 rfl (lv_at hl 1 rfl) ?_
  refine lv_dup hx hb d_Mo_put_57 rfl ?_
  refine va_get (D := (dC, dI)) (ci := 9) (v := .int 3) (C := RMo) (T := FMo) (N := 45) hx hb hB in_Mo hown hK hP 0 rfl rfl 4 (by decide) (hB _ hw_894) (fun _ h9 => h9) rfl d_Mo_put_58 ?_
  refine lv_iconst (v := 1) hx hb d_Mo_put_61 (by decide) ?_
  refine lv_iadd hx hb d_Mo_put_62 ?_
  refine lv_topi (fun z18 z18_e => ?_)
  obtain rfl : z18 = 4 := z18_e.trans (by decide)
  refine va_put (D := (dC, dI)) (ci := 9) (v := .int 4) (ty := .int) (C := RMo) (T := FMo) (N := 45) hx hb hB in_Mo tMo tMo_ok nMo hown hK hP hD hS 0 rfl rfl 4 (by decide) (hB _ hw_894) (fun _ h9 => h9) rfl (by decide +kernel) rfl rfl (Nat.le_of_ble_eq_true rfl) d_Mo_put_63 (fun H locs hP hD hS => ?_)
  have hP : va_P (dC, dI) gx_cl [(h0, .inr (9, [.int 0, .ref (q 1), .ref (q 2), .ref (q 3), .int 4, .int 0, .ref (q 6), .ref (q 7), .int 0, .int 0, .int 0, .ref (q 11), .int 0, .int 0, .int (-1), .int 0, .ref (q 16), .int 0, .ref (q 18), .ref (q 19), .ref (q 20), .int 0, .ref (q 22), .int 0, .ref (q 24), .ref (q 25), .ref (q 26), .ref (q 27), .ref (q 28), .int 0, .ref (q 30), .ref (q 31), .ref (q 32), .ref (q 33), .int 0, .int 0, .int 0, .int 0, .int 0, .int 0, .ref (q 40), .int 0, .ref (q 42), .ref (q 43), .ref (q 44)])), ((q 1), .inl ((ci 0), 2816, .inl (fun _ => 0))), ((q 2), .inl ((ci 1), 44, .inl (fun _ => 0))), ((q 3), .inl ((ci 2), 192, .inl (upd (upd (upd (upd (fun _ => 0) (Int32.toNatClampNeg 0) z5) (Int32.toNatClampNeg 1) z9) (Int32.toNatClampNeg 2) z13) (Int32.toNatClampNeg 3) z17))), ((q 7), .inl ((ci 3), 10, .inl (fun _ => 0)))] H := hP
  have hD : va_D A [(h0, .inr (9, [.int 0, .ref (q 1), .ref (q 2), .ref (q 3), .int 4, .int 0, .ref (q 6), .ref (q 7), .int 0, .int 0, .int 0, .ref (q 11), .int 0, .int 0, .int (-1), .int 0, .ref (q 16), .int 0, .ref (q 18), .ref (q 19), .ref (q 20), .int 0, .ref (q 22), .int 0, .ref (q 24), .ref (q 25), .ref (q 26), .ref (q 27), .ref (q 28), .int 0, .ref (q 30), .ref (q 31), .ref (q 32), .ref (q 33), .int 0, .int 0, .int 0, .int 0, .int 0, .int 0, .ref (q 40), .int 0, .ref (q 42), .ref (q 43), .ref (q 44)])), ((q 1), .inl ((ci 0), 2816, .inl (fun _ => 0))), ((q 2), .inl ((ci 1), 44, .inl (fun _ => 0))), ((q 3), .inl ((ci 2), 192, .inl (upd (upd (upd (upd (fun _ => 0) (Int32.toNatClampNeg 0) z5) (Int32.toNatClampNeg 1) z9) (Int32.toNatClampNeg 2) z13) (Int32.toNatClampNeg 3) z17))), ((q 7), .inl ((ci 3), 10, .inl (fun _ => 0)))] := hD
  refine lv_iinc (k := 0) (v := (-1)) hx hb d_Mo_put_66 hl rfl (by decide) (by decide) rfl (fun ls hl => ?_)
  have hl : lv_has ls 4 [(3, .int (-1)), (0, .ref h0), (1, .int p0), (2, .int 4)] := hl
  refine lv_goto (tgt := 33) hx hb d_Mo_put_69 (by decide) ?_
  refine lv_iload_n hx hb d_Mo_put_33 rfl (lv_at hl 0 rfl) ?_
  refine lv_if_lt (tgt := 72) hx hb d_Mo_put_34 (by decide) (fun _ => ?_) (fun h9 => absurd (by decide) h9)
  refine lv_iconst (v := 1) hx hb d_Mo_put_72 (by decide) ?_
  have hP9 := hP.sub (ws' := [(h0, .inr (9, [.int 0, .ref (q 1), .ref (q 2), .ref (q 3), .int 4, .int 0, .ref (q 6), .ref (q 7), .int 0, .int 0, .int 0, .ref (q 11), .int 0, .int 0, .int (-1), .int 0, .ref (q 16), .int 0, .ref (q 18), .ref (q 19), .ref (q 20), .int 0, .ref (q 22), .int 0, .ref (q 24), .ref (q 25), .ref (q 26), .ref (q 27), .ref (q 28), .int 0, .ref (q 30), .ref (q 31), .ref (q 32), .ref (q 33), .int 0, .int 0, .int 0, .int 0, .int 0, .int 0, .ref (q 40), .int 0, .ref (q 42), .ref (q 43), .ref (q 44)]))]) [0] rfl
  have hD9 := hD.sub (ws' := [(h0, .inr (9, [.int 0, .ref (q 1), .ref (q 2), .ref (q 3), .int 4, .int 0, .ref (q 6), .ref (q 7), .int 0, .int 0, .int 0, .ref (q 11), .int 0, .int 0, .int (-1), .int 0, .ref (q 16), .int 0, .ref (q 18), .ref (q 19), .ref (q 20), .int 0, .ref (q 22), .int 0, .ref (q 24), .ref (q 25), .ref (q 26), .ref (q 27), .ref (q 28), .int 0, .ref (q 30), .ref (q 31), .ref (q 32), .ref (q 33), .int 0, .int 0, .int 0, .int 0, .int 0, .int 0, .ref (q 40), .int 0, .ref (q 42), .ref (q 43), .ref (q 44)]))]) [0] (by decide) rfl
  refine W.widen (k := 0) (n := 0) (Nat.le_of_ble_eq_true rfl) (Nat.le_of_ble_eq_true rfl) ?_
  exact W.zret (v := 1) hx hb hr rfl (fun t ht hW => ⟨⟨1, (), rfl, rfl, [.ref (q 1), .ref (q 2), .ref (q 3), .int 4, .int 0, .ref (q 6), .ref (q 7), .int 0, .int 0, .int 0, .ref (q 11), .int 0, .int 0, .int (-1), .int 0, .ref (q 16), .int 0, .ref (q 18), .ref (q 19), .ref (q 20), .int 0, .ref (q 22), .int 0, .ref (q 24), .ref (q 25), .ref (q 26), .ref (q 27), .ref (q 28), .int 0, .ref (q 30), .ref (q 31), .ref (q 32), .ref (q 33), .int 0, .int 0, .int 0, .int 0, .int 0, .int 0, .ref (q 40), .int 0, .ref (q 42), .ref (q 43), .ref (q 44)], by rw [ht]; exact hP9, hD9⟩, hS.F ht⟩) hS.2.2 d_Mo_put_73
set_option maxHeartbeats 4000000 in
set_option maxRecDepth 100000 in
theorem m_Mo_put0 (l : Launch) (dC : Nat → ClassId) (dI : Nat → Nat → Nat) (sz : Nat) (h0 : Nat) (q : Nat → Nat) (ci : Nat → ClassId) (p0 p1 : Int32) (h : p1 < 1 ∨ 4 < p1) : Met l y_Mo_put w_Mo_put ({ frames := 0, cells := 0, slots := 0, locals := 0 }) (va_Pc [.ref h0, .int p0, .int p1] (fun U => U.heap.size = sz ∧ va_P (dC, dI) gx_cl (wMo h0 q ci) U.heap ∧ va_K (dC, dI) gx_cl (kMo ci) U ∧ va_D (fun _ => True) (wMo h0 q ci))) (va_Qi (fun (r : Int32) (_ : Unit) => r = 0) (fun _ t => ∃ fs : List Value, va_P (dC, dI) gx_cl [(h0, .inr (9, .int 0 :: fs))] t.heap ∧ va_D (va_A (wMo h0 q ci) sz) [(h0, .inr (9, .int 0 :: fs))]) (va_A (wMo h0 q ci) sz)) 0 0 (va_A (wMo h0 q ci) sz) := by
  refine Met.ofW (cc := b_Mo_put) (maxL := 4) (ret := (some .boolean)) (by decide) rfl ?_
  intro p e s m args below meth c s₁ B hml hv
  obtain ⟨rfl, hsz, hP, hK, hD0⟩ := hv
  have hx := B.exec
  have hb := B.bytes
  have hr := B.returns
  have hts := atoms_spec (ws := w_Mo_put) B.pre
  have hB : ∀ w ∈ gx_B, w.before _ s = true := fun w h => hts w (List.mem_cons_of_mem _ h)
  have hown : s.vm.findClass "TapeSealerModel" = some m.cls := findClass_of_methodNamed B.named
  have hlocks := B.notSynchronized
  subst hsz
  have hD := hD0.self (sz := s.heap.size)
  generalize hAe : va_A (wMo h0 q ci) s.heap.size = A at hD ⊢
  have hA : ∀ q : Nat, s.heap.size ≤ q → A q := fun q h => by rw [← hAe]; exact Or.inr h
  have hS : va_S A s.heap s.heap [] := va_S.rf
  have hl := lv_entry ([.ref h0, .int p0, .int p1]) (n := 4) (Nat.le_of_ble_eq_true rfl)
  rw [lg_entry_eq]
  generalize (lg_sl ([.ref h0, .int p0, .int p1]) ++ List.replicate (4 - (lg_sl ([.ref h0, .int p0, .int p1])).length) Slot.unset).toArray = ls at hl ⊢
  have hl : lv_has ls 4 [(0, .ref h0), (1, .int p0), (2, .int p1)] := hl
  rcases h with hi | hi
  · refine lv_aload_n hx hb d_Mo_put_0 rfl (lv_at hl 0 rfl) ?_
    refine lv_iconst (v := 0) hx hb d_Mo_put_1 (by decide) ?_
    refine va_put (D := (dC, dI)) (ci := 9) (v := .int 0) (ty := .int) (C := RMo) (T := FMo) (N := 45) hx hb hB in_Mo tMo tMo_ok nMo hown hK hP hD hS 0 rfl rfl 0 (by decide) (hB _ hw_890) (fun _ h9 => h9) rfl (by decide +kernel) rfl rfl (Nat.le_of_ble_eq_true rfl) d_Mo_put_2 (fun H locs hP hD hS => ?_)
    have hP : va_P (dC, dI) gx_cl (wMo h0 q ci) H := hP
    have hD : va_D A (wMo h0 q ci) := hD
    refine lv_iload_n hx hb d_Mo_put_5 rfl (lv_at hl 2 rfl) ?_
    refine lv_iconst (v := 1) hx hb d_Mo_put_6 (by decide) ?_
    refine lv_icmp_lt (tgt := 27) hx hb d_Mo_put_7 (by decide) (fun _ => ?_) (fun h9 => absurd hi h9)
    refine lv_iconst (v := 0) hx hb d_Mo_put_27 (by decide) ?_
    have hP9 := hP.sub (ws' := [(h0, .inr (9, [.int 0, .ref (q 1), .ref (q 2), .ref (q 3), .int 0, .int 0, .ref (q 6), .ref (q 7), .int 0, .int 0, .int 0, .ref (q 11), .int 0, .int 0, .int (-1), .int 0, .ref (q 16), .int 0, .ref (q 18), .ref (q 19), .ref (q 20), .int 0, .ref (q 22), .int 0, .ref (q 24), .ref (q 25), .ref (q 26), .ref (q 27), .ref (q 28), .int 0, .ref (q 30), .ref (q 31), .ref (q 32), .ref (q 33), .int 0, .int 0, .int 0, .int 0, .int 0, .int 0, .ref (q 40), .int 0, .ref (q 42), .ref (q 43), .ref (q 44)]))]) [0] rfl
    have hD9 := hD.sub (ws' := [(h0, .inr (9, [.int 0, .ref (q 1), .ref (q 2), .ref (q 3), .int 0, .int 0, .ref (q 6), .ref (q 7), .int 0, .int 0, .int 0, .ref (q 11), .int 0, .int 0, .int (-1), .int 0, .ref (q 16), .int 0, .ref (q 18), .ref (q 19), .ref (q 20), .int 0, .ref (q 22), .int 0, .ref (q 24), .ref (q 25), .ref (q 26), .ref (q 27), .ref (q 28), .int 0, .ref (q 30), .ref (q 31), .ref (q 32), .ref (q 33), .int 0, .int 0, .int 0, .int 0, .int 0, .int 0, .ref (q 40), .int 0, .ref (q 42), .ref (q 43), .ref (q 44)]))]) [0] (by decide) rfl
    refine W.widen (k := 0) (n := 0) (Nat.le_of_ble_eq_true rfl) (Nat.le_of_ble_eq_true rfl) ?_
    exact W.zret (v := 0) hx hb hr rfl (fun t ht hW => ⟨⟨0, (), rfl, rfl, [.ref (q 1), .ref (q 2), .ref (q 3), .int 0, .int 0, .ref (q 6), .ref (q 7), .int 0, .int 0, .int 0, .ref (q 11), .int 0, .int 0, .int (-1), .int 0, .ref (q 16), .int 0, .ref (q 18), .ref (q 19), .ref (q 20), .int 0, .ref (q 22), .int 0, .ref (q 24), .ref (q 25), .ref (q 26), .ref (q 27), .ref (q 28), .int 0, .ref (q 30), .ref (q 31), .ref (q 32), .ref (q 33), .int 0, .int 0, .int 0, .int 0, .int 0, .int 0, .ref (q 40), .int 0, .ref (q 42), .ref (q 43), .ref (q 44)], by rw [ht]; exact hP9, hD9⟩, hS.F ht⟩) hS.2.2 d_Mo_put_28
  · refine lv_aload_n hx hb d_Mo_put_0 rfl (lv_at hl 0 rfl) ?_
    refine lv_iconst (v := 0) hx hb d_Mo_put_1 (by decide) ?_
    refine va_put (D := (dC, dI)) (ci := 9) (v := .int 0) (ty := .int) (C := RMo) (T := FMo) (N := 45) hx hb hB in_Mo tMo tMo_ok nMo hown hK hP hD hS 0 rfl rfl 0 (by decide) (hB _ hw_890) (fun _ h9 => h9) rfl (by decide +kernel) rfl rfl (Nat.le_of_ble_eq_true rfl) d_Mo_put_2 (fun H locs hP hD hS => ?_)
    have hP : va_P (dC, dI) gx_cl (wMo h0 q ci) H := hP
    have hD : va_D A (wMo h0 q ci) := hD
    refine lv_iload_n hx hb d_Mo_put_5 rfl (lv_at hl 2 rfl) ?_
    refine lv_iconst (v := 1) hx hb d_Mo_put_6 (by decide) ?_
    refine lv_icmp_lt (tgt := 27) hx hb d_Mo_put_7 (by decide) (fun h9 => absurd h9 (gx_p4 hi)) (fun _ => ?_)
    refine lv_iload_n hx hb d_Mo_put_10 rfl (lv_at hl 2 rfl) ?_
    refine lv_iconst (v := 4) hx hb d_Mo_put_11 (by decide) ?_
    refine lv_icmp_gt (tgt := 27) hx hb d_Mo_put_12 (by decide) (fun _ => ?_) (fun h9 => absurd hi h9)
    refine lv_iconst (v := 0) hx hb d_Mo_put_27 (by decide) ?_
    have hP9 := hP.sub (ws' := [(h0, .inr (9, [.int 0, .ref (q 1), .ref (q 2), .ref (q 3), .int 0, .int 0, .ref (q 6), .ref (q 7), .int 0, .int 0, .int 0, .ref (q 11), .int 0, .int 0, .int (-1), .int 0, .ref (q 16), .int 0, .ref (q 18), .ref (q 19), .ref (q 20), .int 0, .ref (q 22), .int 0, .ref (q 24), .ref (q 25), .ref (q 26), .ref (q 27), .ref (q 28), .int 0, .ref (q 30), .ref (q 31), .ref (q 32), .ref (q 33), .int 0, .int 0, .int 0, .int 0, .int 0, .int 0, .ref (q 40), .int 0, .ref (q 42), .ref (q 43), .ref (q 44)]))]) [0] rfl
    have hD9 := hD.sub (ws' := [(h0, .inr (9, [.int 0, .ref (q 1), .ref (q 2), .ref (q 3), .int 0, .int 0, .ref (q 6), .ref (q 7), .int 0, .int 0, .int 0, .ref (q 11), .int 0, .int 0, .int (-1), .int 0, .ref (q 16), .int 0, .ref (q 18), .ref (q 19), .ref (q 20), .int 0, .ref (q 22), .int 0, .ref (q 24), .ref (q 25), .ref (q 26), .ref (q 27), .ref (q 28), .int 0, .ref (q 30), .ref (q 31), .ref (q 32), .ref (q 33), .int 0, .int 0, .int 0, .int 0, .int 0, .int 0, .ref (q 40), .int 0, .ref (q 42), .ref (q 43), .ref (q 44)]))]) [0] (by decide) rfl
    refine W.widen (k := 0) (n := 0) (Nat.le_of_ble_eq_true rfl) (Nat.le_of_ble_eq_true rfl) ?_
    exact W.zret (v := 0) hx hb hr rfl (fun t ht hW => ⟨⟨0, (), rfl, rfl, [.ref (q 1), .ref (q 2), .ref (q 3), .int 0, .int 0, .ref (q 6), .ref (q 7), .int 0, .int 0, .int 0, .ref (q 11), .int 0, .int 0, .int (-1), .int 0, .ref (q 16), .int 0, .ref (q 18), .ref (q 19), .ref (q 20), .int 0, .ref (q 22), .int 0, .ref (q 24), .ref (q 25), .ref (q 26), .ref (q 27), .ref (q 28), .int 0, .ref (q 30), .ref (q 31), .ref (q 32), .ref (q 33), .int 0, .int 0, .int 0, .int 0, .int 0, .int 0, .ref (q 40), .int 0, .ref (q 42), .ref (q 43), .ref (q 44)], by rw [ht]; exact hP9, hD9⟩, hS.F ht⟩) hS.2.2 d_Mo_put_28
set_option maxHeartbeats 4000000 in
set_option maxRecDepth 100000 in
theorem m_Mo_epoch (l : Launch) (dC : Nat → ClassId) (dI : Nat → Nat → Nat) (sz : Nat) (h0 : Nat) (q : Nat → Nat) (ci : Nat → ClassId)  : Met l y_Mo_epoch w_Mo_epoch ({ frames := 0, cells := 0, slots := 0, locals := 0 }) (va_Pc [.ref h0] (fun U => U.heap.size = sz ∧ va_P (dC, dI) gx_cl (wMo h0 q ci) U.heap ∧ va_K (dC, dI) gx_cl (kMo ci) U ∧ va_D (fun _ => True) (wMo h0 q ci))) (va_Qi (fun (r : Int32) (_ : Unit) => r = 0) (fun _ t => ∃ fs : List Value, va_P (dC, dI) gx_cl [(h0, .inr (9, .int 1 :: fs))] t.heap ∧ va_D (va_A (wMo h0 q ci) sz) [(h0, .inr (9, .int 1 :: fs))]) (va_A (wMo h0 q ci) sz)) 0 0 (va_A (wMo h0 q ci) sz) := by
  refine Met.ofW (cc := b_Mo_epoch) (maxL := 2) (ret := (some .int)) (by decide) rfl ?_
  intro p e s m args below meth c s₁ B hml hv
  obtain ⟨rfl, hsz, hP, hK, hD0⟩ := hv
  have hx := B.exec
  have hb := B.bytes
  have hr := B.returns
  have hts := atoms_spec (ws := w_Mo_epoch) B.pre
  have hB : ∀ w ∈ gx_B, w.before _ s = true := fun w h => hts w (List.mem_cons_of_mem _ h)
  have hown : s.vm.findClass "TapeSealerModel" = some m.cls := findClass_of_methodNamed B.named
  have hlocks := B.notSynchronized
  subst hsz
  have hD := hD0.self (sz := s.heap.size)
  generalize hAe : va_A (wMo h0 q ci) s.heap.size = A at hD ⊢
  have hA : ∀ q : Nat, s.heap.size ≤ q → A q := fun q h => by rw [← hAe]; exact Or.inr h
  have hS : va_S A s.heap s.heap [] := va_S.rf
  have hl := lv_entry ([.ref h0]) (n := 2) (Nat.le_of_ble_eq_true rfl)
  rw [lg_entry_eq]
  generalize (lg_sl ([.ref h0]) ++ List.replicate (2 - (lg_sl ([.ref h0])).length) Slot.unset).toArray = ls at hl ⊢
  have hl : lv_has ls 2 [(0, .ref h0)] := hl
  refine lv_aload_n hx hb d_Mo_epoch_0 rfl (lv_at hl 0 rfl) ?_
  refine lv_aload_n hx hb d_Mo_epoch_1 rfl (lv_at hl 0 rfl) ?_
  refine va_get (D := (dC, dI)) (ci := 9) (v := .int 0) (C := RMo) (T := FMo) (N := 45) hx hb hB in_Mo hown hK hP 0 rfl rfl 4 (by decide) (hB _ hw_894) (fun _ h9 => h9) rfl d_Mo_epoch_2 ?_
  refine lv_bipush (v := 32) hx hb d_Mo_epoch_5 (by decide) ?_
  refine lv_icmp_ne (tgt := 26) hx hb d_Mo_epoch_7 (by decide) (fun _ => ?_) (fun h9 => absurd h9 (by decide))
  refine lv_iconst (v := 1) hx hb d_Mo_epoch_26 (by decide) ?_
  refine lv_goto (tgt := 31) hx hb d_Mo_epoch_27 (by decide) ?_
  refine va_put (D := (dC, dI)) (ci := 9) (v := .int 1) (ty := .int) (C := RMo) (T := FMo) (N := 45) hx hb hB in_Mo tMo tMo_ok nMo hown hK hP hD hS 0 rfl rfl 0 (by decide) (hB _ hw_890) (fun _ h9 => h9) rfl (by decide +kernel) rfl rfl (Nat.le_of_ble_eq_true rfl) d_Mo_epoch_31 (fun H locs hP hD hS => ?_)
  have hP : va_P (dC, dI) gx_cl [(h0, .inr (9, [.int 1, .ref (q 1), .ref (q 2), .ref (q 3), .int 0, .int 0, .ref (q 6), .ref (q 7), .int 0, .int 0, .int 0, .ref (q 11), .int 0, .int 0, .int (-1), .int 0, .ref (q 16), .int 0, .ref (q 18), .ref (q 19), .ref (q 20), .int 0, .ref (q 22), .int 0, .ref (q 24), .ref (q 25), .ref (q 26), .ref (q 27), .ref (q 28), .int 0, .ref (q 30), .ref (q 31), .ref (q 32), .ref (q 33), .int 0, .int 0, .int 0, .int 0, .int 0, .int 0, .ref (q 40), .int 0, .ref (q 42), .ref (q 43), .ref (q 44)])), ((q 1), .inl ((ci 0), 2816, .inl (fun _ => 0))), ((q 2), .inl ((ci 1), 44, .inl (fun _ => 0))), ((q 3), .inl ((ci 2), 192, .inl (fun _ => 0))), ((q 7), .inl ((ci 3), 10, .inl (fun _ => 0)))] H := hP
  have hD : va_D A [(h0, .inr (9, [.int 1, .ref (q 1), .ref (q 2), .ref (q 3), .int 0, .int 0, .ref (q 6), .ref (q 7), .int 0, .int 0, .int 0, .ref (q 11), .int 0, .int 0, .int (-1), .int 0, .ref (q 16), .int 0, .ref (q 18), .ref (q 19), .ref (q 20), .int 0, .ref (q 22), .int 0, .ref (q 24), .ref (q 25), .ref (q 26), .ref (q 27), .ref (q 28), .int 0, .ref (q 30), .ref (q 31), .ref (q 32), .ref (q 33), .int 0, .int 0, .int 0, .int 0, .int 0, .int 0, .ref (q 40), .int 0, .ref (q 42), .ref (q 43), .ref (q 44)])), ((q 1), .inl ((ci 0), 2816, .inl (fun _ => 0))), ((q 2), .inl ((ci 1), 44, .inl (fun _ => 0))), ((q 3), .inl ((ci 2), 192, .inl (fun _ => 0))), ((q 7), .inl ((ci 3), 10, .inl (fun _ => 0)))] := hD
  refine lv_aload_n hx hb d_Mo_epoch_34 rfl (lv_at hl 0 rfl) ?_
  refine va_get (D := (dC, dI)) (ci := 9) (v := .int 1) (C := RMo) (T := FMo) (N := 45) hx hb hB in_Mo hown hK hP 0 rfl rfl 0 (by decide) (hB _ hw_890) (fun _ h9 => h9) rfl d_Mo_epoch_35 ?_
  refine lv_if_le (tgt := 43) hx hb d_Mo_epoch_38 (by decide) (fun h9 => absurd h9 (by decide)) (fun _ => ?_)
  refine lv_iconst (v := 0) hx hb d_Mo_epoch_41 (by decide) ?_
  have hP9 := hP.sub (ws' := [(h0, .inr (9, [.int 1, .ref (q 1), .ref (q 2), .ref (q 3), .int 0, .int 0, .ref (q 6), .ref (q 7), .int 0, .int 0, .int 0, .ref (q 11), .int 0, .int 0, .int (-1), .int 0, .ref (q 16), .int 0, .ref (q 18), .ref (q 19), .ref (q 20), .int 0, .ref (q 22), .int 0, .ref (q 24), .ref (q 25), .ref (q 26), .ref (q 27), .ref (q 28), .int 0, .ref (q 30), .ref (q 31), .ref (q 32), .ref (q 33), .int 0, .int 0, .int 0, .int 0, .int 0, .int 0, .ref (q 40), .int 0, .ref (q 42), .ref (q 43), .ref (q 44)]))]) [0] rfl
  have hD9 := hD.sub (ws' := [(h0, .inr (9, [.int 1, .ref (q 1), .ref (q 2), .ref (q 3), .int 0, .int 0, .ref (q 6), .ref (q 7), .int 0, .int 0, .int 0, .ref (q 11), .int 0, .int 0, .int (-1), .int 0, .ref (q 16), .int 0, .ref (q 18), .ref (q 19), .ref (q 20), .int 0, .ref (q 22), .int 0, .ref (q 24), .ref (q 25), .ref (q 26), .ref (q 27), .ref (q 28), .int 0, .ref (q 30), .ref (q 31), .ref (q 32), .ref (q 33), .int 0, .int 0, .int 0, .int 0, .int 0, .int 0, .ref (q 40), .int 0, .ref (q 42), .ref (q 43), .ref (q 44)]))]) [0] (by decide) rfl
  refine W.widen (k := 0) (n := 0) (Nat.le_of_ble_eq_true rfl) (Nat.le_of_ble_eq_true rfl) ?_
  exact W.iret (v := 0) hx hb hr (fun t ht hW => ⟨⟨0, (), rfl, rfl, [.ref (q 1), .ref (q 2), .ref (q 3), .int 0, .int 0, .ref (q 6), .ref (q 7), .int 0, .int 0, .int 0, .ref (q 11), .int 0, .int 0, .int (-1), .int 0, .ref (q 16), .int 0, .ref (q 18), .ref (q 19), .ref (q 20), .int 0, .ref (q 22), .int 0, .ref (q 24), .ref (q 25), .ref (q 26), .ref (q 27), .ref (q 28), .int 0, .ref (q 30), .ref (q 31), .ref (q 32), .ref (q 33), .int 0, .int 0, .int 0, .int 0, .int 0, .int 0, .ref (q 40), .int 0, .ref (q 42), .ref (q 43), .ref (q 44)], by rw [ht]; exact hP9, hD9⟩, hS.F ht⟩) hS.2.2 d_Mo_epoch_42
set_option maxHeartbeats 4000000 in
set_option maxRecDepth 100000 in
theorem m_Mo_create (l : Launch) (dC : Nat → ClassId) (dI : Nat → Nat → Nat) (sz : Nat) (h0 : Nat) (q : Nat → Nat) (ci : Nat → ClassId) (p0 : Int32) : Met l y_Mo_create w_Mo_create ({ frames := 0, cells := 0, slots := 0, locals := 0 }) (va_Pc [.ref h0, .int p0] (fun U => U.heap.size = sz ∧ va_P (dC, dI) gx_cl (wMo h0 q ci) U.heap ∧ va_K (dC, dI) gx_cl (kMo ci) U ∧ va_D (fun _ => True) (wMo h0 q ci))) (va_Qi (fun (r : Int32) (_ : Unit) => r = 0) (fun _ t => ∃ fs : List Value, va_P (dC, dI) gx_cl [(h0, .inr (9, .int 1 :: fs))] t.heap ∧ va_D (va_A (wMo h0 q ci) sz) [(h0, .inr (9, .int 1 :: fs))]) (va_A (wMo h0 q ci) sz)) 0 0 (va_A (wMo h0 q ci) sz) := by
  refine Met.ofW (cc := b_Mo_create) (maxL := 3) (ret := (some .int)) (by decide) rfl ?_
  intro p e s m args below meth c s₁ B hml hv
  obtain ⟨rfl, hsz, hP, hK, hD0⟩ := hv
  have hx := B.exec
  have hb := B.bytes
  have hr := B.returns
  have hts := atoms_spec (ws := w_Mo_create) B.pre
  have hB : ∀ w ∈ gx_B, w.before _ s = true := fun w h => hts w (List.mem_cons_of_mem _ h)
  have hown : s.vm.findClass "TapeSealerModel" = some m.cls := findClass_of_methodNamed B.named
  have hlocks := B.notSynchronized
  subst hsz
  have hD := hD0.self (sz := s.heap.size)
  generalize hAe : va_A (wMo h0 q ci) s.heap.size = A at hD ⊢
  have hA : ∀ q : Nat, s.heap.size ≤ q → A q := fun q h => by rw [← hAe]; exact Or.inr h
  have hS : va_S A s.heap s.heap [] := va_S.rf
  have hl := lv_entry ([.ref h0, .int p0]) (n := 3) (Nat.le_of_ble_eq_true rfl)
  rw [lg_entry_eq]
  generalize (lg_sl ([.ref h0, .int p0]) ++ List.replicate (3 - (lg_sl ([.ref h0, .int p0])).length) Slot.unset).toArray = ls at hl ⊢
  have hl : lv_has ls 3 [(0, .ref h0), (1, .int p0)] := hl
  refine lv_aload_n hx hb d_Mo_create_0 rfl (lv_at hl 0 rfl) ?_
  refine lv_aload_n hx hb d_Mo_create_1 rfl (lv_at hl 0 rfl) ?_
  refine va_get (D := (dC, dI)) (ci := 9) (v := .int 0) (C := RMo) (T := FMo) (N := 45) hx hb hB in_Mo hown hK hP 0 rfl rfl 5 (by decide) (hB _ hw_895) (fun _ h9 => h9) rfl d_Mo_create_2 ?_
  refine lv_if_eq (tgt := 30) hx hb d_Mo_create_5 (by decide) (fun _ => ?_) (fun h9 => absurd (by decide) h9)
  refine lv_iconst (v := 1) hx hb d_Mo_create_30 (by decide) ?_
  refine lv_goto (tgt := 35) hx hb d_Mo_create_31 (by decide) ?_
  refine va_put (D := (dC, dI)) (ci := 9) (v := .int 1) (ty := .int) (C := RMo) (T := FMo) (N := 45) hx hb hB in_Mo tMo tMo_ok nMo hown hK hP hD hS 0 rfl rfl 0 (by decide) (hB _ hw_890) (fun _ h9 => h9) rfl (by decide +kernel) rfl rfl (Nat.le_of_ble_eq_true rfl) d_Mo_create_35 (fun H locs hP hD hS => ?_)
  have hP : va_P (dC, dI) gx_cl [(h0, .inr (9, [.int 1, .ref (q 1), .ref (q 2), .ref (q 3), .int 0, .int 0, .ref (q 6), .ref (q 7), .int 0, .int 0, .int 0, .ref (q 11), .int 0, .int 0, .int (-1), .int 0, .ref (q 16), .int 0, .ref (q 18), .ref (q 19), .ref (q 20), .int 0, .ref (q 22), .int 0, .ref (q 24), .ref (q 25), .ref (q 26), .ref (q 27), .ref (q 28), .int 0, .ref (q 30), .ref (q 31), .ref (q 32), .ref (q 33), .int 0, .int 0, .int 0, .int 0, .int 0, .int 0, .ref (q 40), .int 0, .ref (q 42), .ref (q 43), .ref (q 44)])), ((q 1), .inl ((ci 0), 2816, .inl (fun _ => 0))), ((q 2), .inl ((ci 1), 44, .inl (fun _ => 0))), ((q 3), .inl ((ci 2), 192, .inl (fun _ => 0))), ((q 7), .inl ((ci 3), 10, .inl (fun _ => 0)))] H := hP
  have hD : va_D A [(h0, .inr (9, [.int 1, .ref (q 1), .ref (q 2), .ref (q 3), .int 0, .int 0, .ref (q 6), .ref (q 7), .int 0, .int 0, .int 0, .ref (q 11), .int 0, .int 0, .int (-1), .int 0, .ref (q 16), .int 0, .ref (q 18), .ref (q 19), .ref (q 20), .int 0, .ref (q 22), .int 0, .ref (q 24), .ref (q 25), .ref (q 26), .ref (q 27), .ref (q 28), .int 0, .ref (q 30), .ref (q 31), .ref (q 32), .ref (q 33), .int 0, .int 0, .int 0, .int 0, .int 0, .int 0, .ref (q 40), .int 0, .ref (q 42), .ref (q 43), .ref (q 44)])), ((q 1), .inl ((ci 0), 2816, .inl (fun _ => 0))), ((q 2), .inl ((ci 1), 44, .inl (fun _ => 0))), ((q 3), .inl ((ci 2), 192, .inl (fun _ => 0))), ((q 7), .inl ((ci 3), 10, .inl (fun _ => 0)))] := hD
  refine lv_aload_n hx hb d_Mo_create_38 rfl (lv_at hl 0 rfl) ?_
  refine va_get (D := (dC, dI)) (ci := 9) (v := .int 1) (C := RMo) (T := FMo) (N := 45) hx hb hB in_Mo hown hK hP 0 rfl rfl 0 (by decide) (hB _ hw_890) (fun _ h9 => h9) rfl d_Mo_create_39 ?_
  refine lv_if_le (tgt := 47) hx hb d_Mo_create_42 (by decide) (fun h9 => absurd h9 (by decide)) (fun _ => ?_)
  refine lv_iconst (v := 0) hx hb d_Mo_create_45 (by decide) ?_
  have hP9 := hP.sub (ws' := [(h0, .inr (9, [.int 1, .ref (q 1), .ref (q 2), .ref (q 3), .int 0, .int 0, .ref (q 6), .ref (q 7), .int 0, .int 0, .int 0, .ref (q 11), .int 0, .int 0, .int (-1), .int 0, .ref (q 16), .int 0, .ref (q 18), .ref (q 19), .ref (q 20), .int 0, .ref (q 22), .int 0, .ref (q 24), .ref (q 25), .ref (q 26), .ref (q 27), .ref (q 28), .int 0, .ref (q 30), .ref (q 31), .ref (q 32), .ref (q 33), .int 0, .int 0, .int 0, .int 0, .int 0, .int 0, .ref (q 40), .int 0, .ref (q 42), .ref (q 43), .ref (q 44)]))]) [0] rfl
  have hD9 := hD.sub (ws' := [(h0, .inr (9, [.int 1, .ref (q 1), .ref (q 2), .ref (q 3), .int 0, .int 0, .ref (q 6), .ref (q 7), .int 0, .int 0, .int 0, .ref (q 11), .int 0, .int 0, .int (-1), .int 0, .ref (q 16), .int 0, .ref (q 18), .ref (q 19), .ref (q 20), .int 0, .ref (q 22), .int 0, .ref (q 24), .ref (q 25), .ref (q 26), .ref (q 27), .ref (q 28), .int 0, .ref (q 30), .ref (q 31), .ref (q 32), .ref (q 33), .int 0, .int 0, .int 0, .int 0, .int 0, .int 0, .ref (q 40), .int 0, .ref (q 42), .ref (q 43), .ref (q 44)]))]) [0] (by decide) rfl
  refine W.widen (k := 0) (n := 0) (Nat.le_of_ble_eq_true rfl) (Nat.le_of_ble_eq_true rfl) ?_
  exact W.iret (v := 0) hx hb hr (fun t ht hW => ⟨⟨0, (), rfl, rfl, [.ref (q 1), .ref (q 2), .ref (q 3), .int 0, .int 0, .ref (q 6), .ref (q 7), .int 0, .int 0, .int 0, .ref (q 11), .int 0, .int 0, .int (-1), .int 0, .ref (q 16), .int 0, .ref (q 18), .ref (q 19), .ref (q 20), .int 0, .ref (q 22), .int 0, .ref (q 24), .ref (q 25), .ref (q 26), .ref (q 27), .ref (q 28), .int 0, .ref (q 30), .ref (q 31), .ref (q 32), .ref (q 33), .int 0, .int 0, .int 0, .int 0, .int 0, .int 0, .ref (q 40), .int 0, .ref (q 42), .ref (q 43), .ref (q 44)], by rw [ht]; exact hP9, hD9⟩, hS.F ht⟩) hS.2.2 d_Mo_create_46
set_option maxHeartbeats 4000000 in
set_option maxRecDepth 100000 in
theorem m_Mo_append (l : Launch) (dC : Nat → ClassId) (dI : Nat → Nat → Nat) (sz : Nat) (h0 : Nat) (q : Nat → Nat) (ci : Nat → ClassId)  : Met l y_Mo_append w_Mo_append ({ frames := 0, cells := 0, slots := 0, locals := 0 }) (va_Pc [.ref h0] (fun U => U.heap.size = sz ∧ va_P (dC, dI) gx_cl (wMo h0 q ci) U.heap ∧ va_K (dC, dI) gx_cl (kMo ci) U ∧ va_D (fun _ => True) (wMo h0 q ci))) (va_Qi (fun (r : Int32) (_ : Unit) => r = 0) (fun _ t => ∃ fs : List Value, va_P (dC, dI) gx_cl [(h0, .inr (9, .int 1 :: fs))] t.heap ∧ va_D (va_A (wMo h0 q ci) sz) [(h0, .inr (9, .int 1 :: fs))]) (va_A (wMo h0 q ci) sz)) 0 0 (va_A (wMo h0 q ci) sz) := by
  refine Met.ofW (cc := b_Mo_append) (maxL := 2) (ret := (some .int)) (by decide) rfl ?_
  intro p e s m args below meth c s₁ B hml hv
  obtain ⟨rfl, hsz, hP, hK, hD0⟩ := hv
  have hx := B.exec
  have hb := B.bytes
  have hr := B.returns
  have hts := atoms_spec (ws := w_Mo_append) B.pre
  have hB : ∀ w ∈ gx_B, w.before _ s = true := fun w h => hts w (List.mem_cons_of_mem _ h)
  have hown : s.vm.findClass "TapeSealerModel" = some m.cls := findClass_of_methodNamed B.named
  have hlocks := B.notSynchronized
  subst hsz
  have hD := hD0.self (sz := s.heap.size)
  generalize hAe : va_A (wMo h0 q ci) s.heap.size = A at hD ⊢
  have hA : ∀ q : Nat, s.heap.size ≤ q → A q := fun q h => by rw [← hAe]; exact Or.inr h
  have hS : va_S A s.heap s.heap [] := va_S.rf
  have hl := lv_entry ([.ref h0]) (n := 2) (Nat.le_of_ble_eq_true rfl)
  rw [lg_entry_eq]
  generalize (lg_sl ([.ref h0]) ++ List.replicate (2 - (lg_sl ([.ref h0])).length) Slot.unset).toArray = ls at hl ⊢
  have hl : lv_has ls 2 [(0, .ref h0)] := hl
  refine lv_aload_n hx hb d_Mo_append_0 rfl (lv_at hl 0 rfl) ?_
  refine lv_aload_n hx hb d_Mo_append_1 rfl (lv_at hl 0 rfl) ?_
  refine va_get (D := (dC, dI)) (ci := 9) (v := .int 0) (C := RMo) (T := FMo) (N := 45) hx hb hB in_Mo hown hK hP 0 rfl rfl 8 (by decide) (hB _ hw_898) (fun _ h9 => h9) rfl d_Mo_append_2 ?_
  refine lv_if_eq (tgt := 30) hx hb d_Mo_append_5 (by decide) (fun _ => ?_) (fun h9 => absurd (by decide) h9)
  refine lv_iconst (v := 1) hx hb d_Mo_append_30 (by decide) ?_
  refine lv_goto (tgt := 35) hx hb d_Mo_append_31 (by decide) ?_
  refine va_put (D := (dC, dI)) (ci := 9) (v := .int 1) (ty := .int) (C := RMo) (T := FMo) (N := 45) hx hb hB in_Mo tMo tMo_ok nMo hown hK hP hD hS 0 rfl rfl 0 (by decide) (hB _ hw_890) (fun _ h9 => h9) rfl (by decide +kernel) rfl rfl (Nat.le_of_ble_eq_true rfl) d_Mo_append_35 (fun H locs hP hD hS => ?_)
  have hP : va_P (dC, dI) gx_cl [(h0, .inr (9, [.int 1, .ref (q 1), .ref (q 2), .ref (q 3), .int 0, .int 0, .ref (q 6), .ref (q 7), .int 0, .int 0, .int 0, .ref (q 11), .int 0, .int 0, .int (-1), .int 0, .ref (q 16), .int 0, .ref (q 18), .ref (q 19), .ref (q 20), .int 0, .ref (q 22), .int 0, .ref (q 24), .ref (q 25), .ref (q 26), .ref (q 27), .ref (q 28), .int 0, .ref (q 30), .ref (q 31), .ref (q 32), .ref (q 33), .int 0, .int 0, .int 0, .int 0, .int 0, .int 0, .ref (q 40), .int 0, .ref (q 42), .ref (q 43), .ref (q 44)])), ((q 1), .inl ((ci 0), 2816, .inl (fun _ => 0))), ((q 2), .inl ((ci 1), 44, .inl (fun _ => 0))), ((q 3), .inl ((ci 2), 192, .inl (fun _ => 0))), ((q 7), .inl ((ci 3), 10, .inl (fun _ => 0)))] H := hP
  have hD : va_D A [(h0, .inr (9, [.int 1, .ref (q 1), .ref (q 2), .ref (q 3), .int 0, .int 0, .ref (q 6), .ref (q 7), .int 0, .int 0, .int 0, .ref (q 11), .int 0, .int 0, .int (-1), .int 0, .ref (q 16), .int 0, .ref (q 18), .ref (q 19), .ref (q 20), .int 0, .ref (q 22), .int 0, .ref (q 24), .ref (q 25), .ref (q 26), .ref (q 27), .ref (q 28), .int 0, .ref (q 30), .ref (q 31), .ref (q 32), .ref (q 33), .int 0, .int 0, .int 0, .int 0, .int 0, .int 0, .ref (q 40), .int 0, .ref (q 42), .ref (q 43), .ref (q 44)])), ((q 1), .inl ((ci 0), 2816, .inl (fun _ => 0))), ((q 2), .inl ((ci 1), 44, .inl (fun _ => 0))), ((q 3), .inl ((ci 2), 192, .inl (fun _ => 0))), ((q 7), .inl ((ci 3), 10, .inl (fun _ => 0)))] := hD
  refine lv_aload_n hx hb d_Mo_append_38 rfl (lv_at hl 0 rfl) ?_
  refine va_get (D := (dC, dI)) (ci := 9) (v := .int 1) (C := RMo) (T := FMo) (N := 45) hx hb hB in_Mo hown hK hP 0 rfl rfl 0 (by decide) (hB _ hw_890) (fun _ h9 => h9) rfl d_Mo_append_39 ?_
  refine lv_if_ne (tgt := 74) hx hb d_Mo_append_42 (by decide) (fun _ => ?_) (fun h9 => absurd h9 (by decide))
  refine lv_aload_n hx hb d_Mo_append_74 rfl (lv_at hl 0 rfl) ?_
  refine va_get (D := (dC, dI)) (ci := 9) (v := .int 1) (C := RMo) (T := FMo) (N := 45) hx hb hB in_Mo hown hK hP 0 rfl rfl 0 (by decide) (hB _ hw_890) (fun _ h9 => h9) rfl d_Mo_append_75 ?_
  refine lv_if_le (tgt := 83) hx hb d_Mo_append_78 (by decide) (fun h9 => absurd h9 (by decide)) (fun _ => ?_)
  refine lv_iconst (v := 0) hx hb d_Mo_append_81 (by decide) ?_
  have hP9 := hP.sub (ws' := [(h0, .inr (9, [.int 1, .ref (q 1), .ref (q 2), .ref (q 3), .int 0, .int 0, .ref (q 6), .ref (q 7), .int 0, .int 0, .int 0, .ref (q 11), .int 0, .int 0, .int (-1), .int 0, .ref (q 16), .int 0, .ref (q 18), .ref (q 19), .ref (q 20), .int 0, .ref (q 22), .int 0, .ref (q 24), .ref (q 25), .ref (q 26), .ref (q 27), .ref (q 28), .int 0, .ref (q 30), .ref (q 31), .ref (q 32), .ref (q 33), .int 0, .int 0, .int 0, .int 0, .int 0, .int 0, .ref (q 40), .int 0, .ref (q 42), .ref (q 43), .ref (q 44)]))]) [0] rfl
  have hD9 := hD.sub (ws' := [(h0, .inr (9, [.int 1, .ref (q 1), .ref (q 2), .ref (q 3), .int 0, .int 0, .ref (q 6), .ref (q 7), .int 0, .int 0, .int 0, .ref (q 11), .int 0, .int 0, .int (-1), .int 0, .ref (q 16), .int 0, .ref (q 18), .ref (q 19), .ref (q 20), .int 0, .ref (q 22), .int 0, .ref (q 24), .ref (q 25), .ref (q 26), .ref (q 27), .ref (q 28), .int 0, .ref (q 30), .ref (q 31), .ref (q 32), .ref (q 33), .int 0, .int 0, .int 0, .int 0, .int 0, .int 0, .ref (q 40), .int 0, .ref (q 42), .ref (q 43), .ref (q 44)]))]) [0] (by decide) rfl
  refine W.widen (k := 0) (n := 0) (Nat.le_of_ble_eq_true rfl) (Nat.le_of_ble_eq_true rfl) ?_
  exact W.iret (v := 0) hx hb hr (fun t ht hW => ⟨⟨0, (), rfl, rfl, [.ref (q 1), .ref (q 2), .ref (q 3), .int 0, .int 0, .ref (q 6), .ref (q 7), .int 0, .int 0, .int 0, .ref (q 11), .int 0, .int 0, .int (-1), .int 0, .ref (q 16), .int 0, .ref (q 18), .ref (q 19), .ref (q 20), .int 0, .ref (q 22), .int 0, .ref (q 24), .ref (q 25), .ref (q 26), .ref (q 27), .ref (q 28), .int 0, .ref (q 30), .ref (q 31), .ref (q 32), .ref (q 33), .int 0, .int 0, .int 0, .int 0, .int 0, .int 0, .ref (q 40), .int 0, .ref (q 42), .ref (q 43), .ref (q 44)], by rw [ht]; exact hP9, hD9⟩, hS.F ht⟩) hS.2.2 d_Mo_append_82
set_option maxHeartbeats 4000000 in
set_option maxRecDepth 100000 in
theorem m_Mo_finish (l : Launch) (dC : Nat → ClassId) (dI : Nat → Nat → Nat) (sz : Nat) (h0 : Nat) (q : Nat → Nat) (ci : Nat → ClassId)  : Met l y_Mo_finish w_Mo_finish ({ frames := 0, cells := 0, slots := 0, locals := 0 }) (va_Pc [.ref h0] (fun U => U.heap.size = sz ∧ va_P (dC, dI) gx_cl (wMo h0 q ci) U.heap ∧ va_K (dC, dI) gx_cl (kMo ci) U ∧ va_D (fun _ => True) (wMo h0 q ci))) (va_Qi (fun (r : Int32) (_ : Unit) => r = 0) (fun _ t => ∃ fs : List Value, va_P (dC, dI) gx_cl [(h0, .inr (9, .int 1 :: fs))] t.heap ∧ va_D (va_A (wMo h0 q ci) sz) [(h0, .inr (9, .int 1 :: fs))]) (va_A (wMo h0 q ci) sz)) 0 0 (va_A (wMo h0 q ci) sz) := by
  refine Met.ofW (cc := b_Mo_finish) (maxL := 6) (ret := (some .int)) (by decide) rfl ?_
  intro p e s m args below meth c s₁ B hml hv
  obtain ⟨rfl, hsz, hP, hK, hD0⟩ := hv
  have hx := B.exec
  have hb := B.bytes
  have hr := B.returns
  have hts := atoms_spec (ws := w_Mo_finish) B.pre
  have hB : ∀ w ∈ gx_B, w.before _ s = true := fun w h => hts w (List.mem_cons_of_mem _ h)
  have hown : s.vm.findClass "TapeSealerModel" = some m.cls := findClass_of_methodNamed B.named
  have hlocks := B.notSynchronized
  subst hsz
  have hD := hD0.self (sz := s.heap.size)
  generalize hAe : va_A (wMo h0 q ci) s.heap.size = A at hD ⊢
  have hA : ∀ q : Nat, s.heap.size ≤ q → A q := fun q h => by rw [← hAe]; exact Or.inr h
  have hS : va_S A s.heap s.heap [] := va_S.rf
  have hl := lv_entry ([.ref h0]) (n := 6) (Nat.le_of_ble_eq_true rfl)
  rw [lg_entry_eq]
  generalize (lg_sl ([.ref h0]) ++ List.replicate (6 - (lg_sl ([.ref h0])).length) Slot.unset).toArray = ls at hl ⊢
  have hl : lv_has ls 6 [(0, .ref h0)] := hl
  refine lv_aload_n hx hb d_Mo_finish_0 rfl (lv_at hl 0 rfl) ?_
  refine lv_aload_n hx hb d_Mo_finish_1 rfl (lv_at hl 0 rfl) ?_
  refine va_get (D := (dC, dI)) (ci := 9) (v := .int 0) (C := RMo) (T := FMo) (N := 45) hx hb hB in_Mo hown hK hP 0 rfl rfl 8 (by decide) (hB _ hw_898) (fun _ h9 => h9) rfl d_Mo_finish_2 ?_
  refine lv_if_eq (tgt := 15) hx hb d_Mo_finish_5 (by decide) (fun _ => ?_) (fun h9 => absurd (by decide) h9)
  refine lv_iconst (v := 1) hx hb d_Mo_finish_15 (by decide) ?_
  refine lv_goto (tgt := 20) hx hb d_Mo_finish_16 (by decide) ?_
  refine va_put (D := (dC, dI)) (ci := 9) (v := .int 1) (ty := .int) (C := RMo) (T := FMo) (N := 45) hx hb hB in_Mo tMo tMo_ok nMo hown hK hP hD hS 0 rfl rfl 0 (by decide) (hB _ hw_890) (fun _ h9 => h9) rfl (by decide +kernel) rfl rfl (Nat.le_of_ble_eq_true rfl) d_Mo_finish_20 (fun H locs hP hD hS => ?_)
  have hP : va_P (dC, dI) gx_cl [(h0, .inr (9, [.int 1, .ref (q 1), .ref (q 2), .ref (q 3), .int 0, .int 0, .ref (q 6), .ref (q 7), .int 0, .int 0, .int 0, .ref (q 11), .int 0, .int 0, .int (-1), .int 0, .ref (q 16), .int 0, .ref (q 18), .ref (q 19), .ref (q 20), .int 0, .ref (q 22), .int 0, .ref (q 24), .ref (q 25), .ref (q 26), .ref (q 27), .ref (q 28), .int 0, .ref (q 30), .ref (q 31), .ref (q 32), .ref (q 33), .int 0, .int 0, .int 0, .int 0, .int 0, .int 0, .ref (q 40), .int 0, .ref (q 42), .ref (q 43), .ref (q 44)])), ((q 1), .inl ((ci 0), 2816, .inl (fun _ => 0))), ((q 2), .inl ((ci 1), 44, .inl (fun _ => 0))), ((q 3), .inl ((ci 2), 192, .inl (fun _ => 0))), ((q 7), .inl ((ci 3), 10, .inl (fun _ => 0)))] H := hP
  have hD : va_D A [(h0, .inr (9, [.int 1, .ref (q 1), .ref (q 2), .ref (q 3), .int 0, .int 0, .ref (q 6), .ref (q 7), .int 0, .int 0, .int 0, .ref (q 11), .int 0, .int 0, .int (-1), .int 0, .ref (q 16), .int 0, .ref (q 18), .ref (q 19), .ref (q 20), .int 0, .ref (q 22), .int 0, .ref (q 24), .ref (q 25), .ref (q 26), .ref (q 27), .ref (q 28), .int 0, .ref (q 30), .ref (q 31), .ref (q 32), .ref (q 33), .int 0, .int 0, .int 0, .int 0, .int 0, .int 0, .ref (q 40), .int 0, .ref (q 42), .ref (q 43), .ref (q 44)])), ((q 1), .inl ((ci 0), 2816, .inl (fun _ => 0))), ((q 2), .inl ((ci 1), 44, .inl (fun _ => 0))), ((q 3), .inl ((ci 2), 192, .inl (fun _ => 0))), ((q 7), .inl ((ci 3), 10, .inl (fun _ => 0)))] := hD
  refine lv_aload_n hx hb d_Mo_finish_23 rfl (lv_at hl 0 rfl) ?_
  refine va_get (D := (dC, dI)) (ci := 9) (v := .int 1) (C := RMo) (T := FMo) (N := 45) hx hb hB in_Mo hown hK hP 0 rfl rfl 0 (by decide) (hB _ hw_890) (fun _ h9 => h9) rfl d_Mo_finish_24 ?_
  refine lv_if_le (tgt := 32) hx hb d_Mo_finish_27 (by decide) (fun h9 => absurd h9 (by decide)) (fun _ => ?_)
  refine lv_iconst (v := 0) hx hb d_Mo_finish_30 (by decide) ?_
  have hP9 := hP.sub (ws' := [(h0, .inr (9, [.int 1, .ref (q 1), .ref (q 2), .ref (q 3), .int 0, .int 0, .ref (q 6), .ref (q 7), .int 0, .int 0, .int 0, .ref (q 11), .int 0, .int 0, .int (-1), .int 0, .ref (q 16), .int 0, .ref (q 18), .ref (q 19), .ref (q 20), .int 0, .ref (q 22), .int 0, .ref (q 24), .ref (q 25), .ref (q 26), .ref (q 27), .ref (q 28), .int 0, .ref (q 30), .ref (q 31), .ref (q 32), .ref (q 33), .int 0, .int 0, .int 0, .int 0, .int 0, .int 0, .ref (q 40), .int 0, .ref (q 42), .ref (q 43), .ref (q 44)]))]) [0] rfl
  have hD9 := hD.sub (ws' := [(h0, .inr (9, [.int 1, .ref (q 1), .ref (q 2), .ref (q 3), .int 0, .int 0, .ref (q 6), .ref (q 7), .int 0, .int 0, .int 0, .ref (q 11), .int 0, .int 0, .int (-1), .int 0, .ref (q 16), .int 0, .ref (q 18), .ref (q 19), .ref (q 20), .int 0, .ref (q 22), .int 0, .ref (q 24), .ref (q 25), .ref (q 26), .ref (q 27), .ref (q 28), .int 0, .ref (q 30), .ref (q 31), .ref (q 32), .ref (q 33), .int 0, .int 0, .int 0, .int 0, .int 0, .int 0, .ref (q 40), .int 0, .ref (q 42), .ref (q 43), .ref (q 44)]))]) [0] (by decide) rfl
  refine W.widen (k := 0) (n := 0) (Nat.le_of_ble_eq_true rfl) (Nat.le_of_ble_eq_true rfl) ?_
  exact W.iret (v := 0) hx hb hr (fun t ht hW => ⟨⟨0, (), rfl, rfl, [.ref (q 1), .ref (q 2), .ref (q 3), .int 0, .int 0, .ref (q 6), .ref (q 7), .int 0, .int 0, .int 0, .ref (q 11), .int 0, .int 0, .int (-1), .int 0, .ref (q 16), .int 0, .ref (q 18), .ref (q 19), .ref (q 20), .int 0, .ref (q 22), .int 0, .ref (q 24), .ref (q 25), .ref (q 26), .ref (q 27), .ref (q 28), .int 0, .ref (q 30), .ref (q 31), .ref (q 32), .ref (q 33), .int 0, .int 0, .int 0, .int 0, .int 0, .int 0, .ref (q 40), .int 0, .ref (q 42), .ref (q 43), .ref (q 44)], by rw [ht]; exact hP9, hD9⟩, hS.F ht⟩) hS.2.2 d_Mo_finish_31
set_option maxHeartbeats 4000000 in
set_option maxRecDepth 100000 in
theorem m_Mo_read (l : Launch) (dC : Nat → ClassId) (dI : Nat → Nat → Nat) (sz : Nat) (h0 : Nat) (q : Nat → Nat) (ci : Nat → ClassId) (p0 p1 p2 : Int32) : Met l y_Mo_read w_Mo_read ({ frames := 2, cells := 0, slots := 0, locals := 46 }) (va_Pc [.ref h0, .int p0, .int p1, .int p2] (fun U => U.heap.size = sz ∧ va_P (dC, dI) gx_cl (wMo h0 q ci) U.heap ∧ va_K (dC, dI) gx_cl (kMo ci) U ∧ va_D (fun _ => True) (wMo h0 q ci))) (va_Qi (fun (r : Int32) (_ : Unit) => r = 0) (fun _ t => ∃ fs : List Value, va_P (dC, dI) gx_cl [(h0, .inr (9, .int 1 :: fs))] t.heap ∧ va_D (va_A (wMo h0 q ci) sz) [(h0, .inr (9, .int 1 :: fs))]) (va_A (wMo h0 q ci) sz)) 0 0 (va_A (wMo h0 q ci) sz) := by
  refine Met.ofW (cc := b_Mo_read) (maxL := 9) (ret := (some .int)) (by decide) rfl ?_
  intro p e s m args below meth c s₁ B hml hv
  obtain ⟨rfl, hsz, hP, hK, hD0⟩ := hv
  have hx := B.exec
  have hb := B.bytes
  have hr := B.returns
  have hts := atoms_spec (ws := w_Mo_read) B.pre
  have hB : ∀ w ∈ gx_B, w.before _ s = true := fun w h => hts w (List.mem_cons_of_mem _ h)
  have hown : s.vm.findClass "TapeSealerModel" = some m.cls := findClass_of_methodNamed B.named
  have hlocks := B.notSynchronized
  subst hsz
  have hD := hD0.self (sz := s.heap.size)
  generalize hAe : va_A (wMo h0 q ci) s.heap.size = A at hD ⊢
  have hA : ∀ q : Nat, s.heap.size ≤ q → A q := fun q h => by rw [← hAe]; exact Or.inr h
  have hS : va_S A s.heap s.heap [] := va_S.rf
  have hl := lv_entry ([.ref h0, .int p0, .int p1, .int p2]) (n := 9) (Nat.le_of_ble_eq_true rfl)
  rw [lg_entry_eq]
  generalize (lg_sl ([.ref h0, .int p0, .int p1, .int p2]) ++ List.replicate (9 - (lg_sl ([.ref h0, .int p0, .int p1, .int p2])).length) Slot.unset).toArray = ls at hl ⊢
  have hl : lv_has ls 9 [(0, .ref h0), (1, .int p0), (2, .int p1), (3, .int p2)] := hl
  refine lv_aload_n hx hb d_Mo_read_0 rfl (lv_at hl 0 rfl) ?_
  refine lv_aload_n hx hb d_Mo_read_1 rfl (lv_at hl 0 rfl) ?_
  refine lv_iload_n hx hb d_Mo_read_2 rfl (lv_at hl 1 rfl) ?_
  refine px_go (va_runV (C := "TapeSealerModel") (As := [.int p0]) (rest := [.ref h0]) ⟨hx, hb, hml, hown, hts⟩ (p_Mo_look l dC dI h0 q ci p0) (cwV 1 hts (gx_goodV hw_1046 hw_1048 hw_32 hw_75 k_Mo_look) rfl rfl rfl (by decide +kernel) ⟨(Nat.le_of_ble_eq_true rfl), (Nat.le_of_ble_eq_true rfl)⟩) ⟨fun a U g mk q => by obtain ⟨q0, qP, qK⟩ := q; exact ⟨q0, qP, va_K.moved (u := U) (U := U.calling g mk a) (Vm.Alike.refl U.vm) qK⟩, va_recv hK hP rfl (q0 := 0) rfl, fun U hU hW => ⟨rfl, by rw [hU]; exact hP, va_K.moved hW.alike (hK)⟩⟩ rfl rfl hl.1 rfl (lv_room (Nat.le_of_ble_eq_true rfl)) d_Mo_read_3 ⟨(Nat.le_of_ble_eq_true rfl), (Nat.le_of_ble_eq_true rfl)⟩) ?_
  refine W.eq (g2 := F0 m 6 ls [.int 0, .ref h0]) rfl ?_
  refine lv_if_ne (tgt := 13) hx hb d_Mo_read_6 (by decide) (fun h9 => absurd (by decide) h9) (fun _ => ?_)
  refine lv_iconst (v := 1) hx hb d_Mo_read_9 (by decide) ?_
  refine lv_goto (tgt := 45) hx hb d_Mo_read_10 (by decide) ?_
  refine va_put (D := (dC, dI)) (ci := 9) (v := .int 1) (ty := .int) (C := RMo) (T := FMo) (N := 45) hx hb hB in_Mo tMo tMo_ok nMo hown hK hP hD hS 0 rfl rfl 0 (by decide) (hB _ hw_890) (fun _ h9 => h9) rfl (by decide +kernel) rfl rfl (Nat.le_of_ble_eq_true rfl) d_Mo_read_45 (fun H locs hP hD hS => ?_)
  have hP : va_P (dC, dI) gx_cl [(h0, .inr (9, [.int 1, .ref (q 1), .ref (q 2), .ref (q 3), .int 0, .int 0, .ref (q 6), .ref (q 7), .int 0, .int 0, .int 0, .ref (q 11), .int 0, .int 0, .int (-1), .int 0, .ref (q 16), .int 0, .ref (q 18), .ref (q 19), .ref (q 20), .int 0, .ref (q 22), .int 0, .ref (q 24), .ref (q 25), .ref (q 26), .ref (q 27), .ref (q 28), .int 0, .ref (q 30), .ref (q 31), .ref (q 32), .ref (q 33), .int 0, .int 0, .int 0, .int 0, .int 0, .int 0, .ref (q 40), .int 0, .ref (q 42), .ref (q 43), .ref (q 44)])), ((q 1), .inl ((ci 0), 2816, .inl (fun _ => 0))), ((q 2), .inl ((ci 1), 44, .inl (fun _ => 0))), ((q 3), .inl ((ci 2), 192, .inl (fun _ => 0))), ((q 7), .inl ((ci 3), 10, .inl (fun _ => 0)))] H := hP
  have hD : va_D A [(h0, .inr (9, [.int 1, .ref (q 1), .ref (q 2), .ref (q 3), .int 0, .int 0, .ref (q 6), .ref (q 7), .int 0, .int 0, .int 0, .ref (q 11), .int 0, .int 0, .int (-1), .int 0, .ref (q 16), .int 0, .ref (q 18), .ref (q 19), .ref (q 20), .int 0, .ref (q 22), .int 0, .ref (q 24), .ref (q 25), .ref (q 26), .ref (q 27), .ref (q 28), .int 0, .ref (q 30), .ref (q 31), .ref (q 32), .ref (q 33), .int 0, .int 0, .int 0, .int 0, .int 0, .int 0, .ref (q 40), .int 0, .ref (q 42), .ref (q 43), .ref (q 44)])), ((q 1), .inl ((ci 0), 2816, .inl (fun _ => 0))), ((q 2), .inl ((ci 1), 44, .inl (fun _ => 0))), ((q 3), .inl ((ci 2), 192, .inl (fun _ => 0))), ((q 7), .inl ((ci 3), 10, .inl (fun _ => 0)))] := hD
  refine lv_aload_n hx hb d_Mo_read_48 rfl (lv_at hl 0 rfl) ?_
  refine va_get (D := (dC, dI)) (ci := 9) (v := .int 1) (C := RMo) (T := FMo) (N := 45) hx hb hB in_Mo hown hK hP 0 rfl rfl 0 (by decide) (hB _ hw_890) (fun _ h9 => h9) rfl d_Mo_read_49 ?_
  refine lv_if_le (tgt := 57) hx hb d_Mo_read_52 (by decide) (fun h9 => absurd h9 (by decide)) (fun _ => ?_)
  refine lv_iconst (v := 0) hx hb d_Mo_read_55 (by decide) ?_
  have hP9 := hP.sub (ws' := [(h0, .inr (9, [.int 1, .ref (q 1), .ref (q 2), .ref (q 3), .int 0, .int 0, .ref (q 6), .ref (q 7), .int 0, .int 0, .int 0, .ref (q 11), .int 0, .int 0, .int (-1), .int 0, .ref (q 16), .int 0, .ref (q 18), .ref (q 19), .ref (q 20), .int 0, .ref (q 22), .int 0, .ref (q 24), .ref (q 25), .ref (q 26), .ref (q 27), .ref (q 28), .int 0, .ref (q 30), .ref (q 31), .ref (q 32), .ref (q 33), .int 0, .int 0, .int 0, .int 0, .int 0, .int 0, .ref (q 40), .int 0, .ref (q 42), .ref (q 43), .ref (q 44)]))]) [0] rfl
  have hD9 := hD.sub (ws' := [(h0, .inr (9, [.int 1, .ref (q 1), .ref (q 2), .ref (q 3), .int 0, .int 0, .ref (q 6), .ref (q 7), .int 0, .int 0, .int 0, .ref (q 11), .int 0, .int 0, .int (-1), .int 0, .ref (q 16), .int 0, .ref (q 18), .ref (q 19), .ref (q 20), .int 0, .ref (q 22), .int 0, .ref (q 24), .ref (q 25), .ref (q 26), .ref (q 27), .ref (q 28), .int 0, .ref (q 30), .ref (q 31), .ref (q 32), .ref (q 33), .int 0, .int 0, .int 0, .int 0, .int 0, .int 0, .ref (q 40), .int 0, .ref (q 42), .ref (q 43), .ref (q 44)]))]) [0] (by decide) rfl
  refine W.widen (k := 0) (n := 0) (Nat.le_of_ble_eq_true rfl) (Nat.le_of_ble_eq_true rfl) ?_
  exact W.iret (v := 0) hx hb hr (fun t ht hW => ⟨⟨0, (), rfl, rfl, [.ref (q 1), .ref (q 2), .ref (q 3), .int 0, .int 0, .ref (q 6), .ref (q 7), .int 0, .int 0, .int 0, .ref (q 11), .int 0, .int 0, .int (-1), .int 0, .ref (q 16), .int 0, .ref (q 18), .ref (q 19), .ref (q 20), .int 0, .ref (q 22), .int 0, .ref (q 24), .ref (q 25), .ref (q 26), .ref (q 27), .ref (q 28), .int 0, .ref (q 30), .ref (q 31), .ref (q 32), .ref (q 33), .int 0, .int 0, .int 0, .int 0, .int 0, .int 0, .ref (q 40), .int 0, .ref (q 42), .ref (q 43), .ref (q 44)], by rw [ht]; exact hP9, hD9⟩, hS.F ht⟩) hS.2.2 d_Mo_read_56
set_option maxHeartbeats 4000000 in
set_option maxRecDepth 100000 in
theorem m_Mo_output (l : Launch) (dC : Nat → ClassId) (dI : Nat → Nat → Nat) (sz : Nat) (h0 : Nat) (q : Nat → Nat) (ci : Nat → ClassId) (p0 : Int32) : Met l y_Mo_output w_Mo_output ({ frames := 0, cells := 0, slots := 0, locals := 0 }) (va_Pc [.ref h0, .int p0] (fun U => U.heap.size = sz ∧ va_P (dC, dI) gx_cl (wMo h0 q ci) U.heap ∧ va_K (dC, dI) gx_cl (kMo ci) U ∧ va_D (fun _ => True) (wMo h0 q ci))) (va_Qi (fun (r : Int32) (_ : Unit) => r = 0) (fun _ t => ∃ fs : List Value, va_P (dC, dI) gx_cl [(h0, .inr (9, .int 1 :: fs))] t.heap ∧ va_D (va_A (wMo h0 q ci) sz) [(h0, .inr (9, .int 1 :: fs))]) (va_A (wMo h0 q ci) sz)) 0 0 (va_A (wMo h0 q ci) sz) := by
  refine Met.ofW (cc := b_Mo_output) (maxL := 2) (ret := (some .int)) (by decide) rfl ?_
  intro p e s m args below meth c s₁ B hml hv
  obtain ⟨rfl, hsz, hP, hK, hD0⟩ := hv
  have hx := B.exec
  have hb := B.bytes
  have hr := B.returns
  have hts := atoms_spec (ws := w_Mo_output) B.pre
  have hB : ∀ w ∈ gx_B, w.before _ s = true := fun w h => hts w (List.mem_cons_of_mem _ h)
  have hown : s.vm.findClass "TapeSealerModel" = some m.cls := findClass_of_methodNamed B.named
  have hlocks := B.notSynchronized
  subst hsz
  have hD := hD0.self (sz := s.heap.size)
  generalize hAe : va_A (wMo h0 q ci) s.heap.size = A at hD ⊢
  have hA : ∀ q : Nat, s.heap.size ≤ q → A q := fun q h => by rw [← hAe]; exact Or.inr h
  have hS : va_S A s.heap s.heap [] := va_S.rf
  have hl := lv_entry ([.ref h0, .int p0]) (n := 2) (Nat.le_of_ble_eq_true rfl)
  rw [lg_entry_eq]
  generalize (lg_sl ([.ref h0, .int p0]) ++ List.replicate (2 - (lg_sl ([.ref h0, .int p0])).length) Slot.unset).toArray = ls at hl ⊢
  have hl : lv_has ls 2 [(0, .ref h0), (1, .int p0)] := hl
  by_cases hi : p0 < 0
  · refine lv_aload_n hx hb d_Mo_output_0 rfl (lv_at hl 0 rfl) ?_
    refine lv_iload_n hx hb d_Mo_output_1 rfl (lv_at hl 1 rfl) ?_
    refine lv_if_lt (tgt := 13) hx hb d_Mo_output_2 (by decide) (fun _ => ?_) (fun h9 => absurd hi h9)
    refine lv_iconst (v := 1) hx hb d_Mo_output_13 (by decide) ?_
    refine lv_goto (tgt := 18) hx hb d_Mo_output_14 (by decide) ?_
    refine va_put (D := (dC, dI)) (ci := 9) (v := .int 1) (ty := .int) (C := RMo) (T := FMo) (N := 45) hx hb hB in_Mo tMo tMo_ok nMo hown hK hP hD hS 0 rfl rfl 0 (by decide) (hB _ hw_890) (fun _ h9 => h9) rfl (by decide +kernel) rfl rfl (Nat.le_of_ble_eq_true rfl) d_Mo_output_18 (fun H locs hP hD hS => ?_)
    have hP : va_P (dC, dI) gx_cl [(h0, .inr (9, [.int 1, .ref (q 1), .ref (q 2), .ref (q 3), .int 0, .int 0, .ref (q 6), .ref (q 7), .int 0, .int 0, .int 0, .ref (q 11), .int 0, .int 0, .int (-1), .int 0, .ref (q 16), .int 0, .ref (q 18), .ref (q 19), .ref (q 20), .int 0, .ref (q 22), .int 0, .ref (q 24), .ref (q 25), .ref (q 26), .ref (q 27), .ref (q 28), .int 0, .ref (q 30), .ref (q 31), .ref (q 32), .ref (q 33), .int 0, .int 0, .int 0, .int 0, .int 0, .int 0, .ref (q 40), .int 0, .ref (q 42), .ref (q 43), .ref (q 44)])), ((q 1), .inl ((ci 0), 2816, .inl (fun _ => 0))), ((q 2), .inl ((ci 1), 44, .inl (fun _ => 0))), ((q 3), .inl ((ci 2), 192, .inl (fun _ => 0))), ((q 7), .inl ((ci 3), 10, .inl (fun _ => 0)))] H := hP
    have hD : va_D A [(h0, .inr (9, [.int 1, .ref (q 1), .ref (q 2), .ref (q 3), .int 0, .int 0, .ref (q 6), .ref (q 7), .int 0, .int 0, .int 0, .ref (q 11), .int 0, .int 0, .int (-1), .int 0, .ref (q 16), .int 0, .ref (q 18), .ref (q 19), .ref (q 20), .int 0, .ref (q 22), .int 0, .ref (q 24), .ref (q 25), .ref (q 26), .ref (q 27), .ref (q 28), .int 0, .ref (q 30), .ref (q 31), .ref (q 32), .ref (q 33), .int 0, .int 0, .int 0, .int 0, .int 0, .int 0, .ref (q 40), .int 0, .ref (q 42), .ref (q 43), .ref (q 44)])), ((q 1), .inl ((ci 0), 2816, .inl (fun _ => 0))), ((q 2), .inl ((ci 1), 44, .inl (fun _ => 0))), ((q 3), .inl ((ci 2), 192, .inl (fun _ => 0))), ((q 7), .inl ((ci 3), 10, .inl (fun _ => 0)))] := hD
    refine lv_aload_n hx hb d_Mo_output_21 rfl (lv_at hl 0 rfl) ?_
    refine va_get (D := (dC, dI)) (ci := 9) (v := .int 1) (C := RMo) (T := FMo) (N := 45) hx hb hB in_Mo hown hK hP 0 rfl rfl 0 (by decide) (hB _ hw_890) (fun _ h9 => h9) rfl d_Mo_output_22 ?_
    refine lv_if_le (tgt := 32) hx hb d_Mo_output_25 (by decide) (fun h9 => absurd h9 (by decide)) (fun _ => ?_)
    refine lv_iconst (v := 0) hx hb d_Mo_output_28 (by decide) ?_
    refine lv_goto (tgt := 38) hx hb d_Mo_output_29 (by decide) ?_
    have hP9 := hP.sub (ws' := [(h0, .inr (9, [.int 1, .ref (q 1), .ref (q 2), .ref (q 3), .int 0, .int 0, .ref (q 6), .ref (q 7), .int 0, .int 0, .int 0, .ref (q 11), .int 0, .int 0, .int (-1), .int 0, .ref (q 16), .int 0, .ref (q 18), .ref (q 19), .ref (q 20), .int 0, .ref (q 22), .int 0, .ref (q 24), .ref (q 25), .ref (q 26), .ref (q 27), .ref (q 28), .int 0, .ref (q 30), .ref (q 31), .ref (q 32), .ref (q 33), .int 0, .int 0, .int 0, .int 0, .int 0, .int 0, .ref (q 40), .int 0, .ref (q 42), .ref (q 43), .ref (q 44)]))]) [0] rfl
    have hD9 := hD.sub (ws' := [(h0, .inr (9, [.int 1, .ref (q 1), .ref (q 2), .ref (q 3), .int 0, .int 0, .ref (q 6), .ref (q 7), .int 0, .int 0, .int 0, .ref (q 11), .int 0, .int 0, .int (-1), .int 0, .ref (q 16), .int 0, .ref (q 18), .ref (q 19), .ref (q 20), .int 0, .ref (q 22), .int 0, .ref (q 24), .ref (q 25), .ref (q 26), .ref (q 27), .ref (q 28), .int 0, .ref (q 30), .ref (q 31), .ref (q 32), .ref (q 33), .int 0, .int 0, .int 0, .int 0, .int 0, .int 0, .ref (q 40), .int 0, .ref (q 42), .ref (q 43), .ref (q 44)]))]) [0] (by decide) rfl
    refine W.widen (k := 0) (n := 0) (Nat.le_of_ble_eq_true rfl) (Nat.le_of_ble_eq_true rfl) ?_
    exact W.iret (v := 0) hx hb hr (fun t ht hW => ⟨⟨0, (), rfl, rfl, [.ref (q 1), .ref (q 2), .ref (q 3), .int 0, .int 0, .ref (q 6), .ref (q 7), .int 0, .int 0, .int 0, .ref (q 11), .int 0, .int 0, .int (-1), .int 0, .ref (q 16), .int 0, .ref (q 18), .ref (q 19), .ref (q 20), .int 0, .ref (q 22), .int 0, .ref (q 24), .ref (q 25), .ref (q 26), .ref (q 27), .ref (q 28), .int 0, .ref (q 30), .ref (q 31), .ref (q 32), .ref (q 33), .int 0, .int 0, .int 0, .int 0, .int 0, .int 0, .ref (q 40), .int 0, .ref (q 42), .ref (q 43), .ref (q 44)], by rw [ht]; exact hP9, hD9⟩, hS.F ht⟩) hS.2.2 d_Mo_output_38
  · refine lv_aload_n hx hb d_Mo_output_0 rfl (lv_at hl 0 rfl) ?_
    refine lv_iload_n hx hb d_Mo_output_1 rfl (lv_at hl 1 rfl) ?_
    refine lv_if_lt (tgt := 13) hx hb d_Mo_output_2 (by decide) (fun h9 => absurd h9 hi) (fun _ => ?_)
    refine lv_iload_n hx hb d_Mo_output_5 rfl (lv_at hl 1 rfl) ?_
    refine lv_aload_n hx hb d_Mo_output_6 rfl (lv_at hl 0 rfl) ?_
    refine va_get (D := (dC, dI)) (ci := 9) (v := .int 0) (C := RMo) (T := FMo) (N := 45) hx hb hB in_Mo hown hK hP 0 rfl rfl 17 (by decide) (hB _ hw_907) (fun _ h9 => h9) rfl d_Mo_output_7 ?_
    refine lv_icmp_lt (tgt := 17) hx hb d_Mo_output_10 (by decide) (fun h9 => absurd h9 hi) (fun _ => ?_)
    refine lv_iconst (v := 1) hx hb d_Mo_output_13 (by decide) ?_
    refine lv_goto (tgt := 18) hx hb d_Mo_output_14 (by decide) ?_
    refine va_put (D := (dC, dI)) (ci := 9) (v := .int 1) (ty := .int) (C := RMo) (T := FMo) (N := 45) hx hb hB in_Mo tMo tMo_ok nMo hown hK hP hD hS 0 rfl rfl 0 (by decide) (hB _ hw_890) (fun _ h9 => h9) rfl (by decide +kernel) rfl rfl (Nat.le_of_ble_eq_true rfl) d_Mo_output_18 (fun H locs hP hD hS => ?_)
    have hP : va_P (dC, dI) gx_cl [(h0, .inr (9, [.int 1, .ref (q 1), .ref (q 2), .ref (q 3), .int 0, .int 0, .ref (q 6), .ref (q 7), .int 0, .int 0, .int 0, .ref (q 11), .int 0, .int 0, .int (-1), .int 0, .ref (q 16), .int 0, .ref (q 18), .ref (q 19), .ref (q 20), .int 0, .ref (q 22), .int 0, .ref (q 24), .ref (q 25), .ref (q 26), .ref (q 27), .ref (q 28), .int 0, .ref (q 30), .ref (q 31), .ref (q 32), .ref (q 33), .int 0, .int 0, .int 0, .int 0, .int 0, .int 0, .ref (q 40), .int 0, .ref (q 42), .ref (q 43), .ref (q 44)])), ((q 1), .inl ((ci 0), 2816, .inl (fun _ => 0))), ((q 2), .inl ((ci 1), 44, .inl (fun _ => 0))), ((q 3), .inl ((ci 2), 192, .inl (fun _ => 0))), ((q 7), .inl ((ci 3), 10, .inl (fun _ => 0)))] H := hP
    have hD : va_D A [(h0, .inr (9, [.int 1, .ref (q 1), .ref (q 2), .ref (q 3), .int 0, .int 0, .ref (q 6), .ref (q 7), .int 0, .int 0, .int 0, .ref (q 11), .int 0, .int 0, .int (-1), .int 0, .ref (q 16), .int 0, .ref (q 18), .ref (q 19), .ref (q 20), .int 0, .ref (q 22), .int 0, .ref (q 24), .ref (q 25), .ref (q 26), .ref (q 27), .ref (q 28), .int 0, .ref (q 30), .ref (q 31), .ref (q 32), .ref (q 33), .int 0, .int 0, .int 0, .int 0, .int 0, .int 0, .ref (q 40), .int 0, .ref (q 42), .ref (q 43), .ref (q 44)])), ((q 1), .inl ((ci 0), 2816, .inl (fun _ => 0))), ((q 2), .inl ((ci 1), 44, .inl (fun _ => 0))), ((q 3), .inl ((ci 2), 192, .inl (fun _ => 0))), ((q 7), .inl ((ci 3), 10, .inl (fun _ => 0)))] := hD
    refine lv_aload_n hx hb d_Mo_output_21 rfl (lv_at hl 0 rfl) ?_
    refine va_get (D := (dC, dI)) (ci := 9) (v := .int 1) (C := RMo) (T := FMo) (N := 45) hx hb hB in_Mo hown hK hP 0 rfl rfl 0 (by decide) (hB _ hw_890) (fun _ h9 => h9) rfl d_Mo_output_22 ?_
    refine lv_if_le (tgt := 32) hx hb d_Mo_output_25 (by decide) (fun h9 => absurd h9 (by decide)) (fun _ => ?_)
    refine lv_iconst (v := 0) hx hb d_Mo_output_28 (by decide) ?_
    refine lv_goto (tgt := 38) hx hb d_Mo_output_29 (by decide) ?_
    have hP9 := hP.sub (ws' := [(h0, .inr (9, [.int 1, .ref (q 1), .ref (q 2), .ref (q 3), .int 0, .int 0, .ref (q 6), .ref (q 7), .int 0, .int 0, .int 0, .ref (q 11), .int 0, .int 0, .int (-1), .int 0, .ref (q 16), .int 0, .ref (q 18), .ref (q 19), .ref (q 20), .int 0, .ref (q 22), .int 0, .ref (q 24), .ref (q 25), .ref (q 26), .ref (q 27), .ref (q 28), .int 0, .ref (q 30), .ref (q 31), .ref (q 32), .ref (q 33), .int 0, .int 0, .int 0, .int 0, .int 0, .int 0, .ref (q 40), .int 0, .ref (q 42), .ref (q 43), .ref (q 44)]))]) [0] rfl
    have hD9 := hD.sub (ws' := [(h0, .inr (9, [.int 1, .ref (q 1), .ref (q 2), .ref (q 3), .int 0, .int 0, .ref (q 6), .ref (q 7), .int 0, .int 0, .int 0, .ref (q 11), .int 0, .int 0, .int (-1), .int 0, .ref (q 16), .int 0, .ref (q 18), .ref (q 19), .ref (q 20), .int 0, .ref (q 22), .int 0, .ref (q 24), .ref (q 25), .ref (q 26), .ref (q 27), .ref (q 28), .int 0, .ref (q 30), .ref (q 31), .ref (q 32), .ref (q 33), .int 0, .int 0, .int 0, .int 0, .int 0, .int 0, .ref (q 40), .int 0, .ref (q 42), .ref (q 43), .ref (q 44)]))]) [0] (by decide) rfl
    refine W.widen (k := 0) (n := 0) (Nat.le_of_ble_eq_true rfl) (Nat.le_of_ble_eq_true rfl) ?_
    exact W.iret (v := 0) hx hb hr (fun t ht hW => ⟨⟨0, (), rfl, rfl, [.ref (q 1), .ref (q 2), .ref (q 3), .int 0, .int 0, .ref (q 6), .ref (q 7), .int 0, .int 0, .int 0, .ref (q 11), .int 0, .int 0, .int (-1), .int 0, .ref (q 16), .int 0, .ref (q 18), .ref (q 19), .ref (q 20), .int 0, .ref (q 22), .int 0, .ref (q 24), .ref (q 25), .ref (q 26), .ref (q 27), .ref (q 28), .int 0, .ref (q 30), .ref (q 31), .ref (q 32), .ref (q 33), .int 0, .int 0, .int 0, .int 0, .int 0, .int 0, .ref (q 40), .int 0, .ref (q 42), .ref (q 43), .ref (q 44)], by rw [ht]; exact hP9, hD9⟩, hS.F ht⟩) hS.2.2 d_Mo_output_38
set_option maxHeartbeats 4000000 in
set_option maxRecDepth 100000 in
theorem m_Mo_verify (l : Launch) (dC : Nat → ClassId) (dI : Nat → Nat → Nat) (sz : Nat) (h0 : Nat) (q : Nat → Nat) (ci : Nat → ClassId) (p0 : Int32) : Met l y_Mo_verify w_Mo_verify ({ frames := 2, cells := 0, slots := 0, locals := 46 }) (va_Pc [.ref h0, .int p0] (fun U => U.heap.size = sz ∧ va_P (dC, dI) gx_cl (wMo h0 q ci) U.heap ∧ va_K (dC, dI) gx_cl (kMo ci) U ∧ va_D (fun _ => True) (wMo h0 q ci))) (va_Qi (fun (r : Int32) (_ : Unit) => r = 0) (fun _ t => ∃ fs : List Value, va_P (dC, dI) gx_cl [(h0, .inr (9, .int 1 :: fs))] t.heap ∧ va_D (va_A (wMo h0 q ci) sz) [(h0, .inr (9, .int 1 :: fs))]) (va_A (wMo h0 q ci) sz)) 0 0 (va_A (wMo h0 q ci) sz) := by
  refine Met.ofW (cc := b_Mo_verify) (maxL := 3) (ret := (some .int)) (by decide) rfl ?_
  intro p e s m args below meth c s₁ B hml hv
  obtain ⟨rfl, hsz, hP, hK, hD0⟩ := hv
  have hx := B.exec
  have hb := B.bytes
  have hr := B.returns
  have hts := atoms_spec (ws := w_Mo_verify) B.pre
  have hB : ∀ w ∈ gx_B, w.before _ s = true := fun w h => hts w (List.mem_cons_of_mem _ h)
  have hown : s.vm.findClass "TapeSealerModel" = some m.cls := findClass_of_methodNamed B.named
  have hlocks := B.notSynchronized
  subst hsz
  have hD := hD0.self (sz := s.heap.size)
  generalize hAe : va_A (wMo h0 q ci) s.heap.size = A at hD ⊢
  have hA : ∀ q : Nat, s.heap.size ≤ q → A q := fun q h => by rw [← hAe]; exact Or.inr h
  have hS : va_S A s.heap s.heap [] := va_S.rf
  have hl := lv_entry ([.ref h0, .int p0]) (n := 3) (Nat.le_of_ble_eq_true rfl)
  rw [lg_entry_eq]
  generalize (lg_sl ([.ref h0, .int p0]) ++ List.replicate (3 - (lg_sl ([.ref h0, .int p0])).length) Slot.unset).toArray = ls at hl ⊢
  have hl : lv_has ls 3 [(0, .ref h0), (1, .int p0)] := hl
  refine lv_aload_n hx hb d_Mo_verify_0 rfl (lv_at hl 0 rfl) ?_
  refine lv_aload_n hx hb d_Mo_verify_1 rfl (lv_at hl 0 rfl) ?_
  refine lv_iload_n hx hb d_Mo_verify_2 rfl (lv_at hl 1 rfl) ?_
  refine px_go (va_runV (C := "TapeSealerModel") (As := [.int p0]) (rest := [.ref h0]) ⟨hx, hb, hml, hown, hts⟩ (p_Mo_look l dC dI h0 q ci p0) (cwV 1 hts (gx_goodV hw_1046 hw_1048 hw_32 hw_75 k_Mo_look) rfl rfl rfl (by decide +kernel) ⟨(Nat.le_of_ble_eq_true rfl), (Nat.le_of_ble_eq_true rfl)⟩) ⟨fun a U g mk q => by obtain ⟨q0, qP, qK⟩ := q; exact ⟨q0, qP, va_K.moved (u := U) (U := U.calling g mk a) (Vm.Alike.refl U.vm) qK⟩, va_recv hK hP rfl (q0 := 0) rfl, fun U hU hW => ⟨rfl, by rw [hU]; exact hP, va_K.moved hW.alike (hK)⟩⟩ rfl rfl hl.1 rfl (lv_room (Nat.le_of_ble_eq_true rfl)) d_Mo_verify_3 ⟨(Nat.le_of_ble_eq_true rfl), (Nat.le_of_ble_eq_true rfl)⟩) ?_
  refine W.eq (g2 := F0 m 6 ls [.int 0, .ref h0]) rfl ?_
  refine lv_if_eq (tgt := 13) hx hb d_Mo_verify_6 (by decide) (fun _ => ?_) (fun h9 => absurd (by decide) h9)
  refine lv_iconst (v := 1) hx hb d_Mo_verify_13 (by decide) ?_
  refine va_put (D := (dC, dI)) (ci := 9) (v := .int 1) (ty := .int) (C := RMo) (T := FMo) (N := 45) hx hb hB in_Mo tMo tMo_ok nMo hown hK hP hD hS 0 rfl rfl 0 (by decide) (hB _ hw_890) (fun _ h9 => h9) rfl (by decide +kernel) rfl rfl (Nat.le_of_ble_eq_true rfl) d_Mo_verify_14 (fun H locs hP hD hS => ?_)
  have hP : va_P (dC, dI) gx_cl [(h0, .inr (9, [.int 1, .ref (q 1), .ref (q 2), .ref (q 3), .int 0, .int 0, .ref (q 6), .ref (q 7), .int 0, .int 0, .int 0, .ref (q 11), .int 0, .int 0, .int (-1), .int 0, .ref (q 16), .int 0, .ref (q 18), .ref (q 19), .ref (q 20), .int 0, .ref (q 22), .int 0, .ref (q 24), .ref (q 25), .ref (q 26), .ref (q 27), .ref (q 28), .int 0, .ref (q 30), .ref (q 31), .ref (q 32), .ref (q 33), .int 0, .int 0, .int 0, .int 0, .int 0, .int 0, .ref (q 40), .int 0, .ref (q 42), .ref (q 43), .ref (q 44)])), ((q 1), .inl ((ci 0), 2816, .inl (fun _ => 0))), ((q 2), .inl ((ci 1), 44, .inl (fun _ => 0))), ((q 3), .inl ((ci 2), 192, .inl (fun _ => 0))), ((q 7), .inl ((ci 3), 10, .inl (fun _ => 0)))] H := hP
  have hD : va_D A [(h0, .inr (9, [.int 1, .ref (q 1), .ref (q 2), .ref (q 3), .int 0, .int 0, .ref (q 6), .ref (q 7), .int 0, .int 0, .int 0, .ref (q 11), .int 0, .int 0, .int (-1), .int 0, .ref (q 16), .int 0, .ref (q 18), .ref (q 19), .ref (q 20), .int 0, .ref (q 22), .int 0, .ref (q 24), .ref (q 25), .ref (q 26), .ref (q 27), .ref (q 28), .int 0, .ref (q 30), .ref (q 31), .ref (q 32), .ref (q 33), .int 0, .int 0, .int 0, .int 0, .int 0, .int 0, .ref (q 40), .int 0, .ref (q 42), .ref (q 43), .ref (q 44)])), ((q 1), .inl ((ci 0), 2816, .inl (fun _ => 0))), ((q 2), .inl ((ci 1), 44, .inl (fun _ => 0))), ((q 3), .inl ((ci 2), 192, .inl (fun _ => 0))), ((q 7), .inl ((ci 3), 10, .inl (fun _ => 0)))] := hD
  refine lv_aload_n hx hb d_Mo_verify_17 rfl (lv_at hl 0 rfl) ?_
  refine va_get (D := (dC, dI)) (ci := 9) (v := .int 1) (C := RMo) (T := FMo) (N := 45) hx hb hB in_Mo hown hK hP 0 rfl rfl 0 (by decide) (hB _ hw_890) (fun _ h9 => h9) rfl d_Mo_verify_18 ?_
  refine lv_if_le (tgt := 26) hx hb d_Mo_verify_21 (by decide) (fun h9 => absurd h9 (by decide)) (fun _ => ?_)
  refine lv_iconst (v := 0) hx hb d_Mo_verify_24 (by decide) ?_
  have hP9 := hP.sub (ws' := [(h0, .inr (9, [.int 1, .ref (q 1), .ref (q 2), .ref (q 3), .int 0, .int 0, .ref (q 6), .ref (q 7), .int 0, .int 0, .int 0, .ref (q 11), .int 0, .int 0, .int (-1), .int 0, .ref (q 16), .int 0, .ref (q 18), .ref (q 19), .ref (q 20), .int 0, .ref (q 22), .int 0, .ref (q 24), .ref (q 25), .ref (q 26), .ref (q 27), .ref (q 28), .int 0, .ref (q 30), .ref (q 31), .ref (q 32), .ref (q 33), .int 0, .int 0, .int 0, .int 0, .int 0, .int 0, .ref (q 40), .int 0, .ref (q 42), .ref (q 43), .ref (q 44)]))]) [0] rfl
  have hD9 := hD.sub (ws' := [(h0, .inr (9, [.int 1, .ref (q 1), .ref (q 2), .ref (q 3), .int 0, .int 0, .ref (q 6), .ref (q 7), .int 0, .int 0, .int 0, .ref (q 11), .int 0, .int 0, .int (-1), .int 0, .ref (q 16), .int 0, .ref (q 18), .ref (q 19), .ref (q 20), .int 0, .ref (q 22), .int 0, .ref (q 24), .ref (q 25), .ref (q 26), .ref (q 27), .ref (q 28), .int 0, .ref (q 30), .ref (q 31), .ref (q 32), .ref (q 33), .int 0, .int 0, .int 0, .int 0, .int 0, .int 0, .ref (q 40), .int 0, .ref (q 42), .ref (q 43), .ref (q 44)]))]) [0] (by decide) rfl
  refine W.widen (k := 0) (n := 0) (Nat.le_of_ble_eq_true rfl) (Nat.le_of_ble_eq_true rfl) ?_
  exact W.iret (v := 0) hx hb hr (fun t ht hW => ⟨⟨0, (), rfl, rfl, [.ref (q 1), .ref (q 2), .ref (q 3), .int 0, .int 0, .ref (q 6), .ref (q 7), .int 0, .int 0, .int 0, .ref (q 11), .int 0, .int 0, .int (-1), .int 0, .ref (q 16), .int 0, .ref (q 18), .ref (q 19), .ref (q 20), .int 0, .ref (q 22), .int 0, .ref (q 24), .ref (q 25), .ref (q 26), .ref (q 27), .ref (q 28), .int 0, .ref (q 30), .ref (q 31), .ref (q 32), .ref (q 33), .int 0, .int 0, .int 0, .int 0, .int 0, .int 0, .ref (q 40), .int 0, .ref (q 42), .ref (q 43), .ref (q 44)], by rw [ht]; exact hP9, hD9⟩, hS.F ht⟩) hS.2.2 d_Mo_verify_25
set_option maxHeartbeats 4000000 in
set_option maxRecDepth 100000 in
theorem m_Mo_rewrap (l : Launch) (dC : Nat → ClassId) (dI : Nat → Nat → Nat) (sz : Nat) (h0 : Nat) (q : Nat → Nat) (ci : Nat → ClassId) (p0 : Int32) : Met l y_Mo_rewrap w_Mo_rewrap ({ frames := 2, cells := 0, slots := 0, locals := 46 }) (va_Pc [.ref h0, .int p0] (fun U => U.heap.size = sz ∧ va_P (dC, dI) gx_cl (wMo h0 q ci) U.heap ∧ va_K (dC, dI) gx_cl (kMo ci) U ∧ va_D (fun _ => True) (wMo h0 q ci))) (va_Qi (fun (r : Int32) (_ : Unit) => r = 0) (fun _ t => ∃ fs : List Value, va_P (dC, dI) gx_cl [(h0, .inr (9, .int 1 :: fs))] t.heap ∧ va_D (va_A (wMo h0 q ci) sz) [(h0, .inr (9, .int 1 :: fs))]) (va_A (wMo h0 q ci) sz)) 0 0 (va_A (wMo h0 q ci) sz) := by
  refine Met.ofW (cc := b_Mo_rewrap) (maxL := 2) (ret := (some .boolean)) (by decide) rfl ?_
  intro p e s m args below meth c s₁ B hml hv
  obtain ⟨rfl, hsz, hP, hK, hD0⟩ := hv
  have hx := B.exec
  have hb := B.bytes
  have hr := B.returns
  have hts := atoms_spec (ws := w_Mo_rewrap) B.pre
  have hB : ∀ w ∈ gx_B, w.before _ s = true := fun w h => hts w (List.mem_cons_of_mem _ h)
  have hown : s.vm.findClass "TapeSealerModel" = some m.cls := findClass_of_methodNamed B.named
  have hlocks := B.notSynchronized
  subst hsz
  have hD := hD0.self (sz := s.heap.size)
  generalize hAe : va_A (wMo h0 q ci) s.heap.size = A at hD ⊢
  have hA : ∀ q : Nat, s.heap.size ≤ q → A q := fun q h => by rw [← hAe]; exact Or.inr h
  have hS : va_S A s.heap s.heap [] := va_S.rf
  have hl := lv_entry ([.ref h0, .int p0]) (n := 2) (Nat.le_of_ble_eq_true rfl)
  rw [lg_entry_eq]
  generalize (lg_sl ([.ref h0, .int p0]) ++ List.replicate (2 - (lg_sl ([.ref h0, .int p0])).length) Slot.unset).toArray = ls at hl ⊢
  have hl : lv_has ls 2 [(0, .ref h0), (1, .int p0)] := hl
  refine lv_aload_n hx hb d_Mo_rewrap_0 rfl (lv_at hl 0 rfl) ?_
  refine lv_aload_n hx hb d_Mo_rewrap_1 rfl (lv_at hl 0 rfl) ?_
  refine lv_iload_n hx hb d_Mo_rewrap_2 rfl (lv_at hl 1 rfl) ?_
  refine px_go (va_runV (C := "TapeSealerModel") (As := [.int p0]) (rest := [.ref h0]) ⟨hx, hb, hml, hown, hts⟩ (p_Mo_look l dC dI h0 q ci p0) (cwV 1 hts (gx_goodV hw_1046 hw_1048 hw_32 hw_75 k_Mo_look) rfl rfl rfl (by decide +kernel) ⟨(Nat.le_of_ble_eq_true rfl), (Nat.le_of_ble_eq_true rfl)⟩) ⟨fun a U g mk q => by obtain ⟨q0, qP, qK⟩ := q; exact ⟨q0, qP, va_K.moved (u := U) (U := U.calling g mk a) (Vm.Alike.refl U.vm) qK⟩, va_recv hK hP rfl (q0 := 0) rfl, fun U hU hW => ⟨rfl, by rw [hU]; exact hP, va_K.moved hW.alike (hK)⟩⟩ rfl rfl hl.1 rfl (lv_room (Nat.le_of_ble_eq_true rfl)) d_Mo_rewrap_3 ⟨(Nat.le_of_ble_eq_true rfl), (Nat.le_of_ble_eq_true rfl)⟩) ?_
  refine W.eq (g2 := F0 m 6 ls [.int 0, .ref h0]) rfl ?_
  refine lv_if_ne (tgt := 13) hx hb d_Mo_rewrap_6 (by decide) (fun h9 => absurd (by decide) h9) (fun _ => ?_)
  refine lv_iconst (v := 1) hx hb d_Mo_rewrap_9 (by decide) ?_
  refine lv_goto (tgt := 25) hx hb d_Mo_rewrap_10 (by decide) ?_
  refine va_put (D := (dC, dI)) (ci := 9) (v := .int 1) (ty := .int) (C := RMo) (T := FMo) (N := 45) hx hb hB in_Mo tMo tMo_ok nMo hown hK hP hD hS 0 rfl rfl 0 (by decide) (hB _ hw_890) (fun _ h9 => h9) rfl (by decide +kernel) rfl rfl (Nat.le_of_ble_eq_true rfl) d_Mo_rewrap_25 (fun H locs hP hD hS => ?_)
  have hP : va_P (dC, dI) gx_cl [(h0, .inr (9, [.int 1, .ref (q 1), .ref (q 2), .ref (q 3), .int 0, .int 0, .ref (q 6), .ref (q 7), .int 0, .int 0, .int 0, .ref (q 11), .int 0, .int 0, .int (-1), .int 0, .ref (q 16), .int 0, .ref (q 18), .ref (q 19), .ref (q 20), .int 0, .ref (q 22), .int 0, .ref (q 24), .ref (q 25), .ref (q 26), .ref (q 27), .ref (q 28), .int 0, .ref (q 30), .ref (q 31), .ref (q 32), .ref (q 33), .int 0, .int 0, .int 0, .int 0, .int 0, .int 0, .ref (q 40), .int 0, .ref (q 42), .ref (q 43), .ref (q 44)])), ((q 1), .inl ((ci 0), 2816, .inl (fun _ => 0))), ((q 2), .inl ((ci 1), 44, .inl (fun _ => 0))), ((q 3), .inl ((ci 2), 192, .inl (fun _ => 0))), ((q 7), .inl ((ci 3), 10, .inl (fun _ => 0)))] H := hP
  have hD : va_D A [(h0, .inr (9, [.int 1, .ref (q 1), .ref (q 2), .ref (q 3), .int 0, .int 0, .ref (q 6), .ref (q 7), .int 0, .int 0, .int 0, .ref (q 11), .int 0, .int 0, .int (-1), .int 0, .ref (q 16), .int 0, .ref (q 18), .ref (q 19), .ref (q 20), .int 0, .ref (q 22), .int 0, .ref (q 24), .ref (q 25), .ref (q 26), .ref (q 27), .ref (q 28), .int 0, .ref (q 30), .ref (q 31), .ref (q 32), .ref (q 33), .int 0, .int 0, .int 0, .int 0, .int 0, .int 0, .ref (q 40), .int 0, .ref (q 42), .ref (q 43), .ref (q 44)])), ((q 1), .inl ((ci 0), 2816, .inl (fun _ => 0))), ((q 2), .inl ((ci 1), 44, .inl (fun _ => 0))), ((q 3), .inl ((ci 2), 192, .inl (fun _ => 0))), ((q 7), .inl ((ci 3), 10, .inl (fun _ => 0)))] := hD
  refine lv_aload_n hx hb d_Mo_rewrap_28 rfl (lv_at hl 0 rfl) ?_
  refine va_get (D := (dC, dI)) (ci := 9) (v := .int 1) (C := RMo) (T := FMo) (N := 45) hx hb hB in_Mo hown hK hP 0 rfl rfl 0 (by decide) (hB _ hw_890) (fun _ h9 => h9) rfl d_Mo_rewrap_29 ?_
  refine lv_if_gt (tgt := 46) hx hb d_Mo_rewrap_32 (by decide) (fun _ => ?_) (fun h9 => absurd (by decide) h9)
  refine lv_iconst (v := 0) hx hb d_Mo_rewrap_46 (by decide) ?_
  have hP9 := hP.sub (ws' := [(h0, .inr (9, [.int 1, .ref (q 1), .ref (q 2), .ref (q 3), .int 0, .int 0, .ref (q 6), .ref (q 7), .int 0, .int 0, .int 0, .ref (q 11), .int 0, .int 0, .int (-1), .int 0, .ref (q 16), .int 0, .ref (q 18), .ref (q 19), .ref (q 20), .int 0, .ref (q 22), .int 0, .ref (q 24), .ref (q 25), .ref (q 26), .ref (q 27), .ref (q 28), .int 0, .ref (q 30), .ref (q 31), .ref (q 32), .ref (q 33), .int 0, .int 0, .int 0, .int 0, .int 0, .int 0, .ref (q 40), .int 0, .ref (q 42), .ref (q 43), .ref (q 44)]))]) [0] rfl
  have hD9 := hD.sub (ws' := [(h0, .inr (9, [.int 1, .ref (q 1), .ref (q 2), .ref (q 3), .int 0, .int 0, .ref (q 6), .ref (q 7), .int 0, .int 0, .int 0, .ref (q 11), .int 0, .int 0, .int (-1), .int 0, .ref (q 16), .int 0, .ref (q 18), .ref (q 19), .ref (q 20), .int 0, .ref (q 22), .int 0, .ref (q 24), .ref (q 25), .ref (q 26), .ref (q 27), .ref (q 28), .int 0, .ref (q 30), .ref (q 31), .ref (q 32), .ref (q 33), .int 0, .int 0, .int 0, .int 0, .int 0, .int 0, .ref (q 40), .int 0, .ref (q 42), .ref (q 43), .ref (q 44)]))]) [0] (by decide) rfl
  refine W.widen (k := 0) (n := 0) (Nat.le_of_ble_eq_true rfl) (Nat.le_of_ble_eq_true rfl) ?_
  exact W.zret (v := 0) hx hb hr rfl (fun t ht hW => ⟨⟨0, (), rfl, rfl, [.ref (q 1), .ref (q 2), .ref (q 3), .int 0, .int 0, .ref (q 6), .ref (q 7), .int 0, .int 0, .int 0, .ref (q 11), .int 0, .int 0, .int (-1), .int 0, .ref (q 16), .int 0, .ref (q 18), .ref (q 19), .ref (q 20), .int 0, .ref (q 22), .int 0, .ref (q 24), .ref (q 25), .ref (q 26), .ref (q 27), .ref (q 28), .int 0, .ref (q 30), .ref (q 31), .ref (q 32), .ref (q 33), .int 0, .int 0, .int 0, .int 0, .int 0, .int 0, .ref (q 40), .int 0, .ref (q 42), .ref (q 43), .ref (q 44)], by rw [ht]; exact hP9, hD9⟩, hS.F ht⟩) hS.2.2 d_Mo_rewrap_47
set_option maxHeartbeats 4000000 in
set_option maxRecDepth 100000 in
theorem m_Mo_delete (l : Launch) (dC : Nat → ClassId) (dI : Nat → Nat → Nat) (sz : Nat) (h0 : Nat) (q : Nat → Nat) (ci : Nat → ClassId) (p0 : Int32) : Met l y_Mo_delete w_Mo_delete ({ frames := 2, cells := 0, slots := 0, locals := 46 }) (va_Pc [.ref h0, .int p0] (fun U => U.heap.size = sz ∧ va_P (dC, dI) gx_cl (wMo h0 q ci) U.heap ∧ va_K (dC, dI) gx_cl (kMo ci) U ∧ va_D (fun _ => True) (wMo h0 q ci))) (va_Qv (fun _ : Unit => True) (fun _ t => ∃ fs : List Value, va_P (dC, dI) gx_cl [(h0, .inr (9, .int 1 :: fs))] t.heap ∧ va_D (va_A (wMo h0 q ci) sz) [(h0, .inr (9, .int 1 :: fs))]) (va_A (wMo h0 q ci) sz)) 0 0 (va_A (wMo h0 q ci) sz) := by
  refine Met.ofW (cc := b_Mo_delete) (maxL := 3) (ret := none) (by decide) rfl ?_
  intro p e s m args below meth c s₁ B hml hv
  obtain ⟨rfl, hsz, hP, hK, hD0⟩ := hv
  have hx := B.exec
  have hb := B.bytes
  have hr := B.returns
  have hts := atoms_spec (ws := w_Mo_delete) B.pre
  have hB : ∀ w ∈ gx_B, w.before _ s = true := fun w h => hts w (List.mem_cons_of_mem _ h)
  have hown : s.vm.findClass "TapeSealerModel" = some m.cls := findClass_of_methodNamed B.named
  have hlocks := B.notSynchronized
  subst hsz
  have hD := hD0.self (sz := s.heap.size)
  generalize hAe : va_A (wMo h0 q ci) s.heap.size = A at hD ⊢
  have hA : ∀ q : Nat, s.heap.size ≤ q → A q := fun q h => by rw [← hAe]; exact Or.inr h
  have hS : va_S A s.heap s.heap [] := va_S.rf
  have hl := lv_entry ([.ref h0, .int p0]) (n := 3) (Nat.le_of_ble_eq_true rfl)
  rw [lg_entry_eq]
  generalize (lg_sl ([.ref h0, .int p0]) ++ List.replicate (3 - (lg_sl ([.ref h0, .int p0])).length) Slot.unset).toArray = ls at hl ⊢
  have hl : lv_has ls 3 [(0, .ref h0), (1, .int p0)] := hl
  refine lv_aload_n hx hb d_Mo_delete_0 rfl (lv_at hl 0 rfl) ?_
  refine lv_aload_n hx hb d_Mo_delete_1 rfl (lv_at hl 0 rfl) ?_
  refine lv_iload_n hx hb d_Mo_delete_2 rfl (lv_at hl 1 rfl) ?_
  refine px_go (va_runV (C := "TapeSealerModel") (As := [.int p0]) (rest := [.ref h0]) ⟨hx, hb, hml, hown, hts⟩ (p_Mo_look l dC dI h0 q ci p0) (cwV 1 hts (gx_goodV hw_1046 hw_1048 hw_32 hw_75 k_Mo_look) rfl rfl rfl (by decide +kernel) ⟨(Nat.le_of_ble_eq_true rfl), (Nat.le_of_ble_eq_true rfl)⟩) ⟨fun a U g mk q => by obtain ⟨q0, qP, qK⟩ := q; exact ⟨q0, qP, va_K.moved (u := U) (U := U.calling g mk a) (Vm.Alike.refl U.vm) qK⟩, va_recv hK hP rfl (q0 := 0) rfl, fun U hU hW => ⟨rfl, by rw [hU]; exact hP, va_K.moved hW.alike (hK)⟩⟩ rfl rfl hl.1 rfl (lv_room (Nat.le_of_ble_eq_true rfl)) d_Mo_delete_3 ⟨(Nat.le_of_ble_eq_true rfl), (Nat.le_of_ble_eq_true rfl)⟩) ?_
  refine W.eq (g2 := F0 m 6 ls [.int 0, .ref h0]) rfl ?_
  refine lv_if_ne (tgt := 13) hx hb d_Mo_delete_6 (by decide) (fun h9 => absurd (by decide) h9) (fun _ => ?_)
  refine lv_iconst (v := 1) hx hb d_Mo_delete_9 (by decide) ?_
  refine lv_goto (tgt := 25) hx hb d_Mo_delete_10 (by decide) ?_
  refine va_put (D := (dC, dI)) (ci := 9) (v := .int 1) (ty := .int) (C := RMo) (T := FMo) (N := 45) hx hb hB in_Mo tMo tMo_ok nMo hown hK hP hD hS 0 rfl rfl 0 (by decide) (hB _ hw_890) (fun _ h9 => h9) rfl (by decide +kernel) rfl rfl (Nat.le_of_ble_eq_true rfl) d_Mo_delete_25 (fun H locs hP hD hS => ?_)
  have hP : va_P (dC, dI) gx_cl [(h0, .inr (9, [.int 1, .ref (q 1), .ref (q 2), .ref (q 3), .int 0, .int 0, .ref (q 6), .ref (q 7), .int 0, .int 0, .int 0, .ref (q 11), .int 0, .int 0, .int (-1), .int 0, .ref (q 16), .int 0, .ref (q 18), .ref (q 19), .ref (q 20), .int 0, .ref (q 22), .int 0, .ref (q 24), .ref (q 25), .ref (q 26), .ref (q 27), .ref (q 28), .int 0, .ref (q 30), .ref (q 31), .ref (q 32), .ref (q 33), .int 0, .int 0, .int 0, .int 0, .int 0, .int 0, .ref (q 40), .int 0, .ref (q 42), .ref (q 43), .ref (q 44)])), ((q 1), .inl ((ci 0), 2816, .inl (fun _ => 0))), ((q 2), .inl ((ci 1), 44, .inl (fun _ => 0))), ((q 3), .inl ((ci 2), 192, .inl (fun _ => 0))), ((q 7), .inl ((ci 3), 10, .inl (fun _ => 0)))] H := hP
  have hD : va_D A [(h0, .inr (9, [.int 1, .ref (q 1), .ref (q 2), .ref (q 3), .int 0, .int 0, .ref (q 6), .ref (q 7), .int 0, .int 0, .int 0, .ref (q 11), .int 0, .int 0, .int (-1), .int 0, .ref (q 16), .int 0, .ref (q 18), .ref (q 19), .ref (q 20), .int 0, .ref (q 22), .int 0, .ref (q 24), .ref (q 25), .ref (q 26), .ref (q 27), .ref (q 28), .int 0, .ref (q 30), .ref (q 31), .ref (q 32), .ref (q 33), .int 0, .int 0, .int 0, .int 0, .int 0, .int 0, .ref (q 40), .int 0, .ref (q 42), .ref (q 43), .ref (q 44)])), ((q 1), .inl ((ci 0), 2816, .inl (fun _ => 0))), ((q 2), .inl ((ci 1), 44, .inl (fun _ => 0))), ((q 3), .inl ((ci 2), 192, .inl (fun _ => 0))), ((q 7), .inl ((ci 3), 10, .inl (fun _ => 0)))] := hD
  refine lv_aload_n hx hb d_Mo_delete_28 rfl (lv_at hl 0 rfl) ?_
  refine va_get (D := (dC, dI)) (ci := 9) (v := .int 1) (C := RMo) (T := FMo) (N := 45) hx hb hB in_Mo hown hK hP 0 rfl rfl 0 (by decide) (hB _ hw_890) (fun _ h9 => h9) rfl d_Mo_delete_29 ?_
  refine lv_if_le (tgt := 36) hx hb d_Mo_delete_32 (by decide) (fun h9 => absurd h9 (by decide)) (fun _ => ?_)
  have hP9 := hP.sub (ws' := [(h0, .inr (9, [.int 1, .ref (q 1), .ref (q 2), .ref (q 3), .int 0, .int 0, .ref (q 6), .ref (q 7), .int 0, .int 0, .int 0, .ref (q 11), .int 0, .int 0, .int (-1), .int 0, .ref (q 16), .int 0, .ref (q 18), .ref (q 19), .ref (q 20), .int 0, .ref (q 22), .int 0, .ref (q 24), .ref (q 25), .ref (q 26), .ref (q 27), .ref (q 28), .int 0, .ref (q 30), .ref (q 31), .ref (q 32), .ref (q 33), .int 0, .int 0, .int 0, .int 0, .int 0, .int 0, .ref (q 40), .int 0, .ref (q 42), .ref (q 43), .ref (q 44)]))]) [0] rfl
  have hD9 := hD.sub (ws' := [(h0, .inr (9, [.int 1, .ref (q 1), .ref (q 2), .ref (q 3), .int 0, .int 0, .ref (q 6), .ref (q 7), .int 0, .int 0, .int 0, .ref (q 11), .int 0, .int 0, .int (-1), .int 0, .ref (q 16), .int 0, .ref (q 18), .ref (q 19), .ref (q 20), .int 0, .ref (q 22), .int 0, .ref (q 24), .ref (q 25), .ref (q 26), .ref (q 27), .ref (q 28), .int 0, .ref (q 30), .ref (q 31), .ref (q 32), .ref (q 33), .int 0, .int 0, .int 0, .int 0, .int 0, .int 0, .ref (q 40), .int 0, .ref (q 42), .ref (q 43), .ref (q 44)]))]) [0] (by decide) rfl
  refine W.widen (k := 0) (n := 0) (Nat.le_of_ble_eq_true rfl) (Nat.le_of_ble_eq_true rfl) ?_
  exact W.vret hx hb hr (fun t ht hW => ⟨⟨(), rfl, trivial, [.ref (q 1), .ref (q 2), .ref (q 3), .int 0, .int 0, .ref (q 6), .ref (q 7), .int 0, .int 0, .int 0, .ref (q 11), .int 0, .int 0, .int (-1), .int 0, .ref (q 16), .int 0, .ref (q 18), .ref (q 19), .ref (q 20), .int 0, .ref (q 22), .int 0, .ref (q 24), .ref (q 25), .ref (q 26), .ref (q 27), .ref (q 28), .int 0, .ref (q 30), .ref (q 31), .ref (q 32), .ref (q 33), .int 0, .int 0, .int 0, .int 0, .int 0, .int 0, .ref (q 40), .int 0, .ref (q 42), .ref (q 43), .ref (q 44)], by rw [ht]; exact hP9, hD9⟩, hS.F ht⟩) hS.2.2 d_Mo_delete_35
set_option maxHeartbeats 4000000 in
set_option maxRecDepth 100000 in
theorem m_Mo_file (l : Launch) (dC : Nat → ClassId) (dI : Nat → Nat → Nat) (sz : Nat) (h0 : Nat) (q : Nat → Nat) (ci : Nat → ClassId) (p0 p1 : Int32) : Met l y_Mo_file w_Mo_file ({ frames := 2, cells := 0, slots := 0, locals := 46 }) (va_Pc [.ref h0, .int p0, .int p1] (fun U => U.heap.size = sz ∧ va_P (dC, dI) gx_cl (wMo h0 q ci) U.heap ∧ va_K (dC, dI) gx_cl (kMo ci) U ∧ va_D (fun _ => True) (wMo h0 q ci))) (va_Qi (fun (r : Int32) (_ : Unit) => r = 0) (fun _ t => ∃ fs : List Value, va_P (dC, dI) gx_cl [(h0, .inr (9, .int 1 :: fs))] t.heap ∧ va_D (va_A (wMo h0 q ci) sz) [(h0, .inr (9, .int 1 :: fs))]) (va_A (wMo h0 q ci) sz)) 0 0 (va_A (wMo h0 q ci) sz) := by
  refine Met.ofW (cc := b_Mo_file) (maxL := 3) (ret := (some .int)) (by decide) rfl ?_
  intro p e s m args below meth c s₁ B hml hv
  obtain ⟨rfl, hsz, hP, hK, hD0⟩ := hv
  have hx := B.exec
  have hb := B.bytes
  have hr := B.returns
  have hts := atoms_spec (ws := w_Mo_file) B.pre
  have hB : ∀ w ∈ gx_B, w.before _ s = true := fun w h => hts w (List.mem_cons_of_mem _ h)
  have hown : s.vm.findClass "TapeSealerModel" = some m.cls := findClass_of_methodNamed B.named
  have hlocks := B.notSynchronized
  subst hsz
  have hD := hD0.self (sz := s.heap.size)
  generalize hAe : va_A (wMo h0 q ci) s.heap.size = A at hD ⊢
  have hA : ∀ q : Nat, s.heap.size ≤ q → A q := fun q h => by rw [← hAe]; exact Or.inr h
  have hS : va_S A s.heap s.heap [] := va_S.rf
  have hl := lv_entry ([.ref h0, .int p0, .int p1]) (n := 3) (Nat.le_of_ble_eq_true rfl)
  rw [lg_entry_eq]
  generalize (lg_sl ([.ref h0, .int p0, .int p1]) ++ List.replicate (3 - (lg_sl ([.ref h0, .int p0, .int p1])).length) Slot.unset).toArray = ls at hl ⊢
  have hl : lv_has ls 3 [(0, .ref h0), (1, .int p0), (2, .int p1)] := hl
  refine lv_aload_n hx hb d_Mo_file_0 rfl (lv_at hl 0 rfl) ?_
  refine lv_aload_n hx hb d_Mo_file_1 rfl (lv_at hl 0 rfl) ?_
  refine lv_iload_n hx hb d_Mo_file_2 rfl (lv_at hl 1 rfl) ?_
  refine px_go (va_runV (C := "TapeSealerModel") (As := [.int p0]) (rest := [.ref h0]) ⟨hx, hb, hml, hown, hts⟩ (p_Mo_look l dC dI h0 q ci p0) (cwV 1 hts (gx_goodV hw_1046 hw_1048 hw_32 hw_75 k_Mo_look) rfl rfl rfl (by decide +kernel) ⟨(Nat.le_of_ble_eq_true rfl), (Nat.le_of_ble_eq_true rfl)⟩) ⟨fun a U g mk q => by obtain ⟨q0, qP, qK⟩ := q; exact ⟨q0, qP, va_K.moved (u := U) (U := U.calling g mk a) (Vm.Alike.refl U.vm) qK⟩, va_recv hK hP rfl (q0 := 0) rfl, fun U hU hW => ⟨rfl, by rw [hU]; exact hP, va_K.moved hW.alike (hK)⟩⟩ rfl rfl hl.1 rfl (lv_room (Nat.le_of_ble_eq_true rfl)) d_Mo_file_3 ⟨(Nat.le_of_ble_eq_true rfl), (Nat.le_of_ble_eq_true rfl)⟩) ?_
  refine W.eq (g2 := F0 m 6 ls [.int 0, .ref h0]) rfl ?_
  refine lv_if_ne (tgt := 13) hx hb d_Mo_file_6 (by decide) (fun h9 => absurd (by decide) h9) (fun _ => ?_)
  refine lv_iconst (v := 1) hx hb d_Mo_file_9 (by decide) ?_
  refine lv_goto (tgt := 27) hx hb d_Mo_file_10 (by decide) ?_
  refine va_put (D := (dC, dI)) (ci := 9) (v := .int 1) (ty := .int) (C := RMo) (T := FMo) (N := 45) hx hb hB in_Mo tMo tMo_ok nMo hown hK hP hD hS 0 rfl rfl 0 (by decide) (hB _ hw_890) (fun _ h9 => h9) rfl (by decide +kernel) rfl rfl (Nat.le_of_ble_eq_true rfl) d_Mo_file_27 (fun H locs hP hD hS => ?_)
  have hP : va_P (dC, dI) gx_cl [(h0, .inr (9, [.int 1, .ref (q 1), .ref (q 2), .ref (q 3), .int 0, .int 0, .ref (q 6), .ref (q 7), .int 0, .int 0, .int 0, .ref (q 11), .int 0, .int 0, .int (-1), .int 0, .ref (q 16), .int 0, .ref (q 18), .ref (q 19), .ref (q 20), .int 0, .ref (q 22), .int 0, .ref (q 24), .ref (q 25), .ref (q 26), .ref (q 27), .ref (q 28), .int 0, .ref (q 30), .ref (q 31), .ref (q 32), .ref (q 33), .int 0, .int 0, .int 0, .int 0, .int 0, .int 0, .ref (q 40), .int 0, .ref (q 42), .ref (q 43), .ref (q 44)])), ((q 1), .inl ((ci 0), 2816, .inl (fun _ => 0))), ((q 2), .inl ((ci 1), 44, .inl (fun _ => 0))), ((q 3), .inl ((ci 2), 192, .inl (fun _ => 0))), ((q 7), .inl ((ci 3), 10, .inl (fun _ => 0)))] H := hP
  have hD : va_D A [(h0, .inr (9, [.int 1, .ref (q 1), .ref (q 2), .ref (q 3), .int 0, .int 0, .ref (q 6), .ref (q 7), .int 0, .int 0, .int 0, .ref (q 11), .int 0, .int 0, .int (-1), .int 0, .ref (q 16), .int 0, .ref (q 18), .ref (q 19), .ref (q 20), .int 0, .ref (q 22), .int 0, .ref (q 24), .ref (q 25), .ref (q 26), .ref (q 27), .ref (q 28), .int 0, .ref (q 30), .ref (q 31), .ref (q 32), .ref (q 33), .int 0, .int 0, .int 0, .int 0, .int 0, .int 0, .ref (q 40), .int 0, .ref (q 42), .ref (q 43), .ref (q 44)])), ((q 1), .inl ((ci 0), 2816, .inl (fun _ => 0))), ((q 2), .inl ((ci 1), 44, .inl (fun _ => 0))), ((q 3), .inl ((ci 2), 192, .inl (fun _ => 0))), ((q 7), .inl ((ci 3), 10, .inl (fun _ => 0)))] := hD
  refine lv_aload_n hx hb d_Mo_file_30 rfl (lv_at hl 0 rfl) ?_
  refine va_get (D := (dC, dI)) (ci := 9) (v := .int 1) (C := RMo) (T := FMo) (N := 45) hx hb hB in_Mo hown hK hP 0 rfl rfl 0 (by decide) (hB _ hw_890) (fun _ h9 => h9) rfl d_Mo_file_31 ?_
  refine lv_if_le (tgt := 39) hx hb d_Mo_file_34 (by decide) (fun h9 => absurd h9 (by decide)) (fun _ => ?_)
  refine lv_iconst (v := 0) hx hb d_Mo_file_37 (by decide) ?_
  have hP9 := hP.sub (ws' := [(h0, .inr (9, [.int 1, .ref (q 1), .ref (q 2), .ref (q 3), .int 0, .int 0, .ref (q 6), .ref (q 7), .int 0, .int 0, .int 0, .ref (q 11), .int 0, .int 0, .int (-1), .int 0, .ref (q 16), .int 0, .ref (q 18), .ref (q 19), .ref (q 20), .int 0, .ref (q 22), .int 0, .ref (q 24), .ref (q 25), .ref (q 26), .ref (q 27), .ref (q 28), .int 0, .ref (q 30), .ref (q 31), .ref (q 32), .ref (q 33), .int 0, .int 0, .int 0, .int 0, .int 0, .int 0, .ref (q 40), .int 0, .ref (q 42), .ref (q 43), .ref (q 44)]))]) [0] rfl
  have hD9 := hD.sub (ws' := [(h0, .inr (9, [.int 1, .ref (q 1), .ref (q 2), .ref (q 3), .int 0, .int 0, .ref (q 6), .ref (q 7), .int 0, .int 0, .int 0, .ref (q 11), .int 0, .int 0, .int (-1), .int 0, .ref (q 16), .int 0, .ref (q 18), .ref (q 19), .ref (q 20), .int 0, .ref (q 22), .int 0, .ref (q 24), .ref (q 25), .ref (q 26), .ref (q 27), .ref (q 28), .int 0, .ref (q 30), .ref (q 31), .ref (q 32), .ref (q 33), .int 0, .int 0, .int 0, .int 0, .int 0, .int 0, .ref (q 40), .int 0, .ref (q 42), .ref (q 43), .ref (q 44)]))]) [0] (by decide) rfl
  refine W.widen (k := 0) (n := 0) (Nat.le_of_ble_eq_true rfl) (Nat.le_of_ble_eq_true rfl) ?_
  exact W.iret (v := 0) hx hb hr (fun t ht hW => ⟨⟨0, (), rfl, rfl, [.ref (q 1), .ref (q 2), .ref (q 3), .int 0, .int 0, .ref (q 6), .ref (q 7), .int 0, .int 0, .int 0, .ref (q 11), .int 0, .int 0, .int (-1), .int 0, .ref (q 16), .int 0, .ref (q 18), .ref (q 19), .ref (q 20), .int 0, .ref (q 22), .int 0, .ref (q 24), .ref (q 25), .ref (q 26), .ref (q 27), .ref (q 28), .int 0, .ref (q 30), .ref (q 31), .ref (q 32), .ref (q 33), .int 0, .int 0, .int 0, .int 0, .int 0, .int 0, .ref (q 40), .int 0, .ref (q 42), .ref (q 43), .ref (q 44)], by rw [ht]; exact hP9, hD9⟩, hS.F ht⟩) hS.2.2 d_Mo_file_38
set_option maxHeartbeats 4000000 in
set_option maxRecDepth 100000 in
theorem m_Mo_dropEpoch (l : Launch) (dC : Nat → ClassId) (dI : Nat → Nat → Nat) (sz : Nat) (h0 : Nat) (q : Nat → Nat) (ci : Nat → ClassId) (p0 : Int32) : Met l y_Mo_dropEpoch w_Mo_dropEpoch ({ frames := 0, cells := 0, slots := 0, locals := 0 }) (va_Pc [.ref h0, .int p0] (fun U => U.heap.size = sz ∧ va_P (dC, dI) gx_cl (wMo h0 q ci) U.heap ∧ va_K (dC, dI) gx_cl (kMo ci) U ∧ va_D (fun _ => True) (wMo h0 q ci))) (va_Qv (fun _ : Unit => True) (fun _ t => ∃ fs : List Value, va_P (dC, dI) gx_cl [(h0, .inr (9, .int 1 :: fs))] t.heap ∧ va_D (va_A (wMo h0 q ci) sz) [(h0, .inr (9, .int 1 :: fs))]) (va_A (wMo h0 q ci) sz)) 0 0 (va_A (wMo h0 q ci) sz) := by
  refine Met.ofW (cc := b_Mo_dropEpoch) (maxL := 3) (ret := none) (by decide) rfl ?_
  intro p e s m args below meth c s₁ B hml hv
  obtain ⟨rfl, hsz, hP, hK, hD0⟩ := hv
  have hx := B.exec
  have hb := B.bytes
  have hr := B.returns
  have hts := atoms_spec (ws := w_Mo_dropEpoch) B.pre
  have hB : ∀ w ∈ gx_B, w.before _ s = true := fun w h => hts w (List.mem_cons_of_mem _ h)
  have hown : s.vm.findClass "TapeSealerModel" = some m.cls := findClass_of_methodNamed B.named
  have hlocks := B.notSynchronized
  subst hsz
  have hD := hD0.self (sz := s.heap.size)
  generalize hAe : va_A (wMo h0 q ci) s.heap.size = A at hD ⊢
  have hA : ∀ q : Nat, s.heap.size ≤ q → A q := fun q h => by rw [← hAe]; exact Or.inr h
  have hS : va_S A s.heap s.heap [] := va_S.rf
  have hl := lv_entry ([.ref h0, .int p0]) (n := 3) (Nat.le_of_ble_eq_true rfl)
  rw [lg_entry_eq]
  generalize (lg_sl ([.ref h0, .int p0]) ++ List.replicate (3 - (lg_sl ([.ref h0, .int p0])).length) Slot.unset).toArray = ls at hl ⊢
  have hl : lv_has ls 3 [(0, .ref h0), (1, .int p0)] := hl
  by_cases hg : p0 < 1
  · refine lv_aload_n hx hb d_Mo_dropEpoch_0 rfl (lv_at hl 0 rfl) ?_
    refine lv_iload_n hx hb d_Mo_dropEpoch_1 rfl (lv_at hl 1 rfl) ?_
    refine lv_iconst (v := 1) hx hb d_Mo_dropEpoch_2 (by decide) ?_
    refine lv_icmp_lt (tgt := 40) hx hb d_Mo_dropEpoch_3 (by decide) (fun _ => ?_) (fun h9 => absurd hg h9)
    refine lv_iconst (v := 1) hx hb d_Mo_dropEpoch_40 (by decide) ?_
    refine lv_goto (tgt := 56) hx hb d_Mo_dropEpoch_41 (by decide) ?_
    refine va_put (D := (dC, dI)) (ci := 9) (v := .int 1) (ty := .int) (C := RMo) (T := FMo) (N := 45) hx hb hB in_Mo tMo tMo_ok nMo hown hK hP hD hS 0 rfl rfl 0 (by decide) (hB _ hw_890) (fun _ h9 => h9) rfl (by decide +kernel) rfl rfl (Nat.le_of_ble_eq_true rfl) d_Mo_dropEpoch_56 (fun H locs hP hD hS => ?_)
    have hP : va_P (dC, dI) gx_cl [(h0, .inr (9, [.int 1, .ref (q 1), .ref (q 2), .ref (q 3), .int 0, .int 0, .ref (q 6), .ref (q 7), .int 0, .int 0, .int 0, .ref (q 11), .int 0, .int 0, .int (-1), .int 0, .ref (q 16), .int 0, .ref (q 18), .ref (q 19), .ref (q 20), .int 0, .ref (q 22), .int 0, .ref (q 24), .ref (q 25), .ref (q 26), .ref (q 27), .ref (q 28), .int 0, .ref (q 30), .ref (q 31), .ref (q 32), .ref (q 33), .int 0, .int 0, .int 0, .int 0, .int 0, .int 0, .ref (q 40), .int 0, .ref (q 42), .ref (q 43), .ref (q 44)])), ((q 1), .inl ((ci 0), 2816, .inl (fun _ => 0))), ((q 2), .inl ((ci 1), 44, .inl (fun _ => 0))), ((q 3), .inl ((ci 2), 192, .inl (fun _ => 0))), ((q 7), .inl ((ci 3), 10, .inl (fun _ => 0)))] H := hP
    have hD : va_D A [(h0, .inr (9, [.int 1, .ref (q 1), .ref (q 2), .ref (q 3), .int 0, .int 0, .ref (q 6), .ref (q 7), .int 0, .int 0, .int 0, .ref (q 11), .int 0, .int 0, .int (-1), .int 0, .ref (q 16), .int 0, .ref (q 18), .ref (q 19), .ref (q 20), .int 0, .ref (q 22), .int 0, .ref (q 24), .ref (q 25), .ref (q 26), .ref (q 27), .ref (q 28), .int 0, .ref (q 30), .ref (q 31), .ref (q 32), .ref (q 33), .int 0, .int 0, .int 0, .int 0, .int 0, .int 0, .ref (q 40), .int 0, .ref (q 42), .ref (q 43), .ref (q 44)])), ((q 1), .inl ((ci 0), 2816, .inl (fun _ => 0))), ((q 2), .inl ((ci 1), 44, .inl (fun _ => 0))), ((q 3), .inl ((ci 2), 192, .inl (fun _ => 0))), ((q 7), .inl ((ci 3), 10, .inl (fun _ => 0)))] := hD
    refine lv_iconst (v := 0) hx hb d_Mo_dropEpoch_59 (by decide) ?_
    refine lv_istore_n hx hb d_Mo_dropEpoch_60 rfl hl (by decide) rfl (fun ls hl => ?_)
    have hl : lv_has ls 3 [(2, .int 0), (0, .ref h0), (1, .int p0)] := hl
    refine lv_iload_n hx hb d_Mo_dropEpoch_61 rfl (lv_at hl 0 rfl) ?_
    refine lv_iconst (v := 4) hx hb d_Mo_dropEpoch_62 (by decide) ?_
    refine lv_icmp_ge (tgt := 100) hx hb d_Mo_dropEpoch_63 (by decide) (fun h9 => absurd h9 (by decide)) (fun _ => ?_)
    refine lv_aload_n hx hb d_Mo_dropEpoch_66 rfl (lv_at hl 1 rfl) ?_
    refine va_get (D := (dC, dI)) (ci := 9) (v := .int 1) (C := RMo) (T := FMo) (N := 45) hx hb hB in_Mo hown hK hP 0 rfl rfl 0 (by decide) (hB _ hw_890) (fun _ h9 => h9) rfl d_Mo_dropEpoch_67 ?_
    refine lv_if_ne (tgt := 100) hx hb d_Mo_dropEpoch_70 (by decide) (fun _ => ?_) (fun h9 => absurd h9 (by decide))
    refine lv_aload_n hx hb d_Mo_dropEpoch_100 rfl (lv_at hl 1 rfl) ?_
    refine va_get (D := (dC, dI)) (ci := 9) (v := .int 1) (C := RMo) (T := FMo) (N := 45) hx hb hB in_Mo hown hK hP 0 rfl rfl 0 (by decide) (hB _ hw_890) (fun _ h9 => h9) rfl d_Mo_dropEpoch_101 ?_
    refine lv_if_ne (tgt := 114) hx hb d_Mo_dropEpoch_104 (by decide) (fun _ => ?_) (fun h9 => absurd h9 (by decide))
    have hP9 := hP.sub (ws' := [(h0, .inr (9, [.int 1, .ref (q 1), .ref (q 2), .ref (q 3), .int 0, .int 0, .ref (q 6), .ref (q 7), .int 0, .int 0, .int 0, .ref (q 11), .int 0, .int 0, .int (-1), .int 0, .ref (q 16), .int 0, .ref (q 18), .ref (q 19), .ref (q 20), .int 0, .ref (q 22), .int 0, .ref (q 24), .ref (q 25), .ref (q 26), .ref (q 27), .ref (q 28), .int 0, .ref (q 30), .ref (q 31), .ref (q 32), .ref (q 33), .int 0, .int 0, .int 0, .int 0, .int 0, .int 0, .ref (q 40), .int 0, .ref (q 42), .ref (q 43), .ref (q 44)]))]) [0] rfl
    have hD9 := hD.sub (ws' := [(h0, .inr (9, [.int 1, .ref (q 1), .ref (q 2), .ref (q 3), .int 0, .int 0, .ref (q 6), .ref (q 7), .int 0, .int 0, .int 0, .ref (q 11), .int 0, .int 0, .int (-1), .int 0, .ref (q 16), .int 0, .ref (q 18), .ref (q 19), .ref (q 20), .int 0, .ref (q 22), .int 0, .ref (q 24), .ref (q 25), .ref (q 26), .ref (q 27), .ref (q 28), .int 0, .ref (q 30), .ref (q 31), .ref (q 32), .ref (q 33), .int 0, .int 0, .int 0, .int 0, .int 0, .int 0, .ref (q 40), .int 0, .ref (q 42), .ref (q 43), .ref (q 44)]))]) [0] (by decide) rfl
    refine W.widen (k := 0) (n := 0) (Nat.le_of_ble_eq_true rfl) (Nat.le_of_ble_eq_true rfl) ?_
    exact W.vret hx hb hr (fun t ht hW => ⟨⟨(), rfl, trivial, [.ref (q 1), .ref (q 2), .ref (q 3), .int 0, .int 0, .ref (q 6), .ref (q 7), .int 0, .int 0, .int 0, .ref (q 11), .int 0, .int 0, .int (-1), .int 0, .ref (q 16), .int 0, .ref (q 18), .ref (q 19), .ref (q 20), .int 0, .ref (q 22), .int 0, .ref (q 24), .ref (q 25), .ref (q 26), .ref (q 27), .ref (q 28), .int 0, .ref (q 30), .ref (q 31), .ref (q 32), .ref (q 33), .int 0, .int 0, .int 0, .int 0, .int 0, .int 0, .ref (q 40), .int 0, .ref (q 42), .ref (q 43), .ref (q 44)], by rw [ht]; exact hP9, hD9⟩, hS.F ht⟩) hS.2.2 d_Mo_dropEpoch_114
  · refine lv_aload_n hx hb d_Mo_dropEpoch_0 rfl (lv_at hl 0 rfl) ?_
    refine lv_iload_n hx hb d_Mo_dropEpoch_1 rfl (lv_at hl 1 rfl) ?_
    refine lv_iconst (v := 1) hx hb d_Mo_dropEpoch_2 (by decide) ?_
    refine lv_icmp_lt (tgt := 40) hx hb d_Mo_dropEpoch_3 (by decide) (fun h9 => absurd h9 hg) (fun _ => ?_)
    refine lv_iload_n hx hb d_Mo_dropEpoch_6 rfl (lv_at hl 1 rfl) ?_
    refine lv_aload_n hx hb d_Mo_dropEpoch_7 rfl (lv_at hl 0 rfl) ?_
    refine va_get (D := (dC, dI)) (ci := 9) (v := .int 0) (C := RMo) (T := FMo) (N := 45) hx hb hB in_Mo hown hK hP 0 rfl rfl 5 (by decide) (hB _ hw_895) (fun _ h9 => h9) rfl d_Mo_dropEpoch_8 ?_
    refine lv_icmp_ge (tgt := 40) hx hb d_Mo_dropEpoch_11 (by decide) (fun _ => ?_) (fun h9 => absurd (gx_pos1 hg) h9)
    refine lv_iconst (v := 1) hx hb d_Mo_dropEpoch_40 (by decide) ?_
    refine lv_goto (tgt := 56) hx hb d_Mo_dropEpoch_41 (by decide) ?_
    refine va_put (D := (dC, dI)) (ci := 9) (v := .int 1) (ty := .int) (C := RMo) (T := FMo) (N := 45) hx hb hB in_Mo tMo tMo_ok nMo hown hK hP hD hS 0 rfl rfl 0 (by decide) (hB _ hw_890) (fun _ h9 => h9) rfl (by decide +kernel) rfl rfl (Nat.le_of_ble_eq_true rfl) d_Mo_dropEpoch_56 (fun H locs hP hD hS => ?_)
    have hP : va_P (dC, dI) gx_cl [(h0, .inr (9, [.int 1, .ref (q 1), .ref (q 2), .ref (q 3), .int 0, .int 0, .ref (q 6), .ref (q 7), .int 0, .int 0, .int 0, .ref (q 11), .int 0, .int 0, .int (-1), .int 0, .ref (q 16), .int 0, .ref (q 18), .ref (q 19), .ref (q 20), .int 0, .ref (q 22), .int 0, .ref (q 24), .ref (q 25), .ref (q 26), .ref (q 27), .ref (q 28), .int 0, .ref (q 30), .ref (q 31), .ref (q 32), .ref (q 33), .int 0, .int 0, .int 0, .int 0, .int 0, .int 0, .ref (q 40), .int 0, .ref (q 42), .ref (q 43), .ref (q 44)])), ((q 1), .inl ((ci 0), 2816, .inl (fun _ => 0))), ((q 2), .inl ((ci 1), 44, .inl (fun _ => 0))), ((q 3), .inl ((ci 2), 192, .inl (fun _ => 0))), ((q 7), .inl ((ci 3), 10, .inl (fun _ => 0)))] H := hP
    have hD : va_D A [(h0, .inr (9, [.int 1, .ref (q 1), .ref (q 2), .ref (q 3), .int 0, .int 0, .ref (q 6), .ref (q 7), .int 0, .int 0, .int 0, .ref (q 11), .int 0, .int 0, .int (-1), .int 0, .ref (q 16), .int 0, .ref (q 18), .ref (q 19), .ref (q 20), .int 0, .ref (q 22), .int 0, .ref (q 24), .ref (q 25), .ref (q 26), .ref (q 27), .ref (q 28), .int 0, .ref (q 30), .ref (q 31), .ref (q 32), .ref (q 33), .int 0, .int 0, .int 0, .int 0, .int 0, .int 0, .ref (q 40), .int 0, .ref (q 42), .ref (q 43), .ref (q 44)])), ((q 1), .inl ((ci 0), 2816, .inl (fun _ => 0))), ((q 2), .inl ((ci 1), 44, .inl (fun _ => 0))), ((q 3), .inl ((ci 2), 192, .inl (fun _ => 0))), ((q 7), .inl ((ci 3), 10, .inl (fun _ => 0)))] := hD
    refine lv_iconst (v := 0) hx hb d_Mo_dropEpoch_59 (by decide) ?_
    refine lv_istore_n hx hb d_Mo_dropEpoch_60 rfl hl (by decide) rfl (fun ls hl => ?_)
    have hl : lv_has ls 3 [(2, .int 0), (0, .ref h0), (1, .int p0)] := hl
    refine lv_iload_n hx hb d_Mo_dropEpoch_61 rfl (lv_at hl 0 rfl) ?_
    refine lv_iconst (v := 4) hx hb d_Mo_dropEpoch_62 (by decide) ?_
    refine lv_icmp_ge (tgt := 100) hx hb d_Mo_dropEpoch_63 (by decide) (fun h9 => absurd h9 (by decide)) (fun _ => ?_)
    refine lv_aload_n hx hb d_Mo_dropEpoch_66 rfl (lv_at hl 1 rfl) ?_
    refine va_get (D := (dC, dI)) (ci := 9) (v := .int 1) (C := RMo) (T := FMo) (N := 45) hx hb hB in_Mo hown hK hP 0 rfl rfl 0 (by decide) (hB _ hw_890) (fun _ h9 => h9) rfl d_Mo_dropEpoch_67 ?_
    refine lv_if_ne (tgt := 100) hx hb d_Mo_dropEpoch_70 (by decide) (fun _ => ?_) (fun h9 => absurd h9 (by decide))
    refine lv_aload_n hx hb d_Mo_dropEpoch_100 rfl (lv_at hl 1 rfl) ?_
    refine va_get (D := (dC, dI)) (ci := 9) (v := .int 1) (C := RMo) (T := FMo) (N := 45) hx hb hB in_Mo hown hK hP 0 rfl rfl 0 (by decide) (hB _ hw_890) (fun _ h9 => h9) rfl d_Mo_dropEpoch_101 ?_
    refine lv_if_ne (tgt := 114) hx hb d_Mo_dropEpoch_104 (by decide) (fun _ => ?_) (fun h9 => absurd h9 (by decide))
    have hP9 := hP.sub (ws' := [(h0, .inr (9, [.int 1, .ref (q 1), .ref (q 2), .ref (q 3), .int 0, .int 0, .ref (q 6), .ref (q 7), .int 0, .int 0, .int 0, .ref (q 11), .int 0, .int 0, .int (-1), .int 0, .ref (q 16), .int 0, .ref (q 18), .ref (q 19), .ref (q 20), .int 0, .ref (q 22), .int 0, .ref (q 24), .ref (q 25), .ref (q 26), .ref (q 27), .ref (q 28), .int 0, .ref (q 30), .ref (q 31), .ref (q 32), .ref (q 33), .int 0, .int 0, .int 0, .int 0, .int 0, .int 0, .ref (q 40), .int 0, .ref (q 42), .ref (q 43), .ref (q 44)]))]) [0] rfl
    have hD9 := hD.sub (ws' := [(h0, .inr (9, [.int 1, .ref (q 1), .ref (q 2), .ref (q 3), .int 0, .int 0, .ref (q 6), .ref (q 7), .int 0, .int 0, .int 0, .ref (q 11), .int 0, .int 0, .int (-1), .int 0, .ref (q 16), .int 0, .ref (q 18), .ref (q 19), .ref (q 20), .int 0, .ref (q 22), .int 0, .ref (q 24), .ref (q 25), .ref (q 26), .ref (q 27), .ref (q 28), .int 0, .ref (q 30), .ref (q 31), .ref (q 32), .ref (q 33), .int 0, .int 0, .int 0, .int 0, .int 0, .int 0, .ref (q 40), .int 0, .ref (q 42), .ref (q 43), .ref (q 44)]))]) [0] (by decide) rfl
    refine W.widen (k := 0) (n := 0) (Nat.le_of_ble_eq_true rfl) (Nat.le_of_ble_eq_true rfl) ?_
    exact W.vret hx hb hr (fun t ht hW => ⟨⟨(), rfl, trivial, [.ref (q 1), .ref (q 2), .ref (q 3), .int 0, .int 0, .ref (q 6), .ref (q 7), .int 0, .int 0, .int 0, .ref (q 11), .int 0, .int 0, .int (-1), .int 0, .ref (q 16), .int 0, .ref (q 18), .ref (q 19), .ref (q 20), .int 0, .ref (q 22), .int 0, .ref (q 24), .ref (q 25), .ref (q 26), .ref (q 27), .ref (q 28), .int 0, .ref (q 30), .ref (q 31), .ref (q 32), .ref (q 33), .int 0, .int 0, .int 0, .int 0, .int 0, .int 0, .ref (q 40), .int 0, .ref (q 42), .ref (q 43), .ref (q 44)], by rw [ht]; exact hP9, hD9⟩, hS.F ht⟩) hS.2.2 d_Mo_dropEpoch_114
set_option maxHeartbeats 4000000 in
set_option maxRecDepth 100000 in
theorem m_Mo_mount (l : Launch) (dC : Nat → ClassId) (dI : Nat → Nat → Nat) (sz : Nat) (h0 : Nat) (q : Nat → Nat) (ci : Nat → ClassId)  : Met l y_Mo_mount w_Mo_mount ({ frames := 3, cells := 0, slots := 0, locals := 68 }) (va_Pc [.ref h0] (fun U => U.heap.size = sz ∧ va_P (dC, dI) gx_cl (wMo h0 q ci) U.heap ∧ va_K (dC, dI) gx_cl (kMo ci) U ∧ va_D (fun _ => True) (wMo h0 q ci))) (va_Qi (fun (r : Int32) (_ : Unit) => r = 0) (fun _ t => ∃ fs : List Value, va_P (dC, dI) gx_cl [(h0, .inr (9, .int 0 :: fs))] t.heap ∧ va_D (va_A (wMo h0 q ci) sz) [(h0, .inr (9, .int 0 :: fs))]) (va_A (wMo h0 q ci) sz)) 0 0 (va_A (wMo h0 q ci) sz) := by
  refine Met.ofW (cc := b_Mo_mount) (maxL := 1) (ret := (some .int)) (by decide) rfl ?_
  intro p e s m args below meth c s₁ B hml hv
  obtain ⟨rfl, hsz, hP, hK, hD0⟩ := hv
  have hx := B.exec
  have hb := B.bytes
  have hr := B.returns
  have hts := atoms_spec (ws := w_Mo_mount) B.pre
  have hB : ∀ w ∈ gx_B, w.before _ s = true := fun w h => hts w (List.mem_cons_of_mem _ h)
  have hown : s.vm.findClass "TapeSealerModel" = some m.cls := findClass_of_methodNamed B.named
  have hlocks := B.notSynchronized
  subst hsz
  have hD := hD0.self (sz := s.heap.size)
  generalize hAe : va_A (wMo h0 q ci) s.heap.size = A at hD ⊢
  have hA : ∀ q : Nat, s.heap.size ≤ q → A q := fun q h => by rw [← hAe]; exact Or.inr h
  have hS : va_S A s.heap s.heap [] := va_S.rf
  have hl := lv_entry ([.ref h0]) (n := 1) (Nat.le_of_ble_eq_true rfl)
  rw [lg_entry_eq]
  generalize (lg_sl ([.ref h0]) ++ List.replicate (1 - (lg_sl ([.ref h0])).length) Slot.unset).toArray = ls at hl ⊢
  have hl : lv_has ls 1 [(0, .ref h0)] := hl
  refine lv_aload_n hx hb d_Mo_mount_0 rfl (lv_at hl 0 rfl) ?_
  refine lv_iconst (v := 0) hx hb d_Mo_mount_1 (by decide) ?_
  refine va_put (D := (dC, dI)) (ci := 9) (v := .int 0) (ty := .int) (C := RMo) (T := FMo) (N := 45) hx hb hB in_Mo tMo tMo_ok nMo hown hK hP hD hS 0 rfl rfl 0 (by decide) (hB _ hw_890) (fun _ h9 => h9) rfl (by decide +kernel) rfl rfl (Nat.le_of_ble_eq_true rfl) d_Mo_mount_2 (fun H locs hP hD hS => ?_)
  have hP : va_P (dC, dI) gx_cl (wMo h0 q ci) H := hP
  have hD : va_D A (wMo h0 q ci) := hD
  refine lv_aload_n hx hb d_Mo_mount_5 rfl (lv_at hl 0 rfl) ?_
  refine lv_iconst (v := 0) hx hb d_Mo_mount_6 (by decide) ?_
  refine va_put (D := (dC, dI)) (ci := 9) (v := .int 0) (ty := .boolean) (C := RMo) (T := FMo) (N := 45) hx hb hB in_Mo tMo tMo_ok nMo hown hK hP hD hS 0 rfl rfl 13 (by decide) (hB _ hw_903) (fun _ h9 => h9) rfl (by decide +kernel) rfl rfl (Nat.le_of_ble_eq_true rfl) d_Mo_mount_7 (fun H locs hP hD hS => ?_)
  have hP : va_P (dC, dI) gx_cl (wMo h0 q ci) H := hP
  have hD : va_D A (wMo h0 q ci) := hD
  refine lv_aload_n hx hb d_Mo_mount_10 rfl (lv_at hl 0 rfl) ?_
  refine lv_iconst (v := (-1)) hx hb d_Mo_mount_11 (by decide) ?_
  refine va_put (D := (dC, dI)) (ci := 9) (v := .int (-1)) (ty := .int) (C := RMo) (T := FMo) (N := 45) hx hb hB in_Mo tMo tMo_ok nMo hown hK hP hD hS 0 rfl rfl 14 (by decide) (hB _ hw_904) (fun _ h9 => h9) rfl (by decide +kernel) rfl rfl (Nat.le_of_ble_eq_true rfl) d_Mo_mount_12 (fun H locs hP hD hS => ?_)
  have hP : va_P (dC, dI) gx_cl (wMo h0 q ci) H := hP
  have hD : va_D A (wMo h0 q ci) := hD
  refine lv_aload_n hx hb d_Mo_mount_15 rfl (lv_at hl 0 rfl) ?_
  refine lv_iconst (v := 0) hx hb d_Mo_mount_16 (by decide) ?_
  refine va_put (D := (dC, dI)) (ci := 9) (v := .int 0) (ty := .boolean) (C := RMo) (T := FMo) (N := 45) hx hb hB in_Mo tMo tMo_ok nMo hown hK hP hD hS 0 rfl rfl 8 (by decide) (hB _ hw_898) (fun _ h9 => h9) rfl (by decide +kernel) rfl rfl (Nat.le_of_ble_eq_true rfl) d_Mo_mount_17 (fun H locs hP hD hS => ?_)
  have hP : va_P (dC, dI) gx_cl (wMo h0 q ci) H := hP
  have hD : va_D A (wMo h0 q ci) := hD
  refine lv_aload_n hx hb d_Mo_mount_20 rfl (lv_at hl 0 rfl) ?_
  refine px_go (va_runV (C := "TapeSealerModel") (As := []) (rest := []) ⟨hx, hb, hml, hown, hts⟩ (p_Mo_files l dC dI h0 q ci) (cwV 0 hts (gx_goodV hw_1042 hw_1044 hw_31 hw_75 k_Mo_files) rfl rfl rfl (by decide +kernel) ⟨(Nat.le_of_ble_eq_true rfl), (Nat.le_of_ble_eq_true rfl)⟩) ⟨fun a U g mk q => by obtain ⟨q0, qP, qK⟩ := q; exact ⟨q0, qP, va_K.moved (u := U) (U := U.calling g mk a) (Vm.Alike.refl U.vm) qK⟩, va_recv hK hP rfl (q0 := 0) rfl, fun U hU hW => ⟨rfl, by rw [hU]; exact hP, va_K.moved hW.alike (hK)⟩⟩ rfl rfl hl.1 rfl (lv_room (Nat.le_of_ble_eq_true rfl)) d_Mo_mount_21 ⟨(Nat.le_of_ble_eq_true rfl), (Nat.le_of_ble_eq_true rfl)⟩) ?_
  refine W.eq (g2 := F0 m 24 ls [.int 0]) rfl ?_
  have hP9 := hP.sub (ws' := [(h0, .inr (9, [.int 0, .ref (q 1), .ref (q 2), .ref (q 3), .int 0, .int 0, .ref (q 6), .ref (q 7), .int 0, .int 0, .int 0, .ref (q 11), .int 0, .int 0, .int (-1), .int 0, .ref (q 16), .int 0, .ref (q 18), .ref (q 19), .ref (q 20), .int 0, .ref (q 22), .int 0, .ref (q 24), .ref (q 25), .ref (q 26), .ref (q 27), .ref (q 28), .int 0, .ref (q 30), .ref (q 31), .ref (q 32), .ref (q 33), .int 0, .int 0, .int 0, .int 0, .int 0, .int 0, .ref (q 40), .int 0, .ref (q 42), .ref (q 43), .ref (q 44)]))]) [0] rfl
  have hD9 := hD.sub (ws' := [(h0, .inr (9, [.int 0, .ref (q 1), .ref (q 2), .ref (q 3), .int 0, .int 0, .ref (q 6), .ref (q 7), .int 0, .int 0, .int 0, .ref (q 11), .int 0, .int 0, .int (-1), .int 0, .ref (q 16), .int 0, .ref (q 18), .ref (q 19), .ref (q 20), .int 0, .ref (q 22), .int 0, .ref (q 24), .ref (q 25), .ref (q 26), .ref (q 27), .ref (q 28), .int 0, .ref (q 30), .ref (q 31), .ref (q 32), .ref (q 33), .int 0, .int 0, .int 0, .int 0, .int 0, .int 0, .ref (q 40), .int 0, .ref (q 42), .ref (q 43), .ref (q 44)]))]) [0] (by decide) rfl
  refine W.widen (k := 0) (n := 0) (Nat.le_of_ble_eq_true rfl) (Nat.le_of_ble_eq_true rfl) ?_
  exact W.iret (v := 0) hx hb hr (fun t ht hW => ⟨⟨0, (), rfl, rfl, [.ref (q 1), .ref (q 2), .ref (q 3), .int 0, .int 0, .ref (q 6), .ref (q 7), .int 0, .int 0, .int 0, .ref (q 11), .int 0, .int 0, .int (-1), .int 0, .ref (q 16), .int 0, .ref (q 18), .ref (q 19), .ref (q 20), .int 0, .ref (q 22), .int 0, .ref (q 24), .ref (q 25), .ref (q 26), .ref (q 27), .ref (q 28), .int 0, .ref (q 30), .ref (q 31), .ref (q 32), .ref (q 33), .int 0, .int 0, .int 0, .int 0, .int 0, .int 0, .ref (q 40), .int 0, .ref (q 42), .ref (q 43), .ref (q 44)], by rw [ht]; exact hP9, hD9⟩, hS.F ht⟩) hS.2.2 d_Mo_mount_24
set_option maxHeartbeats 4000000 in
set_option maxRecDepth 100000 in
theorem m_Mo_scrub0 (l : Launch) (dC : Nat → ClassId) (dI : Nat → Nat → Nat) (sz : Nat) (h0 : Nat) (q : Nat → Nat) (ci : Nat → ClassId) (p0 : Int32) (h : p0 < 0 ∨ 6 ≤ p0) : Met l y_Mo_scrub w_Mo_scrub ({ frames := 0, cells := 0, slots := 0, locals := 0 }) (va_Pc [.ref h0, .int p0] (fun U => U.heap.size = sz ∧ va_P (dC, dI) gx_cl (wMo h0 q ci) U.heap ∧ va_K (dC, dI) gx_cl (kMo ci) U ∧ va_D (fun _ => True) (wMo h0 q ci))) (va_Qi (fun (r : Int32) (_ : Unit) => r = 0) (fun _ t => ∃ fs : List Value, va_P (dC, dI) gx_cl [(h0, .inr (9, .int 1 :: fs))] t.heap ∧ va_D (va_A (wMo h0 q ci) sz) [(h0, .inr (9, .int 1 :: fs))]) (va_A (wMo h0 q ci) sz)) 0 0 (va_A (wMo h0 q ci) sz) := by
  refine Met.ofW (cc := b_Mo_scrub) (maxL := 6) (ret := (some .int)) (by decide) rfl ?_
  intro p e s m args below meth c s₁ B hml hv
  obtain ⟨rfl, hsz, hP, hK, hD0⟩ := hv
  have hx := B.exec
  have hb := B.bytes
  have hr := B.returns
  have hts := atoms_spec (ws := w_Mo_scrub) B.pre
  have hB : ∀ w ∈ gx_B, w.before _ s = true := fun w h => hts w (List.mem_cons_of_mem _ h)
  have hown : s.vm.findClass "TapeSealerModel" = some m.cls := findClass_of_methodNamed B.named
  have hlocks := B.notSynchronized
  subst hsz
  have hD := hD0.self (sz := s.heap.size)
  generalize hAe : va_A (wMo h0 q ci) s.heap.size = A at hD ⊢
  have hA : ∀ q : Nat, s.heap.size ≤ q → A q := fun q h => by rw [← hAe]; exact Or.inr h
  have hS : va_S A s.heap s.heap [] := va_S.rf
  have hl := lv_entry ([.ref h0, .int p0]) (n := 6) (Nat.le_of_ble_eq_true rfl)
  rw [lg_entry_eq]
  generalize (lg_sl ([.ref h0, .int p0]) ++ List.replicate (6 - (lg_sl ([.ref h0, .int p0])).length) Slot.unset).toArray = ls at hl ⊢
  have hl : lv_has ls 6 [(0, .ref h0), (1, .int p0)] := hl
  rcases h with hi | hi
  · refine lv_aload_n hx hb d_Mo_scrub_0 rfl (lv_at hl 0 rfl) ?_
    refine lv_iload_n hx hb d_Mo_scrub_1 rfl (lv_at hl 1 rfl) ?_
    refine lv_if_lt (tgt := 11) hx hb d_Mo_scrub_2 (by decide) (fun _ => ?_) (fun h9 => absurd hi h9)
    refine lv_iconst (v := 1) hx hb d_Mo_scrub_11 (by decide) ?_
    refine lv_goto (tgt := 27) hx hb d_Mo_scrub_12 (by decide) ?_
    refine va_put (D := (dC, dI)) (ci := 9) (v := .int 1) (ty := .int) (C := RMo) (T := FMo) (N := 45) hx hb hB in_Mo tMo tMo_ok nMo hown hK hP hD hS 0 rfl rfl 0 (by decide) (hB _ hw_890) (fun _ h9 => h9) rfl (by decide +kernel) rfl rfl (Nat.le_of_ble_eq_true rfl) d_Mo_scrub_27 (fun H locs hP hD hS => ?_)
    have hP : va_P (dC, dI) gx_cl [(h0, .inr (9, [.int 1, .ref (q 1), .ref (q 2), .ref (q 3), .int 0, .int 0, .ref (q 6), .ref (q 7), .int 0, .int 0, .int 0, .ref (q 11), .int 0, .int 0, .int (-1), .int 0, .ref (q 16), .int 0, .ref (q 18), .ref (q 19), .ref (q 20), .int 0, .ref (q 22), .int 0, .ref (q 24), .ref (q 25), .ref (q 26), .ref (q 27), .ref (q 28), .int 0, .ref (q 30), .ref (q 31), .ref (q 32), .ref (q 33), .int 0, .int 0, .int 0, .int 0, .int 0, .int 0, .ref (q 40), .int 0, .ref (q 42), .ref (q 43), .ref (q 44)])), ((q 1), .inl ((ci 0), 2816, .inl (fun _ => 0))), ((q 2), .inl ((ci 1), 44, .inl (fun _ => 0))), ((q 3), .inl ((ci 2), 192, .inl (fun _ => 0))), ((q 7), .inl ((ci 3), 10, .inl (fun _ => 0)))] H := hP
    have hD : va_D A [(h0, .inr (9, [.int 1, .ref (q 1), .ref (q 2), .ref (q 3), .int 0, .int 0, .ref (q 6), .ref (q 7), .int 0, .int 0, .int 0, .ref (q 11), .int 0, .int 0, .int (-1), .int 0, .ref (q 16), .int 0, .ref (q 18), .ref (q 19), .ref (q 20), .int 0, .ref (q 22), .int 0, .ref (q 24), .ref (q 25), .ref (q 26), .ref (q 27), .ref (q 28), .int 0, .ref (q 30), .ref (q 31), .ref (q 32), .ref (q 33), .int 0, .int 0, .int 0, .int 0, .int 0, .int 0, .ref (q 40), .int 0, .ref (q 42), .ref (q 43), .ref (q 44)])), ((q 1), .inl ((ci 0), 2816, .inl (fun _ => 0))), ((q 2), .inl ((ci 1), 44, .inl (fun _ => 0))), ((q 3), .inl ((ci 2), 192, .inl (fun _ => 0))), ((q 7), .inl ((ci 3), 10, .inl (fun _ => 0)))] := hD
    refine lv_aload_n hx hb d_Mo_scrub_30 rfl (lv_at hl 0 rfl) ?_
    refine va_get (D := (dC, dI)) (ci := 9) (v := .int 1) (C := RMo) (T := FMo) (N := 45) hx hb hB in_Mo hown hK hP 0 rfl rfl 0 (by decide) (hB _ hw_890) (fun _ h9 => h9) rfl d_Mo_scrub_31 ?_
    refine lv_if_le (tgt := 39) hx hb d_Mo_scrub_34 (by decide) (fun h9 => absurd h9 (by decide)) (fun _ => ?_)
    refine lv_iconst (v := 0) hx hb d_Mo_scrub_37 (by decide) ?_
    have hP9 := hP.sub (ws' := [(h0, .inr (9, [.int 1, .ref (q 1), .ref (q 2), .ref (q 3), .int 0, .int 0, .ref (q 6), .ref (q 7), .int 0, .int 0, .int 0, .ref (q 11), .int 0, .int 0, .int (-1), .int 0, .ref (q 16), .int 0, .ref (q 18), .ref (q 19), .ref (q 20), .int 0, .ref (q 22), .int 0, .ref (q 24), .ref (q 25), .ref (q 26), .ref (q 27), .ref (q 28), .int 0, .ref (q 30), .ref (q 31), .ref (q 32), .ref (q 33), .int 0, .int 0, .int 0, .int 0, .int 0, .int 0, .ref (q 40), .int 0, .ref (q 42), .ref (q 43), .ref (q 44)]))]) [0] rfl
    have hD9 := hD.sub (ws' := [(h0, .inr (9, [.int 1, .ref (q 1), .ref (q 2), .ref (q 3), .int 0, .int 0, .ref (q 6), .ref (q 7), .int 0, .int 0, .int 0, .ref (q 11), .int 0, .int 0, .int (-1), .int 0, .ref (q 16), .int 0, .ref (q 18), .ref (q 19), .ref (q 20), .int 0, .ref (q 22), .int 0, .ref (q 24), .ref (q 25), .ref (q 26), .ref (q 27), .ref (q 28), .int 0, .ref (q 30), .ref (q 31), .ref (q 32), .ref (q 33), .int 0, .int 0, .int 0, .int 0, .int 0, .int 0, .ref (q 40), .int 0, .ref (q 42), .ref (q 43), .ref (q 44)]))]) [0] (by decide) rfl
    refine W.widen (k := 0) (n := 0) (Nat.le_of_ble_eq_true rfl) (Nat.le_of_ble_eq_true rfl) ?_
    exact W.iret (v := 0) hx hb hr (fun t ht hW => ⟨⟨0, (), rfl, rfl, [.ref (q 1), .ref (q 2), .ref (q 3), .int 0, .int 0, .ref (q 6), .ref (q 7), .int 0, .int 0, .int 0, .ref (q 11), .int 0, .int 0, .int (-1), .int 0, .ref (q 16), .int 0, .ref (q 18), .ref (q 19), .ref (q 20), .int 0, .ref (q 22), .int 0, .ref (q 24), .ref (q 25), .ref (q 26), .ref (q 27), .ref (q 28), .int 0, .ref (q 30), .ref (q 31), .ref (q 32), .ref (q 33), .int 0, .int 0, .int 0, .int 0, .int 0, .int 0, .ref (q 40), .int 0, .ref (q 42), .ref (q 43), .ref (q 44)], by rw [ht]; exact hP9, hD9⟩, hS.F ht⟩) hS.2.2 d_Mo_scrub_38
  · refine lv_aload_n hx hb d_Mo_scrub_0 rfl (lv_at hl 0 rfl) ?_
    refine lv_iload_n hx hb d_Mo_scrub_1 rfl (lv_at hl 1 rfl) ?_
    refine lv_if_lt (tgt := 11) hx hb d_Mo_scrub_2 (by decide) (fun h9 => absurd h9 (gx_nlt6 hi)) (fun _ => ?_)
    refine lv_iload_n hx hb d_Mo_scrub_5 rfl (lv_at hl 1 rfl) ?_
    refine lv_bipush (v := 6) hx hb d_Mo_scrub_6 (by decide) ?_
    refine lv_icmp_lt (tgt := 15) hx hb d_Mo_scrub_8 (by decide) (fun h9 => absurd h9 (gx_nlt6b hi)) (fun _ => ?_)
    refine lv_iconst (v := 1) hx hb d_Mo_scrub_11 (by decide) ?_
    refine lv_goto (tgt := 27) hx hb d_Mo_scrub_12 (by decide) ?_
    refine va_put (D := (dC, dI)) (ci := 9) (v := .int 1) (ty := .int) (C := RMo) (T := FMo) (N := 45) hx hb hB in_Mo tMo tMo_ok nMo hown hK hP hD hS 0 rfl rfl 0 (by decide) (hB _ hw_890) (fun _ h9 => h9) rfl (by decide +kernel) rfl rfl (Nat.le_of_ble_eq_true rfl) d_Mo_scrub_27 (fun H locs hP hD hS => ?_)
    have hP : va_P (dC, dI) gx_cl [(h0, .inr (9, [.int 1, .ref (q 1), .ref (q 2), .ref (q 3), .int 0, .int 0, .ref (q 6), .ref (q 7), .int 0, .int 0, .int 0, .ref (q 11), .int 0, .int 0, .int (-1), .int 0, .ref (q 16), .int 0, .ref (q 18), .ref (q 19), .ref (q 20), .int 0, .ref (q 22), .int 0, .ref (q 24), .ref (q 25), .ref (q 26), .ref (q 27), .ref (q 28), .int 0, .ref (q 30), .ref (q 31), .ref (q 32), .ref (q 33), .int 0, .int 0, .int 0, .int 0, .int 0, .int 0, .ref (q 40), .int 0, .ref (q 42), .ref (q 43), .ref (q 44)])), ((q 1), .inl ((ci 0), 2816, .inl (fun _ => 0))), ((q 2), .inl ((ci 1), 44, .inl (fun _ => 0))), ((q 3), .inl ((ci 2), 192, .inl (fun _ => 0))), ((q 7), .inl ((ci 3), 10, .inl (fun _ => 0)))] H := hP
    have hD : va_D A [(h0, .inr (9, [.int 1, .ref (q 1), .ref (q 2), .ref (q 3), .int 0, .int 0, .ref (q 6), .ref (q 7), .int 0, .int 0, .int 0, .ref (q 11), .int 0, .int 0, .int (-1), .int 0, .ref (q 16), .int 0, .ref (q 18), .ref (q 19), .ref (q 20), .int 0, .ref (q 22), .int 0, .ref (q 24), .ref (q 25), .ref (q 26), .ref (q 27), .ref (q 28), .int 0, .ref (q 30), .ref (q 31), .ref (q 32), .ref (q 33), .int 0, .int 0, .int 0, .int 0, .int 0, .int 0, .ref (q 40), .int 0, .ref (q 42), .ref (q 43), .ref (q 44)])), ((q 1), .inl ((ci 0), 2816, .inl (fun _ => 0))), ((q 2), .inl ((ci 1), 44, .inl (fun _ => 0))), ((q 3), .inl ((ci 2), 192, .inl (fun _ => 0))), ((q 7), .inl ((ci 3), 10, .inl (fun _ => 0)))] := hD
    refine lv_aload_n hx hb d_Mo_scrub_30 rfl (lv_at hl 0 rfl) ?_
    refine va_get (D := (dC, dI)) (ci := 9) (v := .int 1) (C := RMo) (T := FMo) (N := 45) hx hb hB in_Mo hown hK hP 0 rfl rfl 0 (by decide) (hB _ hw_890) (fun _ h9 => h9) rfl d_Mo_scrub_31 ?_
    refine lv_if_le (tgt := 39) hx hb d_Mo_scrub_34 (by decide) (fun h9 => absurd h9 (by decide)) (fun _ => ?_)
    refine lv_iconst (v := 0) hx hb d_Mo_scrub_37 (by decide) ?_
    have hP9 := hP.sub (ws' := [(h0, .inr (9, [.int 1, .ref (q 1), .ref (q 2), .ref (q 3), .int 0, .int 0, .ref (q 6), .ref (q 7), .int 0, .int 0, .int 0, .ref (q 11), .int 0, .int 0, .int (-1), .int 0, .ref (q 16), .int 0, .ref (q 18), .ref (q 19), .ref (q 20), .int 0, .ref (q 22), .int 0, .ref (q 24), .ref (q 25), .ref (q 26), .ref (q 27), .ref (q 28), .int 0, .ref (q 30), .ref (q 31), .ref (q 32), .ref (q 33), .int 0, .int 0, .int 0, .int 0, .int 0, .int 0, .ref (q 40), .int 0, .ref (q 42), .ref (q 43), .ref (q 44)]))]) [0] rfl
    have hD9 := hD.sub (ws' := [(h0, .inr (9, [.int 1, .ref (q 1), .ref (q 2), .ref (q 3), .int 0, .int 0, .ref (q 6), .ref (q 7), .int 0, .int 0, .int 0, .ref (q 11), .int 0, .int 0, .int (-1), .int 0, .ref (q 16), .int 0, .ref (q 18), .ref (q 19), .ref (q 20), .int 0, .ref (q 22), .int 0, .ref (q 24), .ref (q 25), .ref (q 26), .ref (q 27), .ref (q 28), .int 0, .ref (q 30), .ref (q 31), .ref (q 32), .ref (q 33), .int 0, .int 0, .int 0, .int 0, .int 0, .int 0, .ref (q 40), .int 0, .ref (q 42), .ref (q 43), .ref (q 44)]))]) [0] (by decide) rfl
    refine W.widen (k := 0) (n := 0) (Nat.le_of_ble_eq_true rfl) (Nat.le_of_ble_eq_true rfl) ?_
    exact W.iret (v := 0) hx hb hr (fun t ht hW => ⟨⟨0, (), rfl, rfl, [.ref (q 1), .ref (q 2), .ref (q 3), .int 0, .int 0, .ref (q 6), .ref (q 7), .int 0, .int 0, .int 0, .ref (q 11), .int 0, .int 0, .int (-1), .int 0, .ref (q 16), .int 0, .ref (q 18), .ref (q 19), .ref (q 20), .int 0, .ref (q 22), .int 0, .ref (q 24), .ref (q 25), .ref (q 26), .ref (q 27), .ref (q 28), .int 0, .ref (q 30), .ref (q 31), .ref (q 32), .ref (q 33), .int 0, .int 0, .int 0, .int 0, .int 0, .int 0, .ref (q 40), .int 0, .ref (q 42), .ref (q 43), .ref (q 44)], by rw [ht]; exact hP9, hD9⟩, hS.F ht⟩) hS.2.2 d_Mo_scrub_38
set_option maxHeartbeats 4000000 in
set_option maxRecDepth 100000 in
theorem m_Mo_scrub1 (l : Launch) (dC : Nat → ClassId) (dI : Nat → Nat → Nat) (sz : Nat) (h0 : Nat) (q : Nat → Nat) (ci : Nat → ClassId) (p0 : Int32) (h1 : ¬ p0 < 0) (h2 : p0 < 6) : Met l y_Mo_scrub w_Mo_scrub ({ frames := 3, cells := 0, slots := 0, locals := 68 }) (va_Pc [.ref h0, .int p0] (fun U => U.heap.size = sz ∧ va_P (dC, dI) gx_cl (wMo h0 q ci) U.heap ∧ va_K (dC, dI) gx_cl (kMo ci) U ∧ va_D (fun _ => True) (wMo h0 q ci))) (va_Qi (fun (r : Int32) (_ : Unit) => r = (-1)) (fun _ t => ∃ fs : List Value, va_P (dC, dI) gx_cl [(h0, .inr (9, .int 0 :: fs))] t.heap ∧ va_D (va_A (wMo h0 q ci) sz) [(h0, .inr (9, .int 0 :: fs))]) (va_A (wMo h0 q ci) sz)) 0 0 (va_A (wMo h0 q ci) sz) := by
  refine Met.ofW (cc := b_Mo_scrub) (maxL := 6) (ret := (some .int)) (by decide) rfl ?_
  intro p e s m args below meth c s₁ B hml hv
  obtain ⟨rfl, hsz, hP, hK, hD0⟩ := hv
  have hx := B.exec
  have hb := B.bytes
  have hr := B.returns
  have hts := atoms_spec (ws := w_Mo_scrub) B.pre
  have hB : ∀ w ∈ gx_B, w.before _ s = true := fun w h => hts w (List.mem_cons_of_mem _ h)
  have hown : s.vm.findClass "TapeSealerModel" = some m.cls := findClass_of_methodNamed B.named
  have hlocks := B.notSynchronized
  subst hsz
  have hD := hD0.self (sz := s.heap.size)
  generalize hAe : va_A (wMo h0 q ci) s.heap.size = A at hD ⊢
  have hA : ∀ q : Nat, s.heap.size ≤ q → A q := fun q h => by rw [← hAe]; exact Or.inr h
  have hS : va_S A s.heap s.heap [] := va_S.rf
  have hl := lv_entry ([.ref h0, .int p0]) (n := 6) (Nat.le_of_ble_eq_true rfl)
  rw [lg_entry_eq]
  generalize (lg_sl ([.ref h0, .int p0]) ++ List.replicate (6 - (lg_sl ([.ref h0, .int p0])).length) Slot.unset).toArray = ls at hl ⊢
  have hl : lv_has ls 6 [(0, .ref h0), (1, .int p0)] := hl
  refine lv_aload_n hx hb d_Mo_scrub_0 rfl (lv_at hl 0 rfl) ?_
  refine lv_iload_n hx hb d_Mo_scrub_1 rfl (lv_at hl 1 rfl) ?_
  refine lv_if_lt (tgt := 11) hx hb d_Mo_scrub_2 (by decide) (fun h9 => absurd h9 h1) (fun _ => ?_)
  refine lv_iload_n hx hb d_Mo_scrub_5 rfl (lv_at hl 1 rfl) ?_
  refine lv_bipush (v := 6) hx hb d_Mo_scrub_6 (by decide) ?_
  refine lv_icmp_lt (tgt := 15) hx hb d_Mo_scrub_8 (by decide) (fun _ => ?_) (fun h9 => absurd h2 h9)
  refine lv_aload_n hx hb d_Mo_scrub_15 rfl (lv_at hl 0 rfl) ?_
  refine va_get (D := (dC, dI)) (ci := 9) (v := .int 0) (C := RMo) (T := FMo) (N := 45) hx hb hB in_Mo hown hK hP 0 rfl rfl 13 (by decide) (hB _ hw_903) (fun _ h9 => h9) rfl d_Mo_scrub_16 ?_
  refine lv_if_eq (tgt := 26) hx hb d_Mo_scrub_19 (by decide) (fun _ => ?_) (fun h9 => absurd (by decide) h9)
  refine lv_iconst (v := 0) hx hb d_Mo_scrub_26 (by decide) ?_
  refine va_put (D := (dC, dI)) (ci := 9) (v := .int 0) (ty := .int) (C := RMo) (T := FMo) (N := 45) hx hb hB in_Mo tMo tMo_ok nMo hown hK hP hD hS 0 rfl rfl 0 (by decide) (hB _ hw_890) (fun _ h9 => h9) rfl (by decide +kernel) rfl rfl (Nat.le_of_ble_eq_true rfl) d_Mo_scrub_27 (fun H locs hP hD hS => ?_)
  have hP : va_P (dC, dI) gx_cl (wMo h0 q ci) H := hP
  have hD : va_D A (wMo h0 q ci) := hD
  refine lv_aload_n hx hb d_Mo_scrub_30 rfl (lv_at hl 0 rfl) ?_
  refine va_get (D := (dC, dI)) (ci := 9) (v := .int 0) (C := RMo) (T := FMo) (N := 45) hx hb hB in_Mo hown hK hP 0 rfl rfl 0 (by decide) (hB _ hw_890) (fun _ h9 => h9) rfl d_Mo_scrub_31 ?_
  refine lv_if_le (tgt := 39) hx hb d_Mo_scrub_34 (by decide) (fun _ => ?_) (fun h9 => absurd (by decide) h9)
  refine lv_aload_n hx hb d_Mo_scrub_39 rfl (lv_at hl 0 rfl) ?_
  refine lv_iload_n hx hb d_Mo_scrub_40 rfl (lv_at hl 1 rfl) ?_
  refine px_go (va_runV (C := "TapeSealerModel") (As := [.int p0]) (rest := []) ⟨hx, hb, hml, hown, hts⟩ (p_Mo_isOfFile l dC dI h0 q ci p0) (cwV 1 hts (gx_goodV hw_1231 hw_1233 hw_63 hw_75 k_Mo_isOfFile) rfl rfl rfl (by decide +kernel) ⟨(Nat.le_of_ble_eq_true rfl), (Nat.le_of_ble_eq_true rfl)⟩) ⟨fun a U g mk q => by obtain ⟨q0, qP, qK⟩ := q; exact ⟨q0, qP, va_K.moved (u := U) (U := U.calling g mk a) (Vm.Alike.refl U.vm) qK⟩, va_recv hK hP rfl (q0 := 0) rfl, fun U hU hW => ⟨rfl, by rw [hU]; exact hP, va_K.moved hW.alike (hK)⟩⟩ rfl rfl hl.1 rfl (lv_room (Nat.le_of_ble_eq_true rfl)) d_Mo_scrub_41 ⟨(Nat.le_of_ble_eq_true rfl), (Nat.le_of_ble_eq_true rfl)⟩) ?_
  refine W.eq (g2 := F0 m 44 ls [.int 0]) rfl ?_
  refine lv_if_ne (tgt := 49) hx hb d_Mo_scrub_44 (by decide) (fun h9 => absurd (by decide) h9) (fun _ => ?_)
  refine lv_iconst (v := (-1)) hx hb d_Mo_scrub_47 (by decide) ?_
  have hP9 := hP.sub (ws' := [(h0, .inr (9, [.int 0, .ref (q 1), .ref (q 2), .ref (q 3), .int 0, .int 0, .ref (q 6), .ref (q 7), .int 0, .int 0, .int 0, .ref (q 11), .int 0, .int 0, .int (-1), .int 0, .ref (q 16), .int 0, .ref (q 18), .ref (q 19), .ref (q 20), .int 0, .ref (q 22), .int 0, .ref (q 24), .ref (q 25), .ref (q 26), .ref (q 27), .ref (q 28), .int 0, .ref (q 30), .ref (q 31), .ref (q 32), .ref (q 33), .int 0, .int 0, .int 0, .int 0, .int 0, .int 0, .ref (q 40), .int 0, .ref (q 42), .ref (q 43), .ref (q 44)]))]) [0] rfl
  have hD9 := hD.sub (ws' := [(h0, .inr (9, [.int 0, .ref (q 1), .ref (q 2), .ref (q 3), .int 0, .int 0, .ref (q 6), .ref (q 7), .int 0, .int 0, .int 0, .ref (q 11), .int 0, .int 0, .int (-1), .int 0, .ref (q 16), .int 0, .ref (q 18), .ref (q 19), .ref (q 20), .int 0, .ref (q 22), .int 0, .ref (q 24), .ref (q 25), .ref (q 26), .ref (q 27), .ref (q 28), .int 0, .ref (q 30), .ref (q 31), .ref (q 32), .ref (q 33), .int 0, .int 0, .int 0, .int 0, .int 0, .int 0, .ref (q 40), .int 0, .ref (q 42), .ref (q 43), .ref (q 44)]))]) [0] (by decide) rfl
  refine W.widen (k := 0) (n := 0) (Nat.le_of_ble_eq_true rfl) (Nat.le_of_ble_eq_true rfl) ?_
  exact W.iret (v := (-1)) hx hb hr (fun t ht hW => ⟨⟨(-1), (), rfl, rfl, [.ref (q 1), .ref (q 2), .ref (q 3), .int 0, .int 0, .ref (q 6), .ref (q 7), .int 0, .int 0, .int 0, .ref (q 11), .int 0, .int 0, .int (-1), .int 0, .ref (q 16), .int 0, .ref (q 18), .ref (q 19), .ref (q 20), .int 0, .ref (q 22), .int 0, .ref (q 24), .ref (q 25), .ref (q 26), .ref (q 27), .ref (q 28), .int 0, .ref (q 30), .ref (q 31), .ref (q 32), .ref (q 33), .int 0, .int 0, .int 0, .int 0, .int 0, .int 0, .ref (q 40), .int 0, .ref (q 42), .ref (q 43), .ref (q 44)], by rw [ht]; exact hP9, hD9⟩, hS.F ht⟩) hS.2.2 d_Mo_scrub_48
set_option maxHeartbeats 4000000 in
set_option maxRecDepth 100000 in
theorem m_Mo_damage_b (l : Launch) (dC : Nat → ClassId) (dI : Nat → Nat → Nat) (sz : Nat) (h0 : Nat) (q : Nat → Nat) (ci : Nat → ClassId) (p0 p1 p2 : Int32) (h : p0 < 0 ∨ 44 ≤ p0 ∨ p1 < 0 ∨ 64 ≤ p1) : Met l y_Mo_damage w_Mo_damage ({ frames := 1, cells := 0, slots := 0, locals := 20 }) (va_Pc [.ref h0, .int p0, .int p1, .int p2] (fun U => U.heap.size = sz ∧ va_P (dC, dI) gx_cl (wMo h0 q ci) U.heap ∧ va_K (dC, dI) gx_cl (kMo ci) U ∧ va_D (fun _ => True) (wMo h0 q ci))) (va_Qv (fun _ : Unit => True) (fun _ t => ∃ fs : List Value, va_P (dC, dI) gx_cl [(h0, .inr (9, .int 1 :: fs))] t.heap ∧ va_D (va_A (wMo h0 q ci) sz) [(h0, .inr (9, .int 1 :: fs))]) (va_A (wMo h0 q ci) sz)) 0 0 (va_A (wMo h0 q ci) sz) := by
  refine Met.ofW (cc := b_Mo_damage) (maxL := 4) (ret := none) (by decide) rfl ?_
  intro p e s m args below meth c s₁ B hml hv
  obtain ⟨rfl, hsz, hP, hK, hD0⟩ := hv
  have hx := B.exec
  have hb := B.bytes
  have hr := B.returns
  have hts := atoms_spec (ws := w_Mo_damage) B.pre
  have hB : ∀ w ∈ gx_B, w.before _ s = true := fun w h => hts w (List.mem_cons_of_mem _ h)
  have hown : s.vm.findClass "TapeSealerModel" = some m.cls := findClass_of_methodNamed B.named
  have hlocks := B.notSynchronized
  subst hsz
  have hD := hD0.self (sz := s.heap.size)
  generalize hAe : va_A (wMo h0 q ci) s.heap.size = A at hD ⊢
  have hA : ∀ q : Nat, s.heap.size ≤ q → A q := fun q h => by rw [← hAe]; exact Or.inr h
  have hS : va_S A s.heap s.heap [] := va_S.rf
  have hl := lv_entry ([.ref h0, .int p0, .int p1, .int p2]) (n := 4) (Nat.le_of_ble_eq_true rfl)
  rw [lg_entry_eq]
  generalize (lg_sl ([.ref h0, .int p0, .int p1, .int p2]) ++ List.replicate (4 - (lg_sl ([.ref h0, .int p0, .int p1, .int p2])).length) Slot.unset).toArray = ls at hl ⊢
  have hl : lv_has ls 4 [(0, .ref h0), (1, .int p0), (2, .int p1), (3, .int p2)] := hl
  rcases gx_o4 h with h1 | ⟨h1, h2⟩ | ⟨h1, h2, h3⟩ | ⟨h1, h2, h3, h4⟩
  · refine lv_aload_n hx hb d_Mo_damage_0 rfl (lv_at hl 0 rfl) ?_
    refine lv_iload_n hx hb d_Mo_damage_1 rfl (lv_at hl 1 rfl) ?_
    refine px_go (va_runS (As := [.int p0]) (rest := [.ref h0]) ⟨hx, hb, hml, hown, hts⟩ (p_Mo_isBlock0 l p0 (Or.inl h1)) (cwS 1 hts (gx_goodS hw_1243 hw_1244 hw_75 k_Mo_isBlock) rfl rfl rfl (by decide +kernel) ⟨(Nat.le_of_ble_eq_true rfl), (Nat.le_of_ble_eq_true rfl)⟩) ⟨fun a U g mk q => q, fun U hU hW => ⟨rfl, trivial⟩⟩ rfl rfl hl.1 rfl (lv_room (Nat.le_of_ble_eq_true rfl)) d_Mo_damage_2 ⟨(Nat.le_of_ble_eq_true rfl), (Nat.le_of_ble_eq_true rfl)⟩) ?_
    refine W.eq (g2 := F0 m 5 ls [.int 0, .ref h0]) rfl ?_
    refine lv_if_eq (tgt := 29) hx hb d_Mo_damage_5 (by decide) (fun _ => ?_) (fun h9 => absurd (by decide) h9)
    refine lv_iconst (v := 1) hx hb d_Mo_damage_29 (by decide) ?_
    refine lv_goto (tgt := 34) hx hb d_Mo_damage_30 (by decide) ?_
    refine va_put (D := (dC, dI)) (ci := 9) (v := .int 1) (ty := .int) (C := RMo) (T := FMo) (N := 45) hx hb hB in_Mo tMo tMo_ok nMo hown hK hP hD hS 0 rfl rfl 0 (by decide) (hB _ hw_890) (fun _ h9 => h9) rfl (by decide +kernel) rfl rfl (Nat.le_of_ble_eq_true rfl) d_Mo_damage_34 (fun H locs hP hD hS => ?_)
    have hP : va_P (dC, dI) gx_cl [(h0, .inr (9, [.int 1, .ref (q 1), .ref (q 2), .ref (q 3), .int 0, .int 0, .ref (q 6), .ref (q 7), .int 0, .int 0, .int 0, .ref (q 11), .int 0, .int 0, .int (-1), .int 0, .ref (q 16), .int 0, .ref (q 18), .ref (q 19), .ref (q 20), .int 0, .ref (q 22), .int 0, .ref (q 24), .ref (q 25), .ref (q 26), .ref (q 27), .ref (q 28), .int 0, .ref (q 30), .ref (q 31), .ref (q 32), .ref (q 33), .int 0, .int 0, .int 0, .int 0, .int 0, .int 0, .ref (q 40), .int 0, .ref (q 42), .ref (q 43), .ref (q 44)])), ((q 1), .inl ((ci 0), 2816, .inl (fun _ => 0))), ((q 2), .inl ((ci 1), 44, .inl (fun _ => 0))), ((q 3), .inl ((ci 2), 192, .inl (fun _ => 0))), ((q 7), .inl ((ci 3), 10, .inl (fun _ => 0)))] H := hP
    have hD : va_D A [(h0, .inr (9, [.int 1, .ref (q 1), .ref (q 2), .ref (q 3), .int 0, .int 0, .ref (q 6), .ref (q 7), .int 0, .int 0, .int 0, .ref (q 11), .int 0, .int 0, .int (-1), .int 0, .ref (q 16), .int 0, .ref (q 18), .ref (q 19), .ref (q 20), .int 0, .ref (q 22), .int 0, .ref (q 24), .ref (q 25), .ref (q 26), .ref (q 27), .ref (q 28), .int 0, .ref (q 30), .ref (q 31), .ref (q 32), .ref (q 33), .int 0, .int 0, .int 0, .int 0, .int 0, .int 0, .ref (q 40), .int 0, .ref (q 42), .ref (q 43), .ref (q 44)])), ((q 1), .inl ((ci 0), 2816, .inl (fun _ => 0))), ((q 2), .inl ((ci 1), 44, .inl (fun _ => 0))), ((q 3), .inl ((ci 2), 192, .inl (fun _ => 0))), ((q 7), .inl ((ci 3), 10, .inl (fun _ => 0)))] := hD
    refine lv_aload_n hx hb d_Mo_damage_37 rfl (lv_at hl 0 rfl) ?_
    refine va_get (D := (dC, dI)) (ci := 9) (v := .int 1) (C := RMo) (T := FMo) (N := 45) hx hb hB in_Mo hown hK hP 0 rfl rfl 0 (by decide) (hB _ hw_890) (fun _ h9 => h9) rfl d_Mo_damage_38 ?_
    refine lv_if_ne (tgt := 59) hx hb d_Mo_damage_41 (by decide) (fun _ => ?_) (fun h9 => absurd h9 (by decide))
    have hP9 := hP.sub (ws' := [(h0, .inr (9, [.int 1, .ref (q 1), .ref (q 2), .ref (q 3), .int 0, .int 0, .ref (q 6), .ref (q 7), .int 0, .int 0, .int 0, .ref (q 11), .int 0, .int 0, .int (-1), .int 0, .ref (q 16), .int 0, .ref (q 18), .ref (q 19), .ref (q 20), .int 0, .ref (q 22), .int 0, .ref (q 24), .ref (q 25), .ref (q 26), .ref (q 27), .ref (q 28), .int 0, .ref (q 30), .ref (q 31), .ref (q 32), .ref (q 33), .int 0, .int 0, .int 0, .int 0, .int 0, .int 0, .ref (q 40), .int 0, .ref (q 42), .ref (q 43), .ref (q 44)]))]) [0] rfl
    have hD9 := hD.sub (ws' := [(h0, .inr (9, [.int 1, .ref (q 1), .ref (q 2), .ref (q 3), .int 0, .int 0, .ref (q 6), .ref (q 7), .int 0, .int 0, .int 0, .ref (q 11), .int 0, .int 0, .int (-1), .int 0, .ref (q 16), .int 0, .ref (q 18), .ref (q 19), .ref (q 20), .int 0, .ref (q 22), .int 0, .ref (q 24), .ref (q 25), .ref (q 26), .ref (q 27), .ref (q 28), .int 0, .ref (q 30), .ref (q 31), .ref (q 32), .ref (q 33), .int 0, .int 0, .int 0, .int 0, .int 0, .int 0, .ref (q 40), .int 0, .ref (q 42), .ref (q 43), .ref (q 44)]))]) [0] (by decide) rfl
    refine W.widen (k := 0) (n := 0) (Nat.le_of_ble_eq_true rfl) (Nat.le_of_ble_eq_true rfl) ?_
    exact W.vret hx hb hr (fun t ht hW => ⟨⟨(), rfl, trivial, [.ref (q 1), .ref (q 2), .ref (q 3), .int 0, .int 0, .ref (q 6), .ref (q 7), .int 0, .int 0, .int 0, .ref (q 11), .int 0, .int 0, .int (-1), .int 0, .ref (q 16), .int 0, .ref (q 18), .ref (q 19), .ref (q 20), .int 0, .ref (q 22), .int 0, .ref (q 24), .ref (q 25), .ref (q 26), .ref (q 27), .ref (q 28), .int 0, .ref (q 30), .ref (q 31), .ref (q 32), .ref (q 33), .int 0, .int 0, .int 0, .int 0, .int 0, .int 0, .ref (q 40), .int 0, .ref (q 42), .ref (q 43), .ref (q 44)], by rw [ht]; exact hP9, hD9⟩, hS.F ht⟩) hS.2.2 d_Mo_damage_59
  · refine lv_aload_n hx hb d_Mo_damage_0 rfl (lv_at hl 0 rfl) ?_
    refine lv_iload_n hx hb d_Mo_damage_1 rfl (lv_at hl 1 rfl) ?_
    refine px_go (va_runS (As := [.int p0]) (rest := [.ref h0]) ⟨hx, hb, hml, hown, hts⟩ (p_Mo_isBlock0 l p0 (Or.inr h2)) (cwS 1 hts (gx_goodS hw_1243 hw_1244 hw_75 k_Mo_isBlock) rfl rfl rfl (by decide +kernel) ⟨(Nat.le_of_ble_eq_true rfl), (Nat.le_of_ble_eq_true rfl)⟩) ⟨fun a U g mk q => q, fun U hU hW => ⟨rfl, trivial⟩⟩ rfl rfl hl.1 rfl (lv_room (Nat.le_of_ble_eq_true rfl)) d_Mo_damage_2 ⟨(Nat.le_of_ble_eq_true rfl), (Nat.le_of_ble_eq_true rfl)⟩) ?_
    refine W.eq (g2 := F0 m 5 ls [.int 0, .ref h0]) rfl ?_
    refine lv_if_eq (tgt := 29) hx hb d_Mo_damage_5 (by decide) (fun _ => ?_) (fun h9 => absurd (by decide) h9)
    refine lv_iconst (v := 1) hx hb d_Mo_damage_29 (by decide) ?_
    refine lv_goto (tgt := 34) hx hb d_Mo_damage_30 (by decide) ?_
    refine va_put (D := (dC, dI)) (ci := 9) (v := .int 1) (ty := .int) (C := RMo) (T := FMo) (N := 45) hx hb hB in_Mo tMo tMo_ok nMo hown hK hP hD hS 0 rfl rfl 0 (by decide) (hB _ hw_890) (fun _ h9 => h9) rfl (by decide +kernel) rfl rfl (Nat.le_of_ble_eq_true rfl) d_Mo_damage_34 (fun H locs hP hD hS => ?_)
    have hP : va_P (dC, dI) gx_cl [(h0, .inr (9, [.int 1, .ref (q 1), .ref (q 2), .ref (q 3), .int 0, .int 0, .ref (q 6), .ref (q 7), .int 0, .int 0, .int 0, .ref (q 11), .int 0, .int 0, .int (-1), .int 0, .ref (q 16), .int 0, .ref (q 18), .ref (q 19), .ref (q 20), .int 0, .ref (q 22), .int 0, .ref (q 24), .ref (q 25), .ref (q 26), .ref (q 27), .ref (q 28), .int 0, .ref (q 30), .ref (q 31), .ref (q 32), .ref (q 33), .int 0, .int 0, .int 0, .int 0, .int 0, .int 0, .ref (q 40), .int 0, .ref (q 42), .ref (q 43), .ref (q 44)])), ((q 1), .inl ((ci 0), 2816, .inl (fun _ => 0))), ((q 2), .inl ((ci 1), 44, .inl (fun _ => 0))), ((q 3), .inl ((ci 2), 192, .inl (fun _ => 0))), ((q 7), .inl ((ci 3), 10, .inl (fun _ => 0)))] H := hP
    have hD : va_D A [(h0, .inr (9, [.int 1, .ref (q 1), .ref (q 2), .ref (q 3), .int 0, .int 0, .ref (q 6), .ref (q 7), .int 0, .int 0, .int 0, .ref (q 11), .int 0, .int 0, .int (-1), .int 0, .ref (q 16), .int 0, .ref (q 18), .ref (q 19), .ref (q 20), .int 0, .ref (q 22), .int 0, .ref (q 24), .ref (q 25), .ref (q 26), .ref (q 27), .ref (q 28), .int 0, .ref (q 30), .ref (q 31), .ref (q 32), .ref (q 33), .int 0, .int 0, .int 0, .int 0, .int 0, .int 0, .ref (q 40), .int 0, .ref (q 42), .ref (q 43), .ref (q 44)])), ((q 1), .inl ((ci 0), 2816, .inl (fun _ => 0))), ((q 2), .inl ((ci 1), 44, .inl (fun _ => 0))), ((q 3), .inl ((ci 2), 192, .inl (fun _ => 0))), ((q 7), .inl ((ci 3), 10, .inl (fun _ => 0)))] := hD
    refine lv_aload_n hx hb d_Mo_damage_37 rfl (lv_at hl 0 rfl) ?_
    refine va_get (D := (dC, dI)) (ci := 9) (v := .int 1) (C := RMo) (T := FMo) (N := 45) hx hb hB in_Mo hown hK hP 0 rfl rfl 0 (by decide) (hB _ hw_890) (fun _ h9 => h9) rfl d_Mo_damage_38 ?_
    refine lv_if_ne (tgt := 59) hx hb d_Mo_damage_41 (by decide) (fun _ => ?_) (fun h9 => absurd h9 (by decide))
    have hP9 := hP.sub (ws' := [(h0, .inr (9, [.int 1, .ref (q 1), .ref (q 2), .ref (q 3), .int 0, .int 0, .ref (q 6), .ref (q 7), .int 0, .int 0, .int 0, .ref (q 11), .int 0, .int 0, .int (-1), .int 0, .ref (q 16), .int 0, .ref (q 18), .ref (q 19), .ref (q 20), .int 0, .ref (q 22), .int 0, .ref (q 24), .ref (q 25), .ref (q 26), .ref (q 27), .ref (q 28), .int 0, .ref (q 30), .ref (q 31), .ref (q 32), .ref (q 33), .int 0, .int 0, .int 0, .int 0, .int 0, .int 0, .ref (q 40), .int 0, .ref (q 42), .ref (q 43), .ref (q 44)]))]) [0] rfl
    have hD9 := hD.sub (ws' := [(h0, .inr (9, [.int 1, .ref (q 1), .ref (q 2), .ref (q 3), .int 0, .int 0, .ref (q 6), .ref (q 7), .int 0, .int 0, .int 0, .ref (q 11), .int 0, .int 0, .int (-1), .int 0, .ref (q 16), .int 0, .ref (q 18), .ref (q 19), .ref (q 20), .int 0, .ref (q 22), .int 0, .ref (q 24), .ref (q 25), .ref (q 26), .ref (q 27), .ref (q 28), .int 0, .ref (q 30), .ref (q 31), .ref (q 32), .ref (q 33), .int 0, .int 0, .int 0, .int 0, .int 0, .int 0, .ref (q 40), .int 0, .ref (q 42), .ref (q 43), .ref (q 44)]))]) [0] (by decide) rfl
    refine W.widen (k := 0) (n := 0) (Nat.le_of_ble_eq_true rfl) (Nat.le_of_ble_eq_true rfl) ?_
    exact W.vret hx hb hr (fun t ht hW => ⟨⟨(), rfl, trivial, [.ref (q 1), .ref (q 2), .ref (q 3), .int 0, .int 0, .ref (q 6), .ref (q 7), .int 0, .int 0, .int 0, .ref (q 11), .int 0, .int 0, .int (-1), .int 0, .ref (q 16), .int 0, .ref (q 18), .ref (q 19), .ref (q 20), .int 0, .ref (q 22), .int 0, .ref (q 24), .ref (q 25), .ref (q 26), .ref (q 27), .ref (q 28), .int 0, .ref (q 30), .ref (q 31), .ref (q 32), .ref (q 33), .int 0, .int 0, .int 0, .int 0, .int 0, .int 0, .ref (q 40), .int 0, .ref (q 42), .ref (q 43), .ref (q 44)], by rw [ht]; exact hP9, hD9⟩, hS.F ht⟩) hS.2.2 d_Mo_damage_59
  · refine lv_aload_n hx hb d_Mo_damage_0 rfl (lv_at hl 0 rfl) ?_
    refine lv_iload_n hx hb d_Mo_damage_1 rfl (lv_at hl 1 rfl) ?_
    refine px_go (va_runS (As := [.int p0]) (rest := [.ref h0]) ⟨hx, hb, hml, hown, hts⟩ (p_Mo_isBlock1 l p0 h1 h2) (cwS 1 hts (gx_goodS hw_1243 hw_1244 hw_75 k_Mo_isBlock) rfl rfl rfl (by decide +kernel) ⟨(Nat.le_of_ble_eq_true rfl), (Nat.le_of_ble_eq_true rfl)⟩) ⟨fun a U g mk q => q, fun U hU hW => ⟨rfl, trivial⟩⟩ rfl rfl hl.1 rfl (lv_room (Nat.le_of_ble_eq_true rfl)) d_Mo_damage_2 ⟨(Nat.le_of_ble_eq_true rfl), (Nat.le_of_ble_eq_true rfl)⟩) ?_
    refine W.eq (g2 := F0 m 5 ls [.int 1, .ref h0]) rfl ?_
    refine lv_if_eq (tgt := 29) hx hb d_Mo_damage_5 (by decide) (fun h9 => absurd h9 (by decide)) (fun _ => ?_)
    refine lv_iload_n hx hb d_Mo_damage_8 rfl (lv_at hl 2 rfl) ?_
    refine lv_if_lt (tgt := 29) hx hb d_Mo_damage_9 (by decide) (fun _ => ?_) (fun h9 => absurd h3 h9)
    refine lv_iconst (v := 1) hx hb d_Mo_damage_29 (by decide) ?_
    refine lv_goto (tgt := 34) hx hb d_Mo_damage_30 (by decide) ?_
    refine va_put (D := (dC, dI)) (ci := 9) (v := .int 1) (ty := .int) (C := RMo) (T := FMo) (N := 45) hx hb hB in_Mo tMo tMo_ok nMo hown hK hP hD hS 0 rfl rfl 0 (by decide) (hB _ hw_890) (fun _ h9 => h9) rfl (by decide +kernel) rfl rfl (Nat.le_of_ble_eq_true rfl) d_Mo_damage_34 (fun H locs hP hD hS => ?_)
    have hP : va_P (dC, dI) gx_cl [(h0, .inr (9, [.int 1, .ref (q 1), .ref (q 2), .ref (q 3), .int 0, .int 0, .ref (q 6), .ref (q 7), .int 0, .int 0, .int 0, .ref (q 11), .int 0, .int 0, .int (-1), .int 0, .ref (q 16), .int 0, .ref (q 18), .ref (q 19), .ref (q 20), .int 0, .ref (q 22), .int 0, .ref (q 24), .ref (q 25), .ref (q 26), .ref (q 27), .ref (q 28), .int 0, .ref (q 30), .ref (q 31), .ref (q 32), .ref (q 33), .int 0, .int 0, .int 0, .int 0, .int 0, .int 0, .ref (q 40), .int 0, .ref (q 42), .ref (q 43), .ref (q 44)])), ((q 1), .inl ((ci 0), 2816, .inl (fun _ => 0))), ((q 2), .inl ((ci 1), 44, .inl (fun _ => 0))), ((q 3), .inl ((ci 2), 192, .inl (fun _ => 0))), ((q 7), .inl ((ci 3), 10, .inl (fun _ => 0)))] H := hP
    have hD : va_D A [(h0, .inr (9, [.int 1, .ref (q 1), .ref (q 2), .ref (q 3), .int 0, .int 0, .ref (q 6), .ref (q 7), .int 0, .int 0, .int 0, .ref (q 11), .int 0, .int 0, .int (-1), .int 0, .ref (q 16), .int 0, .ref (q 18), .ref (q 19), .ref (q 20), .int 0, .ref (q 22), .int 0, .ref (q 24), .ref (q 25), .ref (q 26), .ref (q 27), .ref (q 28), .int 0, .ref (q 30), .ref (q 31), .ref (q 32), .ref (q 33), .int 0, .int 0, .int 0, .int 0, .int 0, .int 0, .ref (q 40), .int 0, .ref (q 42), .ref (q 43), .ref (q 44)])), ((q 1), .inl ((ci 0), 2816, .inl (fun _ => 0))), ((q 2), .inl ((ci 1), 44, .inl (fun _ => 0))), ((q 3), .inl ((ci 2), 192, .inl (fun _ => 0))), ((q 7), .inl ((ci 3), 10, .inl (fun _ => 0)))] := hD
    refine lv_aload_n hx hb d_Mo_damage_37 rfl (lv_at hl 0 rfl) ?_
    refine va_get (D := (dC, dI)) (ci := 9) (v := .int 1) (C := RMo) (T := FMo) (N := 45) hx hb hB in_Mo hown hK hP 0 rfl rfl 0 (by decide) (hB _ hw_890) (fun _ h9 => h9) rfl d_Mo_damage_38 ?_
    refine lv_if_ne (tgt := 59) hx hb d_Mo_damage_41 (by decide) (fun _ => ?_) (fun h9 => absurd h9 (by decide))
    have hP9 := hP.sub (ws' := [(h0, .inr (9, [.int 1, .ref (q 1), .ref (q 2), .ref (q 3), .int 0, .int 0, .ref (q 6), .ref (q 7), .int 0, .int 0, .int 0, .ref (q 11), .int 0, .int 0, .int (-1), .int 0, .ref (q 16), .int 0, .ref (q 18), .ref (q 19), .ref (q 20), .int 0, .ref (q 22), .int 0, .ref (q 24), .ref (q 25), .ref (q 26), .ref (q 27), .ref (q 28), .int 0, .ref (q 30), .ref (q 31), .ref (q 32), .ref (q 33), .int 0, .int 0, .int 0, .int 0, .int 0, .int 0, .ref (q 40), .int 0, .ref (q 42), .ref (q 43), .ref (q 44)]))]) [0] rfl
    have hD9 := hD.sub (ws' := [(h0, .inr (9, [.int 1, .ref (q 1), .ref (q 2), .ref (q 3), .int 0, .int 0, .ref (q 6), .ref (q 7), .int 0, .int 0, .int 0, .ref (q 11), .int 0, .int 0, .int (-1), .int 0, .ref (q 16), .int 0, .ref (q 18), .ref (q 19), .ref (q 20), .int 0, .ref (q 22), .int 0, .ref (q 24), .ref (q 25), .ref (q 26), .ref (q 27), .ref (q 28), .int 0, .ref (q 30), .ref (q 31), .ref (q 32), .ref (q 33), .int 0, .int 0, .int 0, .int 0, .int 0, .int 0, .ref (q 40), .int 0, .ref (q 42), .ref (q 43), .ref (q 44)]))]) [0] (by decide) rfl
    refine W.widen (k := 0) (n := 0) (Nat.le_of_ble_eq_true rfl) (Nat.le_of_ble_eq_true rfl) ?_
    exact W.vret hx hb hr (fun t ht hW => ⟨⟨(), rfl, trivial, [.ref (q 1), .ref (q 2), .ref (q 3), .int 0, .int 0, .ref (q 6), .ref (q 7), .int 0, .int 0, .int 0, .ref (q 11), .int 0, .int 0, .int (-1), .int 0, .ref (q 16), .int 0, .ref (q 18), .ref (q 19), .ref (q 20), .int 0, .ref (q 22), .int 0, .ref (q 24), .ref (q 25), .ref (q 26), .ref (q 27), .ref (q 28), .int 0, .ref (q 30), .ref (q 31), .ref (q 32), .ref (q 33), .int 0, .int 0, .int 0, .int 0, .int 0, .int 0, .ref (q 40), .int 0, .ref (q 42), .ref (q 43), .ref (q 44)], by rw [ht]; exact hP9, hD9⟩, hS.F ht⟩) hS.2.2 d_Mo_damage_59
  · refine lv_aload_n hx hb d_Mo_damage_0 rfl (lv_at hl 0 rfl) ?_
    refine lv_iload_n hx hb d_Mo_damage_1 rfl (lv_at hl 1 rfl) ?_
    refine px_go (va_runS (As := [.int p0]) (rest := [.ref h0]) ⟨hx, hb, hml, hown, hts⟩ (p_Mo_isBlock1 l p0 h1 h2) (cwS 1 hts (gx_goodS hw_1243 hw_1244 hw_75 k_Mo_isBlock) rfl rfl rfl (by decide +kernel) ⟨(Nat.le_of_ble_eq_true rfl), (Nat.le_of_ble_eq_true rfl)⟩) ⟨fun a U g mk q => q, fun U hU hW => ⟨rfl, trivial⟩⟩ rfl rfl hl.1 rfl (lv_room (Nat.le_of_ble_eq_true rfl)) d_Mo_damage_2 ⟨(Nat.le_of_ble_eq_true rfl), (Nat.le_of_ble_eq_true rfl)⟩) ?_
    refine W.eq (g2 := F0 m 5 ls [.int 1, .ref h0]) rfl ?_
    refine lv_if_eq (tgt := 29) hx hb d_Mo_damage_5 (by decide) (fun h9 => absurd h9 (by decide)) (fun _ => ?_)
    refine lv_iload_n hx hb d_Mo_damage_8 rfl (lv_at hl 2 rfl) ?_
    refine lv_if_lt (tgt := 29) hx hb d_Mo_damage_9 (by decide) (fun h9 => absurd h9 h3) (fun _ => ?_)
    refine lv_iload_n hx hb d_Mo_damage_12 rfl (lv_at hl 2 rfl) ?_
    refine lv_bipush (v := 64) hx hb d_Mo_damage_13 (by decide) ?_
    refine lv_icmp_ge (tgt := 29) hx hb d_Mo_damage_15 (by decide) (fun _ => ?_) (fun h9 => absurd h4 h9)
    refine lv_iconst (v := 1) hx hb d_Mo_damage_29 (by decide) ?_
    refine lv_goto (tgt := 34) hx hb d_Mo_damage_30 (by decide) ?_
    refine va_put (D := (dC, dI)) (ci := 9) (v := .int 1) (ty := .int) (C := RMo) (T := FMo) (N := 45) hx hb hB in_Mo tMo tMo_ok nMo hown hK hP hD hS 0 rfl rfl 0 (by decide) (hB _ hw_890) (fun _ h9 => h9) rfl (by decide +kernel) rfl rfl (Nat.le_of_ble_eq_true rfl) d_Mo_damage_34 (fun H locs hP hD hS => ?_)
    have hP : va_P (dC, dI) gx_cl [(h0, .inr (9, [.int 1, .ref (q 1), .ref (q 2), .ref (q 3), .int 0, .int 0, .ref (q 6), .ref (q 7), .int 0, .int 0, .int 0, .ref (q 11), .int 0, .int 0, .int (-1), .int 0, .ref (q 16), .int 0, .ref (q 18), .ref (q 19), .ref (q 20), .int 0, .ref (q 22), .int 0, .ref (q 24), .ref (q 25), .ref (q 26), .ref (q 27), .ref (q 28), .int 0, .ref (q 30), .ref (q 31), .ref (q 32), .ref (q 33), .int 0, .int 0, .int 0, .int 0, .int 0, .int 0, .ref (q 40), .int 0, .ref (q 42), .ref (q 43), .ref (q 44)])), ((q 1), .inl ((ci 0), 2816, .inl (fun _ => 0))), ((q 2), .inl ((ci 1), 44, .inl (fun _ => 0))), ((q 3), .inl ((ci 2), 192, .inl (fun _ => 0))), ((q 7), .inl ((ci 3), 10, .inl (fun _ => 0)))] H := hP
    have hD : va_D A [(h0, .inr (9, [.int 1, .ref (q 1), .ref (q 2), .ref (q 3), .int 0, .int 0, .ref (q 6), .ref (q 7), .int 0, .int 0, .int 0, .ref (q 11), .int 0, .int 0, .int (-1), .int 0, .ref (q 16), .int 0, .ref (q 18), .ref (q 19), .ref (q 20), .int 0, .ref (q 22), .int 0, .ref (q 24), .ref (q 25), .ref (q 26), .ref (q 27), .ref (q 28), .int 0, .ref (q 30), .ref (q 31), .ref (q 32), .ref (q 33), .int 0, .int 0, .int 0, .int 0, .int 0, .int 0, .ref (q 40), .int 0, .ref (q 42), .ref (q 43), .ref (q 44)])), ((q 1), .inl ((ci 0), 2816, .inl (fun _ => 0))), ((q 2), .inl ((ci 1), 44, .inl (fun _ => 0))), ((q 3), .inl ((ci 2), 192, .inl (fun _ => 0))), ((q 7), .inl ((ci 3), 10, .inl (fun _ => 0)))] := hD
    refine lv_aload_n hx hb d_Mo_damage_37 rfl (lv_at hl 0 rfl) ?_
    refine va_get (D := (dC, dI)) (ci := 9) (v := .int 1) (C := RMo) (T := FMo) (N := 45) hx hb hB in_Mo hown hK hP 0 rfl rfl 0 (by decide) (hB _ hw_890) (fun _ h9 => h9) rfl d_Mo_damage_38 ?_
    refine lv_if_ne (tgt := 59) hx hb d_Mo_damage_41 (by decide) (fun _ => ?_) (fun h9 => absurd h9 (by decide))
    have hP9 := hP.sub (ws' := [(h0, .inr (9, [.int 1, .ref (q 1), .ref (q 2), .ref (q 3), .int 0, .int 0, .ref (q 6), .ref (q 7), .int 0, .int 0, .int 0, .ref (q 11), .int 0, .int 0, .int (-1), .int 0, .ref (q 16), .int 0, .ref (q 18), .ref (q 19), .ref (q 20), .int 0, .ref (q 22), .int 0, .ref (q 24), .ref (q 25), .ref (q 26), .ref (q 27), .ref (q 28), .int 0, .ref (q 30), .ref (q 31), .ref (q 32), .ref (q 33), .int 0, .int 0, .int 0, .int 0, .int 0, .int 0, .ref (q 40), .int 0, .ref (q 42), .ref (q 43), .ref (q 44)]))]) [0] rfl
    have hD9 := hD.sub (ws' := [(h0, .inr (9, [.int 1, .ref (q 1), .ref (q 2), .ref (q 3), .int 0, .int 0, .ref (q 6), .ref (q 7), .int 0, .int 0, .int 0, .ref (q 11), .int 0, .int 0, .int (-1), .int 0, .ref (q 16), .int 0, .ref (q 18), .ref (q 19), .ref (q 20), .int 0, .ref (q 22), .int 0, .ref (q 24), .ref (q 25), .ref (q 26), .ref (q 27), .ref (q 28), .int 0, .ref (q 30), .ref (q 31), .ref (q 32), .ref (q 33), .int 0, .int 0, .int 0, .int 0, .int 0, .int 0, .ref (q 40), .int 0, .ref (q 42), .ref (q 43), .ref (q 44)]))]) [0] (by decide) rfl
    refine W.widen (k := 0) (n := 0) (Nat.le_of_ble_eq_true rfl) (Nat.le_of_ble_eq_true rfl) ?_
    exact W.vret hx hb hr (fun t ht hW => ⟨⟨(), rfl, trivial, [.ref (q 1), .ref (q 2), .ref (q 3), .int 0, .int 0, .ref (q 6), .ref (q 7), .int 0, .int 0, .int 0, .ref (q 11), .int 0, .int 0, .int (-1), .int 0, .ref (q 16), .int 0, .ref (q 18), .ref (q 19), .ref (q 20), .int 0, .ref (q 22), .int 0, .ref (q 24), .ref (q 25), .ref (q 26), .ref (q 27), .ref (q 28), .int 0, .ref (q 30), .ref (q 31), .ref (q 32), .ref (q 33), .int 0, .int 0, .int 0, .int 0, .int 0, .int 0, .ref (q 40), .int 0, .ref (q 42), .ref (q 43), .ref (q 44)], by rw [ht]; exact hP9, hD9⟩, hS.F ht⟩) hS.2.2 d_Mo_damage_59
set_option maxHeartbeats 4000000 in
set_option maxRecDepth 100000 in
theorem m_Mo_damage_m (l : Launch) (dC : Nat → ClassId) (dI : Nat → Nat → Nat) (sz : Nat) (h0 : Nat) (q : Nat → Nat) (ci : Nat → ClassId) (p0 p1 p2 : Int32) (h1 : ¬ p0 < 0) (h2 : ¬ 44 ≤ p0) (h3 : ¬ p1 < 0) (h4 : ¬ 64 ≤ p1) (h : p2 < 0 ∨ 255 < p2) : Met l y_Mo_damage w_Mo_damage ({ frames := 1, cells := 0, slots := 0, locals := 20 }) (va_Pc [.ref h0, .int p0, .int p1, .int p2] (fun U => U.heap.size = sz ∧ va_P (dC, dI) gx_cl (wMo h0 q ci) U.heap ∧ va_K (dC, dI) gx_cl (kMo ci) U ∧ va_D (fun _ => True) (wMo h0 q ci))) (va_Qv (fun _ : Unit => True) (fun _ t => ∃ fs : List Value, va_P (dC, dI) gx_cl [(h0, .inr (9, .int 1 :: fs))] t.heap ∧ va_D (va_A (wMo h0 q ci) sz) [(h0, .inr (9, .int 1 :: fs))]) (va_A (wMo h0 q ci) sz)) 0 0 (va_A (wMo h0 q ci) sz) := by
  refine Met.ofW (cc := b_Mo_damage) (maxL := 4) (ret := none) (by decide) rfl ?_
  intro p e s m args below meth c s₁ B hml hv
  obtain ⟨rfl, hsz, hP, hK, hD0⟩ := hv
  have hx := B.exec
  have hb := B.bytes
  have hr := B.returns
  have hts := atoms_spec (ws := w_Mo_damage) B.pre
  have hB : ∀ w ∈ gx_B, w.before _ s = true := fun w h => hts w (List.mem_cons_of_mem _ h)
  have hown : s.vm.findClass "TapeSealerModel" = some m.cls := findClass_of_methodNamed B.named
  have hlocks := B.notSynchronized
  subst hsz
  have hD := hD0.self (sz := s.heap.size)
  generalize hAe : va_A (wMo h0 q ci) s.heap.size = A at hD ⊢
  have hA : ∀ q : Nat, s.heap.size ≤ q → A q := fun q h => by rw [← hAe]; exact Or.inr h
  have hS : va_S A s.heap s.heap [] := va_S.rf
  have hl := lv_entry ([.ref h0, .int p0, .int p1, .int p2]) (n := 4) (Nat.le_of_ble_eq_true rfl)
  rw [lg_entry_eq]
  generalize (lg_sl ([.ref h0, .int p0, .int p1, .int p2]) ++ List.replicate (4 - (lg_sl ([.ref h0, .int p0, .int p1, .int p2])).length) Slot.unset).toArray = ls at hl ⊢
  have hl : lv_has ls 4 [(0, .ref h0), (1, .int p0), (2, .int p1), (3, .int p2)] := hl
  rcases h with hi | hi
  · refine lv_aload_n hx hb d_Mo_damage_0 rfl (lv_at hl 0 rfl) ?_
    refine lv_iload_n hx hb d_Mo_damage_1 rfl (lv_at hl 1 rfl) ?_
    refine px_go (va_runS (As := [.int p0]) (rest := [.ref h0]) ⟨hx, hb, hml, hown, hts⟩ (p_Mo_isBlock1 l p0 h1 h2) (cwS 1 hts (gx_goodS hw_1243 hw_1244 hw_75 k_Mo_isBlock) rfl rfl rfl (by decide +kernel) ⟨(Nat.le_of_ble_eq_true rfl), (Nat.le_of_ble_eq_true rfl)⟩) ⟨fun a U g mk q => q, fun U hU hW => ⟨rfl, trivial⟩⟩ rfl rfl hl.1 rfl (lv_room (Nat.le_of_ble_eq_true rfl)) d_Mo_damage_2 ⟨(Nat.le_of_ble_eq_true rfl), (Nat.le_of_ble_eq_true rfl)⟩) ?_
    refine W.eq (g2 := F0 m 5 ls [.int 1, .ref h0]) rfl ?_
    refine lv_if_eq (tgt := 29) hx hb d_Mo_damage_5 (by decide) (fun h9 => absurd h9 (by decide)) (fun _ => ?_)
    refine lv_iload_n hx hb d_Mo_damage_8 rfl (lv_at hl 2 rfl) ?_
    refine lv_if_lt (tgt := 29) hx hb d_Mo_damage_9 (by decide) (fun h9 => absurd h9 h3) (fun _ => ?_)
    refine lv_iload_n hx hb d_Mo_damage_12 rfl (lv_at hl 2 rfl) ?_
    refine lv_bipush (v := 64) hx hb d_Mo_damage_13 (by decide) ?_
    refine lv_icmp_ge (tgt := 29) hx hb d_Mo_damage_15 (by decide) (fun h9 => absurd h9 h4) (fun _ => ?_)
    refine lv_iload_n hx hb d_Mo_damage_18 rfl (lv_at hl 3 rfl) ?_
    refine lv_if_lt (tgt := 29) hx hb d_Mo_damage_19 (by decide) (fun _ => ?_) (fun h9 => absurd hi h9)
    refine lv_iconst (v := 1) hx hb d_Mo_damage_29 (by decide) ?_
    refine lv_goto (tgt := 34) hx hb d_Mo_damage_30 (by decide) ?_
    refine va_put (D := (dC, dI)) (ci := 9) (v := .int 1) (ty := .int) (C := RMo) (T := FMo) (N := 45) hx hb hB in_Mo tMo tMo_ok nMo hown hK hP hD hS 0 rfl rfl 0 (by decide) (hB _ hw_890) (fun _ h9 => h9) rfl (by decide +kernel) rfl rfl (Nat.le_of_ble_eq_true rfl) d_Mo_damage_34 (fun H locs hP hD hS => ?_)
    have hP : va_P (dC, dI) gx_cl [(h0, .inr (9, [.int 1, .ref (q 1), .ref (q 2), .ref (q 3), .int 0, .int 0, .ref (q 6), .ref (q 7), .int 0, .int 0, .int 0, .ref (q 11), .int 0, .int 0, .int (-1), .int 0, .ref (q 16), .int 0, .ref (q 18), .ref (q 19), .ref (q 20), .int 0, .ref (q 22), .int 0, .ref (q 24), .ref (q 25), .ref (q 26), .ref (q 27), .ref (q 28), .int 0, .ref (q 30), .ref (q 31), .ref (q 32), .ref (q 33), .int 0, .int 0, .int 0, .int 0, .int 0, .int 0, .ref (q 40), .int 0, .ref (q 42), .ref (q 43), .ref (q 44)])), ((q 1), .inl ((ci 0), 2816, .inl (fun _ => 0))), ((q 2), .inl ((ci 1), 44, .inl (fun _ => 0))), ((q 3), .inl ((ci 2), 192, .inl (fun _ => 0))), ((q 7), .inl ((ci 3), 10, .inl (fun _ => 0)))] H := hP
    have hD : va_D A [(h0, .inr (9, [.int 1, .ref (q 1), .ref (q 2), .ref (q 3), .int 0, .int 0, .ref (q 6), .ref (q 7), .int 0, .int 0, .int 0, .ref (q 11), .int 0, .int 0, .int (-1), .int 0, .ref (q 16), .int 0, .ref (q 18), .ref (q 19), .ref (q 20), .int 0, .ref (q 22), .int 0, .ref (q 24), .ref (q 25), .ref (q 26), .ref (q 27), .ref (q 28), .int 0, .ref (q 30), .ref (q 31), .ref (q 32), .ref (q 33), .int 0, .int 0, .int 0, .int 0, .int 0, .int 0, .ref (q 40), .int 0, .ref (q 42), .ref (q 43), .ref (q 44)])), ((q 1), .inl ((ci 0), 2816, .inl (fun _ => 0))), ((q 2), .inl ((ci 1), 44, .inl (fun _ => 0))), ((q 3), .inl ((ci 2), 192, .inl (fun _ => 0))), ((q 7), .inl ((ci 3), 10, .inl (fun _ => 0)))] := hD
    refine lv_aload_n hx hb d_Mo_damage_37 rfl (lv_at hl 0 rfl) ?_
    refine va_get (D := (dC, dI)) (ci := 9) (v := .int 1) (C := RMo) (T := FMo) (N := 45) hx hb hB in_Mo hown hK hP 0 rfl rfl 0 (by decide) (hB _ hw_890) (fun _ h9 => h9) rfl d_Mo_damage_38 ?_
    refine lv_if_ne (tgt := 59) hx hb d_Mo_damage_41 (by decide) (fun _ => ?_) (fun h9 => absurd h9 (by decide))
    have hP9 := hP.sub (ws' := [(h0, .inr (9, [.int 1, .ref (q 1), .ref (q 2), .ref (q 3), .int 0, .int 0, .ref (q 6), .ref (q 7), .int 0, .int 0, .int 0, .ref (q 11), .int 0, .int 0, .int (-1), .int 0, .ref (q 16), .int 0, .ref (q 18), .ref (q 19), .ref (q 20), .int 0, .ref (q 22), .int 0, .ref (q 24), .ref (q 25), .ref (q 26), .ref (q 27), .ref (q 28), .int 0, .ref (q 30), .ref (q 31), .ref (q 32), .ref (q 33), .int 0, .int 0, .int 0, .int 0, .int 0, .int 0, .ref (q 40), .int 0, .ref (q 42), .ref (q 43), .ref (q 44)]))]) [0] rfl
    have hD9 := hD.sub (ws' := [(h0, .inr (9, [.int 1, .ref (q 1), .ref (q 2), .ref (q 3), .int 0, .int 0, .ref (q 6), .ref (q 7), .int 0, .int 0, .int 0, .ref (q 11), .int 0, .int 0, .int (-1), .int 0, .ref (q 16), .int 0, .ref (q 18), .ref (q 19), .ref (q 20), .int 0, .ref (q 22), .int 0, .ref (q 24), .ref (q 25), .ref (q 26), .ref (q 27), .ref (q 28), .int 0, .ref (q 30), .ref (q 31), .ref (q 32), .ref (q 33), .int 0, .int 0, .int 0, .int 0, .int 0, .int 0, .ref (q 40), .int 0, .ref (q 42), .ref (q 43), .ref (q 44)]))]) [0] (by decide) rfl
    refine W.widen (k := 0) (n := 0) (Nat.le_of_ble_eq_true rfl) (Nat.le_of_ble_eq_true rfl) ?_
    exact W.vret hx hb hr (fun t ht hW => ⟨⟨(), rfl, trivial, [.ref (q 1), .ref (q 2), .ref (q 3), .int 0, .int 0, .ref (q 6), .ref (q 7), .int 0, .int 0, .int 0, .ref (q 11), .int 0, .int 0, .int (-1), .int 0, .ref (q 16), .int 0, .ref (q 18), .ref (q 19), .ref (q 20), .int 0, .ref (q 22), .int 0, .ref (q 24), .ref (q 25), .ref (q 26), .ref (q 27), .ref (q 28), .int 0, .ref (q 30), .ref (q 31), .ref (q 32), .ref (q 33), .int 0, .int 0, .int 0, .int 0, .int 0, .int 0, .ref (q 40), .int 0, .ref (q 42), .ref (q 43), .ref (q 44)], by rw [ht]; exact hP9, hD9⟩, hS.F ht⟩) hS.2.2 d_Mo_damage_59
  · refine lv_aload_n hx hb d_Mo_damage_0 rfl (lv_at hl 0 rfl) ?_
    refine lv_iload_n hx hb d_Mo_damage_1 rfl (lv_at hl 1 rfl) ?_
    refine px_go (va_runS (As := [.int p0]) (rest := [.ref h0]) ⟨hx, hb, hml, hown, hts⟩ (p_Mo_isBlock1 l p0 h1 h2) (cwS 1 hts (gx_goodS hw_1243 hw_1244 hw_75 k_Mo_isBlock) rfl rfl rfl (by decide +kernel) ⟨(Nat.le_of_ble_eq_true rfl), (Nat.le_of_ble_eq_true rfl)⟩) ⟨fun a U g mk q => q, fun U hU hW => ⟨rfl, trivial⟩⟩ rfl rfl hl.1 rfl (lv_room (Nat.le_of_ble_eq_true rfl)) d_Mo_damage_2 ⟨(Nat.le_of_ble_eq_true rfl), (Nat.le_of_ble_eq_true rfl)⟩) ?_
    refine W.eq (g2 := F0 m 5 ls [.int 1, .ref h0]) rfl ?_
    refine lv_if_eq (tgt := 29) hx hb d_Mo_damage_5 (by decide) (fun h9 => absurd h9 (by decide)) (fun _ => ?_)
    refine lv_iload_n hx hb d_Mo_damage_8 rfl (lv_at hl 2 rfl) ?_
    refine lv_if_lt (tgt := 29) hx hb d_Mo_damage_9 (by decide) (fun h9 => absurd h9 h3) (fun _ => ?_)
    refine lv_iload_n hx hb d_Mo_damage_12 rfl (lv_at hl 2 rfl) ?_
    refine lv_bipush (v := 64) hx hb d_Mo_damage_13 (by decide) ?_
    refine lv_icmp_ge (tgt := 29) hx hb d_Mo_damage_15 (by decide) (fun h9 => absurd h9 h4) (fun _ => ?_)
    refine lv_iload_n hx hb d_Mo_damage_18 rfl (lv_at hl 3 rfl) ?_
    refine lv_if_lt (tgt := 29) hx hb d_Mo_damage_19 (by decide) (fun h9 => absurd h9 (gx_nlt255 hi)) (fun _ => ?_)
    refine lv_iload_n hx hb d_Mo_damage_22 rfl (lv_at hl 3 rfl) ?_
    refine lv_sipush (v := 255) hx hb d_Mo_damage_23 (by decide) ?_
    refine lv_icmp_le (tgt := 33) hx hb d_Mo_damage_26 (by decide) (fun h9 => absurd h9 (gx_nle255 hi)) (fun _ => ?_)
    refine lv_iconst (v := 1) hx hb d_Mo_damage_29 (by decide) ?_
    refine lv_goto (tgt := 34) hx hb d_Mo_damage_30 (by decide) ?_
    refine va_put (D := (dC, dI)) (ci := 9) (v := .int 1) (ty := .int) (C := RMo) (T := FMo) (N := 45) hx hb hB in_Mo tMo tMo_ok nMo hown hK hP hD hS 0 rfl rfl 0 (by decide) (hB _ hw_890) (fun _ h9 => h9) rfl (by decide +kernel) rfl rfl (Nat.le_of_ble_eq_true rfl) d_Mo_damage_34 (fun H locs hP hD hS => ?_)
    have hP : va_P (dC, dI) gx_cl [(h0, .inr (9, [.int 1, .ref (q 1), .ref (q 2), .ref (q 3), .int 0, .int 0, .ref (q 6), .ref (q 7), .int 0, .int 0, .int 0, .ref (q 11), .int 0, .int 0, .int (-1), .int 0, .ref (q 16), .int 0, .ref (q 18), .ref (q 19), .ref (q 20), .int 0, .ref (q 22), .int 0, .ref (q 24), .ref (q 25), .ref (q 26), .ref (q 27), .ref (q 28), .int 0, .ref (q 30), .ref (q 31), .ref (q 32), .ref (q 33), .int 0, .int 0, .int 0, .int 0, .int 0, .int 0, .ref (q 40), .int 0, .ref (q 42), .ref (q 43), .ref (q 44)])), ((q 1), .inl ((ci 0), 2816, .inl (fun _ => 0))), ((q 2), .inl ((ci 1), 44, .inl (fun _ => 0))), ((q 3), .inl ((ci 2), 192, .inl (fun _ => 0))), ((q 7), .inl ((ci 3), 10, .inl (fun _ => 0)))] H := hP
    have hD : va_D A [(h0, .inr (9, [.int 1, .ref (q 1), .ref (q 2), .ref (q 3), .int 0, .int 0, .ref (q 6), .ref (q 7), .int 0, .int 0, .int 0, .ref (q 11), .int 0, .int 0, .int (-1), .int 0, .ref (q 16), .int 0, .ref (q 18), .ref (q 19), .ref (q 20), .int 0, .ref (q 22), .int 0, .ref (q 24), .ref (q 25), .ref (q 26), .ref (q 27), .ref (q 28), .int 0, .ref (q 30), .ref (q 31), .ref (q 32), .ref (q 33), .int 0, .int 0, .int 0, .int 0, .int 0, .int 0, .ref (q 40), .int 0, .ref (q 42), .ref (q 43), .ref (q 44)])), ((q 1), .inl ((ci 0), 2816, .inl (fun _ => 0))), ((q 2), .inl ((ci 1), 44, .inl (fun _ => 0))), ((q 3), .inl ((ci 2), 192, .inl (fun _ => 0))), ((q 7), .inl ((ci 3), 10, .inl (fun _ => 0)))] := hD
    refine lv_aload_n hx hb d_Mo_damage_37 rfl (lv_at hl 0 rfl) ?_
    refine va_get (D := (dC, dI)) (ci := 9) (v := .int 1) (C := RMo) (T := FMo) (N := 45) hx hb hB in_Mo hown hK hP 0 rfl rfl 0 (by decide) (hB _ hw_890) (fun _ h9 => h9) rfl d_Mo_damage_38 ?_
    refine lv_if_ne (tgt := 59) hx hb d_Mo_damage_41 (by decide) (fun _ => ?_) (fun h9 => absurd h9 (by decide))
    have hP9 := hP.sub (ws' := [(h0, .inr (9, [.int 1, .ref (q 1), .ref (q 2), .ref (q 3), .int 0, .int 0, .ref (q 6), .ref (q 7), .int 0, .int 0, .int 0, .ref (q 11), .int 0, .int 0, .int (-1), .int 0, .ref (q 16), .int 0, .ref (q 18), .ref (q 19), .ref (q 20), .int 0, .ref (q 22), .int 0, .ref (q 24), .ref (q 25), .ref (q 26), .ref (q 27), .ref (q 28), .int 0, .ref (q 30), .ref (q 31), .ref (q 32), .ref (q 33), .int 0, .int 0, .int 0, .int 0, .int 0, .int 0, .ref (q 40), .int 0, .ref (q 42), .ref (q 43), .ref (q 44)]))]) [0] rfl
    have hD9 := hD.sub (ws' := [(h0, .inr (9, [.int 1, .ref (q 1), .ref (q 2), .ref (q 3), .int 0, .int 0, .ref (q 6), .ref (q 7), .int 0, .int 0, .int 0, .ref (q 11), .int 0, .int 0, .int (-1), .int 0, .ref (q 16), .int 0, .ref (q 18), .ref (q 19), .ref (q 20), .int 0, .ref (q 22), .int 0, .ref (q 24), .ref (q 25), .ref (q 26), .ref (q 27), .ref (q 28), .int 0, .ref (q 30), .ref (q 31), .ref (q 32), .ref (q 33), .int 0, .int 0, .int 0, .int 0, .int 0, .int 0, .ref (q 40), .int 0, .ref (q 42), .ref (q 43), .ref (q 44)]))]) [0] (by decide) rfl
    refine W.widen (k := 0) (n := 0) (Nat.le_of_ble_eq_true rfl) (Nat.le_of_ble_eq_true rfl) ?_
    exact W.vret hx hb hr (fun t ht hW => ⟨⟨(), rfl, trivial, [.ref (q 1), .ref (q 2), .ref (q 3), .int 0, .int 0, .ref (q 6), .ref (q 7), .int 0, .int 0, .int 0, .ref (q 11), .int 0, .int 0, .int (-1), .int 0, .ref (q 16), .int 0, .ref (q 18), .ref (q 19), .ref (q 20), .int 0, .ref (q 22), .int 0, .ref (q 24), .ref (q 25), .ref (q 26), .ref (q 27), .ref (q 28), .int 0, .ref (q 30), .ref (q 31), .ref (q 32), .ref (q 33), .int 0, .int 0, .int 0, .int 0, .int 0, .int 0, .ref (q 40), .int 0, .ref (q 42), .ref (q 43), .ref (q 44)], by rw [ht]; exact hP9, hD9⟩, hS.F ht⟩) hS.2.2 d_Mo_damage_59
set_option maxHeartbeats 4000000 in
set_option maxRecDepth 100000 in
theorem m_Mo_damage1 (l : Launch) (dC : Nat → ClassId) (dI : Nat → Nat → Nat) (sz : Nat) (h0 : Nat) (q : Nat → Nat) (ci : Nat → ClassId) (p0 p1 p2 : Int32) (h1 : ¬ p0 < 0) (h2 : ¬ 44 ≤ p0) (h3 : ¬ p1 < 0) (h4 : ¬ 64 ≤ p1) (h5 : ¬ p2 < 0) (h6 : p2 ≤ 255) : Met l y_Mo_damage w_Mo_damage ({ frames := 1, cells := 0, slots := 0, locals := 20 }) (va_Pc [.ref h0, .int p0, .int p1, .int p2] (fun U => U.heap.size = sz ∧ va_P (dC, dI) gx_cl (wMo h0 q ci) U.heap ∧ va_K (dC, dI) gx_cl (kMo ci) U ∧ va_D (fun _ => True) (wMo h0 q ci))) (va_Qv (fun _ : Unit => True) (fun _ t => ∃ fs : List Value, va_P (dC, dI) gx_cl [(h0, .inr (9, .int 0 :: fs))] t.heap ∧ va_D (va_A (wMo h0 q ci) sz) [(h0, .inr (9, .int 0 :: fs))]) (va_A (wMo h0 q ci) sz)) 0 0 (va_A (wMo h0 q ci) sz) := by
  refine Met.ofW (cc := b_Mo_damage) (maxL := 4) (ret := none) (by decide) rfl ?_
  intro p e s m args below meth c s₁ B hml hv
  obtain ⟨rfl, hsz, hP, hK, hD0⟩ := hv
  have hx := B.exec
  have hb := B.bytes
  have hr := B.returns
  have hts := atoms_spec (ws := w_Mo_damage) B.pre
  have hB : ∀ w ∈ gx_B, w.before _ s = true := fun w h => hts w (List.mem_cons_of_mem _ h)
  have hown : s.vm.findClass "TapeSealerModel" = some m.cls := findClass_of_methodNamed B.named
  have hlocks := B.notSynchronized
  subst hsz
  have hD := hD0.self (sz := s.heap.size)
  generalize hAe : va_A (wMo h0 q ci) s.heap.size = A at hD ⊢
  have hA : ∀ q : Nat, s.heap.size ≤ q → A q := fun q h => by rw [← hAe]; exact Or.inr h
  have hS : va_S A s.heap s.heap [] := va_S.rf
  have hl := lv_entry ([.ref h0, .int p0, .int p1, .int p2]) (n := 4) (Nat.le_of_ble_eq_true rfl)
  rw [lg_entry_eq]
  generalize (lg_sl ([.ref h0, .int p0, .int p1, .int p2]) ++ List.replicate (4 - (lg_sl ([.ref h0, .int p0, .int p1, .int p2])).length) Slot.unset).toArray = ls at hl ⊢
  have hl : lv_has ls 4 [(0, .ref h0), (1, .int p0), (2, .int p1), (3, .int p2)] := hl
  refine lv_aload_n hx hb d_Mo_damage_0 rfl (lv_at hl 0 rfl) ?_
  refine lv_iload_n hx hb d_Mo_damage_1 rfl (lv_at hl 1 rfl) ?_
  refine px_go (va_runS (As := [.int p0]) (rest := [.ref h0]) ⟨hx, hb, hml, hown, hts⟩ (p_Mo_isBlock1 l p0 h1 h2) (cwS 1 hts (gx_goodS hw_1243 hw_1244 hw_75 k_Mo_isBlock) rfl rfl rfl (by decide +kernel) ⟨(Nat.le_of_ble_eq_true rfl), (Nat.le_of_ble_eq_true rfl)⟩) ⟨fun a U g mk q => q, fun U hU hW => ⟨rfl, trivial⟩⟩ rfl rfl hl.1 rfl (lv_room (Nat.le_of_ble_eq_true rfl)) d_Mo_damage_2 ⟨(Nat.le_of_ble_eq_true rfl), (Nat.le_of_ble_eq_true rfl)⟩) ?_
  refine W.eq (g2 := F0 m 5 ls [.int 1, .ref h0]) rfl ?_
  refine lv_if_eq (tgt := 29) hx hb d_Mo_damage_5 (by decide) (fun h9 => absurd h9 (by decide)) (fun _ => ?_)
  refine lv_iload_n hx hb d_Mo_damage_8 rfl (lv_at hl 2 rfl) ?_
  refine lv_if_lt (tgt := 29) hx hb d_Mo_damage_9 (by decide) (fun h9 => absurd h9 h3) (fun _ => ?_)
  refine lv_iload_n hx hb d_Mo_damage_12 rfl (lv_at hl 2 rfl) ?_
  refine lv_bipush (v := 64) hx hb d_Mo_damage_13 (by decide) ?_
  refine lv_icmp_ge (tgt := 29) hx hb d_Mo_damage_15 (by decide) (fun h9 => absurd h9 h4) (fun _ => ?_)
  refine lv_iload_n hx hb d_Mo_damage_18 rfl (lv_at hl 3 rfl) ?_
  refine lv_if_lt (tgt := 29) hx hb d_Mo_damage_19 (by decide) (fun h9 => absurd h9 h5) (fun _ => ?_)
  refine lv_iload_n hx hb d_Mo_damage_22 rfl (lv_at hl 3 rfl) ?_
  refine lv_sipush (v := 255) hx hb d_Mo_damage_23 (by decide) ?_
  refine lv_icmp_le (tgt := 33) hx hb d_Mo_damage_26 (by decide) (fun _ => ?_) (fun h9 => absurd h6 h9)
  refine lv_iconst (v := 0) hx hb d_Mo_damage_33 (by decide) ?_
  refine va_put (D := (dC, dI)) (ci := 9) (v := .int 0) (ty := .int) (C := RMo) (T := FMo) (N := 45) hx hb hB in_Mo tMo tMo_ok nMo hown hK hP hD hS 0 rfl rfl 0 (by decide) (hB _ hw_890) (fun _ h9 => h9) rfl (by decide +kernel) rfl rfl (Nat.le_of_ble_eq_true rfl) d_Mo_damage_34 (fun H locs hP hD hS => ?_)
  have hP : va_P (dC, dI) gx_cl (wMo h0 q ci) H := hP
  have hD : va_D A (wMo h0 q ci) := hD
  refine lv_aload_n hx hb d_Mo_damage_37 rfl (lv_at hl 0 rfl) ?_
  refine va_get (D := (dC, dI)) (ci := 9) (v := .int 0) (C := RMo) (T := FMo) (N := 45) hx hb hB in_Mo hown hK hP 0 rfl rfl 0 (by decide) (hB _ hw_890) (fun _ h9 => h9) rfl d_Mo_damage_38 ?_
  refine lv_if_ne (tgt := 59) hx hb d_Mo_damage_41 (by decide) (fun h9 => absurd (by decide) h9) (fun _ => ?_)
  refine lv_aload_n hx hb d_Mo_damage_44 rfl (lv_at hl 0 rfl) ?_
  refine va_get (D := (dC, dI)) (ci := 9) (v := .ref (q 1)) (C := RMo) (T := FMo) (N := 45) hx hb hB in_Mo hown hK hP 0 rfl rfl 1 (by decide) (hB _ hw_891) (fun _ h9 => h9) rfl d_Mo_damage_45 ?_
  refine lv_bipush (v := 64) hx hb d_Mo_damage_48 (by decide) ?_
  refine lv_iload_n hx hb d_Mo_damage_50 rfl (lv_at hl 1 rfl) ?_
  refine lv_imul hx hb d_Mo_damage_51 ?_
  refine lv_topi (fun z1 z1_e => ?_)
  refine lv_iload_n hx hb d_Mo_damage_52 rfl (lv_at hl 2 rfl) ?_
  refine lv_iadd hx hb d_Mo_damage_53 ?_
  refine lv_topi (fun z2 z2_e => ?_)
  refine lv_dup2_11 hx hb d_Mo_damage_54 rfl rfl ?_
  refine va_iald (D := (dC, dI)) hx hb hK hP 1 0 rfl rfl (by rw [z2_e, z1_e]; exact gx_in2816 h1 h2 h3 h4) d_Mo_damage_55 ?_
  refine W.eq (g2 := F0 m 56 ls [.int 0, .int z2, .ref (q 1)]) rfl ?_
  refine lv_iload_n hx hb d_Mo_damage_56 rfl (lv_at hl 3 rfl) ?_
  refine lv_ixor hx hb d_Mo_damage_57 ?_
  refine lv_topi (fun z3 z3_e => ?_)
  refine va_iast (D := (dC, dI)) hx hb hK hP hD hS 1 0 rfl rfl (by rw [z2_e, z1_e]; exact gx_in2816 h1 h2 h3 h4) d_Mo_damage_58 (fun H locs hP hD hS => ?_)
  have hP : va_P (dC, dI) gx_cl [(h0, .inr (9, [.int 0, .ref (q 1), .ref (q 2), .ref (q 3), .int 0, .int 0, .ref (q 6), .ref (q 7), .int 0, .int 0, .int 0, .ref (q 11), .int 0, .int 0, .int (-1), .int 0, .ref (q 16), .int 0, .ref (q 18), .ref (q 19), .ref (q 20), .int 0, .ref (q 22), .int 0, .ref (q 24), .ref (q 25), .ref (q 26), .ref (q 27), .ref (q 28), .int 0, .ref (q 30), .ref (q 31), .ref (q 32), .ref (q 33), .int 0, .int 0, .int 0, .int 0, .int 0, .int 0, .ref (q 40), .int 0, .ref (q 42), .ref (q 43), .ref (q 44)])), ((q 1), .inl ((ci 0), 2816, .inl (upd (fun _ => 0) (Int32.toNatClampNeg z2) z3))), ((q 2), .inl ((ci 1), 44, .inl (fun _ => 0))), ((q 3), .inl ((ci 2), 192, .inl (fun _ => 0))), ((q 7), .inl ((ci 3), 10, .inl (fun _ => 0)))] H := hP
  have hD : va_D A [(h0, .inr (9, [.int 0, .ref (q 1), .ref (q 2), .ref (q 3), .int 0, .int 0, .ref (q 6), .ref (q 7), .int 0, .int 0, .int 0, .ref (q 11), .int 0, .int 0, .int (-1), .int 0, .ref (q 16), .int 0, .ref (q 18), .ref (q 19), .ref (q 20), .int 0, .ref (q 22), .int 0, .ref (q 24), .ref (q 25), .ref (q 26), .ref (q 27), .ref (q 28), .int 0, .ref (q 30), .ref (q 31), .ref (q 32), .ref (q 33), .int 0, .int 0, .int 0, .int 0, .int 0, .int 0, .ref (q 40), .int 0, .ref (q 42), .ref (q 43), .ref (q 44)])), ((q 1), .inl ((ci 0), 2816, .inl (upd (fun _ => 0) (Int32.toNatClampNeg z2) z3))), ((q 2), .inl ((ci 1), 44, .inl (fun _ => 0))), ((q 3), .inl ((ci 2), 192, .inl (fun _ => 0))), ((q 7), .inl ((ci 3), 10, .inl (fun _ => 0)))] := hD
  have hP9 := hP.sub (ws' := [(h0, .inr (9, [.int 0, .ref (q 1), .ref (q 2), .ref (q 3), .int 0, .int 0, .ref (q 6), .ref (q 7), .int 0, .int 0, .int 0, .ref (q 11), .int 0, .int 0, .int (-1), .int 0, .ref (q 16), .int 0, .ref (q 18), .ref (q 19), .ref (q 20), .int 0, .ref (q 22), .int 0, .ref (q 24), .ref (q 25), .ref (q 26), .ref (q 27), .ref (q 28), .int 0, .ref (q 30), .ref (q 31), .ref (q 32), .ref (q 33), .int 0, .int 0, .int 0, .int 0, .int 0, .int 0, .ref (q 40), .int 0, .ref (q 42), .ref (q 43), .ref (q 44)]))]) [0] rfl
  have hD9 := hD.sub (ws' := [(h0, .inr (9, [.int 0, .ref (q 1), .ref (q 2), .ref (q 3), .int 0, .int 0, .ref (q 6), .ref (q 7), .int 0, .int 0, .int 0, .ref (q 11), .int 0, .int 0, .int (-1), .int 0, .ref (q 16), .int 0, .ref (q 18), .ref (q 19), .ref (q 20), .int 0, .ref (q 22), .int 0, .ref (q 24), .ref (q 25), .ref (q 26), .ref (q 27), .ref (q 28), .int 0, .ref (q 30), .ref (q 31), .ref (q 32), .ref (q 33), .int 0, .int 0, .int 0, .int 0, .int 0, .int 0, .ref (q 40), .int 0, .ref (q 42), .ref (q 43), .ref (q 44)]))]) [0] (by decide) rfl
  refine W.widen (k := 0) (n := 0) (Nat.le_of_ble_eq_true rfl) (Nat.le_of_ble_eq_true rfl) ?_
  exact W.vret hx hb hr (fun t ht hW => ⟨⟨(), rfl, trivial, [.ref (q 1), .ref (q 2), .ref (q 3), .int 0, .int 0, .ref (q 6), .ref (q 7), .int 0, .int 0, .int 0, .ref (q 11), .int 0, .int 0, .int (-1), .int 0, .ref (q 16), .int 0, .ref (q 18), .ref (q 19), .ref (q 20), .int 0, .ref (q 22), .int 0, .ref (q 24), .ref (q 25), .ref (q 26), .ref (q 27), .ref (q 28), .int 0, .ref (q 30), .ref (q 31), .ref (q 32), .ref (q 33), .int 0, .int 0, .int 0, .int 0, .int 0, .int 0, .ref (q 40), .int 0, .ref (q 42), .ref (q 43), .ref (q 44)], by rw [ht]; exact hP9, hD9⟩, hS.F ht⟩) hS.2.2 d_Mo_damage_59
set_option maxHeartbeats 4000000 in
set_option maxRecDepth 100000 in
theorem m_Mo_spoil0 (l : Launch) (dC : Nat → ClassId) (dI : Nat → Nat → Nat) (sz : Nat) (h0 : Nat) (q : Nat → Nat) (ci : Nat → ClassId) (p0 : Int32) (h : p0 < 0 ∨ 44 ≤ p0) : Met l y_Mo_spoil w_Mo_spoil ({ frames := 1, cells := 0, slots := 0, locals := 20 }) (va_Pc [.ref h0, .int p0] (fun U => U.heap.size = sz ∧ va_P (dC, dI) gx_cl (wMo h0 q ci) U.heap ∧ va_K (dC, dI) gx_cl (kMo ci) U ∧ va_D (fun _ => True) (wMo h0 q ci))) (va_Qv (fun _ : Unit => True) (fun _ t => ∃ fs : List Value, va_P (dC, dI) gx_cl [(h0, .inr (9, .int 1 :: fs))] t.heap ∧ va_D (va_A (wMo h0 q ci) sz) [(h0, .inr (9, .int 1 :: fs))]) (va_A (wMo h0 q ci) sz)) 0 0 (va_A (wMo h0 q ci) sz) := by
  refine Met.ofW (cc := b_Mo_spoil) (maxL := 2) (ret := none) (by decide) rfl ?_
  intro p e s m args below meth c s₁ B hml hv
  obtain ⟨rfl, hsz, hP, hK, hD0⟩ := hv
  have hx := B.exec
  have hb := B.bytes
  have hr := B.returns
  have hts := atoms_spec (ws := w_Mo_spoil) B.pre
  have hB : ∀ w ∈ gx_B, w.before _ s = true := fun w h => hts w (List.mem_cons_of_mem _ h)
  have hown : s.vm.findClass "TapeSealerModel" = some m.cls := findClass_of_methodNamed B.named
  have hlocks := B.notSynchronized
  subst hsz
  have hD := hD0.self (sz := s.heap.size)
  generalize hAe : va_A (wMo h0 q ci) s.heap.size = A at hD ⊢
  have hA : ∀ q : Nat, s.heap.size ≤ q → A q := fun q h => by rw [← hAe]; exact Or.inr h
  have hS : va_S A s.heap s.heap [] := va_S.rf
  have hl := lv_entry ([.ref h0, .int p0]) (n := 2) (Nat.le_of_ble_eq_true rfl)
  rw [lg_entry_eq]
  generalize (lg_sl ([.ref h0, .int p0]) ++ List.replicate (2 - (lg_sl ([.ref h0, .int p0])).length) Slot.unset).toArray = ls at hl ⊢
  have hl : lv_has ls 2 [(0, .ref h0), (1, .int p0)] := hl
  refine lv_aload_n hx hb d_Mo_spoil_0 rfl (lv_at hl 0 rfl) ?_
  refine lv_iload_n hx hb d_Mo_spoil_1 rfl (lv_at hl 1 rfl) ?_
  refine px_go (va_runS (As := [.int p0]) (rest := [.ref h0]) ⟨hx, hb, hml, hown, hts⟩ (p_Mo_isBlock0 l p0 h) (cwS 1 hts (gx_goodS hw_1243 hw_1244 hw_75 k_Mo_isBlock) rfl rfl rfl (by decide +kernel) ⟨(Nat.le_of_ble_eq_true rfl), (Nat.le_of_ble_eq_true rfl)⟩) ⟨fun a U g mk q => q, fun U hU hW => ⟨rfl, trivial⟩⟩ rfl rfl hl.1 rfl (lv_room (Nat.le_of_ble_eq_true rfl)) d_Mo_spoil_2 ⟨(Nat.le_of_ble_eq_true rfl), (Nat.le_of_ble_eq_true rfl)⟩) ?_
  refine W.eq (g2 := F0 m 5 ls [.int 0, .ref h0]) rfl ?_
  refine lv_if_eq (tgt := 12) hx hb d_Mo_spoil_5 (by decide) (fun _ => ?_) (fun h9 => absurd (by decide) h9)
  refine lv_iconst (v := 1) hx hb d_Mo_spoil_12 (by decide) ?_
  refine va_put (D := (dC, dI)) (ci := 9) (v := .int 1) (ty := .int) (C := RMo) (T := FMo) (N := 45) hx hb hB in_Mo tMo tMo_ok nMo hown hK hP hD hS 0 rfl rfl 0 (by decide) (hB _ hw_890) (fun _ h9 => h9) rfl (by decide +kernel) rfl rfl (Nat.le_of_ble_eq_true rfl) d_Mo_spoil_13 (fun H locs hP hD hS => ?_)
  have hP : va_P (dC, dI) gx_cl [(h0, .inr (9, [.int 1, .ref (q 1), .ref (q 2), .ref (q 3), .int 0, .int 0, .ref (q 6), .ref (q 7), .int 0, .int 0, .int 0, .ref (q 11), .int 0, .int 0, .int (-1), .int 0, .ref (q 16), .int 0, .ref (q 18), .ref (q 19), .ref (q 20), .int 0, .ref (q 22), .int 0, .ref (q 24), .ref (q 25), .ref (q 26), .ref (q 27), .ref (q 28), .int 0, .ref (q 30), .ref (q 31), .ref (q 32), .ref (q 33), .int 0, .int 0, .int 0, .int 0, .int 0, .int 0, .ref (q 40), .int 0, .ref (q 42), .ref (q 43), .ref (q 44)])), ((q 1), .inl ((ci 0), 2816, .inl (fun _ => 0))), ((q 2), .inl ((ci 1), 44, .inl (fun _ => 0))), ((q 3), .inl ((ci 2), 192, .inl (fun _ => 0))), ((q 7), .inl ((ci 3), 10, .inl (fun _ => 0)))] H := hP
  have hD : va_D A [(h0, .inr (9, [.int 1, .ref (q 1), .ref (q 2), .ref (q 3), .int 0, .int 0, .ref (q 6), .ref (q 7), .int 0, .int 0, .int 0, .ref (q 11), .int 0, .int 0, .int (-1), .int 0, .ref (q 16), .int 0, .ref (q 18), .ref (q 19), .ref (q 20), .int 0, .ref (q 22), .int 0, .ref (q 24), .ref (q 25), .ref (q 26), .ref (q 27), .ref (q 28), .int 0, .ref (q 30), .ref (q 31), .ref (q 32), .ref (q 33), .int 0, .int 0, .int 0, .int 0, .int 0, .int 0, .ref (q 40), .int 0, .ref (q 42), .ref (q 43), .ref (q 44)])), ((q 1), .inl ((ci 0), 2816, .inl (fun _ => 0))), ((q 2), .inl ((ci 1), 44, .inl (fun _ => 0))), ((q 3), .inl ((ci 2), 192, .inl (fun _ => 0))), ((q 7), .inl ((ci 3), 10, .inl (fun _ => 0)))] := hD
  refine lv_aload_n hx hb d_Mo_spoil_16 rfl (lv_at hl 0 rfl) ?_
  refine va_get (D := (dC, dI)) (ci := 9) (v := .int 1) (C := RMo) (T := FMo) (N := 45) hx hb hB in_Mo hown hK hP 0 rfl rfl 0 (by decide) (hB _ hw_890) (fun _ h9 => h9) rfl d_Mo_spoil_17 ?_
  refine lv_if_ne (tgt := 30) hx hb d_Mo_spoil_20 (by decide) (fun _ => ?_) (fun h9 => absurd h9 (by decide))
  have hP9 := hP.sub (ws' := [(h0, .inr (9, [.int 1, .ref (q 1), .ref (q 2), .ref (q 3), .int 0, .int 0, .ref (q 6), .ref (q 7), .int 0, .int 0, .int 0, .ref (q 11), .int 0, .int 0, .int (-1), .int 0, .ref (q 16), .int 0, .ref (q 18), .ref (q 19), .ref (q 20), .int 0, .ref (q 22), .int 0, .ref (q 24), .ref (q 25), .ref (q 26), .ref (q 27), .ref (q 28), .int 0, .ref (q 30), .ref (q 31), .ref (q 32), .ref (q 33), .int 0, .int 0, .int 0, .int 0, .int 0, .int 0, .ref (q 40), .int 0, .ref (q 42), .ref (q 43), .ref (q 44)]))]) [0] rfl
  have hD9 := hD.sub (ws' := [(h0, .inr (9, [.int 1, .ref (q 1), .ref (q 2), .ref (q 3), .int 0, .int 0, .ref (q 6), .ref (q 7), .int 0, .int 0, .int 0, .ref (q 11), .int 0, .int 0, .int (-1), .int 0, .ref (q 16), .int 0, .ref (q 18), .ref (q 19), .ref (q 20), .int 0, .ref (q 22), .int 0, .ref (q 24), .ref (q 25), .ref (q 26), .ref (q 27), .ref (q 28), .int 0, .ref (q 30), .ref (q 31), .ref (q 32), .ref (q 33), .int 0, .int 0, .int 0, .int 0, .int 0, .int 0, .ref (q 40), .int 0, .ref (q 42), .ref (q 43), .ref (q 44)]))]) [0] (by decide) rfl
  refine W.widen (k := 0) (n := 0) (Nat.le_of_ble_eq_true rfl) (Nat.le_of_ble_eq_true rfl) ?_
  exact W.vret hx hb hr (fun t ht hW => ⟨⟨(), rfl, trivial, [.ref (q 1), .ref (q 2), .ref (q 3), .int 0, .int 0, .ref (q 6), .ref (q 7), .int 0, .int 0, .int 0, .ref (q 11), .int 0, .int 0, .int (-1), .int 0, .ref (q 16), .int 0, .ref (q 18), .ref (q 19), .ref (q 20), .int 0, .ref (q 22), .int 0, .ref (q 24), .ref (q 25), .ref (q 26), .ref (q 27), .ref (q 28), .int 0, .ref (q 30), .ref (q 31), .ref (q 32), .ref (q 33), .int 0, .int 0, .int 0, .int 0, .int 0, .int 0, .ref (q 40), .int 0, .ref (q 42), .ref (q 43), .ref (q 44)], by rw [ht]; exact hP9, hD9⟩, hS.F ht⟩) hS.2.2 d_Mo_spoil_30
set_option maxHeartbeats 4000000 in
set_option maxRecDepth 100000 in
theorem m_Mo_spoil1 (l : Launch) (dC : Nat → ClassId) (dI : Nat → Nat → Nat) (sz : Nat) (h0 : Nat) (q : Nat → Nat) (ci : Nat → ClassId) (p0 : Int32) (h1 : ¬ p0 < 0) (h2 : ¬ 44 ≤ p0) : Met l y_Mo_spoil w_Mo_spoil ({ frames := 1, cells := 0, slots := 0, locals := 20 }) (va_Pc [.ref h0, .int p0] (fun U => U.heap.size = sz ∧ va_P (dC, dI) gx_cl (wMo h0 q ci) U.heap ∧ va_K (dC, dI) gx_cl (kMo ci) U ∧ va_D (fun _ => True) (wMo h0 q ci))) (va_Qv (fun _ : Unit => True) (fun _ t => ∃ fs : List Value, va_P (dC, dI) gx_cl [(h0, .inr (9, .int 0 :: fs))] t.heap ∧ va_D (va_A (wMo h0 q ci) sz) [(h0, .inr (9, .int 0 :: fs))]) (va_A (wMo h0 q ci) sz)) 0 0 (va_A (wMo h0 q ci) sz) := by
  refine Met.ofW (cc := b_Mo_spoil) (maxL := 2) (ret := none) (by decide) rfl ?_
  intro p e s m args below meth c s₁ B hml hv
  obtain ⟨rfl, hsz, hP, hK, hD0⟩ := hv
  have hx := B.exec
  have hb := B.bytes
  have hr := B.returns
  have hts := atoms_spec (ws := w_Mo_spoil) B.pre
  have hB : ∀ w ∈ gx_B, w.before _ s = true := fun w h => hts w (List.mem_cons_of_mem _ h)
  have hown : s.vm.findClass "TapeSealerModel" = some m.cls := findClass_of_methodNamed B.named
  have hlocks := B.notSynchronized
  subst hsz
  have hD := hD0.self (sz := s.heap.size)
  generalize hAe : va_A (wMo h0 q ci) s.heap.size = A at hD ⊢
  have hA : ∀ q : Nat, s.heap.size ≤ q → A q := fun q h => by rw [← hAe]; exact Or.inr h
  have hS : va_S A s.heap s.heap [] := va_S.rf
  have hl := lv_entry ([.ref h0, .int p0]) (n := 2) (Nat.le_of_ble_eq_true rfl)
  rw [lg_entry_eq]
  generalize (lg_sl ([.ref h0, .int p0]) ++ List.replicate (2 - (lg_sl ([.ref h0, .int p0])).length) Slot.unset).toArray = ls at hl ⊢
  have hl : lv_has ls 2 [(0, .ref h0), (1, .int p0)] := hl
  refine lv_aload_n hx hb d_Mo_spoil_0 rfl (lv_at hl 0 rfl) ?_
  refine lv_iload_n hx hb d_Mo_spoil_1 rfl (lv_at hl 1 rfl) ?_
  refine px_go (va_runS (As := [.int p0]) (rest := [.ref h0]) ⟨hx, hb, hml, hown, hts⟩ (p_Mo_isBlock1 l p0 h1 h2) (cwS 1 hts (gx_goodS hw_1243 hw_1244 hw_75 k_Mo_isBlock) rfl rfl rfl (by decide +kernel) ⟨(Nat.le_of_ble_eq_true rfl), (Nat.le_of_ble_eq_true rfl)⟩) ⟨fun a U g mk q => q, fun U hU hW => ⟨rfl, trivial⟩⟩ rfl rfl hl.1 rfl (lv_room (Nat.le_of_ble_eq_true rfl)) d_Mo_spoil_2 ⟨(Nat.le_of_ble_eq_true rfl), (Nat.le_of_ble_eq_true rfl)⟩) ?_
  refine W.eq (g2 := F0 m 5 ls [.int 1, .ref h0]) rfl ?_
  refine lv_if_eq (tgt := 12) hx hb d_Mo_spoil_5 (by decide) (fun h9 => absurd h9 (by decide)) (fun _ => ?_)
  refine lv_iconst (v := 0) hx hb d_Mo_spoil_8 (by decide) ?_
  refine lv_goto (tgt := 13) hx hb d_Mo_spoil_9 (by decide) ?_
  refine va_put (D := (dC, dI)) (ci := 9) (v := .int 0) (ty := .int) (C := RMo) (T := FMo) (N := 45) hx hb hB in_Mo tMo tMo_ok nMo hown hK hP hD hS 0 rfl rfl 0 (by decide) (hB _ hw_890) (fun _ h9 => h9) rfl (by decide +kernel) rfl rfl (Nat.le_of_ble_eq_true rfl) d_Mo_spoil_13 (fun H locs hP hD hS => ?_)
  have hP : va_P (dC, dI) gx_cl (wMo h0 q ci) H := hP
  have hD : va_D A (wMo h0 q ci) := hD
  refine lv_aload_n hx hb d_Mo_spoil_16 rfl (lv_at hl 0 rfl) ?_
  refine va_get (D := (dC, dI)) (ci := 9) (v := .int 0) (C := RMo) (T := FMo) (N := 45) hx hb hB in_Mo hown hK hP 0 rfl rfl 0 (by decide) (hB _ hw_890) (fun _ h9 => h9) rfl d_Mo_spoil_17 ?_
  refine lv_if_ne (tgt := 30) hx hb d_Mo_spoil_20 (by decide) (fun h9 => absurd (by decide) h9) (fun _ => ?_)
  refine lv_aload_n hx hb d_Mo_spoil_23 rfl (lv_at hl 0 rfl) ?_
  refine va_get (D := (dC, dI)) (ci := 9) (v := .ref (q 2)) (C := RMo) (T := FMo) (N := 45) hx hb hB in_Mo hown hK hP 0 rfl rfl 2 (by decide) (hB _ hw_892) (fun _ h9 => h9) rfl d_Mo_spoil_24 ?_
  refine lv_iload_n hx hb d_Mo_spoil_27 rfl (lv_at hl 1 rfl) ?_
  refine lv_iconst (v := 1) hx hb d_Mo_spoil_28 (by decide) ?_
  refine va_zast (D := (dC, dI)) hx hb hK hP hD hS 2 1 rfl rfl (gx_in44 h1 h2) d_Mo_spoil_29 (fun H locs hP hD hS => ?_)
  have hP : va_P (dC, dI) gx_cl [(h0, .inr (9, [.int 0, .ref (q 1), .ref (q 2), .ref (q 3), .int 0, .int 0, .ref (q 6), .ref (q 7), .int 0, .int 0, .int 0, .ref (q 11), .int 0, .int 0, .int (-1), .int 0, .ref (q 16), .int 0, .ref (q 18), .ref (q 19), .ref (q 20), .int 0, .ref (q 22), .int 0, .ref (q 24), .ref (q 25), .ref (q 26), .ref (q 27), .ref (q 28), .int 0, .ref (q 30), .ref (q 31), .ref (q 32), .ref (q 33), .int 0, .int 0, .int 0, .int 0, .int 0, .int 0, .ref (q 40), .int 0, .ref (q 42), .ref (q 43), .ref (q 44)])), ((q 1), .inl ((ci 0), 2816, .inl (fun _ => 0))), ((q 2), .inl ((ci 1), 44, .inl (upd (fun _ => 0) (Int32.toNatClampNeg p0) (vp_nar .boolean 1)))), ((q 3), .inl ((ci 2), 192, .inl (fun _ => 0))), ((q 7), .inl ((ci 3), 10, .inl (fun _ => 0)))] H := hP
  have hD : va_D A [(h0, .inr (9, [.int 0, .ref (q 1), .ref (q 2), .ref (q 3), .int 0, .int 0, .ref (q 6), .ref (q 7), .int 0, .int 0, .int 0, .ref (q 11), .int 0, .int 0, .int (-1), .int 0, .ref (q 16), .int 0, .ref (q 18), .ref (q 19), .ref (q 20), .int 0, .ref (q 22), .int 0, .ref (q 24), .ref (q 25), .ref (q 26), .ref (q 27), .ref (q 28), .int 0, .ref (q 30), .ref (q 31), .ref (q 32), .ref (q 33), .int 0, .int 0, .int 0, .int 0, .int 0, .int 0, .ref (q 40), .int 0, .ref (q 42), .ref (q 43), .ref (q 44)])), ((q 1), .inl ((ci 0), 2816, .inl (fun _ => 0))), ((q 2), .inl ((ci 1), 44, .inl (upd (fun _ => 0) (Int32.toNatClampNeg p0) (vp_nar .boolean 1)))), ((q 3), .inl ((ci 2), 192, .inl (fun _ => 0))), ((q 7), .inl ((ci 3), 10, .inl (fun _ => 0)))] := hD
  have hP9 := hP.sub (ws' := [(h0, .inr (9, [.int 0, .ref (q 1), .ref (q 2), .ref (q 3), .int 0, .int 0, .ref (q 6), .ref (q 7), .int 0, .int 0, .int 0, .ref (q 11), .int 0, .int 0, .int (-1), .int 0, .ref (q 16), .int 0, .ref (q 18), .ref (q 19), .ref (q 20), .int 0, .ref (q 22), .int 0, .ref (q 24), .ref (q 25), .ref (q 26), .ref (q 27), .ref (q 28), .int 0, .ref (q 30), .ref (q 31), .ref (q 32), .ref (q 33), .int 0, .int 0, .int 0, .int 0, .int 0, .int 0, .ref (q 40), .int 0, .ref (q 42), .ref (q 43), .ref (q 44)]))]) [0] rfl
  have hD9 := hD.sub (ws' := [(h0, .inr (9, [.int 0, .ref (q 1), .ref (q 2), .ref (q 3), .int 0, .int 0, .ref (q 6), .ref (q 7), .int 0, .int 0, .int 0, .ref (q 11), .int 0, .int 0, .int (-1), .int 0, .ref (q 16), .int 0, .ref (q 18), .ref (q 19), .ref (q 20), .int 0, .ref (q 22), .int 0, .ref (q 24), .ref (q 25), .ref (q 26), .ref (q 27), .ref (q 28), .int 0, .ref (q 30), .ref (q 31), .ref (q 32), .ref (q 33), .int 0, .int 0, .int 0, .int 0, .int 0, .int 0, .ref (q 40), .int 0, .ref (q 42), .ref (q 43), .ref (q 44)]))]) [0] (by decide) rfl
  refine W.widen (k := 0) (n := 0) (Nat.le_of_ble_eq_true rfl) (Nat.le_of_ble_eq_true rfl) ?_
  exact W.vret hx hb hr (fun t ht hW => ⟨⟨(), rfl, trivial, [.ref (q 1), .ref (q 2), .ref (q 3), .int 0, .int 0, .ref (q 6), .ref (q 7), .int 0, .int 0, .int 0, .ref (q 11), .int 0, .int 0, .int (-1), .int 0, .ref (q 16), .int 0, .ref (q 18), .ref (q 19), .ref (q 20), .int 0, .ref (q 22), .int 0, .ref (q 24), .ref (q 25), .ref (q 26), .ref (q 27), .ref (q 28), .int 0, .ref (q 30), .ref (q 31), .ref (q 32), .ref (q 33), .int 0, .int 0, .int 0, .int 0, .int 0, .int 0, .ref (q 40), .int 0, .ref (q 42), .ref (q 43), .ref (q 44)], by rw [ht]; exact hP9, hD9⟩, hS.F ht⟩) hS.2.2 d_Mo_spoil_30
set_option maxHeartbeats 4000000 in
set_option maxRecDepth 100000 in
theorem m_Mo_stopAfter0 (l : Launch) (dC : Nat → ClassId) (dI : Nat → Nat → Nat) (sz : Nat) (h0 : Nat) (q : Nat → Nat) (ci : Nat → ClassId) (p0 : Int32) (h : ¬ p0 ≤ 100) : Met l y_Mo_stopAfter w_Mo_stopAfter ({ frames := 0, cells := 0, slots := 0, locals := 0 }) (va_Pc [.ref h0, .int p0] (fun U => U.heap.size = sz ∧ va_P (dC, dI) gx_cl (wMo h0 q ci) U.heap ∧ va_K (dC, dI) gx_cl (kMo ci) U ∧ va_D (fun _ => True) (wMo h0 q ci))) (va_Qv (fun _ : Unit => True) (fun _ t => ∃ fs : List Value, va_P (dC, dI) gx_cl [(h0, .inr (9, .int 1 :: fs))] t.heap ∧ va_D (va_A (wMo h0 q ci) sz) [(h0, .inr (9, .int 1 :: fs))]) (va_A (wMo h0 q ci) sz)) 0 0 (va_A (wMo h0 q ci) sz) := by
  refine Met.ofW (cc := b_Mo_stopAfter) (maxL := 2) (ret := none) (by decide) rfl ?_
  intro p e s m args below meth c s₁ B hml hv
  obtain ⟨rfl, hsz, hP, hK, hD0⟩ := hv
  have hx := B.exec
  have hb := B.bytes
  have hr := B.returns
  have hts := atoms_spec (ws := w_Mo_stopAfter) B.pre
  have hB : ∀ w ∈ gx_B, w.before _ s = true := fun w h => hts w (List.mem_cons_of_mem _ h)
  have hown : s.vm.findClass "TapeSealerModel" = some m.cls := findClass_of_methodNamed B.named
  have hlocks := B.notSynchronized
  subst hsz
  have hD := hD0.self (sz := s.heap.size)
  generalize hAe : va_A (wMo h0 q ci) s.heap.size = A at hD ⊢
  have hA : ∀ q : Nat, s.heap.size ≤ q → A q := fun q h => by rw [← hAe]; exact Or.inr h
  have hS : va_S A s.heap s.heap [] := va_S.rf
  have hl := lv_entry ([.ref h0, .int p0]) (n := 2) (Nat.le_of_ble_eq_true rfl)
  rw [lg_entry_eq]
  generalize (lg_sl ([.ref h0, .int p0]) ++ List.replicate (2 - (lg_sl ([.ref h0, .int p0])).length) Slot.unset).toArray = ls at hl ⊢
  have hl : lv_has ls 2 [(0, .ref h0), (1, .int p0)] := hl
  refine lv_aload_n hx hb d_Mo_stopAfter_0 rfl (lv_at hl 0 rfl) ?_
  refine lv_iload_n hx hb d_Mo_stopAfter_1 rfl (lv_at hl 1 rfl) ?_
  refine lv_bipush (v := 100) hx hb d_Mo_stopAfter_2 (by decide) ?_
  refine lv_icmp_le (tgt := 11) hx hb d_Mo_stopAfter_4 (by decide) (fun h9 => absurd h9 h) (fun _ => ?_)
  refine lv_iconst (v := 1) hx hb d_Mo_stopAfter_7 (by decide) ?_
  refine lv_goto (tgt := 12) hx hb d_Mo_stopAfter_8 (by decide) ?_
  refine va_put (D := (dC, dI)) (ci := 9) (v := .int 1) (ty := .int) (C := RMo) (T := FMo) (N := 45) hx hb hB in_Mo tMo tMo_ok nMo hown hK hP hD hS 0 rfl rfl 0 (by decide) (hB _ hw_890) (fun _ h9 => h9) rfl (by decide +kernel) rfl rfl (Nat.le_of_ble_eq_true rfl) d_Mo_stopAfter_12 (fun H locs hP hD hS => ?_)
  have hP : va_P (dC, dI) gx_cl [(h0, .inr (9, [.int 1, .ref (q 1), .ref (q 2), .ref (q 3), .int 0, .int 0, .ref (q 6), .ref (q 7), .int 0, .int 0, .int 0, .ref (q 11), .int 0, .int 0, .int (-1), .int 0, .ref (q 16), .int 0, .ref (q 18), .ref (q 19), .ref (q 20), .int 0, .ref (q 22), .int 0, .ref (q 24), .ref (q 25), .ref (q 26), .ref (q 27), .ref (q 28), .int 0, .ref (q 30), .ref (q 31), .ref (q 32), .ref (q 33), .int 0, .int 0, .int 0, .int 0, .int 0, .int 0, .ref (q 40), .int 0, .ref (q 42), .ref (q 43), .ref (q 44)])), ((q 1), .inl ((ci 0), 2816, .inl (fun _ => 0))), ((q 2), .inl ((ci 1), 44, .inl (fun _ => 0))), ((q 3), .inl ((ci 2), 192, .inl (fun _ => 0))), ((q 7), .inl ((ci 3), 10, .inl (fun _ => 0)))] H := hP
  have hD : va_D A [(h0, .inr (9, [.int 1, .ref (q 1), .ref (q 2), .ref (q 3), .int 0, .int 0, .ref (q 6), .ref (q 7), .int 0, .int 0, .int 0, .ref (q 11), .int 0, .int 0, .int (-1), .int 0, .ref (q 16), .int 0, .ref (q 18), .ref (q 19), .ref (q 20), .int 0, .ref (q 22), .int 0, .ref (q 24), .ref (q 25), .ref (q 26), .ref (q 27), .ref (q 28), .int 0, .ref (q 30), .ref (q 31), .ref (q 32), .ref (q 33), .int 0, .int 0, .int 0, .int 0, .int 0, .int 0, .ref (q 40), .int 0, .ref (q 42), .ref (q 43), .ref (q 44)])), ((q 1), .inl ((ci 0), 2816, .inl (fun _ => 0))), ((q 2), .inl ((ci 1), 44, .inl (fun _ => 0))), ((q 3), .inl ((ci 2), 192, .inl (fun _ => 0))), ((q 7), .inl ((ci 3), 10, .inl (fun _ => 0)))] := hD
  refine lv_aload_n hx hb d_Mo_stopAfter_15 rfl (lv_at hl 0 rfl) ?_
  refine va_get (D := (dC, dI)) (ci := 9) (v := .int 1) (C := RMo) (T := FMo) (N := 45) hx hb hB in_Mo hown hK hP 0 rfl rfl 0 (by decide) (hB _ hw_890) (fun _ h9 => h9) rfl d_Mo_stopAfter_16 ?_
  refine lv_if_ne (tgt := 35) hx hb d_Mo_stopAfter_19 (by decide) (fun _ => ?_) (fun h9 => absurd h9 (by decide))
  have hP9 := hP.sub (ws' := [(h0, .inr (9, [.int 1, .ref (q 1), .ref (q 2), .ref (q 3), .int 0, .int 0, .ref (q 6), .ref (q 7), .int 0, .int 0, .int 0, .ref (q 11), .int 0, .int 0, .int (-1), .int 0, .ref (q 16), .int 0, .ref (q 18), .ref (q 19), .ref (q 20), .int 0, .ref (q 22), .int 0, .ref (q 24), .ref (q 25), .ref (q 26), .ref (q 27), .ref (q 28), .int 0, .ref (q 30), .ref (q 31), .ref (q 32), .ref (q 33), .int 0, .int 0, .int 0, .int 0, .int 0, .int 0, .ref (q 40), .int 0, .ref (q 42), .ref (q 43), .ref (q 44)]))]) [0] rfl
  have hD9 := hD.sub (ws' := [(h0, .inr (9, [.int 1, .ref (q 1), .ref (q 2), .ref (q 3), .int 0, .int 0, .ref (q 6), .ref (q 7), .int 0, .int 0, .int 0, .ref (q 11), .int 0, .int 0, .int (-1), .int 0, .ref (q 16), .int 0, .ref (q 18), .ref (q 19), .ref (q 20), .int 0, .ref (q 22), .int 0, .ref (q 24), .ref (q 25), .ref (q 26), .ref (q 27), .ref (q 28), .int 0, .ref (q 30), .ref (q 31), .ref (q 32), .ref (q 33), .int 0, .int 0, .int 0, .int 0, .int 0, .int 0, .ref (q 40), .int 0, .ref (q 42), .ref (q 43), .ref (q 44)]))]) [0] (by decide) rfl
  refine W.widen (k := 0) (n := 0) (Nat.le_of_ble_eq_true rfl) (Nat.le_of_ble_eq_true rfl) ?_
  exact W.vret hx hb hr (fun t ht hW => ⟨⟨(), rfl, trivial, [.ref (q 1), .ref (q 2), .ref (q 3), .int 0, .int 0, .ref (q 6), .ref (q 7), .int 0, .int 0, .int 0, .ref (q 11), .int 0, .int 0, .int (-1), .int 0, .ref (q 16), .int 0, .ref (q 18), .ref (q 19), .ref (q 20), .int 0, .ref (q 22), .int 0, .ref (q 24), .ref (q 25), .ref (q 26), .ref (q 27), .ref (q 28), .int 0, .ref (q 30), .ref (q 31), .ref (q 32), .ref (q 33), .int 0, .int 0, .int 0, .int 0, .int 0, .int 0, .ref (q 40), .int 0, .ref (q 42), .ref (q 43), .ref (q 44)], by rw [ht]; exact hP9, hD9⟩, hS.F ht⟩) hS.2.2 d_Mo_stopAfter_35
set_option maxHeartbeats 4000000 in
set_option maxRecDepth 100000 in
theorem m_Mo_stopAfter1 (l : Launch) (dC : Nat → ClassId) (dI : Nat → Nat → Nat) (sz : Nat) (h0 : Nat) (q : Nat → Nat) (ci : Nat → ClassId) (p0 : Int32) (h : p0 ≤ 100) : Met l y_Mo_stopAfter w_Mo_stopAfter ({ frames := 0, cells := 0, slots := 0, locals := 0 }) (va_Pc [.ref h0, .int p0] (fun U => U.heap.size = sz ∧ va_P (dC, dI) gx_cl (wMo h0 q ci) U.heap ∧ va_K (dC, dI) gx_cl (kMo ci) U ∧ va_D (fun _ => True) (wMo h0 q ci))) (va_Qv (fun _ : Unit => True) (fun _ t => ∃ fs : List Value, va_P (dC, dI) gx_cl [(h0, .inr (9, .int 0 :: fs))] t.heap ∧ va_D (va_A (wMo h0 q ci) sz) [(h0, .inr (9, .int 0 :: fs))]) (va_A (wMo h0 q ci) sz)) 0 0 (va_A (wMo h0 q ci) sz) := by
  refine Met.ofW (cc := b_Mo_stopAfter) (maxL := 2) (ret := none) (by decide) rfl ?_
  intro p e s m args below meth c s₁ B hml hv
  obtain ⟨rfl, hsz, hP, hK, hD0⟩ := hv
  have hx := B.exec
  have hb := B.bytes
  have hr := B.returns
  have hts := atoms_spec (ws := w_Mo_stopAfter) B.pre
  have hB : ∀ w ∈ gx_B, w.before _ s = true := fun w h => hts w (List.mem_cons_of_mem _ h)
  have hown : s.vm.findClass "TapeSealerModel" = some m.cls := findClass_of_methodNamed B.named
  have hlocks := B.notSynchronized
  subst hsz
  have hD := hD0.self (sz := s.heap.size)
  generalize hAe : va_A (wMo h0 q ci) s.heap.size = A at hD ⊢
  have hA : ∀ q : Nat, s.heap.size ≤ q → A q := fun q h => by rw [← hAe]; exact Or.inr h
  have hS : va_S A s.heap s.heap [] := va_S.rf
  have hl := lv_entry ([.ref h0, .int p0]) (n := 2) (Nat.le_of_ble_eq_true rfl)
  rw [lg_entry_eq]
  generalize (lg_sl ([.ref h0, .int p0]) ++ List.replicate (2 - (lg_sl ([.ref h0, .int p0])).length) Slot.unset).toArray = ls at hl ⊢
  have hl : lv_has ls 2 [(0, .ref h0), (1, .int p0)] := hl
  by_cases hi : 0 ≤ p0
  · refine lv_aload_n hx hb d_Mo_stopAfter_0 rfl (lv_at hl 0 rfl) ?_
    refine lv_iload_n hx hb d_Mo_stopAfter_1 rfl (lv_at hl 1 rfl) ?_
    refine lv_bipush (v := 100) hx hb d_Mo_stopAfter_2 (by decide) ?_
    refine lv_icmp_le (tgt := 11) hx hb d_Mo_stopAfter_4 (by decide) (fun _ => ?_) (fun h9 => absurd h h9)
    refine lv_iconst (v := 0) hx hb d_Mo_stopAfter_11 (by decide) ?_
    refine va_put (D := (dC, dI)) (ci := 9) (v := .int 0) (ty := .int) (C := RMo) (T := FMo) (N := 45) hx hb hB in_Mo tMo tMo_ok nMo hown hK hP hD hS 0 rfl rfl 0 (by decide) (hB _ hw_890) (fun _ h9 => h9) rfl (by decide +kernel) rfl rfl (Nat.le_of_ble_eq_true rfl) d_Mo_stopAfter_12 (fun H locs hP hD hS => ?_)
    have hP : va_P (dC, dI) gx_cl (wMo h0 q ci) H := hP
    have hD : va_D A (wMo h0 q ci) := hD
    refine lv_aload_n hx hb d_Mo_stopAfter_15 rfl (lv_at hl 0 rfl) ?_
    refine va_get (D := (dC, dI)) (ci := 9) (v := .int 0) (C := RMo) (T := FMo) (N := 45) hx hb hB in_Mo hown hK hP 0 rfl rfl 0 (by decide) (hB _ hw_890) (fun _ h9 => h9) rfl d_Mo_stopAfter_16 ?_
    refine lv_if_ne (tgt := 35) hx hb d_Mo_stopAfter_19 (by decide) (fun h9 => absurd (by decide) h9) (fun _ => ?_)
    refine lv_aload_n hx hb d_Mo_stopAfter_22 rfl (lv_at hl 0 rfl) ?_
    refine lv_iload_n hx hb d_Mo_stopAfter_23 rfl (lv_at hl 1 rfl) ?_
    refine lv_if_ge (tgt := 31) hx hb d_Mo_stopAfter_24 (by decide) (fun _ => ?_) (fun h9 => absurd hi h9)
    refine lv_iload_n hx hb d_Mo_stopAfter_31 rfl (lv_at hl 1 rfl) ?_
    refine va_put (D := (dC, dI)) (ci := 9) (v := .int p0) (ty := .int) (C := RMo) (T := FMo) (N := 45) hx hb hB in_Mo tMo tMo_ok nMo hown hK hP hD hS 0 rfl rfl 14 (by decide) (hB _ hw_904) (fun _ h9 => h9) rfl (by decide +kernel) rfl rfl (Nat.le_of_ble_eq_true rfl) d_Mo_stopAfter_32 (fun H locs hP hD hS => ?_)
    have hP : va_P (dC, dI) gx_cl [(h0, .inr (9, [.int 0, .ref (q 1), .ref (q 2), .ref (q 3), .int 0, .int 0, .ref (q 6), .ref (q 7), .int 0, .int 0, .int 0, .ref (q 11), .int 0, .int 0, .int p0, .int 0, .ref (q 16), .int 0, .ref (q 18), .ref (q 19), .ref (q 20), .int 0, .ref (q 22), .int 0, .ref (q 24), .ref (q 25), .ref (q 26), .ref (q 27), .ref (q 28), .int 0, .ref (q 30), .ref (q 31), .ref (q 32), .ref (q 33), .int 0, .int 0, .int 0, .int 0, .int 0, .int 0, .ref (q 40), .int 0, .ref (q 42), .ref (q 43), .ref (q 44)])), ((q 1), .inl ((ci 0), 2816, .inl (fun _ => 0))), ((q 2), .inl ((ci 1), 44, .inl (fun _ => 0))), ((q 3), .inl ((ci 2), 192, .inl (fun _ => 0))), ((q 7), .inl ((ci 3), 10, .inl (fun _ => 0)))] H := hP
    have hD : va_D A [(h0, .inr (9, [.int 0, .ref (q 1), .ref (q 2), .ref (q 3), .int 0, .int 0, .ref (q 6), .ref (q 7), .int 0, .int 0, .int 0, .ref (q 11), .int 0, .int 0, .int p0, .int 0, .ref (q 16), .int 0, .ref (q 18), .ref (q 19), .ref (q 20), .int 0, .ref (q 22), .int 0, .ref (q 24), .ref (q 25), .ref (q 26), .ref (q 27), .ref (q 28), .int 0, .ref (q 30), .ref (q 31), .ref (q 32), .ref (q 33), .int 0, .int 0, .int 0, .int 0, .int 0, .int 0, .ref (q 40), .int 0, .ref (q 42), .ref (q 43), .ref (q 44)])), ((q 1), .inl ((ci 0), 2816, .inl (fun _ => 0))), ((q 2), .inl ((ci 1), 44, .inl (fun _ => 0))), ((q 3), .inl ((ci 2), 192, .inl (fun _ => 0))), ((q 7), .inl ((ci 3), 10, .inl (fun _ => 0)))] := hD
    have hP9 := hP.sub (ws' := [(h0, .inr (9, [.int 0, .ref (q 1), .ref (q 2), .ref (q 3), .int 0, .int 0, .ref (q 6), .ref (q 7), .int 0, .int 0, .int 0, .ref (q 11), .int 0, .int 0, .int p0, .int 0, .ref (q 16), .int 0, .ref (q 18), .ref (q 19), .ref (q 20), .int 0, .ref (q 22), .int 0, .ref (q 24), .ref (q 25), .ref (q 26), .ref (q 27), .ref (q 28), .int 0, .ref (q 30), .ref (q 31), .ref (q 32), .ref (q 33), .int 0, .int 0, .int 0, .int 0, .int 0, .int 0, .ref (q 40), .int 0, .ref (q 42), .ref (q 43), .ref (q 44)]))]) [0] rfl
    have hD9 := hD.sub (ws' := [(h0, .inr (9, [.int 0, .ref (q 1), .ref (q 2), .ref (q 3), .int 0, .int 0, .ref (q 6), .ref (q 7), .int 0, .int 0, .int 0, .ref (q 11), .int 0, .int 0, .int p0, .int 0, .ref (q 16), .int 0, .ref (q 18), .ref (q 19), .ref (q 20), .int 0, .ref (q 22), .int 0, .ref (q 24), .ref (q 25), .ref (q 26), .ref (q 27), .ref (q 28), .int 0, .ref (q 30), .ref (q 31), .ref (q 32), .ref (q 33), .int 0, .int 0, .int 0, .int 0, .int 0, .int 0, .ref (q 40), .int 0, .ref (q 42), .ref (q 43), .ref (q 44)]))]) [0] (by decide) rfl
    refine W.widen (k := 0) (n := 0) (Nat.le_of_ble_eq_true rfl) (Nat.le_of_ble_eq_true rfl) ?_
    exact W.vret hx hb hr (fun t ht hW => ⟨⟨(), rfl, trivial, [.ref (q 1), .ref (q 2), .ref (q 3), .int 0, .int 0, .ref (q 6), .ref (q 7), .int 0, .int 0, .int 0, .ref (q 11), .int 0, .int 0, .int p0, .int 0, .ref (q 16), .int 0, .ref (q 18), .ref (q 19), .ref (q 20), .int 0, .ref (q 22), .int 0, .ref (q 24), .ref (q 25), .ref (q 26), .ref (q 27), .ref (q 28), .int 0, .ref (q 30), .ref (q 31), .ref (q 32), .ref (q 33), .int 0, .int 0, .int 0, .int 0, .int 0, .int 0, .ref (q 40), .int 0, .ref (q 42), .ref (q 43), .ref (q 44)], by rw [ht]; exact hP9, hD9⟩, hS.F ht⟩) hS.2.2 d_Mo_stopAfter_35
  · refine lv_aload_n hx hb d_Mo_stopAfter_0 rfl (lv_at hl 0 rfl) ?_
    refine lv_iload_n hx hb d_Mo_stopAfter_1 rfl (lv_at hl 1 rfl) ?_
    refine lv_bipush (v := 100) hx hb d_Mo_stopAfter_2 (by decide) ?_
    refine lv_icmp_le (tgt := 11) hx hb d_Mo_stopAfter_4 (by decide) (fun _ => ?_) (fun h9 => absurd h h9)
    refine lv_iconst (v := 0) hx hb d_Mo_stopAfter_11 (by decide) ?_
    refine va_put (D := (dC, dI)) (ci := 9) (v := .int 0) (ty := .int) (C := RMo) (T := FMo) (N := 45) hx hb hB in_Mo tMo tMo_ok nMo hown hK hP hD hS 0 rfl rfl 0 (by decide) (hB _ hw_890) (fun _ h9 => h9) rfl (by decide +kernel) rfl rfl (Nat.le_of_ble_eq_true rfl) d_Mo_stopAfter_12 (fun H locs hP hD hS => ?_)
    have hP : va_P (dC, dI) gx_cl (wMo h0 q ci) H := hP
    have hD : va_D A (wMo h0 q ci) := hD
    refine lv_aload_n hx hb d_Mo_stopAfter_15 rfl (lv_at hl 0 rfl) ?_
    refine va_get (D := (dC, dI)) (ci := 9) (v := .int 0) (C := RMo) (T := FMo) (N := 45) hx hb hB in_Mo hown hK hP 0 rfl rfl 0 (by decide) (hB _ hw_890) (fun _ h9 => h9) rfl d_Mo_stopAfter_16 ?_
    refine lv_if_ne (tgt := 35) hx hb d_Mo_stopAfter_19 (by decide) (fun h9 => absurd (by decide) h9) (fun _ => ?_)
    refine lv_aload_n hx hb d_Mo_stopAfter_22 rfl (lv_at hl 0 rfl) ?_
    refine lv_iload_n hx hb d_Mo_stopAfter_23 rfl (lv_at hl 1 rfl) ?_
    refine lv_if_ge (tgt := 31) hx hb d_Mo_stopAfter_24 (by decide) (fun h9 => absurd h9 hi) (fun _ => ?_)
    refine lv_iconst (v := (-1)) hx hb d_Mo_stopAfter_27 (by decide) ?_
    refine lv_goto (tgt := 32) hx hb d_Mo_stopAfter_28 (by decide) ?_
    refine va_put (D := (dC, dI)) (ci := 9) (v := .int (-1)) (ty := .int) (C := RMo) (T := FMo) (N := 45) hx hb hB in_Mo tMo tMo_ok nMo hown hK hP hD hS 0 rfl rfl 14 (by decide) (hB _ hw_904) (fun _ h9 => h9) rfl (by decide +kernel) rfl rfl (Nat.le_of_ble_eq_true rfl) d_Mo_stopAfter_32 (fun H locs hP hD hS => ?_)
    have hP : va_P (dC, dI) gx_cl (wMo h0 q ci) H := hP
    have hD : va_D A (wMo h0 q ci) := hD
    have hP9 := hP.sub (ws' := [(h0, .inr (9, [.int 0, .ref (q 1), .ref (q 2), .ref (q 3), .int 0, .int 0, .ref (q 6), .ref (q 7), .int 0, .int 0, .int 0, .ref (q 11), .int 0, .int 0, .int (-1), .int 0, .ref (q 16), .int 0, .ref (q 18), .ref (q 19), .ref (q 20), .int 0, .ref (q 22), .int 0, .ref (q 24), .ref (q 25), .ref (q 26), .ref (q 27), .ref (q 28), .int 0, .ref (q 30), .ref (q 31), .ref (q 32), .ref (q 33), .int 0, .int 0, .int 0, .int 0, .int 0, .int 0, .ref (q 40), .int 0, .ref (q 42), .ref (q 43), .ref (q 44)]))]) [0] rfl
    have hD9 := hD.sub (ws' := [(h0, .inr (9, [.int 0, .ref (q 1), .ref (q 2), .ref (q 3), .int 0, .int 0, .ref (q 6), .ref (q 7), .int 0, .int 0, .int 0, .ref (q 11), .int 0, .int 0, .int (-1), .int 0, .ref (q 16), .int 0, .ref (q 18), .ref (q 19), .ref (q 20), .int 0, .ref (q 22), .int 0, .ref (q 24), .ref (q 25), .ref (q 26), .ref (q 27), .ref (q 28), .int 0, .ref (q 30), .ref (q 31), .ref (q 32), .ref (q 33), .int 0, .int 0, .int 0, .int 0, .int 0, .int 0, .ref (q 40), .int 0, .ref (q 42), .ref (q 43), .ref (q 44)]))]) [0] (by decide) rfl
    refine W.widen (k := 0) (n := 0) (Nat.le_of_ble_eq_true rfl) (Nat.le_of_ble_eq_true rfl) ?_
    exact W.vret hx hb hr (fun t ht hW => ⟨⟨(), rfl, trivial, [.ref (q 1), .ref (q 2), .ref (q 3), .int 0, .int 0, .ref (q 6), .ref (q 7), .int 0, .int 0, .int 0, .ref (q 11), .int 0, .int 0, .int (-1), .int 0, .ref (q 16), .int 0, .ref (q 18), .ref (q 19), .ref (q 20), .int 0, .ref (q 22), .int 0, .ref (q 24), .ref (q 25), .ref (q 26), .ref (q 27), .ref (q 28), .int 0, .ref (q 30), .ref (q 31), .ref (q 32), .ref (q 33), .int 0, .int 0, .int 0, .int 0, .int 0, .int 0, .ref (q 40), .int 0, .ref (q 42), .ref (q 43), .ref (q 44)], by rw [ht]; exact hP9, hD9⟩, hS.F ht⟩) hS.2.2 d_Mo_stopAfter_35
set_option maxHeartbeats 4000000 in
set_option maxRecDepth 100000 in
theorem m_Mo_block0 (l : Launch) (dC : Nat → ClassId) (dI : Nat → Nat → Nat) (sz : Nat) (h0 : Nat) (q : Nat → Nat) (ci : Nat → ClassId) (p0 p1 : Int32) (h : p0 < 0 ∨ 44 ≤ p0 ∨ p1 < 0 ∨ 64 ≤ p1) : Met l y_Mo_block w_Mo_block ({ frames := 1, cells := 0, slots := 0, locals := 20 }) (va_Pc [.ref h0, .int p0, .int p1] (fun U => U.heap.size = sz ∧ va_P (dC, dI) gx_cl (wMo h0 q ci) U.heap ∧ va_K (dC, dI) gx_cl (kMo ci) U ∧ va_D (fun _ => True) (wMo h0 q ci))) (va_Qi (fun (r : Int32) (_ : Unit) => r = 0) (fun _ t => ∃ fs : List Value, va_P (dC, dI) gx_cl [(h0, .inr (9, .int 1 :: fs))] t.heap ∧ va_D (va_A (wMo h0 q ci) sz) [(h0, .inr (9, .int 1 :: fs))]) (va_A (wMo h0 q ci) sz)) 0 0 (va_A (wMo h0 q ci) sz) := by
  refine Met.ofW (cc := b_Mo_block) (maxL := 3) (ret := (some .int)) (by decide) rfl ?_
  intro p e s m args below meth c s₁ B hml hv
  obtain ⟨rfl, hsz, hP, hK, hD0⟩ := hv
  have hx := B.exec
  have hb := B.bytes
  have hr := B.returns
  have hts := atoms_spec (ws := w_Mo_block) B.pre
  have hB : ∀ w ∈ gx_B, w.before _ s = true := fun w h => hts w (List.mem_cons_of_mem _ h)
  have hown : s.vm.findClass "TapeSealerModel" = some m.cls := findClass_of_methodNamed B.named
  have hlocks := B.notSynchronized
  subst hsz
  have hD := hD0.self (sz := s.heap.size)
  generalize hAe : va_A (wMo h0 q ci) s.heap.size = A at hD ⊢
  have hA : ∀ q : Nat, s.heap.size ≤ q → A q := fun q h => by rw [← hAe]; exact Or.inr h
  have hS : va_S A s.heap s.heap [] := va_S.rf
  have hl := lv_entry ([.ref h0, .int p0, .int p1]) (n := 3) (Nat.le_of_ble_eq_true rfl)
  rw [lg_entry_eq]
  generalize (lg_sl ([.ref h0, .int p0, .int p1]) ++ List.replicate (3 - (lg_sl ([.ref h0, .int p0, .int p1])).length) Slot.unset).toArray = ls at hl ⊢
  have hl : lv_has ls 3 [(0, .ref h0), (1, .int p0), (2, .int p1)] := hl
  rcases gx_o4 h with h1 | ⟨h1, h2⟩ | ⟨h1, h2, h3⟩ | ⟨h1, h2, h3, h4⟩
  · refine lv_aload_n hx hb d_Mo_block_0 rfl (lv_at hl 0 rfl) ?_
    refine lv_iload_n hx hb d_Mo_block_1 rfl (lv_at hl 1 rfl) ?_
    refine px_go (va_runS (As := [.int p0]) (rest := [.ref h0]) ⟨hx, hb, hml, hown, hts⟩ (p_Mo_isBlock0 l p0 (Or.inl h1)) (cwS 1 hts (gx_goodS hw_1243 hw_1244 hw_75 k_Mo_isBlock) rfl rfl rfl (by decide +kernel) ⟨(Nat.le_of_ble_eq_true rfl), (Nat.le_of_ble_eq_true rfl)⟩) ⟨fun a U g mk q => q, fun U hU hW => ⟨rfl, trivial⟩⟩ rfl rfl hl.1 rfl (lv_room (Nat.le_of_ble_eq_true rfl)) d_Mo_block_2 ⟨(Nat.le_of_ble_eq_true rfl), (Nat.le_of_ble_eq_true rfl)⟩) ?_
    refine W.eq (g2 := F0 m 5 ls [.int 0, .ref h0]) rfl ?_
    refine lv_if_eq (tgt := 18) hx hb d_Mo_block_5 (by decide) (fun _ => ?_) (fun h9 => absurd (by decide) h9)
    refine lv_iconst (v := 1) hx hb d_Mo_block_18 (by decide) ?_
    refine lv_goto (tgt := 23) hx hb d_Mo_block_19 (by decide) ?_
    refine va_put (D := (dC, dI)) (ci := 9) (v := .int 1) (ty := .int) (C := RMo) (T := FMo) (N := 45) hx hb hB in_Mo tMo tMo_ok nMo hown hK hP hD hS 0 rfl rfl 0 (by decide) (hB _ hw_890) (fun _ h9 => h9) rfl (by decide +kernel) rfl rfl (Nat.le_of_ble_eq_true rfl) d_Mo_block_23 (fun H locs hP hD hS => ?_)
    have hP : va_P (dC, dI) gx_cl [(h0, .inr (9, [.int 1, .ref (q 1), .ref (q 2), .ref (q 3), .int 0, .int 0, .ref (q 6), .ref (q 7), .int 0, .int 0, .int 0, .ref (q 11), .int 0, .int 0, .int (-1), .int 0, .ref (q 16), .int 0, .ref (q 18), .ref (q 19), .ref (q 20), .int 0, .ref (q 22), .int 0, .ref (q 24), .ref (q 25), .ref (q 26), .ref (q 27), .ref (q 28), .int 0, .ref (q 30), .ref (q 31), .ref (q 32), .ref (q 33), .int 0, .int 0, .int 0, .int 0, .int 0, .int 0, .ref (q 40), .int 0, .ref (q 42), .ref (q 43), .ref (q 44)])), ((q 1), .inl ((ci 0), 2816, .inl (fun _ => 0))), ((q 2), .inl ((ci 1), 44, .inl (fun _ => 0))), ((q 3), .inl ((ci 2), 192, .inl (fun _ => 0))), ((q 7), .inl ((ci 3), 10, .inl (fun _ => 0)))] H := hP
    have hD : va_D A [(h0, .inr (9, [.int 1, .ref (q 1), .ref (q 2), .ref (q 3), .int 0, .int 0, .ref (q 6), .ref (q 7), .int 0, .int 0, .int 0, .ref (q 11), .int 0, .int 0, .int (-1), .int 0, .ref (q 16), .int 0, .ref (q 18), .ref (q 19), .ref (q 20), .int 0, .ref (q 22), .int 0, .ref (q 24), .ref (q 25), .ref (q 26), .ref (q 27), .ref (q 28), .int 0, .ref (q 30), .ref (q 31), .ref (q 32), .ref (q 33), .int 0, .int 0, .int 0, .int 0, .int 0, .int 0, .ref (q 40), .int 0, .ref (q 42), .ref (q 43), .ref (q 44)])), ((q 1), .inl ((ci 0), 2816, .inl (fun _ => 0))), ((q 2), .inl ((ci 1), 44, .inl (fun _ => 0))), ((q 3), .inl ((ci 2), 192, .inl (fun _ => 0))), ((q 7), .inl ((ci 3), 10, .inl (fun _ => 0)))] := hD
    refine lv_aload_n hx hb d_Mo_block_26 rfl (lv_at hl 0 rfl) ?_
    refine va_get (D := (dC, dI)) (ci := 9) (v := .int 1) (C := RMo) (T := FMo) (N := 45) hx hb hB in_Mo hown hK hP 0 rfl rfl 0 (by decide) (hB _ hw_890) (fun _ h9 => h9) rfl d_Mo_block_27 ?_
    refine lv_if_le (tgt := 35) hx hb d_Mo_block_30 (by decide) (fun h9 => absurd h9 (by decide)) (fun _ => ?_)
    refine lv_iconst (v := 0) hx hb d_Mo_block_33 (by decide) ?_
    have hP9 := hP.sub (ws' := [(h0, .inr (9, [.int 1, .ref (q 1), .ref (q 2), .ref (q 3), .int 0, .int 0, .ref (q 6), .ref (q 7), .int 0, .int 0, .int 0, .ref (q 11), .int 0, .int 0, .int (-1), .int 0, .ref (q 16), .int 0, .ref (q 18), .ref (q 19), .ref (q 20), .int 0, .ref (q 22), .int 0, .ref (q 24), .ref (q 25), .ref (q 26), .ref (q 27), .ref (q 28), .int 0, .ref (q 30), .ref (q 31), .ref (q 32), .ref (q 33), .int 0, .int 0, .int 0, .int 0, .int 0, .int 0, .ref (q 40), .int 0, .ref (q 42), .ref (q 43), .ref (q 44)]))]) [0] rfl
    have hD9 := hD.sub (ws' := [(h0, .inr (9, [.int 1, .ref (q 1), .ref (q 2), .ref (q 3), .int 0, .int 0, .ref (q 6), .ref (q 7), .int 0, .int 0, .int 0, .ref (q 11), .int 0, .int 0, .int (-1), .int 0, .ref (q 16), .int 0, .ref (q 18), .ref (q 19), .ref (q 20), .int 0, .ref (q 22), .int 0, .ref (q 24), .ref (q 25), .ref (q 26), .ref (q 27), .ref (q 28), .int 0, .ref (q 30), .ref (q 31), .ref (q 32), .ref (q 33), .int 0, .int 0, .int 0, .int 0, .int 0, .int 0, .ref (q 40), .int 0, .ref (q 42), .ref (q 43), .ref (q 44)]))]) [0] (by decide) rfl
    refine W.widen (k := 0) (n := 0) (Nat.le_of_ble_eq_true rfl) (Nat.le_of_ble_eq_true rfl) ?_
    exact W.iret (v := 0) hx hb hr (fun t ht hW => ⟨⟨0, (), rfl, rfl, [.ref (q 1), .ref (q 2), .ref (q 3), .int 0, .int 0, .ref (q 6), .ref (q 7), .int 0, .int 0, .int 0, .ref (q 11), .int 0, .int 0, .int (-1), .int 0, .ref (q 16), .int 0, .ref (q 18), .ref (q 19), .ref (q 20), .int 0, .ref (q 22), .int 0, .ref (q 24), .ref (q 25), .ref (q 26), .ref (q 27), .ref (q 28), .int 0, .ref (q 30), .ref (q 31), .ref (q 32), .ref (q 33), .int 0, .int 0, .int 0, .int 0, .int 0, .int 0, .ref (q 40), .int 0, .ref (q 42), .ref (q 43), .ref (q 44)], by rw [ht]; exact hP9, hD9⟩, hS.F ht⟩) hS.2.2 d_Mo_block_34
  · refine lv_aload_n hx hb d_Mo_block_0 rfl (lv_at hl 0 rfl) ?_
    refine lv_iload_n hx hb d_Mo_block_1 rfl (lv_at hl 1 rfl) ?_
    refine px_go (va_runS (As := [.int p0]) (rest := [.ref h0]) ⟨hx, hb, hml, hown, hts⟩ (p_Mo_isBlock0 l p0 (Or.inr h2)) (cwS 1 hts (gx_goodS hw_1243 hw_1244 hw_75 k_Mo_isBlock) rfl rfl rfl (by decide +kernel) ⟨(Nat.le_of_ble_eq_true rfl), (Nat.le_of_ble_eq_true rfl)⟩) ⟨fun a U g mk q => q, fun U hU hW => ⟨rfl, trivial⟩⟩ rfl rfl hl.1 rfl (lv_room (Nat.le_of_ble_eq_true rfl)) d_Mo_block_2 ⟨(Nat.le_of_ble_eq_true rfl), (Nat.le_of_ble_eq_true rfl)⟩) ?_
    refine W.eq (g2 := F0 m 5 ls [.int 0, .ref h0]) rfl ?_
    refine lv_if_eq (tgt := 18) hx hb d_Mo_block_5 (by decide) (fun _ => ?_) (fun h9 => absurd (by decide) h9)
    refine lv_iconst (v := 1) hx hb d_Mo_block_18 (by decide) ?_
    refine lv_goto (tgt := 23) hx hb d_Mo_block_19 (by decide) ?_
    refine va_put (D := (dC, dI)) (ci := 9) (v := .int 1) (ty := .int) (C := RMo) (T := FMo) (N := 45) hx hb hB in_Mo tMo tMo_ok nMo hown hK hP hD hS 0 rfl rfl 0 (by decide) (hB _ hw_890) (fun _ h9 => h9) rfl (by decide +kernel) rfl rfl (Nat.le_of_ble_eq_true rfl) d_Mo_block_23 (fun H locs hP hD hS => ?_)
    have hP : va_P (dC, dI) gx_cl [(h0, .inr (9, [.int 1, .ref (q 1), .ref (q 2), .ref (q 3), .int 0, .int 0, .ref (q 6), .ref (q 7), .int 0, .int 0, .int 0, .ref (q 11), .int 0, .int 0, .int (-1), .int 0, .ref (q 16), .int 0, .ref (q 18), .ref (q 19), .ref (q 20), .int 0, .ref (q 22), .int 0, .ref (q 24), .ref (q 25), .ref (q 26), .ref (q 27), .ref (q 28), .int 0, .ref (q 30), .ref (q 31), .ref (q 32), .ref (q 33), .int 0, .int 0, .int 0, .int 0, .int 0, .int 0, .ref (q 40), .int 0, .ref (q 42), .ref (q 43), .ref (q 44)])), ((q 1), .inl ((ci 0), 2816, .inl (fun _ => 0))), ((q 2), .inl ((ci 1), 44, .inl (fun _ => 0))), ((q 3), .inl ((ci 2), 192, .inl (fun _ => 0))), ((q 7), .inl ((ci 3), 10, .inl (fun _ => 0)))] H := hP
    have hD : va_D A [(h0, .inr (9, [.int 1, .ref (q 1), .ref (q 2), .ref (q 3), .int 0, .int 0, .ref (q 6), .ref (q 7), .int 0, .int 0, .int 0, .ref (q 11), .int 0, .int 0, .int (-1), .int 0, .ref (q 16), .int 0, .ref (q 18), .ref (q 19), .ref (q 20), .int 0, .ref (q 22), .int 0, .ref (q 24), .ref (q 25), .ref (q 26), .ref (q 27), .ref (q 28), .int 0, .ref (q 30), .ref (q 31), .ref (q 32), .ref (q 33), .int 0, .int 0, .int 0, .int 0, .int 0, .int 0, .ref (q 40), .int 0, .ref (q 42), .ref (q 43), .ref (q 44)])), ((q 1), .inl ((ci 0), 2816, .inl (fun _ => 0))), ((q 2), .inl ((ci 1), 44, .inl (fun _ => 0))), ((q 3), .inl ((ci 2), 192, .inl (fun _ => 0))), ((q 7), .inl ((ci 3), 10, .inl (fun _ => 0)))] := hD
    refine lv_aload_n hx hb d_Mo_block_26 rfl (lv_at hl 0 rfl) ?_
    refine va_get (D := (dC, dI)) (ci := 9) (v := .int 1) (C := RMo) (T := FMo) (N := 45) hx hb hB in_Mo hown hK hP 0 rfl rfl 0 (by decide) (hB _ hw_890) (fun _ h9 => h9) rfl d_Mo_block_27 ?_
    refine lv_if_le (tgt := 35) hx hb d_Mo_block_30 (by decide) (fun h9 => absurd h9 (by decide)) (fun _ => ?_)
    refine lv_iconst (v := 0) hx hb d_Mo_block_33 (by decide) ?_
    have hP9 := hP.sub (ws' := [(h0, .inr (9, [.int 1, .ref (q 1), .ref (q 2), .ref (q 3), .int 0, .int 0, .ref (q 6), .ref (q 7), .int 0, .int 0, .int 0, .ref (q 11), .int 0, .int 0, .int (-1), .int 0, .ref (q 16), .int 0, .ref (q 18), .ref (q 19), .ref (q 20), .int 0, .ref (q 22), .int 0, .ref (q 24), .ref (q 25), .ref (q 26), .ref (q 27), .ref (q 28), .int 0, .ref (q 30), .ref (q 31), .ref (q 32), .ref (q 33), .int 0, .int 0, .int 0, .int 0, .int 0, .int 0, .ref (q 40), .int 0, .ref (q 42), .ref (q 43), .ref (q 44)]))]) [0] rfl
    have hD9 := hD.sub (ws' := [(h0, .inr (9, [.int 1, .ref (q 1), .ref (q 2), .ref (q 3), .int 0, .int 0, .ref (q 6), .ref (q 7), .int 0, .int 0, .int 0, .ref (q 11), .int 0, .int 0, .int (-1), .int 0, .ref (q 16), .int 0, .ref (q 18), .ref (q 19), .ref (q 20), .int 0, .ref (q 22), .int 0, .ref (q 24), .ref (q 25), .ref (q 26), .ref (q 27), .ref (q 28), .int 0, .ref (q 30), .ref (q 31), .ref (q 32), .ref (q 33), .int 0, .int 0, .int 0, .int 0, .int 0, .int 0, .ref (q 40), .int 0, .ref (q 42), .ref (q 43), .ref (q 44)]))]) [0] (by decide) rfl
    refine W.widen (k := 0) (n := 0) (Nat.le_of_ble_eq_true rfl) (Nat.le_of_ble_eq_true rfl) ?_
    exact W.iret (v := 0) hx hb hr (fun t ht hW => ⟨⟨0, (), rfl, rfl, [.ref (q 1), .ref (q 2), .ref (q 3), .int 0, .int 0, .ref (q 6), .ref (q 7), .int 0, .int 0, .int 0, .ref (q 11), .int 0, .int 0, .int (-1), .int 0, .ref (q 16), .int 0, .ref (q 18), .ref (q 19), .ref (q 20), .int 0, .ref (q 22), .int 0, .ref (q 24), .ref (q 25), .ref (q 26), .ref (q 27), .ref (q 28), .int 0, .ref (q 30), .ref (q 31), .ref (q 32), .ref (q 33), .int 0, .int 0, .int 0, .int 0, .int 0, .int 0, .ref (q 40), .int 0, .ref (q 42), .ref (q 43), .ref (q 44)], by rw [ht]; exact hP9, hD9⟩, hS.F ht⟩) hS.2.2 d_Mo_block_34
  · refine lv_aload_n hx hb d_Mo_block_0 rfl (lv_at hl 0 rfl) ?_
    refine lv_iload_n hx hb d_Mo_block_1 rfl (lv_at hl 1 rfl) ?_
    refine px_go (va_runS (As := [.int p0]) (rest := [.ref h0]) ⟨hx, hb, hml, hown, hts⟩ (p_Mo_isBlock1 l p0 h1 h2) (cwS 1 hts (gx_goodS hw_1243 hw_1244 hw_75 k_Mo_isBlock) rfl rfl rfl (by decide +kernel) ⟨(Nat.le_of_ble_eq_true rfl), (Nat.le_of_ble_eq_true rfl)⟩) ⟨fun a U g mk q => q, fun U hU hW => ⟨rfl, trivial⟩⟩ rfl rfl hl.1 rfl (lv_room (Nat.le_of_ble_eq_true rfl)) d_Mo_block_2 ⟨(Nat.le_of_ble_eq_true rfl), (Nat.le_of_ble_eq_true rfl)⟩) ?_
    refine W.eq (g2 := F0 m 5 ls [.int 1, .ref h0]) rfl ?_
    refine lv_if_eq (tgt := 18) hx hb d_Mo_block_5 (by decide) (fun h9 => absurd h9 (by decide)) (fun _ => ?_)
    refine lv_iload_n hx hb d_Mo_block_8 rfl (lv_at hl 2 rfl) ?_
    refine lv_if_lt (tgt := 18) hx hb d_Mo_block_9 (by decide) (fun _ => ?_) (fun h9 => absurd h3 h9)
    refine lv_iconst (v := 1) hx hb d_Mo_block_18 (by decide) ?_
    refine lv_goto (tgt := 23) hx hb d_Mo_block_19 (by decide) ?_
    refine va_put (D := (dC, dI)) (ci := 9) (v := .int 1) (ty := .int) (C := RMo) (T := FMo) (N := 45) hx hb hB in_Mo tMo tMo_ok nMo hown hK hP hD hS 0 rfl rfl 0 (by decide) (hB _ hw_890) (fun _ h9 => h9) rfl (by decide +kernel) rfl rfl (Nat.le_of_ble_eq_true rfl) d_Mo_block_23 (fun H locs hP hD hS => ?_)
    have hP : va_P (dC, dI) gx_cl [(h0, .inr (9, [.int 1, .ref (q 1), .ref (q 2), .ref (q 3), .int 0, .int 0, .ref (q 6), .ref (q 7), .int 0, .int 0, .int 0, .ref (q 11), .int 0, .int 0, .int (-1), .int 0, .ref (q 16), .int 0, .ref (q 18), .ref (q 19), .ref (q 20), .int 0, .ref (q 22), .int 0, .ref (q 24), .ref (q 25), .ref (q 26), .ref (q 27), .ref (q 28), .int 0, .ref (q 30), .ref (q 31), .ref (q 32), .ref (q 33), .int 0, .int 0, .int 0, .int 0, .int 0, .int 0, .ref (q 40), .int 0, .ref (q 42), .ref (q 43), .ref (q 44)])), ((q 1), .inl ((ci 0), 2816, .inl (fun _ => 0))), ((q 2), .inl ((ci 1), 44, .inl (fun _ => 0))), ((q 3), .inl ((ci 2), 192, .inl (fun _ => 0))), ((q 7), .inl ((ci 3), 10, .inl (fun _ => 0)))] H := hP
    have hD : va_D A [(h0, .inr (9, [.int 1, .ref (q 1), .ref (q 2), .ref (q 3), .int 0, .int 0, .ref (q 6), .ref (q 7), .int 0, .int 0, .int 0, .ref (q 11), .int 0, .int 0, .int (-1), .int 0, .ref (q 16), .int 0, .ref (q 18), .ref (q 19), .ref (q 20), .int 0, .ref (q 22), .int 0, .ref (q 24), .ref (q 25), .ref (q 26), .ref (q 27), .ref (q 28), .int 0, .ref (q 30), .ref (q 31), .ref (q 32), .ref (q 33), .int 0, .int 0, .int 0, .int 0, .int 0, .int 0, .ref (q 40), .int 0, .ref (q 42), .ref (q 43), .ref (q 44)])), ((q 1), .inl ((ci 0), 2816, .inl (fun _ => 0))), ((q 2), .inl ((ci 1), 44, .inl (fun _ => 0))), ((q 3), .inl ((ci 2), 192, .inl (fun _ => 0))), ((q 7), .inl ((ci 3), 10, .inl (fun _ => 0)))] := hD
    refine lv_aload_n hx hb d_Mo_block_26 rfl (lv_at hl 0 rfl) ?_
    refine va_get (D := (dC, dI)) (ci := 9) (v := .int 1) (C := RMo) (T := FMo) (N := 45) hx hb hB in_Mo hown hK hP 0 rfl rfl 0 (by decide) (hB _ hw_890) (fun _ h9 => h9) rfl d_Mo_block_27 ?_
    refine lv_if_le (tgt := 35) hx hb d_Mo_block_30 (by decide) (fun h9 => absurd h9 (by decide)) (fun _ => ?_)
    refine lv_iconst (v := 0) hx hb d_Mo_block_33 (by decide) ?_
    have hP9 := hP.sub (ws' := [(h0, .inr (9, [.int 1, .ref (q 1), .ref (q 2), .ref (q 3), .int 0, .int 0, .ref (q 6), .ref (q 7), .int 0, .int 0, .int 0, .ref (q 11), .int 0, .int 0, .int (-1), .int 0, .ref (q 16), .int 0, .ref (q 18), .ref (q 19), .ref (q 20), .int 0, .ref (q 22), .int 0, .ref (q 24), .ref (q 25), .ref (q 26), .ref (q 27), .ref (q 28), .int 0, .ref (q 30), .ref (q 31), .ref (q 32), .ref (q 33), .int 0, .int 0, .int 0, .int 0, .int 0, .int 0, .ref (q 40), .int 0, .ref (q 42), .ref (q 43), .ref (q 44)]))]) [0] rfl
    have hD9 := hD.sub (ws' := [(h0, .inr (9, [.int 1, .ref (q 1), .ref (q 2), .ref (q 3), .int 0, .int 0, .ref (q 6), .ref (q 7), .int 0, .int 0, .int 0, .ref (q 11), .int 0, .int 0, .int (-1), .int 0, .ref (q 16), .int 0, .ref (q 18), .ref (q 19), .ref (q 20), .int 0, .ref (q 22), .int 0, .ref (q 24), .ref (q 25), .ref (q 26), .ref (q 27), .ref (q 28), .int 0, .ref (q 30), .ref (q 31), .ref (q 32), .ref (q 33), .int 0, .int 0, .int 0, .int 0, .int 0, .int 0, .ref (q 40), .int 0, .ref (q 42), .ref (q 43), .ref (q 44)]))]) [0] (by decide) rfl
    refine W.widen (k := 0) (n := 0) (Nat.le_of_ble_eq_true rfl) (Nat.le_of_ble_eq_true rfl) ?_
    exact W.iret (v := 0) hx hb hr (fun t ht hW => ⟨⟨0, (), rfl, rfl, [.ref (q 1), .ref (q 2), .ref (q 3), .int 0, .int 0, .ref (q 6), .ref (q 7), .int 0, .int 0, .int 0, .ref (q 11), .int 0, .int 0, .int (-1), .int 0, .ref (q 16), .int 0, .ref (q 18), .ref (q 19), .ref (q 20), .int 0, .ref (q 22), .int 0, .ref (q 24), .ref (q 25), .ref (q 26), .ref (q 27), .ref (q 28), .int 0, .ref (q 30), .ref (q 31), .ref (q 32), .ref (q 33), .int 0, .int 0, .int 0, .int 0, .int 0, .int 0, .ref (q 40), .int 0, .ref (q 42), .ref (q 43), .ref (q 44)], by rw [ht]; exact hP9, hD9⟩, hS.F ht⟩) hS.2.2 d_Mo_block_34
  · refine lv_aload_n hx hb d_Mo_block_0 rfl (lv_at hl 0 rfl) ?_
    refine lv_iload_n hx hb d_Mo_block_1 rfl (lv_at hl 1 rfl) ?_
    refine px_go (va_runS (As := [.int p0]) (rest := [.ref h0]) ⟨hx, hb, hml, hown, hts⟩ (p_Mo_isBlock1 l p0 h1 h2) (cwS 1 hts (gx_goodS hw_1243 hw_1244 hw_75 k_Mo_isBlock) rfl rfl rfl (by decide +kernel) ⟨(Nat.le_of_ble_eq_true rfl), (Nat.le_of_ble_eq_true rfl)⟩) ⟨fun a U g mk q => q, fun U hU hW => ⟨rfl, trivial⟩⟩ rfl rfl hl.1 rfl (lv_room (Nat.le_of_ble_eq_true rfl)) d_Mo_block_2 ⟨(Nat.le_of_ble_eq_true rfl), (Nat.le_of_ble_eq_true rfl)⟩) ?_
    refine W.eq (g2 := F0 m 5 ls [.int 1, .ref h0]) rfl ?_
    refine lv_if_eq (tgt := 18) hx hb d_Mo_block_5 (by decide) (fun h9 => absurd h9 (by decide)) (fun _ => ?_)
    refine lv_iload_n hx hb d_Mo_block_8 rfl (lv_at hl 2 rfl) ?_
    refine lv_if_lt (tgt := 18) hx hb d_Mo_block_9 (by decide) (fun h9 => absurd h9 h3) (fun _ => ?_)
    refine lv_iload_n hx hb d_Mo_block_12 rfl (lv_at hl 2 rfl) ?_
    refine lv_bipush (v := 64) hx hb d_Mo_block_13 (by decide) ?_
    refine lv_icmp_lt (tgt := 22) hx hb d_Mo_block_15 (by decide) (fun h9 => absurd h9 (gx_nlt64 h4)) (fun _ => ?_)
    refine lv_iconst (v := 1) hx hb d_Mo_block_18 (by decide) ?_
    refine lv_goto (tgt := 23) hx hb d_Mo_block_19 (by decide) ?_
    refine va_put (D := (dC, dI)) (ci := 9) (v := .int 1) (ty := .int) (C := RMo) (T := FMo) (N := 45) hx hb hB in_Mo tMo tMo_ok nMo hown hK hP hD hS 0 rfl rfl 0 (by decide) (hB _ hw_890) (fun _ h9 => h9) rfl (by decide +kernel) rfl rfl (Nat.le_of_ble_eq_true rfl) d_Mo_block_23 (fun H locs hP hD hS => ?_)
    have hP : va_P (dC, dI) gx_cl [(h0, .inr (9, [.int 1, .ref (q 1), .ref (q 2), .ref (q 3), .int 0, .int 0, .ref (q 6), .ref (q 7), .int 0, .int 0, .int 0, .ref (q 11), .int 0, .int 0, .int (-1), .int 0, .ref (q 16), .int 0, .ref (q 18), .ref (q 19), .ref (q 20), .int 0, .ref (q 22), .int 0, .ref (q 24), .ref (q 25), .ref (q 26), .ref (q 27), .ref (q 28), .int 0, .ref (q 30), .ref (q 31), .ref (q 32), .ref (q 33), .int 0, .int 0, .int 0, .int 0, .int 0, .int 0, .ref (q 40), .int 0, .ref (q 42), .ref (q 43), .ref (q 44)])), ((q 1), .inl ((ci 0), 2816, .inl (fun _ => 0))), ((q 2), .inl ((ci 1), 44, .inl (fun _ => 0))), ((q 3), .inl ((ci 2), 192, .inl (fun _ => 0))), ((q 7), .inl ((ci 3), 10, .inl (fun _ => 0)))] H := hP
    have hD : va_D A [(h0, .inr (9, [.int 1, .ref (q 1), .ref (q 2), .ref (q 3), .int 0, .int 0, .ref (q 6), .ref (q 7), .int 0, .int 0, .int 0, .ref (q 11), .int 0, .int 0, .int (-1), .int 0, .ref (q 16), .int 0, .ref (q 18), .ref (q 19), .ref (q 20), .int 0, .ref (q 22), .int 0, .ref (q 24), .ref (q 25), .ref (q 26), .ref (q 27), .ref (q 28), .int 0, .ref (q 30), .ref (q 31), .ref (q 32), .ref (q 33), .int 0, .int 0, .int 0, .int 0, .int 0, .int 0, .ref (q 40), .int 0, .ref (q 42), .ref (q 43), .ref (q 44)])), ((q 1), .inl ((ci 0), 2816, .inl (fun _ => 0))), ((q 2), .inl ((ci 1), 44, .inl (fun _ => 0))), ((q 3), .inl ((ci 2), 192, .inl (fun _ => 0))), ((q 7), .inl ((ci 3), 10, .inl (fun _ => 0)))] := hD
    refine lv_aload_n hx hb d_Mo_block_26 rfl (lv_at hl 0 rfl) ?_
    refine va_get (D := (dC, dI)) (ci := 9) (v := .int 1) (C := RMo) (T := FMo) (N := 45) hx hb hB in_Mo hown hK hP 0 rfl rfl 0 (by decide) (hB _ hw_890) (fun _ h9 => h9) rfl d_Mo_block_27 ?_
    refine lv_if_le (tgt := 35) hx hb d_Mo_block_30 (by decide) (fun h9 => absurd h9 (by decide)) (fun _ => ?_)
    refine lv_iconst (v := 0) hx hb d_Mo_block_33 (by decide) ?_
    have hP9 := hP.sub (ws' := [(h0, .inr (9, [.int 1, .ref (q 1), .ref (q 2), .ref (q 3), .int 0, .int 0, .ref (q 6), .ref (q 7), .int 0, .int 0, .int 0, .ref (q 11), .int 0, .int 0, .int (-1), .int 0, .ref (q 16), .int 0, .ref (q 18), .ref (q 19), .ref (q 20), .int 0, .ref (q 22), .int 0, .ref (q 24), .ref (q 25), .ref (q 26), .ref (q 27), .ref (q 28), .int 0, .ref (q 30), .ref (q 31), .ref (q 32), .ref (q 33), .int 0, .int 0, .int 0, .int 0, .int 0, .int 0, .ref (q 40), .int 0, .ref (q 42), .ref (q 43), .ref (q 44)]))]) [0] rfl
    have hD9 := hD.sub (ws' := [(h0, .inr (9, [.int 1, .ref (q 1), .ref (q 2), .ref (q 3), .int 0, .int 0, .ref (q 6), .ref (q 7), .int 0, .int 0, .int 0, .ref (q 11), .int 0, .int 0, .int (-1), .int 0, .ref (q 16), .int 0, .ref (q 18), .ref (q 19), .ref (q 20), .int 0, .ref (q 22), .int 0, .ref (q 24), .ref (q 25), .ref (q 26), .ref (q 27), .ref (q 28), .int 0, .ref (q 30), .ref (q 31), .ref (q 32), .ref (q 33), .int 0, .int 0, .int 0, .int 0, .int 0, .int 0, .ref (q 40), .int 0, .ref (q 42), .ref (q 43), .ref (q 44)]))]) [0] (by decide) rfl
    refine W.widen (k := 0) (n := 0) (Nat.le_of_ble_eq_true rfl) (Nat.le_of_ble_eq_true rfl) ?_
    exact W.iret (v := 0) hx hb hr (fun t ht hW => ⟨⟨0, (), rfl, rfl, [.ref (q 1), .ref (q 2), .ref (q 3), .int 0, .int 0, .ref (q 6), .ref (q 7), .int 0, .int 0, .int 0, .ref (q 11), .int 0, .int 0, .int (-1), .int 0, .ref (q 16), .int 0, .ref (q 18), .ref (q 19), .ref (q 20), .int 0, .ref (q 22), .int 0, .ref (q 24), .ref (q 25), .ref (q 26), .ref (q 27), .ref (q 28), .int 0, .ref (q 30), .ref (q 31), .ref (q 32), .ref (q 33), .int 0, .int 0, .int 0, .int 0, .int 0, .int 0, .ref (q 40), .int 0, .ref (q 42), .ref (q 43), .ref (q 44)], by rw [ht]; exact hP9, hD9⟩, hS.F ht⟩) hS.2.2 d_Mo_block_34
set_option maxHeartbeats 4000000 in
set_option maxRecDepth 100000 in
theorem m_Mo_block1 (l : Launch) (dC : Nat → ClassId) (dI : Nat → Nat → Nat) (sz : Nat) (h0 : Nat) (q : Nat → Nat) (ci : Nat → ClassId) (p0 p1 : Int32) (h1 : ¬ p0 < 0) (h2 : ¬ 44 ≤ p0) (h3 : ¬ p1 < 0) (h4 : ¬ 64 ≤ p1) : Met l y_Mo_block w_Mo_block ({ frames := 1, cells := 0, slots := 0, locals := 20 }) (va_Pc [.ref h0, .int p0, .int p1] (fun U => U.heap.size = sz ∧ va_P (dC, dI) gx_cl (wMo h0 q ci) U.heap ∧ va_K (dC, dI) gx_cl (kMo ci) U ∧ va_D (fun _ => True) (wMo h0 q ci))) (va_Qi (fun (r : Int32) (_ : Unit) => r = 0) (fun _ t => ∃ fs : List Value, va_P (dC, dI) gx_cl [(h0, .inr (9, .int 0 :: fs))] t.heap ∧ va_D (va_A (wMo h0 q ci) sz) [(h0, .inr (9, .int 0 :: fs))]) (va_A (wMo h0 q ci) sz)) 0 0 (va_A (wMo h0 q ci) sz) := by
  refine Met.ofW (cc := b_Mo_block) (maxL := 3) (ret := (some .int)) (by decide) rfl ?_
  intro p e s m args below meth c s₁ B hml hv
  obtain ⟨rfl, hsz, hP, hK, hD0⟩ := hv
  have hx := B.exec
  have hb := B.bytes
  have hr := B.returns
  have hts := atoms_spec (ws := w_Mo_block) B.pre
  have hB : ∀ w ∈ gx_B, w.before _ s = true := fun w h => hts w (List.mem_cons_of_mem _ h)
  have hown : s.vm.findClass "TapeSealerModel" = some m.cls := findClass_of_methodNamed B.named
  have hlocks := B.notSynchronized
  subst hsz
  have hD := hD0.self (sz := s.heap.size)
  generalize hAe : va_A (wMo h0 q ci) s.heap.size = A at hD ⊢
  have hA : ∀ q : Nat, s.heap.size ≤ q → A q := fun q h => by rw [← hAe]; exact Or.inr h
  have hS : va_S A s.heap s.heap [] := va_S.rf
  have hl := lv_entry ([.ref h0, .int p0, .int p1]) (n := 3) (Nat.le_of_ble_eq_true rfl)
  rw [lg_entry_eq]
  generalize (lg_sl ([.ref h0, .int p0, .int p1]) ++ List.replicate (3 - (lg_sl ([.ref h0, .int p0, .int p1])).length) Slot.unset).toArray = ls at hl ⊢
  have hl : lv_has ls 3 [(0, .ref h0), (1, .int p0), (2, .int p1)] := hl
  refine lv_aload_n hx hb d_Mo_block_0 rfl (lv_at hl 0 rfl) ?_
  refine lv_iload_n hx hb d_Mo_block_1 rfl (lv_at hl 1 rfl) ?_
  refine px_go (va_runS (As := [.int p0]) (rest := [.ref h0]) ⟨hx, hb, hml, hown, hts⟩ (p_Mo_isBlock1 l p0 h1 h2) (cwS 1 hts (gx_goodS hw_1243 hw_1244 hw_75 k_Mo_isBlock) rfl rfl rfl (by decide +kernel) ⟨(Nat.le_of_ble_eq_true rfl), (Nat.le_of_ble_eq_true rfl)⟩) ⟨fun a U g mk q => q, fun U hU hW => ⟨rfl, trivial⟩⟩ rfl rfl hl.1 rfl (lv_room (Nat.le_of_ble_eq_true rfl)) d_Mo_block_2 ⟨(Nat.le_of_ble_eq_true rfl), (Nat.le_of_ble_eq_true rfl)⟩) ?_
  refine W.eq (g2 := F0 m 5 ls [.int 1, .ref h0]) rfl ?_
  refine lv_if_eq (tgt := 18) hx hb d_Mo_block_5 (by decide) (fun h9 => absurd h9 (by decide)) (fun _ => ?_)
  refine lv_iload_n hx hb d_Mo_block_8 rfl (lv_at hl 2 rfl) ?_
  refine lv_if_lt (tgt := 18) hx hb d_Mo_block_9 (by decide) (fun h9 => absurd h9 h3) (fun _ => ?_)
  refine lv_iload_n hx hb d_Mo_block_12 rfl (lv_at hl 2 rfl) ?_
  refine lv_bipush (v := 64) hx hb d_Mo_block_13 (by decide) ?_
  refine lv_icmp_lt (tgt := 22) hx hb d_Mo_block_15 (by decide) (fun _ => ?_) (fun h9 => absurd (gx_lt64 h4) h9)
  refine lv_iconst (v := 0) hx hb d_Mo_block_22 (by decide) ?_
  refine va_put (D := (dC, dI)) (ci := 9) (v := .int 0) (ty := .int) (C := RMo) (T := FMo) (N := 45) hx hb hB in_Mo tMo tMo_ok nMo hown hK hP hD hS 0 rfl rfl 0 (by decide) (hB _ hw_890) (fun _ h9 => h9) rfl (by decide +kernel) rfl rfl (Nat.le_of_ble_eq_true rfl) d_Mo_block_23 (fun H locs hP hD hS => ?_)
  have hP : va_P (dC, dI) gx_cl (wMo h0 q ci) H := hP
  have hD : va_D A (wMo h0 q ci) := hD
  refine lv_aload_n hx hb d_Mo_block_26 rfl (lv_at hl 0 rfl) ?_
  refine va_get (D := (dC, dI)) (ci := 9) (v := .int 0) (C := RMo) (T := FMo) (N := 45) hx hb hB in_Mo hown hK hP 0 rfl rfl 0 (by decide) (hB _ hw_890) (fun _ h9 => h9) rfl d_Mo_block_27 ?_
  refine lv_if_le (tgt := 35) hx hb d_Mo_block_30 (by decide) (fun _ => ?_) (fun h9 => absurd (by decide) h9)
  refine lv_aload_n hx hb d_Mo_block_35 rfl (lv_at hl 0 rfl) ?_
  refine va_get (D := (dC, dI)) (ci := 9) (v := .ref (q 2)) (C := RMo) (T := FMo) (N := 45) hx hb hB in_Mo hown hK hP 0 rfl rfl 2 (by decide) (hB _ hw_892) (fun _ h9 => h9) rfl d_Mo_block_36 ?_
  refine lv_iload_n hx hb d_Mo_block_39 rfl (lv_at hl 1 rfl) ?_
  refine va_zald (D := (dC, dI)) hx hb hK hP 2 1 rfl rfl (gx_in44 h1 h2) d_Mo_block_40 ?_
  refine W.eq (g2 := F0 m 41 ls [.int 0]) rfl ?_
  refine lv_if_eq (tgt := 48) hx hb d_Mo_block_41 (by decide) (fun _ => ?_) (fun h9 => absurd (by decide) h9)
  refine lv_aload_n hx hb d_Mo_block_48 rfl (lv_at hl 0 rfl) ?_
  refine va_get (D := (dC, dI)) (ci := 9) (v := .ref (q 1)) (C := RMo) (T := FMo) (N := 45) hx hb hB in_Mo hown hK hP 0 rfl rfl 1 (by decide) (hB _ hw_891) (fun _ h9 => h9) rfl d_Mo_block_49 ?_
  refine lv_bipush (v := 64) hx hb d_Mo_block_52 (by decide) ?_
  refine lv_iload_n hx hb d_Mo_block_54 rfl (lv_at hl 1 rfl) ?_
  refine lv_imul hx hb d_Mo_block_55 ?_
  refine lv_topi (fun z1 z1_e => ?_)
  refine lv_iload_n hx hb d_Mo_block_56 rfl (lv_at hl 2 rfl) ?_
  refine lv_iadd hx hb d_Mo_block_57 ?_
  refine lv_topi (fun z2 z2_e => ?_)
  refine va_iald (D := (dC, dI)) hx hb hK hP 1 0 rfl rfl (by rw [z2_e, z1_e]; exact gx_in2816 h1 h2 h3 h4) d_Mo_block_58 ?_
  refine W.eq (g2 := F0 m 59 ls [.int 0]) rfl ?_
  have hP9 := hP.sub (ws' := [(h0, .inr (9, [.int 0, .ref (q 1), .ref (q 2), .ref (q 3), .int 0, .int 0, .ref (q 6), .ref (q 7), .int 0, .int 0, .int 0, .ref (q 11), .int 0, .int 0, .int (-1), .int 0, .ref (q 16), .int 0, .ref (q 18), .ref (q 19), .ref (q 20), .int 0, .ref (q 22), .int 0, .ref (q 24), .ref (q 25), .ref (q 26), .ref (q 27), .ref (q 28), .int 0, .ref (q 30), .ref (q 31), .ref (q 32), .ref (q 33), .int 0, .int 0, .int 0, .int 0, .int 0, .int 0, .ref (q 40), .int 0, .ref (q 42), .ref (q 43), .ref (q 44)]))]) [0] rfl
  have hD9 := hD.sub (ws' := [(h0, .inr (9, [.int 0, .ref (q 1), .ref (q 2), .ref (q 3), .int 0, .int 0, .ref (q 6), .ref (q 7), .int 0, .int 0, .int 0, .ref (q 11), .int 0, .int 0, .int (-1), .int 0, .ref (q 16), .int 0, .ref (q 18), .ref (q 19), .ref (q 20), .int 0, .ref (q 22), .int 0, .ref (q 24), .ref (q 25), .ref (q 26), .ref (q 27), .ref (q 28), .int 0, .ref (q 30), .ref (q 31), .ref (q 32), .ref (q 33), .int 0, .int 0, .int 0, .int 0, .int 0, .int 0, .ref (q 40), .int 0, .ref (q 42), .ref (q 43), .ref (q 44)]))]) [0] (by decide) rfl
  refine W.widen (k := 0) (n := 0) (Nat.le_of_ble_eq_true rfl) (Nat.le_of_ble_eq_true rfl) ?_
  exact W.iret (v := 0) hx hb hr (fun t ht hW => ⟨⟨0, (), rfl, rfl, [.ref (q 1), .ref (q 2), .ref (q 3), .int 0, .int 0, .ref (q 6), .ref (q 7), .int 0, .int 0, .int 0, .ref (q 11), .int 0, .int 0, .int (-1), .int 0, .ref (q 16), .int 0, .ref (q 18), .ref (q 19), .ref (q 20), .int 0, .ref (q 22), .int 0, .ref (q 24), .ref (q 25), .ref (q 26), .ref (q 27), .ref (q 28), .int 0, .ref (q 30), .ref (q 31), .ref (q 32), .ref (q 33), .int 0, .int 0, .int 0, .int 0, .int 0, .int 0, .ref (q 40), .int 0, .ref (q 42), .ref (q 43), .ref (q 44)], by rw [ht]; exact hP9, hD9⟩, hS.F ht⟩) hS.2.2 d_Mo_block_59
set_option maxHeartbeats 4000000 in
set_option maxRecDepth 100000 in
theorem m_Mo_state_x (l : Launch) (dC : Nat → ClassId) (dI : Nat → Nat → Nat) (sz : Nat) (h0 : Nat) (q : Nat → Nat) (ci : Nat → ClassId) (p0 : Int32) (h : p0 < 0 ∨ 5 < p0) : Met l y_Mo_state w_Mo_state ({ frames := 0, cells := 0, slots := 0, locals := 0 }) (va_Pc [.ref h0, .int p0] (fun U => U.heap.size = sz ∧ va_P (dC, dI) gx_cl (wMo h0 q ci) U.heap ∧ va_K (dC, dI) gx_cl (kMo ci) U ∧ va_D (fun _ => True) (wMo h0 q ci))) (va_Qi (fun (r : Int32) (_ : Unit) => r = 0) (fun _ t => ∃ fs : List Value, va_P (dC, dI) gx_cl [(h0, .inr (9, .int 1 :: fs))] t.heap ∧ va_D (va_A (wMo h0 q ci) sz) [(h0, .inr (9, .int 1 :: fs))]) (va_A (wMo h0 q ci) sz)) 0 0 (va_A (wMo h0 q ci) sz) := by
  refine Met.ofW (cc := b_Mo_state) (maxL := 5) (ret := (some .int)) (by decide) rfl ?_
  intro p e s m args below meth c s₁ B hml hv
  obtain ⟨rfl, hsz, hP, hK, hD0⟩ := hv
  have hx := B.exec
  have hb := B.bytes
  have hr := B.returns
  have hts := atoms_spec (ws := w_Mo_state) B.pre
  have hB : ∀ w ∈ gx_B, w.before _ s = true := fun w h => hts w (List.mem_cons_of_mem _ h)
  have hown : s.vm.findClass "TapeSealerModel" = some m.cls := findClass_of_methodNamed B.named
  have hlocks := B.notSynchronized
  subst hsz
  have hD := hD0.self (sz := s.heap.size)
  generalize hAe : va_A (wMo h0 q ci) s.heap.size = A at hD ⊢
  have hA : ∀ q : Nat, s.heap.size ≤ q → A q := fun q h => by rw [← hAe]; exact Or.inr h
  have hS : va_S A s.heap s.heap [] := va_S.rf
  have hl := lv_entry ([.ref h0, .int p0]) (n := 5) (Nat.le_of_ble_eq_true rfl)
  rw [lg_entry_eq]
  generalize (lg_sl ([.ref h0, .int p0]) ++ List.replicate (5 - (lg_sl ([.ref h0, .int p0])).length) Slot.unset).toArray = ls at hl ⊢
  have hl : lv_has ls 5 [(0, .ref h0), (1, .int p0)] := hl
  rcases h with hi | hi
  · refine lv_aload_n hx hb d_Mo_state_0 rfl (lv_at hl 0 rfl) ?_
    refine lv_iload_n hx hb d_Mo_state_1 rfl (lv_at hl 1 rfl) ?_
    refine lv_if_lt (tgt := 10) hx hb d_Mo_state_2 (by decide) (fun _ => ?_) (fun h9 => absurd hi h9)
    refine lv_iconst (v := 1) hx hb d_Mo_state_10 (by decide) ?_
    refine lv_goto (tgt := 15) hx hb d_Mo_state_11 (by decide) ?_
    refine va_put (D := (dC, dI)) (ci := 9) (v := .int 1) (ty := .int) (C := RMo) (T := FMo) (N := 45) hx hb hB in_Mo tMo tMo_ok nMo hown hK hP hD hS 0 rfl rfl 0 (by decide) (hB _ hw_890) (fun _ h9 => h9) rfl (by decide +kernel) rfl rfl (Nat.le_of_ble_eq_true rfl) d_Mo_state_15 (fun H locs hP hD hS => ?_)
    have hP : va_P (dC, dI) gx_cl [(h0, .inr (9, [.int 1, .ref (q 1), .ref (q 2), .ref (q 3), .int 0, .int 0, .ref (q 6), .ref (q 7), .int 0, .int 0, .int 0, .ref (q 11), .int 0, .int 0, .int (-1), .int 0, .ref (q 16), .int 0, .ref (q 18), .ref (q 19), .ref (q 20), .int 0, .ref (q 22), .int 0, .ref (q 24), .ref (q 25), .ref (q 26), .ref (q 27), .ref (q 28), .int 0, .ref (q 30), .ref (q 31), .ref (q 32), .ref (q 33), .int 0, .int 0, .int 0, .int 0, .int 0, .int 0, .ref (q 40), .int 0, .ref (q 42), .ref (q 43), .ref (q 44)])), ((q 1), .inl ((ci 0), 2816, .inl (fun _ => 0))), ((q 2), .inl ((ci 1), 44, .inl (fun _ => 0))), ((q 3), .inl ((ci 2), 192, .inl (fun _ => 0))), ((q 7), .inl ((ci 3), 10, .inl (fun _ => 0)))] H := hP
    have hD : va_D A [(h0, .inr (9, [.int 1, .ref (q 1), .ref (q 2), .ref (q 3), .int 0, .int 0, .ref (q 6), .ref (q 7), .int 0, .int 0, .int 0, .ref (q 11), .int 0, .int 0, .int (-1), .int 0, .ref (q 16), .int 0, .ref (q 18), .ref (q 19), .ref (q 20), .int 0, .ref (q 22), .int 0, .ref (q 24), .ref (q 25), .ref (q 26), .ref (q 27), .ref (q 28), .int 0, .ref (q 30), .ref (q 31), .ref (q 32), .ref (q 33), .int 0, .int 0, .int 0, .int 0, .int 0, .int 0, .ref (q 40), .int 0, .ref (q 42), .ref (q 43), .ref (q 44)])), ((q 1), .inl ((ci 0), 2816, .inl (fun _ => 0))), ((q 2), .inl ((ci 1), 44, .inl (fun _ => 0))), ((q 3), .inl ((ci 2), 192, .inl (fun _ => 0))), ((q 7), .inl ((ci 3), 10, .inl (fun _ => 0)))] := hD
    refine lv_aload_n hx hb d_Mo_state_18 rfl (lv_at hl 0 rfl) ?_
    refine va_get (D := (dC, dI)) (ci := 9) (v := .int 1) (C := RMo) (T := FMo) (N := 45) hx hb hB in_Mo hown hK hP 0 rfl rfl 0 (by decide) (hB _ hw_890) (fun _ h9 => h9) rfl d_Mo_state_19 ?_
    refine lv_if_le (tgt := 27) hx hb d_Mo_state_22 (by decide) (fun h9 => absurd h9 (by decide)) (fun _ => ?_)
    refine lv_iconst (v := 0) hx hb d_Mo_state_25 (by decide) ?_
    have hP9 := hP.sub (ws' := [(h0, .inr (9, [.int 1, .ref (q 1), .ref (q 2), .ref (q 3), .int 0, .int 0, .ref (q 6), .ref (q 7), .int 0, .int 0, .int 0, .ref (q 11), .int 0, .int 0, .int (-1), .int 0, .ref (q 16), .int 0, .ref (q 18), .ref (q 19), .ref (q 20), .int 0, .ref (q 22), .int 0, .ref (q 24), .ref (q 25), .ref (q 26), .ref (q 27), .ref (q 28), .int 0, .ref (q 30), .ref (q 31), .ref (q 32), .ref (q 33), .int 0, .int 0, .int 0, .int 0, .int 0, .int 0, .ref (q 40), .int 0, .ref (q 42), .ref (q 43), .ref (q 44)]))]) [0] rfl
    have hD9 := hD.sub (ws' := [(h0, .inr (9, [.int 1, .ref (q 1), .ref (q 2), .ref (q 3), .int 0, .int 0, .ref (q 6), .ref (q 7), .int 0, .int 0, .int 0, .ref (q 11), .int 0, .int 0, .int (-1), .int 0, .ref (q 16), .int 0, .ref (q 18), .ref (q 19), .ref (q 20), .int 0, .ref (q 22), .int 0, .ref (q 24), .ref (q 25), .ref (q 26), .ref (q 27), .ref (q 28), .int 0, .ref (q 30), .ref (q 31), .ref (q 32), .ref (q 33), .int 0, .int 0, .int 0, .int 0, .int 0, .int 0, .ref (q 40), .int 0, .ref (q 42), .ref (q 43), .ref (q 44)]))]) [0] (by decide) rfl
    refine W.widen (k := 0) (n := 0) (Nat.le_of_ble_eq_true rfl) (Nat.le_of_ble_eq_true rfl) ?_
    exact W.iret (v := 0) hx hb hr (fun t ht hW => ⟨⟨0, (), rfl, rfl, [.ref (q 1), .ref (q 2), .ref (q 3), .int 0, .int 0, .ref (q 6), .ref (q 7), .int 0, .int 0, .int 0, .ref (q 11), .int 0, .int 0, .int (-1), .int 0, .ref (q 16), .int 0, .ref (q 18), .ref (q 19), .ref (q 20), .int 0, .ref (q 22), .int 0, .ref (q 24), .ref (q 25), .ref (q 26), .ref (q 27), .ref (q 28), .int 0, .ref (q 30), .ref (q 31), .ref (q 32), .ref (q 33), .int 0, .int 0, .int 0, .int 0, .int 0, .int 0, .ref (q 40), .int 0, .ref (q 42), .ref (q 43), .ref (q 44)], by rw [ht]; exact hP9, hD9⟩, hS.F ht⟩) hS.2.2 d_Mo_state_26
  · refine lv_aload_n hx hb d_Mo_state_0 rfl (lv_at hl 0 rfl) ?_
    refine lv_iload_n hx hb d_Mo_state_1 rfl (lv_at hl 1 rfl) ?_
    refine lv_if_lt (tgt := 10) hx hb d_Mo_state_2 (by decide) (fun h9 => absurd h9 (gx_nlt5 hi)) (fun _ => ?_)
    refine lv_iload_n hx hb d_Mo_state_5 rfl (lv_at hl 1 rfl) ?_
    refine lv_iconst (v := 5) hx hb d_Mo_state_6 (by decide) ?_
    refine lv_icmp_le (tgt := 14) hx hb d_Mo_state_7 (by decide) (fun h9 => absurd h9 (gx_nle5 hi)) (fun _ => ?_)
    refine lv_iconst (v := 1) hx hb d_Mo_state_10 (by decide) ?_
    refine lv_goto (tgt := 15) hx hb d_Mo_state_11 (by decide) ?_
    refine va_put (D := (dC, dI)) (ci := 9) (v := .int 1) (ty := .int) (C := RMo) (T := FMo) (N := 45) hx hb hB in_Mo tMo tMo_ok nMo hown hK hP hD hS 0 rfl rfl 0 (by decide) (hB _ hw_890) (fun _ h9 => h9) rfl (by decide +kernel) rfl rfl (Nat.le_of_ble_eq_true rfl) d_Mo_state_15 (fun H locs hP hD hS => ?_)
    have hP : va_P (dC, dI) gx_cl [(h0, .inr (9, [.int 1, .ref (q 1), .ref (q 2), .ref (q 3), .int 0, .int 0, .ref (q 6), .ref (q 7), .int 0, .int 0, .int 0, .ref (q 11), .int 0, .int 0, .int (-1), .int 0, .ref (q 16), .int 0, .ref (q 18), .ref (q 19), .ref (q 20), .int 0, .ref (q 22), .int 0, .ref (q 24), .ref (q 25), .ref (q 26), .ref (q 27), .ref (q 28), .int 0, .ref (q 30), .ref (q 31), .ref (q 32), .ref (q 33), .int 0, .int 0, .int 0, .int 0, .int 0, .int 0, .ref (q 40), .int 0, .ref (q 42), .ref (q 43), .ref (q 44)])), ((q 1), .inl ((ci 0), 2816, .inl (fun _ => 0))), ((q 2), .inl ((ci 1), 44, .inl (fun _ => 0))), ((q 3), .inl ((ci 2), 192, .inl (fun _ => 0))), ((q 7), .inl ((ci 3), 10, .inl (fun _ => 0)))] H := hP
    have hD : va_D A [(h0, .inr (9, [.int 1, .ref (q 1), .ref (q 2), .ref (q 3), .int 0, .int 0, .ref (q 6), .ref (q 7), .int 0, .int 0, .int 0, .ref (q 11), .int 0, .int 0, .int (-1), .int 0, .ref (q 16), .int 0, .ref (q 18), .ref (q 19), .ref (q 20), .int 0, .ref (q 22), .int 0, .ref (q 24), .ref (q 25), .ref (q 26), .ref (q 27), .ref (q 28), .int 0, .ref (q 30), .ref (q 31), .ref (q 32), .ref (q 33), .int 0, .int 0, .int 0, .int 0, .int 0, .int 0, .ref (q 40), .int 0, .ref (q 42), .ref (q 43), .ref (q 44)])), ((q 1), .inl ((ci 0), 2816, .inl (fun _ => 0))), ((q 2), .inl ((ci 1), 44, .inl (fun _ => 0))), ((q 3), .inl ((ci 2), 192, .inl (fun _ => 0))), ((q 7), .inl ((ci 3), 10, .inl (fun _ => 0)))] := hD
    refine lv_aload_n hx hb d_Mo_state_18 rfl (lv_at hl 0 rfl) ?_
    refine va_get (D := (dC, dI)) (ci := 9) (v := .int 1) (C := RMo) (T := FMo) (N := 45) hx hb hB in_Mo hown hK hP 0 rfl rfl 0 (by decide) (hB _ hw_890) (fun _ h9 => h9) rfl d_Mo_state_19 ?_
    refine lv_if_le (tgt := 27) hx hb d_Mo_state_22 (by decide) (fun h9 => absurd h9 (by decide)) (fun _ => ?_)
    refine lv_iconst (v := 0) hx hb d_Mo_state_25 (by decide) ?_
    have hP9 := hP.sub (ws' := [(h0, .inr (9, [.int 1, .ref (q 1), .ref (q 2), .ref (q 3), .int 0, .int 0, .ref (q 6), .ref (q 7), .int 0, .int 0, .int 0, .ref (q 11), .int 0, .int 0, .int (-1), .int 0, .ref (q 16), .int 0, .ref (q 18), .ref (q 19), .ref (q 20), .int 0, .ref (q 22), .int 0, .ref (q 24), .ref (q 25), .ref (q 26), .ref (q 27), .ref (q 28), .int 0, .ref (q 30), .ref (q 31), .ref (q 32), .ref (q 33), .int 0, .int 0, .int 0, .int 0, .int 0, .int 0, .ref (q 40), .int 0, .ref (q 42), .ref (q 43), .ref (q 44)]))]) [0] rfl
    have hD9 := hD.sub (ws' := [(h0, .inr (9, [.int 1, .ref (q 1), .ref (q 2), .ref (q 3), .int 0, .int 0, .ref (q 6), .ref (q 7), .int 0, .int 0, .int 0, .ref (q 11), .int 0, .int 0, .int (-1), .int 0, .ref (q 16), .int 0, .ref (q 18), .ref (q 19), .ref (q 20), .int 0, .ref (q 22), .int 0, .ref (q 24), .ref (q 25), .ref (q 26), .ref (q 27), .ref (q 28), .int 0, .ref (q 30), .ref (q 31), .ref (q 32), .ref (q 33), .int 0, .int 0, .int 0, .int 0, .int 0, .int 0, .ref (q 40), .int 0, .ref (q 42), .ref (q 43), .ref (q 44)]))]) [0] (by decide) rfl
    refine W.widen (k := 0) (n := 0) (Nat.le_of_ble_eq_true rfl) (Nat.le_of_ble_eq_true rfl) ?_
    exact W.iret (v := 0) hx hb hr (fun t ht hW => ⟨⟨0, (), rfl, rfl, [.ref (q 1), .ref (q 2), .ref (q 3), .int 0, .int 0, .ref (q 6), .ref (q 7), .int 0, .int 0, .int 0, .ref (q 11), .int 0, .int 0, .int (-1), .int 0, .ref (q 16), .int 0, .ref (q 18), .ref (q 19), .ref (q 20), .int 0, .ref (q 22), .int 0, .ref (q 24), .ref (q 25), .ref (q 26), .ref (q 27), .ref (q 28), .int 0, .ref (q 30), .ref (q 31), .ref (q 32), .ref (q 33), .int 0, .int 0, .int 0, .int 0, .int 0, .int 0, .ref (q 40), .int 0, .ref (q 42), .ref (q 43), .ref (q 44)], by rw [ht]; exact hP9, hD9⟩, hS.F ht⟩) hS.2.2 d_Mo_state_26
set_option maxHeartbeats 4000000 in
set_option maxRecDepth 100000 in
theorem m_Mo_state0 (l : Launch) (dC : Nat → ClassId) (dI : Nat → Nat → Nat) (sz : Nat) (h0 : Nat) (q : Nat → Nat) (ci : Nat → ClassId)  : Met l y_Mo_state w_Mo_state ({ frames := 3, cells := 0, slots := 0, locals := 68 }) (va_Pc [.ref h0, .int 0] (fun U => U.heap.size = sz ∧ va_P (dC, dI) gx_cl (wMo h0 q ci) U.heap ∧ va_K (dC, dI) gx_cl (kMo ci) U ∧ va_D (fun _ => True) (wMo h0 q ci))) (va_Qi (fun (r : Int32) (_ : Unit) => r = 0) (fun _ t => ∃ fs : List Value, va_P (dC, dI) gx_cl [(h0, .inr (9, .int 0 :: fs))] t.heap ∧ va_D (va_A (wMo h0 q ci) sz) [(h0, .inr (9, .int 0 :: fs))]) (va_A (wMo h0 q ci) sz)) 0 0 (va_A (wMo h0 q ci) sz) := by
  refine Met.ofW (cc := b_Mo_state) (maxL := 5) (ret := (some .int)) (by decide) rfl ?_
  intro p e s m args below meth c s₁ B hml hv
  obtain ⟨rfl, hsz, hP, hK, hD0⟩ := hv
  have hx := B.exec
  have hb := B.bytes
  have hr := B.returns
  have hts := atoms_spec (ws := w_Mo_state) B.pre
  have hB : ∀ w ∈ gx_B, w.before _ s = true := fun w h => hts w (List.mem_cons_of_mem _ h)
  have hown : s.vm.findClass "TapeSealerModel" = some m.cls := findClass_of_methodNamed B.named
  have hlocks := B.notSynchronized
  subst hsz
  have hD := hD0.self (sz := s.heap.size)
  generalize hAe : va_A (wMo h0 q ci) s.heap.size = A at hD ⊢
  have hA : ∀ q : Nat, s.heap.size ≤ q → A q := fun q h => by rw [← hAe]; exact Or.inr h
  have hS : va_S A s.heap s.heap [] := va_S.rf
  have hl := lv_entry ([.ref h0, .int 0]) (n := 5) (Nat.le_of_ble_eq_true rfl)
  rw [lg_entry_eq]
  generalize (lg_sl ([.ref h0, .int 0]) ++ List.replicate (5 - (lg_sl ([.ref h0, .int 0])).length) Slot.unset).toArray = ls at hl ⊢
  have hl : lv_has ls 5 [(0, .ref h0), (1, .int 0)] := hl
  refine lv_aload_n hx hb d_Mo_state_0 rfl (lv_at hl 0 rfl) ?_
  refine lv_iload_n hx hb d_Mo_state_1 rfl (lv_at hl 1 rfl) ?_
  refine lv_if_lt (tgt := 10) hx hb d_Mo_state_2 (by decide) (fun h9 => absurd h9 (by decide)) (fun _ => ?_)
  refine lv_iload_n hx hb d_Mo_state_5 rfl (lv_at hl 1 rfl) ?_
  refine lv_iconst (v := 5) hx hb d_Mo_state_6 (by decide) ?_
  refine lv_icmp_le (tgt := 14) hx hb d_Mo_state_7 (by decide) (fun _ => ?_) (fun h9 => absurd (by decide) h9)
  refine lv_iconst (v := 0) hx hb d_Mo_state_14 (by decide) ?_
  refine va_put (D := (dC, dI)) (ci := 9) (v := .int 0) (ty := .int) (C := RMo) (T := FMo) (N := 45) hx hb hB in_Mo tMo tMo_ok nMo hown hK hP hD hS 0 rfl rfl 0 (by decide) (hB _ hw_890) (fun _ h9 => h9) rfl (by decide +kernel) rfl rfl (Nat.le_of_ble_eq_true rfl) d_Mo_state_15 (fun H locs hP hD hS => ?_)
  have hP : va_P (dC, dI) gx_cl (wMo h0 q ci) H := hP
  have hD : va_D A (wMo h0 q ci) := hD
  refine lv_aload_n hx hb d_Mo_state_18 rfl (lv_at hl 0 rfl) ?_
  refine va_get (D := (dC, dI)) (ci := 9) (v := .int 0) (C := RMo) (T := FMo) (N := 45) hx hb hB in_Mo hown hK hP 0 rfl rfl 0 (by decide) (hB _ hw_890) (fun _ h9 => h9) rfl d_Mo_state_19 ?_
  refine lv_if_le (tgt := 27) hx hb d_Mo_state_22 (by decide) (fun _ => ?_) (fun h9 => absurd (by decide) h9)
  refine lv_iload_n hx hb d_Mo_state_27 rfl (lv_at hl 1 rfl) ?_
  refine lv_if_ne (tgt := 36) hx hb d_Mo_state_28 (by decide) (fun h9 => absurd (by decide) h9) (fun _ => ?_)
  refine lv_aload_n hx hb d_Mo_state_31 rfl (lv_at hl 0 rfl) ?_
  refine px_go (va_runV (C := "TapeSealerModel") (As := []) (rest := []) ⟨hx, hb, hml, hown, hts⟩ (p_Mo_files l dC dI h0 q ci) (cwV 0 hts (gx_goodV hw_1042 hw_1044 hw_31 hw_75 k_Mo_files) rfl rfl rfl (by decide +kernel) ⟨(Nat.le_of_ble_eq_true rfl), (Nat.le_of_ble_eq_true rfl)⟩) ⟨fun a U g mk q => by obtain ⟨q0, qP, qK⟩ := q; exact ⟨q0, qP, va_K.moved (u := U) (U := U.calling g mk a) (Vm.Alike.refl U.vm) qK⟩, va_recv hK hP rfl (q0 := 0) rfl, fun U hU hW => ⟨rfl, by rw [hU]; exact hP, va_K.moved hW.alike (hK)⟩⟩ rfl rfl hl.1 rfl (lv_room (Nat.le_of_ble_eq_true rfl)) d_Mo_state_32 ⟨(Nat.le_of_ble_eq_true rfl), (Nat.le_of_ble_eq_true rfl)⟩) ?_
  refine W.eq (g2 := F0 m 35 ls [.int 0]) rfl ?_
  have hP9 := hP.sub (ws' := [(h0, .inr (9, [.int 0, .ref (q 1), .ref (q 2), .ref (q 3), .int 0, .int 0, .ref (q 6), .ref (q 7), .int 0, .int 0, .int 0, .ref (q 11), .int 0, .int 0, .int (-1), .int 0, .ref (q 16), .int 0, .ref (q 18), .ref (q 19), .ref (q 20), .int 0, .ref (q 22), .int 0, .ref (q 24), .ref (q 25), .ref (q 26), .ref (q 27), .ref (q 28), .int 0, .ref (q 30), .ref (q 31), .ref (q 32), .ref (q 33), .int 0, .int 0, .int 0, .int 0, .int 0, .int 0, .ref (q 40), .int 0, .ref (q 42), .ref (q 43), .ref (q 44)]))]) [0] rfl
  have hD9 := hD.sub (ws' := [(h0, .inr (9, [.int 0, .ref (q 1), .ref (q 2), .ref (q 3), .int 0, .int 0, .ref (q 6), .ref (q 7), .int 0, .int 0, .int 0, .ref (q 11), .int 0, .int 0, .int (-1), .int 0, .ref (q 16), .int 0, .ref (q 18), .ref (q 19), .ref (q 20), .int 0, .ref (q 22), .int 0, .ref (q 24), .ref (q 25), .ref (q 26), .ref (q 27), .ref (q 28), .int 0, .ref (q 30), .ref (q 31), .ref (q 32), .ref (q 33), .int 0, .int 0, .int 0, .int 0, .int 0, .int 0, .ref (q 40), .int 0, .ref (q 42), .ref (q 43), .ref (q 44)]))]) [0] (by decide) rfl
  refine W.widen (k := 0) (n := 0) (Nat.le_of_ble_eq_true rfl) (Nat.le_of_ble_eq_true rfl) ?_
  exact W.iret (v := 0) hx hb hr (fun t ht hW => ⟨⟨0, (), rfl, rfl, [.ref (q 1), .ref (q 2), .ref (q 3), .int 0, .int 0, .ref (q 6), .ref (q 7), .int 0, .int 0, .int 0, .ref (q 11), .int 0, .int 0, .int (-1), .int 0, .ref (q 16), .int 0, .ref (q 18), .ref (q 19), .ref (q 20), .int 0, .ref (q 22), .int 0, .ref (q 24), .ref (q 25), .ref (q 26), .ref (q 27), .ref (q 28), .int 0, .ref (q 30), .ref (q 31), .ref (q 32), .ref (q 33), .int 0, .int 0, .int 0, .int 0, .int 0, .int 0, .ref (q 40), .int 0, .ref (q 42), .ref (q 43), .ref (q 44)], by rw [ht]; exact hP9, hD9⟩, hS.F ht⟩) hS.2.2 d_Mo_state_35
set_option maxHeartbeats 4000000 in
set_option maxRecDepth 100000 in
theorem m_Mo_state1 (l : Launch) (dC : Nat → ClassId) (dI : Nat → Nat → Nat) (sz : Nat) (h0 : Nat) (q : Nat → Nat) (ci : Nat → ClassId)  : Met l y_Mo_state w_Mo_state ({ frames := 3, cells := 0, slots := 0, locals := 69 }) (va_Pc [.ref h0, .int 1] (fun U => U.heap.size = sz ∧ va_P (dC, dI) gx_cl (wMo h0 q ci) U.heap ∧ va_K (dC, dI) gx_cl (kMo ci) U ∧ va_D (fun _ => True) (wMo h0 q ci))) (va_Qi (fun (r : Int32) (_ : Unit) => r = 6) (fun _ t => ∃ fs : List Value, va_P (dC, dI) gx_cl [(h0, .inr (9, .int 0 :: fs))] t.heap ∧ va_D (va_A (wMo h0 q ci) sz) [(h0, .inr (9, .int 0 :: fs))]) (va_A (wMo h0 q ci) sz)) 0 0 (va_A (wMo h0 q ci) sz) := by
  refine Met.ofW (cc := b_Mo_state) (maxL := 5) (ret := (some .int)) (by decide) rfl ?_
  intro p e s m args below meth c s₁ B hml hv
  obtain ⟨rfl, hsz, hP, hK, hD0⟩ := hv
  have hx := B.exec
  have hb := B.bytes
  have hr := B.returns
  have hts := atoms_spec (ws := w_Mo_state) B.pre
  have hB : ∀ w ∈ gx_B, w.before _ s = true := fun w h => hts w (List.mem_cons_of_mem _ h)
  have hown : s.vm.findClass "TapeSealerModel" = some m.cls := findClass_of_methodNamed B.named
  have hlocks := B.notSynchronized
  subst hsz
  have hD := hD0.self (sz := s.heap.size)
  generalize hAe : va_A (wMo h0 q ci) s.heap.size = A at hD ⊢
  have hA : ∀ q : Nat, s.heap.size ≤ q → A q := fun q h => by rw [← hAe]; exact Or.inr h
  have hS : va_S A s.heap s.heap [] := va_S.rf
  have hl := lv_entry ([.ref h0, .int 1]) (n := 5) (Nat.le_of_ble_eq_true rfl)
  rw [lg_entry_eq]
  generalize (lg_sl ([.ref h0, .int 1]) ++ List.replicate (5 - (lg_sl ([.ref h0, .int 1])).length) Slot.unset).toArray = ls at hl ⊢
  have hl : lv_has ls 5 [(0, .ref h0), (1, .int 1)] := hl
  refine lv_aload_n hx hb d_Mo_state_0 rfl (lv_at hl 0 rfl) ?_
  refine lv_iload_n hx hb d_Mo_state_1 rfl (lv_at hl 1 rfl) ?_
  refine lv_if_lt (tgt := 10) hx hb d_Mo_state_2 (by decide) (fun h9 => absurd h9 (by decide)) (fun _ => ?_)
  refine lv_iload_n hx hb d_Mo_state_5 rfl (lv_at hl 1 rfl) ?_
  refine lv_iconst (v := 5) hx hb d_Mo_state_6 (by decide) ?_
  refine lv_icmp_le (tgt := 14) hx hb d_Mo_state_7 (by decide) (fun _ => ?_) (fun h9 => absurd (by decide) h9)
  refine lv_iconst (v := 0) hx hb d_Mo_state_14 (by decide) ?_
  refine va_put (D := (dC, dI)) (ci := 9) (v := .int 0) (ty := .int) (C := RMo) (T := FMo) (N := 45) hx hb hB in_Mo tMo tMo_ok nMo hown hK hP hD hS 0 rfl rfl 0 (by decide) (hB _ hw_890) (fun _ h9 => h9) rfl (by decide +kernel) rfl rfl (Nat.le_of_ble_eq_true rfl) d_Mo_state_15 (fun H locs hP hD hS => ?_)
  have hP : va_P (dC, dI) gx_cl (wMo h0 q ci) H := hP
  have hD : va_D A (wMo h0 q ci) := hD
  refine lv_aload_n hx hb d_Mo_state_18 rfl (lv_at hl 0 rfl) ?_
  refine va_get (D := (dC, dI)) (ci := 9) (v := .int 0) (C := RMo) (T := FMo) (N := 45) hx hb hB in_Mo hown hK hP 0 rfl rfl 0 (by decide) (hB _ hw_890) (fun _ h9 => h9) rfl d_Mo_state_19 ?_
  refine lv_if_le (tgt := 27) hx hb d_Mo_state_22 (by decide) (fun _ => ?_) (fun h9 => absurd (by decide) h9)
  refine lv_iload_n hx hb d_Mo_state_27 rfl (lv_at hl 1 rfl) ?_
  refine lv_if_ne (tgt := 36) hx hb d_Mo_state_28 (by decide) (fun _ => ?_) (fun h9 => absurd h9 (by decide))
  refine lv_iload_n hx hb d_Mo_state_36 rfl (lv_at hl 1 rfl) ?_
  refine lv_iconst (v := 2) hx hb d_Mo_state_37 (by decide) ?_
  refine lv_icmp_ne (tgt := 46) hx hb d_Mo_state_38 (by decide) (fun _ => ?_) (fun h9 => absurd h9 (by decide))
  refine lv_iload_n hx hb d_Mo_state_46 rfl (lv_at hl 1 rfl) ?_
  refine lv_iconst (v := 3) hx hb d_Mo_state_47 (by decide) ?_
  refine lv_icmp_ne (tgt := 56) hx hb d_Mo_state_48 (by decide) (fun _ => ?_) (fun h9 => absurd h9 (by decide))
  refine lv_iload_n hx hb d_Mo_state_56 rfl (lv_at hl 1 rfl) ?_
  refine lv_iconst (v := 3) hx hb d_Mo_state_57 (by decide) ?_
  refine lv_icmp_le (tgt := 86) hx hb d_Mo_state_58 (by decide) (fun _ => ?_) (fun h9 => absurd (by decide) h9)
  refine lv_aload_n hx hb d_Mo_state_86 rfl (lv_at hl 0 rfl) ?_
  refine px_go (va_runV (C := "TapeSealerModel") (As := []) (rest := []) ⟨hx, hb, hml, hown, hts⟩ (p_Mo_taken l dC dI h0 q ci) (cwV 0 hts (gx_goodV hw_1119 hw_1121 hw_46 hw_75 k_Mo_taken) rfl rfl rfl (by decide +kernel) ⟨(Nat.le_of_ble_eq_true rfl), (Nat.le_of_ble_eq_true rfl)⟩) ⟨fun a U g mk q => by obtain ⟨q0, qP, qK⟩ := q; exact ⟨q0, qP, va_K.moved (u := U) (U := U.calling g mk a) (Vm.Alike.refl U.vm) qK⟩, va_recv hK hP rfl (q0 := 0) rfl, fun U hU hW => ⟨rfl, by rw [hU]; exact hP, va_K.moved hW.alike (hK)⟩⟩ rfl rfl hl.1 rfl (lv_room (Nat.le_of_ble_eq_true rfl)) d_Mo_state_87 ⟨(Nat.le_of_ble_eq_true rfl), (Nat.le_of_ble_eq_true rfl)⟩) ?_
  refine W.eq (g2 := F0 m 90 ls [.int 0]) rfl ?_
  refine lv_istore_n hx hb d_Mo_state_90 rfl hl (by decide) rfl (fun ls hl => ?_)
  have hl : lv_has ls 5 [(2, .int 0), (0, .ref h0), (1, .int 1)] := hl
  refine lv_iconst (v := 0) hx hb d_Mo_state_91 (by decide) ?_
  refine lv_istore_n hx hb d_Mo_state_92 rfl hl (by decide) rfl (fun ls hl => ?_)
  have hl : lv_has ls 5 [(3, .int 0), (2, .int 0), (0, .ref h0), (1, .int 1)] := hl
  refine lv_iconst (v := 0) hx hb d_Mo_state_93 (by decide) ?_
  refine lv_istore hx hb d_Mo_state_94 hl (by decide) rfl (fun ls hl => ?_)
  have hl : lv_has ls 5 [(4, .int 0), (3, .int 0), (2, .int 0), (0, .ref h0), (1, .int 1)] := hl
  refine lv_iload hx hb d_Mo_state_96 (lv_at hl 0 rfl) ?_
  refine lv_bipush (v := 6) hx hb d_Mo_state_98 (by decide) ?_
  refine lv_icmp_ge (tgt := 120) hx hb d_Mo_state_100 (by decide) (fun h9 => absurd h9 (by decide)) (fun _ => ?_)
  refine lv_iload_n hx hb d_Mo_state_103 rfl (lv_at hl 1 rfl) ?_
  refine lv_iconst (v := 1) hx hb d_Mo_state_104 (by decide) ?_
  refine lv_iload_n hx hb d_Mo_state_105 rfl (lv_at hl 2 rfl) ?_
  refine lv_iload hx hb d_Mo_state_106 (lv_at hl 0 rfl) ?_
  refine lv_ishr hx hb d_Mo_state_108 ?_
  refine lv_topi (fun z1 z1_e => ?_)
  obtain rfl : z1 = 0 := z1_e.trans (by decide)
  refine lv_iconst (v := 1) hx hb d_Mo_state_109 (by decide) ?_
  refine lv_iand hx hb d_Mo_state_110 ?_
  refine lv_topi (fun z2 z2_e => ?_)
  obtain rfl : z2 = 0 := z2_e.trans (by decide)
  refine lv_isub hx hb d_Mo_state_111 ?_
  refine lv_topi (fun z3 z3_e => ?_)
  obtain rfl : z3 = 1 := z3_e.trans (by decide)
  refine lv_iadd hx hb d_Mo_state_112 ?_
  refine lv_topi (fun z4 z4_e => ?_)
  obtain rfl : z4 = 1 := z4_e.trans (by decide)
  refine lv_istore_n hx hb d_Mo_state_113 rfl hl (by decide) rfl (fun ls hl => ?_)
  have hl : lv_has ls 5 [(3, .int 1), (4, .int 0), (2, .int 0), (0, .ref h0), (1, .int 1)] := hl
  refine lv_iinc (k := 1) (v := 1) hx hb d_Mo_state_114 hl rfl (by decide) (by decide) rfl (fun ls hl => ?_)
  have hl : lv_has ls 5 [(4, .int 1), (3, .int 1), (2, .int 0), (0, .ref h0), (1, .int 1)] := hl
  refine lv_goto (tgt := 96) hx hb d_Mo_state_117 (by decide) ?_
  refine lv_iload hx hb d_Mo_state_96 (lv_at hl 0 rfl) ?_
  refine lv_bipush (v := 6) hx hb d_Mo_state_98 (by decide) ?_
  refine lv_icmp_ge (tgt := 120) hx hb d_Mo_state_100 (by decide) (fun h9 => absurd h9 (by decide)) (fun _ => ?_)
  refine lv_iload_n hx hb d_Mo_state_103 rfl (lv_at hl 1 rfl) ?_
  refine lv_iconst (v := 1) hx hb d_Mo_state_104 (by decide) ?_
  refine lv_iload_n hx hb d_Mo_state_105 rfl (lv_at hl 2 rfl) ?_
  refine lv_iload hx hb d_Mo_state_106 (lv_at hl 0 rfl) ?_
  refine lv_ishr hx hb d_Mo_state_108 ?_
  refine lv_topi (fun z5 z5_e => ?_)
  obtain rfl : z5 = 0 := z5_e.trans (by decide)
  refine lv_iconst (v := 1) hx hb d_Mo_state_109 (by decide) ?_
  refine lv_iand hx hb d_Mo_state_110 ?_
  refine lv_topi (fun z6 z6_e => ?_)
  obtain rfl : z6 = 0 := z6_e.trans (by decide)
  refine lv_isub hx hb d_Mo_state_111 ?_
  refine lv_topi (fun z7 z7_e => ?_)
  obtain rfl : z7 = 1 := z7_e.trans (by decide)
  refine lv_iadd hx hb d_Mo_state_112 ?_
  refine lv_topi (fun z8 z8_e => ?_)
  obtain rfl : z8 = 2 := z8_e.trans (by decide)
  refine lv_istore_n hx hb d_Mo_state_113 rfl hl (by decide) rfl (fun ls hl => ?_)
  have hl : lv_has ls 5 [(3, .int 2), (4, .int 1), (2, .int 0), (0, .ref h0), (1, .int 1)] := hl
  refine lv_iinc (k := 1) (v := 2) hx hb d_Mo_state_114 hl rfl (by decide) (by decide) rfl (fun ls hl => ?_)
  have hl : lv_has ls 5 [(4, .int 2), (3, .int 2), (2, .int 0), (0, .ref h0), (1, .int 1)] := hl
  refine lv_goto (tgt := 96) hx hb d_Mo_state_117 (by decide) ?_
  refine lv_iload hx hb d_Mo_state_96 (lv_at hl 0 rfl) ?_
  refine lv_bipush (v := 6) hx hb d_Mo_state_98 (by decide) ?_
  refine lv_icmp_ge (tgt := 120) hx hb d_Mo_state_100 (by decide) (fun h9 => absurd h9 (by decide)) (fun _ => ?_)
  refine lv_iload_n hx hb d_Mo_state_103 rfl (lv_at hl 1 rfl) ?_
  refine lv_iconst (v := 1) hx hb d_Mo_state_104 (by decide) ?_
  refine lv_iload_n hx hb d_Mo_state_105 rfl (lv_at hl 2 rfl) ?_
  refine lv_iload hx hb d_Mo_state_106 (lv_at hl 0 rfl) ?_
  refine lv_ishr hx hb d_Mo_state_108 ?_
  refine lv_topi (fun z9 z9_e => ?_)
  obtain rfl : z9 = 0 := z9_e.trans (by decide)
  refine lv_iconst (v := 1) hx hb d_Mo_state_109 (by decide) ?_
  refine lv_iand hx hb d_Mo_state_110 ?_
  refine lv_topi (fun z10 z10_e => ?_)
  obtain rfl : z10 = 0 := z10_e.trans (by decide)
  refine lv_isub hx hb d_Mo_state_111 ?_
  refine lv_topi (fun z11 z11_e => ?_)
  obtain rfl : z11 = 1 := z11_e.trans (by decide)
  refine lv_iadd hx hb d_Mo_state_112 ?_
  refine lv_topi (fun z12 z12_e => ?_)
  obtain rfl : z12 = 3 := z12_e.trans (by decide)
  refine lv_istore_n hx hb d_Mo_state_113 rfl hl (by decide) rfl (fun ls hl => ?_)
  have hl : lv_has ls 5 [(3, .int 3), (4, .int 2), (2, .int 0), (0, .ref h0), (1, .int 1)] := hl
  refine lv_iinc (k := 1) (v := 3) hx hb d_Mo_state_114 hl rfl (by decide) (by decide) rfl (fun ls hl => ?_)
  have hl : lv_has ls 5 [(4, .int 3), (3, .int 3), (2, .int 0), (0, .ref h0), (1, .int 1)] := hl
  refine lv_goto (tgt := 96) hx hb d_Mo_state_117 (by decide) ?_
  refine lv_iload hx hb d_Mo_state_96 (lv_at hl 0 rfl) ?_
  refine lv_bipush (v := 6) hx hb d_Mo_state_98 (by decide) ?_
  refine lv_icmp_ge (tgt := 120) hx hb d_Mo_state_100 (by decide) (fun h9 => absurd h9 (by decide)) (fun _ => ?_)
  refine lv_iload_n hx hb d_Mo_state_103 rfl (lv_at hl 1 rfl) ?_
  refine lv_iconst (v := 1) hx hb d_Mo_state_104 (by decide) ?_
  refine lv_iload_n hx hb d_Mo_state_105 rfl (lv_at hl 2 rfl) ?_
  refine lv_iload hx hb d_Mo_state_106 (lv_at hl 0 rfl) ?_
  refine lv_ishr hx hb d_Mo_state_108 ?_
  refine lv_topi (fun z13 z13_e => ?_)
  obtain rfl : z13 = 0 := z13_e.trans (by decide)
  refine lv_iconst (v := 1) hx hb d_Mo_state_109 (by decide) ?_
  refine lv_iand hx hb d_Mo_state_110 ?_
  refine lv_topi (fun z14 z14_e => ?_)
  obtain rfl : z14 = 0 := z14_e.trans (by decide)
  refine lv_isub hx hb d_Mo_state_111 ?_
  refine lv_topi (fun z15 z15_e => ?_)
  obtain rfl : z15 = 1 := z15_e.trans (by decide)
  refine lv_iadd hx hb d_Mo_state_112 ?_
  refine lv_topi (fun z16 z16_e => ?_)
  obtain rfl : z16 = 4 := z16_e.trans (by decide)
  refine lv_istore_n hx hb d_Mo_state_113 rfl hl (by decide) rfl (fun ls hl => ?_)
  have hl : lv_has ls 5 [(3, .int 4), (4, .int 3), (2, .int 0), (0, .ref h0), (1, .int 1)] := hl
  refine lv_iinc (k := 1) (v := 4) hx hb d_Mo_state_114 hl rfl (by decide) (by decide) rfl (fun ls hl => ?_)
  have hl : lv_has ls 5 [(4, .int 4), (3, .int 4), (2, .int 0), (0, .ref h0), (1, .int 1)] := hl
  refine lv_goto (tgt := 96) hx hb d_Mo_state_117 (by decide) ?_
  refine lv_iload hx hb d_Mo_state_96 (lv_at hl 0 rfl) ?_
  refine lv_bipush (v := 6) hx hb d_Mo_state_98 (by decide) ?_
  refine lv_icmp_ge (tgt := 120) hx hb d_Mo_state_100 (by decide) (fun h9 => absurd h9 (by decide)) (fun _ => ?_)
  refine lv_iload_n hx hb d_Mo_state_103 rfl (lv_at hl 1 rfl) ?_
  refine lv_iconst (v := 1) hx hb d_Mo_state_104 (by decide) ?_
  refine lv_iload_n hx hb d_Mo_state_105 rfl (lv_at hl 2 rfl) ?_
  refine lv_iload hx hb d_Mo_state_106 (lv_at hl 0 rfl) ?_
  refine lv_ishr hx hb d_Mo_state_108 ?_
  refine lv_topi (fun z17 z17_e => ?_)
  obtain rfl : z17 = 0 := z17_e.trans (by decide)
  refine lv_iconst (v := 1) hx hb d_Mo_state_109 (by decide) ?_
  refine lv_iand hx hb d_Mo_state_110 ?_
  refine lv_topi (fun z18 z18_e => ?_)
  obtain rfl : z18 = 0 := z18_e.trans (by decide)
  refine lv_isub hx hb d_Mo_state_111 ?_
  refine lv_topi (fun z19 z19_e => ?_)
  obtain rfl : z19 = 1 := z19_e.trans (by decide)
  refine lv_iadd hx hb d_Mo_state_112 ?_
  refine lv_topi (fun z20 z20_e => ?_)
  obtain rfl : z20 = 5 := z20_e.trans (by decide)
  refine lv_istore_n hx hb d_Mo_state_113 rfl hl (by decide) rfl (fun ls hl => ?_)
  have hl : lv_has ls 5 [(3, .int 5), (4, .int 4), (2, .int 0), (0, .ref h0), (1, .int 1)] := hl
  refine lv_iinc (k := 1) (v := 5) hx hb d_Mo_state_114 hl rfl (by decide) (by decide) rfl (fun ls hl => ?_)
  have hl : lv_has ls 5 [(4, .int 5), (3, .int 5), (2, .int 0), (0, .ref h0), (1, .int 1)] := hl
  refine lv_goto (tgt := 96) hx hb d_Mo_state_117 (by decide) ?_
  refine lv_iload hx hb d_Mo_state_96 (lv_at hl 0 rfl) ?_
  refine lv_bipush (v := 6) hx hb d_Mo_state_98 (by decide) ?_
  refine lv_icmp_ge (tgt := 120) hx hb d_Mo_state_100 (by decide) (fun h9 => absurd h9 (by decide)) (fun _ => ?_)
  refine lv_iload_n hx hb d_Mo_state_103 rfl (lv_at hl 1 rfl) ?_
  refine lv_iconst (v := 1) hx hb d_Mo_state_104 (by decide) ?_
  refine lv_iload_n hx hb d_Mo_state_105 rfl (lv_at hl 2 rfl) ?_
  refine lv_iload hx hb d_Mo_state_106 (lv_at hl 0 rfl) ?_
  refine lv_ishr hx hb d_Mo_state_108 ?_
  refine lv_topi (fun z21 z21_e => ?_)
  obtain rfl : z21 = 0 := z21_e.trans (by decide)
  refine lv_iconst (v := 1) hx hb d_Mo_state_109 (by decide) ?_
  refine lv_iand hx hb d_Mo_state_110 ?_
  refine lv_topi (fun z22 z22_e => ?_)
  obtain rfl : z22 = 0 := z22_e.trans (by decide)
  refine lv_isub hx hb d_Mo_state_111 ?_
  refine lv_topi (fun z23 z23_e => ?_)
  obtain rfl : z23 = 1 := z23_e.trans (by decide)
  refine lv_iadd hx hb d_Mo_state_112 ?_
  refine lv_topi (fun z24 z24_e => ?_)
  obtain rfl : z24 = 6 := z24_e.trans (by decide)
  refine lv_istore_n hx hb d_Mo_state_113 rfl hl (by decide) rfl (fun ls hl => ?_)
  have hl : lv_has ls 5 [(3, .int 6), (4, .int 5), (2, .int 0), (0, .ref h0), (1, .int 1)] := hl
  refine lv_iinc (k := 1) (v := 6) hx hb d_Mo_state_114 hl rfl (by decide) (by decide) rfl (fun ls hl => ?_)
  have hl : lv_has ls 5 [(4, .int 6), (3, .int 6), (2, .int 0), (0, .ref h0), (1, .int 1)] := hl
  refine lv_goto (tgt := 96) hx hb d_Mo_state_117 (by decide) ?_
  refine lv_iload hx hb d_Mo_state_96 (lv_at hl 0 rfl) ?_
  refine lv_bipush (v := 6) hx hb d_Mo_state_98 (by decide) ?_
  refine lv_icmp_ge (tgt := 120) hx hb d_Mo_state_100 (by decide) (fun _ => ?_) (fun h9 => absurd (by decide) h9)
  refine lv_iload_n hx hb d_Mo_state_120 rfl (lv_at hl 1 rfl) ?_
  have hP9 := hP.sub (ws' := [(h0, .inr (9, [.int 0, .ref (q 1), .ref (q 2), .ref (q 3), .int 0, .int 0, .ref (q 6), .ref (q 7), .int 0, .int 0, .int 0, .ref (q 11), .int 0, .int 0, .int (-1), .int 0, .ref (q 16), .int 0, .ref (q 18), .ref (q 19), .ref (q 20), .int 0, .ref (q 22), .int 0, .ref (q 24), .ref (q 25), .ref (q 26), .ref (q 27), .ref (q 28), .int 0, .ref (q 30), .ref (q 31), .ref (q 32), .ref (q 33), .int 0, .int 0, .int 0, .int 0, .int 0, .int 0, .ref (q 40), .int 0, .ref (q 42), .ref (q 43), .ref (q 44)]))]) [0] rfl
  have hD9 := hD.sub (ws' := [(h0, .inr (9, [.int 0, .ref (q 1), .ref (q 2), .ref (q 3), .int 0, .int 0, .ref (q 6), .ref (q 7), .int 0, .int 0, .int 0, .ref (q 11), .int 0, .int 0, .int (-1), .int 0, .ref (q 16), .int 0, .ref (q 18), .ref (q 19), .ref (q 20), .int 0, .ref (q 22), .int 0, .ref (q 24), .ref (q 25), .ref (q 26), .ref (q 27), .ref (q 28), .int 0, .ref (q 30), .ref (q 31), .ref (q 32), .ref (q 33), .int 0, .int 0, .int 0, .int 0, .int 0, .int 0, .ref (q 40), .int 0, .ref (q 42), .ref (q 43), .ref (q 44)]))]) [0] (by decide) rfl
  refine W.widen (k := 0) (n := 0) (Nat.le_of_ble_eq_true rfl) (Nat.le_of_ble_eq_true rfl) ?_
  exact W.iret (v := 6) hx hb hr (fun t ht hW => ⟨⟨6, (), rfl, rfl, [.ref (q 1), .ref (q 2), .ref (q 3), .int 0, .int 0, .ref (q 6), .ref (q 7), .int 0, .int 0, .int 0, .ref (q 11), .int 0, .int 0, .int (-1), .int 0, .ref (q 16), .int 0, .ref (q 18), .ref (q 19), .ref (q 20), .int 0, .ref (q 22), .int 0, .ref (q 24), .ref (q 25), .ref (q 26), .ref (q 27), .ref (q 28), .int 0, .ref (q 30), .ref (q 31), .ref (q 32), .ref (q 33), .int 0, .int 0, .int 0, .int 0, .int 0, .int 0, .ref (q 40), .int 0, .ref (q 42), .ref (q 43), .ref (q 44)], by rw [ht]; exact hP9, hD9⟩, hS.F ht⟩) hS.2.2 d_Mo_state_121
set_option maxHeartbeats 4000000 in
set_option maxRecDepth 100000 in
theorem m_Mo_state2 (l : Launch) (dC : Nat → ClassId) (dI : Nat → Nat → Nat) (sz : Nat) (h0 : Nat) (q : Nat → Nat) (ci : Nat → ClassId)  : Met l y_Mo_state w_Mo_state ({ frames := 0, cells := 0, slots := 0, locals := 0 }) (va_Pc [.ref h0, .int 2] (fun U => U.heap.size = sz ∧ va_P (dC, dI) gx_cl (wMo h0 q ci) U.heap ∧ va_K (dC, dI) gx_cl (kMo ci) U ∧ va_D (fun _ => True) (wMo h0 q ci))) (va_Qi (fun (r : Int32) (_ : Unit) => r = 0) (fun _ t => ∃ fs : List Value, va_P (dC, dI) gx_cl [(h0, .inr (9, .int 0 :: fs))] t.heap ∧ va_D (va_A (wMo h0 q ci) sz) [(h0, .inr (9, .int 0 :: fs))]) (va_A (wMo h0 q ci) sz)) 0 0 (va_A (wMo h0 q ci) sz) := by
  refine Met.ofW (cc := b_Mo_state) (maxL := 5) (ret := (some .int)) (by decide) rfl ?_
  intro p e s m args below meth c s₁ B hml hv
  obtain ⟨rfl, hsz, hP, hK, hD0⟩ := hv
  have hx := B.exec
  have hb := B.bytes
  have hr := B.returns
  have hts := atoms_spec (ws := w_Mo_state) B.pre
  have hB : ∀ w ∈ gx_B, w.before _ s = true := fun w h => hts w (List.mem_cons_of_mem _ h)
  have hown : s.vm.findClass "TapeSealerModel" = some m.cls := findClass_of_methodNamed B.named
  have hlocks := B.notSynchronized
  subst hsz
  have hD := hD0.self (sz := s.heap.size)
  generalize hAe : va_A (wMo h0 q ci) s.heap.size = A at hD ⊢
  have hA : ∀ q : Nat, s.heap.size ≤ q → A q := fun q h => by rw [← hAe]; exact Or.inr h
  have hS : va_S A s.heap s.heap [] := va_S.rf
  have hl := lv_entry ([.ref h0, .int 2]) (n := 5) (Nat.le_of_ble_eq_true rfl)
  rw [lg_entry_eq]
  generalize (lg_sl ([.ref h0, .int 2]) ++ List.replicate (5 - (lg_sl ([.ref h0, .int 2])).length) Slot.unset).toArray = ls at hl ⊢
  have hl : lv_has ls 5 [(0, .ref h0), (1, .int 2)] := hl
  refine lv_aload_n hx hb d_Mo_state_0 rfl (lv_at hl 0 rfl) ?_
  refine lv_iload_n hx hb d_Mo_state_1 rfl (lv_at hl 1 rfl) ?_
  refine lv_if_lt (tgt := 10) hx hb d_Mo_state_2 (by decide) (fun h9 => absurd h9 (by decide)) (fun _ => ?_)
  refine lv_iload_n hx hb d_Mo_state_5 rfl (lv_at hl 1 rfl) ?_
  refine lv_iconst (v := 5) hx hb d_Mo_state_6 (by decide) ?_
  refine lv_icmp_le (tgt := 14) hx hb d_Mo_state_7 (by decide) (fun _ => ?_) (fun h9 => absurd (by decide) h9)
  refine lv_iconst (v := 0) hx hb d_Mo_state_14 (by decide) ?_
  refine va_put (D := (dC, dI)) (ci := 9) (v := .int 0) (ty := .int) (C := RMo) (T := FMo) (N := 45) hx hb hB in_Mo tMo tMo_ok nMo hown hK hP hD hS 0 rfl rfl 0 (by decide) (hB _ hw_890) (fun _ h9 => h9) rfl (by decide +kernel) rfl rfl (Nat.le_of_ble_eq_true rfl) d_Mo_state_15 (fun H locs hP hD hS => ?_)
  have hP : va_P (dC, dI) gx_cl (wMo h0 q ci) H := hP
  have hD : va_D A (wMo h0 q ci) := hD
  refine lv_aload_n hx hb d_Mo_state_18 rfl (lv_at hl 0 rfl) ?_
  refine va_get (D := (dC, dI)) (ci := 9) (v := .int 0) (C := RMo) (T := FMo) (N := 45) hx hb hB in_Mo hown hK hP 0 rfl rfl 0 (by decide) (hB _ hw_890) (fun _ h9 => h9) rfl d_Mo_state_19 ?_
  refine lv_if_le (tgt := 27) hx hb d_Mo_state_22 (by decide) (fun _ => ?_) (fun h9 => absurd (by decide) h9)
  refine lv_iload_n hx hb d_Mo_state_27 rfl (lv_at hl 1 rfl) ?_
  refine lv_if_ne (tgt := 36) hx hb d_Mo_state_28 (by decide) (fun _ => ?_) (fun h9 => absurd h9 (by decide))
  refine lv_iload_n hx hb d_Mo_state_36 rfl (lv_at hl 1 rfl) ?_
  refine lv_iconst (v := 2) hx hb d_Mo_state_37 (by decide) ?_
  refine lv_icmp_ne (tgt := 46) hx hb d_Mo_state_38 (by decide) (fun h9 => absurd (by decide) h9) (fun _ => ?_)
  refine lv_aload_n hx hb d_Mo_state_41 rfl (lv_at hl 0 rfl) ?_
  refine va_get (D := (dC, dI)) (ci := 9) (v := .int 0) (C := RMo) (T := FMo) (N := 45) hx hb hB in_Mo hown hK hP 0 rfl rfl 5 (by decide) (hB _ hw_895) (fun _ h9 => h9) rfl d_Mo_state_42 ?_
  have hP9 := hP.sub (ws' := [(h0, .inr (9, [.int 0, .ref (q 1), .ref (q 2), .ref (q 3), .int 0, .int 0, .ref (q 6), .ref (q 7), .int 0, .int 0, .int 0, .ref (q 11), .int 0, .int 0, .int (-1), .int 0, .ref (q 16), .int 0, .ref (q 18), .ref (q 19), .ref (q 20), .int 0, .ref (q 22), .int 0, .ref (q 24), .ref (q 25), .ref (q 26), .ref (q 27), .ref (q 28), .int 0, .ref (q 30), .ref (q 31), .ref (q 32), .ref (q 33), .int 0, .int 0, .int 0, .int 0, .int 0, .int 0, .ref (q 40), .int 0, .ref (q 42), .ref (q 43), .ref (q 44)]))]) [0] rfl
  have hD9 := hD.sub (ws' := [(h0, .inr (9, [.int 0, .ref (q 1), .ref (q 2), .ref (q 3), .int 0, .int 0, .ref (q 6), .ref (q 7), .int 0, .int 0, .int 0, .ref (q 11), .int 0, .int 0, .int (-1), .int 0, .ref (q 16), .int 0, .ref (q 18), .ref (q 19), .ref (q 20), .int 0, .ref (q 22), .int 0, .ref (q 24), .ref (q 25), .ref (q 26), .ref (q 27), .ref (q 28), .int 0, .ref (q 30), .ref (q 31), .ref (q 32), .ref (q 33), .int 0, .int 0, .int 0, .int 0, .int 0, .int 0, .ref (q 40), .int 0, .ref (q 42), .ref (q 43), .ref (q 44)]))]) [0] (by decide) rfl
  refine W.widen (k := 0) (n := 0) (Nat.le_of_ble_eq_true rfl) (Nat.le_of_ble_eq_true rfl) ?_
  exact W.iret (v := 0) hx hb hr (fun t ht hW => ⟨⟨0, (), rfl, rfl, [.ref (q 1), .ref (q 2), .ref (q 3), .int 0, .int 0, .ref (q 6), .ref (q 7), .int 0, .int 0, .int 0, .ref (q 11), .int 0, .int 0, .int (-1), .int 0, .ref (q 16), .int 0, .ref (q 18), .ref (q 19), .ref (q 20), .int 0, .ref (q 22), .int 0, .ref (q 24), .ref (q 25), .ref (q 26), .ref (q 27), .ref (q 28), .int 0, .ref (q 30), .ref (q 31), .ref (q 32), .ref (q 33), .int 0, .int 0, .int 0, .int 0, .int 0, .int 0, .ref (q 40), .int 0, .ref (q 42), .ref (q 43), .ref (q 44)], by rw [ht]; exact hP9, hD9⟩, hS.F ht⟩) hS.2.2 d_Mo_state_45
set_option maxHeartbeats 4000000 in
set_option maxRecDepth 100000 in
theorem m_Mo_state3 (l : Launch) (dC : Nat → ClassId) (dI : Nat → Nat → Nat) (sz : Nat) (h0 : Nat) (q : Nat → Nat) (ci : Nat → ClassId)  : Met l y_Mo_state w_Mo_state ({ frames := 0, cells := 0, slots := 0, locals := 0 }) (va_Pc [.ref h0, .int 3] (fun U => U.heap.size = sz ∧ va_P (dC, dI) gx_cl (wMo h0 q ci) U.heap ∧ va_K (dC, dI) gx_cl (kMo ci) U ∧ va_D (fun _ => True) (wMo h0 q ci))) (va_Qi (fun (r : Int32) (_ : Unit) => r = 0) (fun _ t => ∃ fs : List Value, va_P (dC, dI) gx_cl [(h0, .inr (9, .int 0 :: fs))] t.heap ∧ va_D (va_A (wMo h0 q ci) sz) [(h0, .inr (9, .int 0 :: fs))]) (va_A (wMo h0 q ci) sz)) 0 0 (va_A (wMo h0 q ci) sz) := by
  refine Met.ofW (cc := b_Mo_state) (maxL := 5) (ret := (some .int)) (by decide) rfl ?_
  intro p e s m args below meth c s₁ B hml hv
  obtain ⟨rfl, hsz, hP, hK, hD0⟩ := hv
  have hx := B.exec
  have hb := B.bytes
  have hr := B.returns
  have hts := atoms_spec (ws := w_Mo_state) B.pre
  have hB : ∀ w ∈ gx_B, w.before _ s = true := fun w h => hts w (List.mem_cons_of_mem _ h)
  have hown : s.vm.findClass "TapeSealerModel" = some m.cls := findClass_of_methodNamed B.named
  have hlocks := B.notSynchronized
  subst hsz
  have hD := hD0.self (sz := s.heap.size)
  generalize hAe : va_A (wMo h0 q ci) s.heap.size = A at hD ⊢
  have hA : ∀ q : Nat, s.heap.size ≤ q → A q := fun q h => by rw [← hAe]; exact Or.inr h
  have hS : va_S A s.heap s.heap [] := va_S.rf
  have hl := lv_entry ([.ref h0, .int 3]) (n := 5) (Nat.le_of_ble_eq_true rfl)
  rw [lg_entry_eq]
  generalize (lg_sl ([.ref h0, .int 3]) ++ List.replicate (5 - (lg_sl ([.ref h0, .int 3])).length) Slot.unset).toArray = ls at hl ⊢
  have hl : lv_has ls 5 [(0, .ref h0), (1, .int 3)] := hl
  refine lv_aload_n hx hb d_Mo_state_0 rfl (lv_at hl 0 rfl) ?_
  refine lv_iload_n hx hb d_Mo_state_1 rfl (lv_at hl 1 rfl) ?_
  refine lv_if_lt (tgt := 10) hx hb d_Mo_state_2 (by decide) (fun h9 => absurd h9 (by decide)) (fun _ => ?_)
  refine lv_iload_n hx hb d_Mo_state_5 rfl (lv_at hl 1 rfl) ?_
  refine lv_iconst (v := 5) hx hb d_Mo_state_6 (by decide) ?_
  refine lv_icmp_le (tgt := 14) hx hb d_Mo_state_7 (by decide) (fun _ => ?_) (fun h9 => absurd (by decide) h9)
  refine lv_iconst (v := 0) hx hb d_Mo_state_14 (by decide) ?_
  refine va_put (D := (dC, dI)) (ci := 9) (v := .int 0) (ty := .int) (C := RMo) (T := FMo) (N := 45) hx hb hB in_Mo tMo tMo_ok nMo hown hK hP hD hS 0 rfl rfl 0 (by decide) (hB _ hw_890) (fun _ h9 => h9) rfl (by decide +kernel) rfl rfl (Nat.le_of_ble_eq_true rfl) d_Mo_state_15 (fun H locs hP hD hS => ?_)
  have hP : va_P (dC, dI) gx_cl (wMo h0 q ci) H := hP
  have hD : va_D A (wMo h0 q ci) := hD
  refine lv_aload_n hx hb d_Mo_state_18 rfl (lv_at hl 0 rfl) ?_
  refine va_get (D := (dC, dI)) (ci := 9) (v := .int 0) (C := RMo) (T := FMo) (N := 45) hx hb hB in_Mo hown hK hP 0 rfl rfl 0 (by decide) (hB _ hw_890) (fun _ h9 => h9) rfl d_Mo_state_19 ?_
  refine lv_if_le (tgt := 27) hx hb d_Mo_state_22 (by decide) (fun _ => ?_) (fun h9 => absurd (by decide) h9)
  refine lv_iload_n hx hb d_Mo_state_27 rfl (lv_at hl 1 rfl) ?_
  refine lv_if_ne (tgt := 36) hx hb d_Mo_state_28 (by decide) (fun _ => ?_) (fun h9 => absurd h9 (by decide))
  refine lv_iload_n hx hb d_Mo_state_36 rfl (lv_at hl 1 rfl) ?_
  refine lv_iconst (v := 2) hx hb d_Mo_state_37 (by decide) ?_
  refine lv_icmp_ne (tgt := 46) hx hb d_Mo_state_38 (by decide) (fun _ => ?_) (fun h9 => absurd h9 (by decide))
  refine lv_iload_n hx hb d_Mo_state_46 rfl (lv_at hl 1 rfl) ?_
  refine lv_iconst (v := 3) hx hb d_Mo_state_47 (by decide) ?_
  refine lv_icmp_ne (tgt := 56) hx hb d_Mo_state_48 (by decide) (fun h9 => absurd (by decide) h9) (fun _ => ?_)
  refine lv_aload_n hx hb d_Mo_state_51 rfl (lv_at hl 0 rfl) ?_
  refine va_get (D := (dC, dI)) (ci := 9) (v := .int 0) (C := RMo) (T := FMo) (N := 45) hx hb hB in_Mo hown hK hP 0 rfl rfl 15 (by decide) (hB _ hw_905) (fun _ h9 => h9) rfl d_Mo_state_52 ?_
  have hP9 := hP.sub (ws' := [(h0, .inr (9, [.int 0, .ref (q 1), .ref (q 2), .ref (q 3), .int 0, .int 0, .ref (q 6), .ref (q 7), .int 0, .int 0, .int 0, .ref (q 11), .int 0, .int 0, .int (-1), .int 0, .ref (q 16), .int 0, .ref (q 18), .ref (q 19), .ref (q 20), .int 0, .ref (q 22), .int 0, .ref (q 24), .ref (q 25), .ref (q 26), .ref (q 27), .ref (q 28), .int 0, .ref (q 30), .ref (q 31), .ref (q 32), .ref (q 33), .int 0, .int 0, .int 0, .int 0, .int 0, .int 0, .ref (q 40), .int 0, .ref (q 42), .ref (q 43), .ref (q 44)]))]) [0] rfl
  have hD9 := hD.sub (ws' := [(h0, .inr (9, [.int 0, .ref (q 1), .ref (q 2), .ref (q 3), .int 0, .int 0, .ref (q 6), .ref (q 7), .int 0, .int 0, .int 0, .ref (q 11), .int 0, .int 0, .int (-1), .int 0, .ref (q 16), .int 0, .ref (q 18), .ref (q 19), .ref (q 20), .int 0, .ref (q 22), .int 0, .ref (q 24), .ref (q 25), .ref (q 26), .ref (q 27), .ref (q 28), .int 0, .ref (q 30), .ref (q 31), .ref (q 32), .ref (q 33), .int 0, .int 0, .int 0, .int 0, .int 0, .int 0, .ref (q 40), .int 0, .ref (q 42), .ref (q 43), .ref (q 44)]))]) [0] (by decide) rfl
  refine W.widen (k := 0) (n := 0) (Nat.le_of_ble_eq_true rfl) (Nat.le_of_ble_eq_true rfl) ?_
  exact W.iret (v := 0) hx hb hr (fun t ht hW => ⟨⟨0, (), rfl, rfl, [.ref (q 1), .ref (q 2), .ref (q 3), .int 0, .int 0, .ref (q 6), .ref (q 7), .int 0, .int 0, .int 0, .ref (q 11), .int 0, .int 0, .int (-1), .int 0, .ref (q 16), .int 0, .ref (q 18), .ref (q 19), .ref (q 20), .int 0, .ref (q 22), .int 0, .ref (q 24), .ref (q 25), .ref (q 26), .ref (q 27), .ref (q 28), .int 0, .ref (q 30), .ref (q 31), .ref (q 32), .ref (q 33), .int 0, .int 0, .int 0, .int 0, .int 0, .int 0, .ref (q 40), .int 0, .ref (q 42), .ref (q 43), .ref (q 44)], by rw [ht]; exact hP9, hD9⟩, hS.F ht⟩) hS.2.2 d_Mo_state_55
set_option maxHeartbeats 4000000 in
set_option maxRecDepth 100000 in
theorem m_Mo_state4 (l : Launch) (dC : Nat → ClassId) (dI : Nat → Nat → Nat) (sz : Nat) (h0 : Nat) (q : Nat → Nat) (ci : Nat → ClassId)  : Met l y_Mo_state w_Mo_state ({ frames := 0, cells := 0, slots := 0, locals := 0 }) (va_Pc [.ref h0, .int 4] (fun U => U.heap.size = sz ∧ va_P (dC, dI) gx_cl (wMo h0 q ci) U.heap ∧ va_K (dC, dI) gx_cl (kMo ci) U ∧ va_D (fun _ => True) (wMo h0 q ci))) (va_Qi (fun (r : Int32) (_ : Unit) => r = 0) (fun _ t => ∃ fs : List Value, va_P (dC, dI) gx_cl [(h0, .inr (9, .int 0 :: fs))] t.heap ∧ va_D (va_A (wMo h0 q ci) sz) [(h0, .inr (9, .int 0 :: fs))]) (va_A (wMo h0 q ci) sz)) 0 0 (va_A (wMo h0 q ci) sz) := by
  refine Met.ofW (cc := b_Mo_state) (maxL := 5) (ret := (some .int)) (by decide) rfl ?_
  intro p e s m args below meth c s₁ B hml hv
  obtain ⟨rfl, hsz, hP, hK, hD0⟩ := hv
  have hx := B.exec
  have hb := B.bytes
  have hr := B.returns
  have hts := atoms_spec (ws := w_Mo_state) B.pre
  have hB : ∀ w ∈ gx_B, w.before _ s = true := fun w h => hts w (List.mem_cons_of_mem _ h)
  have hown : s.vm.findClass "TapeSealerModel" = some m.cls := findClass_of_methodNamed B.named
  have hlocks := B.notSynchronized
  subst hsz
  have hD := hD0.self (sz := s.heap.size)
  generalize hAe : va_A (wMo h0 q ci) s.heap.size = A at hD ⊢
  have hA : ∀ q : Nat, s.heap.size ≤ q → A q := fun q h => by rw [← hAe]; exact Or.inr h
  have hS : va_S A s.heap s.heap [] := va_S.rf
  have hl := lv_entry ([.ref h0, .int 4]) (n := 5) (Nat.le_of_ble_eq_true rfl)
  rw [lg_entry_eq]
  generalize (lg_sl ([.ref h0, .int 4]) ++ List.replicate (5 - (lg_sl ([.ref h0, .int 4])).length) Slot.unset).toArray = ls at hl ⊢
  have hl : lv_has ls 5 [(0, .ref h0), (1, .int 4)] := hl
  refine lv_aload_n hx hb d_Mo_state_0 rfl (lv_at hl 0 rfl) ?_
  refine lv_iload_n hx hb d_Mo_state_1 rfl (lv_at hl 1 rfl) ?_
  refine lv_if_lt (tgt := 10) hx hb d_Mo_state_2 (by decide) (fun h9 => absurd h9 (by decide)) (fun _ => ?_)
  refine lv_iload_n hx hb d_Mo_state_5 rfl (lv_at hl 1 rfl) ?_
  refine lv_iconst (v := 5) hx hb d_Mo_state_6 (by decide) ?_
  refine lv_icmp_le (tgt := 14) hx hb d_Mo_state_7 (by decide) (fun _ => ?_) (fun h9 => absurd (by decide) h9)
  refine lv_iconst (v := 0) hx hb d_Mo_state_14 (by decide) ?_
  refine va_put (D := (dC, dI)) (ci := 9) (v := .int 0) (ty := .int) (C := RMo) (T := FMo) (N := 45) hx hb hB in_Mo tMo tMo_ok nMo hown hK hP hD hS 0 rfl rfl 0 (by decide) (hB _ hw_890) (fun _ h9 => h9) rfl (by decide +kernel) rfl rfl (Nat.le_of_ble_eq_true rfl) d_Mo_state_15 (fun H locs hP hD hS => ?_)
  have hP : va_P (dC, dI) gx_cl (wMo h0 q ci) H := hP
  have hD : va_D A (wMo h0 q ci) := hD
  refine lv_aload_n hx hb d_Mo_state_18 rfl (lv_at hl 0 rfl) ?_
  refine va_get (D := (dC, dI)) (ci := 9) (v := .int 0) (C := RMo) (T := FMo) (N := 45) hx hb hB in_Mo hown hK hP 0 rfl rfl 0 (by decide) (hB _ hw_890) (fun _ h9 => h9) rfl d_Mo_state_19 ?_
  refine lv_if_le (tgt := 27) hx hb d_Mo_state_22 (by decide) (fun _ => ?_) (fun h9 => absurd (by decide) h9)
  refine lv_iload_n hx hb d_Mo_state_27 rfl (lv_at hl 1 rfl) ?_
  refine lv_if_ne (tgt := 36) hx hb d_Mo_state_28 (by decide) (fun _ => ?_) (fun h9 => absurd h9 (by decide))
  refine lv_iload_n hx hb d_Mo_state_36 rfl (lv_at hl 1 rfl) ?_
  refine lv_iconst (v := 2) hx hb d_Mo_state_37 (by decide) ?_
  refine lv_icmp_ne (tgt := 46) hx hb d_Mo_state_38 (by decide) (fun _ => ?_) (fun h9 => absurd h9 (by decide))
  refine lv_iload_n hx hb d_Mo_state_46 rfl (lv_at hl 1 rfl) ?_
  refine lv_iconst (v := 3) hx hb d_Mo_state_47 (by decide) ?_
  refine lv_icmp_ne (tgt := 56) hx hb d_Mo_state_48 (by decide) (fun _ => ?_) (fun h9 => absurd h9 (by decide))
  refine lv_iload_n hx hb d_Mo_state_56 rfl (lv_at hl 1 rfl) ?_
  refine lv_iconst (v := 3) hx hb d_Mo_state_57 (by decide) ?_
  refine lv_icmp_le (tgt := 86) hx hb d_Mo_state_58 (by decide) (fun h9 => absurd h9 (by decide)) (fun _ => ?_)
  refine lv_iload_n hx hb d_Mo_state_61 rfl (lv_at hl 1 rfl) ?_
  refine lv_iconst (v := 4) hx hb d_Mo_state_62 (by decide) ?_
  refine lv_icmp_ne (tgt := 81) hx hb d_Mo_state_63 (by decide) (fun h9 => absurd (by decide) h9) (fun _ => ?_)
  refine lv_aload_n hx hb d_Mo_state_66 rfl (lv_at hl 0 rfl) ?_
  refine va_get (D := (dC, dI)) (ci := 9) (v := .int 0) (C := RMo) (T := FMo) (N := 45) hx hb hB in_Mo hown hK hP 0 rfl rfl 13 (by decide) (hB _ hw_903) (fun _ h9 => h9) rfl d_Mo_state_67 ?_
  refine lv_if_eq (tgt := 77) hx hb d_Mo_state_70 (by decide) (fun _ => ?_) (fun h9 => absurd (by decide) h9)
  refine lv_iconst (v := 0) hx hb d_Mo_state_77 (by decide) ?_
  refine lv_goto (tgt := 85) hx hb d_Mo_state_78 (by decide) ?_
  have hP9 := hP.sub (ws' := [(h0, .inr (9, [.int 0, .ref (q 1), .ref (q 2), .ref (q 3), .int 0, .int 0, .ref (q 6), .ref (q 7), .int 0, .int 0, .int 0, .ref (q 11), .int 0, .int 0, .int (-1), .int 0, .ref (q 16), .int 0, .ref (q 18), .ref (q 19), .ref (q 20), .int 0, .ref (q 22), .int 0, .ref (q 24), .ref (q 25), .ref (q 26), .ref (q 27), .ref (q 28), .int 0, .ref (q 30), .ref (q 31), .ref (q 32), .ref (q 33), .int 0, .int 0, .int 0, .int 0, .int 0, .int 0, .ref (q 40), .int 0, .ref (q 42), .ref (q 43), .ref (q 44)]))]) [0] rfl
  have hD9 := hD.sub (ws' := [(h0, .inr (9, [.int 0, .ref (q 1), .ref (q 2), .ref (q 3), .int 0, .int 0, .ref (q 6), .ref (q 7), .int 0, .int 0, .int 0, .ref (q 11), .int 0, .int 0, .int (-1), .int 0, .ref (q 16), .int 0, .ref (q 18), .ref (q 19), .ref (q 20), .int 0, .ref (q 22), .int 0, .ref (q 24), .ref (q 25), .ref (q 26), .ref (q 27), .ref (q 28), .int 0, .ref (q 30), .ref (q 31), .ref (q 32), .ref (q 33), .int 0, .int 0, .int 0, .int 0, .int 0, .int 0, .ref (q 40), .int 0, .ref (q 42), .ref (q 43), .ref (q 44)]))]) [0] (by decide) rfl
  refine W.widen (k := 0) (n := 0) (Nat.le_of_ble_eq_true rfl) (Nat.le_of_ble_eq_true rfl) ?_
  exact W.iret (v := 0) hx hb hr (fun t ht hW => ⟨⟨0, (), rfl, rfl, [.ref (q 1), .ref (q 2), .ref (q 3), .int 0, .int 0, .ref (q 6), .ref (q 7), .int 0, .int 0, .int 0, .ref (q 11), .int 0, .int 0, .int (-1), .int 0, .ref (q 16), .int 0, .ref (q 18), .ref (q 19), .ref (q 20), .int 0, .ref (q 22), .int 0, .ref (q 24), .ref (q 25), .ref (q 26), .ref (q 27), .ref (q 28), .int 0, .ref (q 30), .ref (q 31), .ref (q 32), .ref (q 33), .int 0, .int 0, .int 0, .int 0, .int 0, .int 0, .ref (q 40), .int 0, .ref (q 42), .ref (q 43), .ref (q 44)], by rw [ht]; exact hP9, hD9⟩, hS.F ht⟩) hS.2.2 d_Mo_state_85
set_option maxHeartbeats 4000000 in
set_option maxRecDepth 100000 in
theorem m_Mo_state5 (l : Launch) (dC : Nat → ClassId) (dI : Nat → Nat → Nat) (sz : Nat) (h0 : Nat) (q : Nat → Nat) (ci : Nat → ClassId)  : Met l y_Mo_state w_Mo_state ({ frames := 0, cells := 0, slots := 0, locals := 0 }) (va_Pc [.ref h0, .int 5] (fun U => U.heap.size = sz ∧ va_P (dC, dI) gx_cl (wMo h0 q ci) U.heap ∧ va_K (dC, dI) gx_cl (kMo ci) U ∧ va_D (fun _ => True) (wMo h0 q ci))) (va_Qi (fun (r : Int32) (_ : Unit) => r = 0) (fun _ t => ∃ fs : List Value, va_P (dC, dI) gx_cl [(h0, .inr (9, .int 0 :: fs))] t.heap ∧ va_D (va_A (wMo h0 q ci) sz) [(h0, .inr (9, .int 0 :: fs))]) (va_A (wMo h0 q ci) sz)) 0 0 (va_A (wMo h0 q ci) sz) := by
  refine Met.ofW (cc := b_Mo_state) (maxL := 5) (ret := (some .int)) (by decide) rfl ?_
  intro p e s m args below meth c s₁ B hml hv
  obtain ⟨rfl, hsz, hP, hK, hD0⟩ := hv
  have hx := B.exec
  have hb := B.bytes
  have hr := B.returns
  have hts := atoms_spec (ws := w_Mo_state) B.pre
  have hB : ∀ w ∈ gx_B, w.before _ s = true := fun w h => hts w (List.mem_cons_of_mem _ h)
  have hown : s.vm.findClass "TapeSealerModel" = some m.cls := findClass_of_methodNamed B.named
  have hlocks := B.notSynchronized
  subst hsz
  have hD := hD0.self (sz := s.heap.size)
  generalize hAe : va_A (wMo h0 q ci) s.heap.size = A at hD ⊢
  have hA : ∀ q : Nat, s.heap.size ≤ q → A q := fun q h => by rw [← hAe]; exact Or.inr h
  have hS : va_S A s.heap s.heap [] := va_S.rf
  have hl := lv_entry ([.ref h0, .int 5]) (n := 5) (Nat.le_of_ble_eq_true rfl)
  rw [lg_entry_eq]
  generalize (lg_sl ([.ref h0, .int 5]) ++ List.replicate (5 - (lg_sl ([.ref h0, .int 5])).length) Slot.unset).toArray = ls at hl ⊢
  have hl : lv_has ls 5 [(0, .ref h0), (1, .int 5)] := hl
  refine lv_aload_n hx hb d_Mo_state_0 rfl (lv_at hl 0 rfl) ?_
  refine lv_iload_n hx hb d_Mo_state_1 rfl (lv_at hl 1 rfl) ?_
  refine lv_if_lt (tgt := 10) hx hb d_Mo_state_2 (by decide) (fun h9 => absurd h9 (by decide)) (fun _ => ?_)
  refine lv_iload_n hx hb d_Mo_state_5 rfl (lv_at hl 1 rfl) ?_
  refine lv_iconst (v := 5) hx hb d_Mo_state_6 (by decide) ?_
  refine lv_icmp_le (tgt := 14) hx hb d_Mo_state_7 (by decide) (fun _ => ?_) (fun h9 => absurd (by decide) h9)
  refine lv_iconst (v := 0) hx hb d_Mo_state_14 (by decide) ?_
  refine va_put (D := (dC, dI)) (ci := 9) (v := .int 0) (ty := .int) (C := RMo) (T := FMo) (N := 45) hx hb hB in_Mo tMo tMo_ok nMo hown hK hP hD hS 0 rfl rfl 0 (by decide) (hB _ hw_890) (fun _ h9 => h9) rfl (by decide +kernel) rfl rfl (Nat.le_of_ble_eq_true rfl) d_Mo_state_15 (fun H locs hP hD hS => ?_)
  have hP : va_P (dC, dI) gx_cl (wMo h0 q ci) H := hP
  have hD : va_D A (wMo h0 q ci) := hD
  refine lv_aload_n hx hb d_Mo_state_18 rfl (lv_at hl 0 rfl) ?_
  refine va_get (D := (dC, dI)) (ci := 9) (v := .int 0) (C := RMo) (T := FMo) (N := 45) hx hb hB in_Mo hown hK hP 0 rfl rfl 0 (by decide) (hB _ hw_890) (fun _ h9 => h9) rfl d_Mo_state_19 ?_
  refine lv_if_le (tgt := 27) hx hb d_Mo_state_22 (by decide) (fun _ => ?_) (fun h9 => absurd (by decide) h9)
  refine lv_iload_n hx hb d_Mo_state_27 rfl (lv_at hl 1 rfl) ?_
  refine lv_if_ne (tgt := 36) hx hb d_Mo_state_28 (by decide) (fun _ => ?_) (fun h9 => absurd h9 (by decide))
  refine lv_iload_n hx hb d_Mo_state_36 rfl (lv_at hl 1 rfl) ?_
  refine lv_iconst (v := 2) hx hb d_Mo_state_37 (by decide) ?_
  refine lv_icmp_ne (tgt := 46) hx hb d_Mo_state_38 (by decide) (fun _ => ?_) (fun h9 => absurd h9 (by decide))
  refine lv_iload_n hx hb d_Mo_state_46 rfl (lv_at hl 1 rfl) ?_
  refine lv_iconst (v := 3) hx hb d_Mo_state_47 (by decide) ?_
  refine lv_icmp_ne (tgt := 56) hx hb d_Mo_state_48 (by decide) (fun _ => ?_) (fun h9 => absurd h9 (by decide))
  refine lv_iload_n hx hb d_Mo_state_56 rfl (lv_at hl 1 rfl) ?_
  refine lv_iconst (v := 3) hx hb d_Mo_state_57 (by decide) ?_
  refine lv_icmp_le (tgt := 86) hx hb d_Mo_state_58 (by decide) (fun h9 => absurd h9 (by decide)) (fun _ => ?_)
  refine lv_iload_n hx hb d_Mo_state_61 rfl (lv_at hl 1 rfl) ?_
  refine lv_iconst (v := 4) hx hb d_Mo_state_62 (by decide) ?_
  refine lv_icmp_ne (tgt := 81) hx hb d_Mo_state_63 (by decide) (fun _ => ?_) (fun h9 => absurd h9 (by decide))
  refine lv_aload_n hx hb d_Mo_state_81 rfl (lv_at hl 0 rfl) ?_
  refine va_get (D := (dC, dI)) (ci := 9) (v := .int 0) (C := RMo) (T := FMo) (N := 45) hx hb hB in_Mo hown hK hP 0 rfl rfl 4 (by decide) (hB _ hw_894) (fun _ h9 => h9) rfl d_Mo_state_82 ?_
  have hP9 := hP.sub (ws' := [(h0, .inr (9, [.int 0, .ref (q 1), .ref (q 2), .ref (q 3), .int 0, .int 0, .ref (q 6), .ref (q 7), .int 0, .int 0, .int 0, .ref (q 11), .int 0, .int 0, .int (-1), .int 0, .ref (q 16), .int 0, .ref (q 18), .ref (q 19), .ref (q 20), .int 0, .ref (q 22), .int 0, .ref (q 24), .ref (q 25), .ref (q 26), .ref (q 27), .ref (q 28), .int 0, .ref (q 30), .ref (q 31), .ref (q 32), .ref (q 33), .int 0, .int 0, .int 0, .int 0, .int 0, .int 0, .ref (q 40), .int 0, .ref (q 42), .ref (q 43), .ref (q 44)]))]) [0] rfl
  have hD9 := hD.sub (ws' := [(h0, .inr (9, [.int 0, .ref (q 1), .ref (q 2), .ref (q 3), .int 0, .int 0, .ref (q 6), .ref (q 7), .int 0, .int 0, .int 0, .ref (q 11), .int 0, .int 0, .int (-1), .int 0, .ref (q 16), .int 0, .ref (q 18), .ref (q 19), .ref (q 20), .int 0, .ref (q 22), .int 0, .ref (q 24), .ref (q 25), .ref (q 26), .ref (q 27), .ref (q 28), .int 0, .ref (q 30), .ref (q 31), .ref (q 32), .ref (q 33), .int 0, .int 0, .int 0, .int 0, .int 0, .int 0, .ref (q 40), .int 0, .ref (q 42), .ref (q 43), .ref (q 44)]))]) [0] (by decide) rfl
  refine W.widen (k := 0) (n := 0) (Nat.le_of_ble_eq_true rfl) (Nat.le_of_ble_eq_true rfl) ?_
  exact W.iret (v := 0) hx hb hr (fun t ht hW => ⟨⟨0, (), rfl, rfl, [.ref (q 1), .ref (q 2), .ref (q 3), .int 0, .int 0, .ref (q 6), .ref (q 7), .int 0, .int 0, .int 0, .ref (q 11), .int 0, .int 0, .int (-1), .int 0, .ref (q 16), .int 0, .ref (q 18), .ref (q 19), .ref (q 20), .int 0, .ref (q 22), .int 0, .ref (q 24), .ref (q 25), .ref (q 26), .ref (q 27), .ref (q 28), .int 0, .ref (q 30), .ref (q 31), .ref (q 32), .ref (q 33), .int 0, .int 0, .int 0, .int 0, .int 0, .int 0, .ref (q 40), .int 0, .ref (q 42), .ref (q 43), .ref (q 44)], by rw [ht]; exact hP9, hD9⟩, hS.F ht⟩) hS.2.2 d_Mo_state_85
