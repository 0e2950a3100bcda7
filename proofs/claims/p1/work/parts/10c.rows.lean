set_option maxHeartbeats 4000000 in
set_option maxRecDepth 100000 in
theorem c_Au_init (l : Launch) (dC : Nat → ClassId) (dI : Nat → Nat → Nat) (h0 sz : Nat) : Met l y_Au_init w_Au_init ({ frames := 1, cells := 5, slots := 47, locals := 20 }) (va_Pc [.ref h0] (fun U => U.heap.size = sz ∧ va_P (dC, dI) gx_cl [(h0, .inr (0, [.null, .null, .null, .null, .null]))] U.heap ∧ va_K (dC, dI) gx_cl [] U ∧ va_D (fun _ => True) [(h0, .inr (0, [.null, .null, .null, .null, .null]))])) (va_Qv (fun _ : Unit => True) (fun _ t => True) (va_A [(h0, .inr (0, [.null, .null, .null, .null, .null]))] sz)) 5 47 (va_A [(h0, .inr (0, [.null, .null, .null, .null, .null]))] sz) := by
  refine Met.ofW (cc := b_Au_init) (maxL := 1) (ret := none) (by decide) rfl ?_
  intro p e s m args below meth c s₁ B hml hv
  obtain ⟨rfl, hsz, hP, hK, hD0⟩ := hv
  have hx := B.exec
  have hb := B.bytes
  have hr := B.returns
  have hts := atoms_spec (ws := w_Au_init) B.pre
  have hB : ∀ w ∈ gx_B, w.before _ s = true := fun w h => hts w (List.mem_cons_of_mem _ h)
  have hown : s.vm.findClass RAu = some m.cls := findClass_of_methodNamed B.named
  have hlocks := B.notSynchronized
  have hin : meth.name = "<init>" := (name_of_methodNamed B.named B.method).1
  subst hsz
  have hD := hD0.self (sz := s.heap.size)
  generalize hAe : va_A [(h0, .inr (0, [.null, .null, .null, .null, .null]))] s.heap.size = A at hD ⊢
  have hA : ∀ q : Nat, s.heap.size ≤ q → A q := fun q h => by rw [← hAe]; exact Or.inr h
  have hS : va_S A s.heap s.heap [] := va_S.rf
  have hP : va_P (dC, dI) gx_cl [(h0, .inr (0, [.null, .null, .null, .null, .null]))] s.heap := hP
  have hl := lv_entry ([.ref h0]) (n := 1) (Nat.le_of_ble_eq_true rfl)
  rw [lg_entry_eq]
  generalize (lg_sl ([.ref h0]) ++ List.replicate (1 - (lg_sl ([.ref h0])).length) Slot.unset).toArray = ls at hl ⊢
  have hl : lv_has ls 1 [(0, .ref h0)] := hl
  refine lv_aload_n hx hb d_Au_init_0 rfl (lv_at hl 0 rfl) ?_
  refine W.objInit hx hb hown (hB _ hw_180) (hB _ hw_94) (hB _ hw_oc) rfl (by rw [hml]; exact hl.1) rfl d_Au_init_1 (Nat.le_of_ble_eq_true rfl) (Nat.le_of_ble_eq_true rfl) ?_
  refine W.eq (g2 := F0 m 4 ls []) rfl ?_
  refine lv_aload_n hx hb d_Au_init_4 rfl (lv_at hl 0 rfl) ?_
  refine lv_bipush (v := 16) hx hb d_Au_init_5 (by decide) ?_
  refine va_newa (D := (dC, dI)) (atype := .int) (a0 := (16, .inl (fun _ => 0))) (ty := .int) hx hb (hB _ hw_131) rfl hK hP hD hS hA (fun _ => rfl) (by decide) (N' := 16) rfl (by decide) (Nat.le_of_ble_eq_true rfl) (Nat.le_of_ble_eq_true rfl) d_Au_init_7 (fun q1 cA2 H hK hP hD hS => ?_)
  have hP : va_P (dC, dI) gx_cl [(h0, .inr (0, [.null, .null, .null, .null, .null])), (q1, .inl (cA2, 16, .inl (fun _ => 0)))] H := hP
  have hD : va_D A [(h0, .inr (0, [.null, .null, .null, .null, .null])), (q1, .inl (cA2, 16, .inl (fun _ => 0)))] := hD
  have hK : va_K (dC, dI) gx_cl [(cA2, .int)] s := hK
  refine W.widen (k := 1) (n := 16) (Nat.le_of_ble_eq_true rfl) (Nat.le_of_ble_eq_true rfl) ?_
  refine va_putF (D := (dC, dI)) (ci := 0) (v := .ref q1) (ty := .array .int) (C := RAu) (T := FAu) (N := 5) hx hb hB in_Au tAu tAu_ok nAu hown hK hP hD hS 0 rfl rfl 0 (by decide) (hB _ hw_181) (fun _ h9 => h9) rfl hin rfl (by decide +kernel) rfl rfl (Nat.le_of_ble_eq_true rfl) d_Au_init_9 (fun H locs hP hD hS => ?_)
  have hP : va_P (dC, dI) gx_cl [(h0, .inr (0, [.ref q1, .null, .null, .null, .null])), (q1, .inl (cA2, 16, .inl (fun _ => 0)))] H := hP
  have hD : va_D A [(h0, .inr (0, [.ref q1, .null, .null, .null, .null])), (q1, .inl (cA2, 16, .inl (fun _ => 0)))] := hD
  have hP := hP.sub (ws' := [(h0, .inr (0, [.ref q1, .null, .null, .null, .null]))]) [0] rfl
  have hD := hD.sub (ws' := [(h0, .inr (0, [.ref q1, .null, .null, .null, .null]))]) [0] (by decide) rfl
  have hK := hK.sub (tys' := []) [] rfl
  refine lv_aload_n hx hb d_Au_init_12 rfl (lv_at hl 0 rfl) ?_
  refine lv_bipush (v := 16) hx hb d_Au_init_13 (by decide) ?_
  refine va_newa (D := (dC, dI)) (atype := .int) (a0 := (16, .inl (fun _ => 0))) (ty := .int) hx hb (hB _ hw_131) rfl hK hP hD hS hA (fun _ => rfl) (by decide) (N' := 16) rfl (by decide) (Nat.le_of_ble_eq_true rfl) (Nat.le_of_ble_eq_true rfl) d_Au_init_15 (fun q3 cA4 H hK hP hD hS => ?_)
  have hP : va_P (dC, dI) gx_cl [(h0, .inr (0, [.ref q1, .null, .null, .null, .null])), (q3, .inl (cA4, 16, .inl (fun _ => 0)))] H := hP
  have hD : va_D A [(h0, .inr (0, [.ref q1, .null, .null, .null, .null])), (q3, .inl (cA4, 16, .inl (fun _ => 0)))] := hD
  have hK : va_K (dC, dI) gx_cl [(cA4, .int)] s := hK
  refine W.widen (k := 2) (n := 32) (Nat.le_of_ble_eq_true rfl) (Nat.le_of_ble_eq_true rfl) ?_
  refine va_putF (D := (dC, dI)) (ci := 0) (v := .ref q3) (ty := .array .int) (C := RAu) (T := FAu) (N := 5) hx hb hB in_Au tAu tAu_ok nAu hown hK hP hD hS 0 rfl rfl 1 (by decide) (hB _ hw_183) (fun _ h9 => h9) rfl hin rfl (by decide +kernel) rfl rfl (Nat.le_of_ble_eq_true rfl) d_Au_init_17 (fun H locs hP hD hS => ?_)
  have hP : va_P (dC, dI) gx_cl [(h0, .inr (0, [.ref q1, .ref q3, .null, .null, .null])), (q3, .inl (cA4, 16, .inl (fun _ => 0)))] H := hP
  have hD : va_D A [(h0, .inr (0, [.ref q1, .ref q3, .null, .null, .null])), (q3, .inl (cA4, 16, .inl (fun _ => 0)))] := hD
  have hP := hP.sub (ws' := [(h0, .inr (0, [.ref q1, .ref q3, .null, .null, .null]))]) [0] rfl
  have hD := hD.sub (ws' := [(h0, .inr (0, [.ref q1, .ref q3, .null, .null, .null]))]) [0] (by decide) rfl
  have hK := hK.sub (tys' := []) [] rfl
  refine lv_aload_n hx hb d_Au_init_20 rfl (lv_at hl 0 rfl) ?_
  refine lv_iconst (v := 5) hx hb d_Au_init_21 (by decide) ?_
  refine va_newa (D := (dC, dI)) (atype := .long) (a0 := (5, .inr (.inl (fun _ => 0)))) (ty := .long) hx hb (hB _ hw_198) rfl hK hP hD hS hA (fun _ => rfl) (by decide) (N' := 5) rfl (by decide) (Nat.le_of_ble_eq_true rfl) (Nat.le_of_ble_eq_true rfl) d_Au_init_22 (fun q5 cA6 H hK hP hD hS => ?_)
  have hP : va_P (dC, dI) gx_cl [(h0, .inr (0, [.ref q1, .ref q3, .null, .null, .null])), (q5, .inl (cA6, 5, .inr (.inl (fun _ => 0))))] H := hP
  have hD : va_D A [(h0, .inr (0, [.ref q1, .ref q3, .null, .null, .null])), (q5, .inl (cA6, 5, .inr (.inl (fun _ => 0))))] := hD
  have hK : va_K (dC, dI) gx_cl [(cA6, .long)] s := hK
  refine W.widen (k := 3) (n := 37) (Nat.le_of_ble_eq_true rfl) (Nat.le_of_ble_eq_true rfl) ?_
  refine va_putF (D := (dC, dI)) (ci := 0) (v := .ref q5) (ty := .array .long) (C := RAu) (T := FAu) (N := 5) hx hb hB in_Au tAu tAu_ok nAu hown hK hP hD hS 0 rfl rfl 2 (by decide) (hB _ hw_184) (fun _ h9 => h9) rfl hin rfl (by decide +kernel) rfl rfl (Nat.le_of_ble_eq_true rfl) d_Au_init_24 (fun H locs hP hD hS => ?_)
  have hP : va_P (dC, dI) gx_cl [(h0, .inr (0, [.ref q1, .ref q3, .ref q5, .null, .null])), (q5, .inl (cA6, 5, .inr (.inl (fun _ => 0))))] H := hP
  have hD : va_D A [(h0, .inr (0, [.ref q1, .ref q3, .ref q5, .null, .null])), (q5, .inl (cA6, 5, .inr (.inl (fun _ => 0))))] := hD
  have hP := hP.sub (ws' := [(h0, .inr (0, [.ref q1, .ref q3, .ref q5, .null, .null]))]) [0] rfl
  have hD := hD.sub (ws' := [(h0, .inr (0, [.ref q1, .ref q3, .ref q5, .null, .null]))]) [0] (by decide) rfl
  have hK := hK.sub (tys' := []) [] rfl
  refine lv_aload_n hx hb d_Au_init_27 rfl (lv_at hl 0 rfl) ?_
  refine lv_iconst (v := 5) hx hb d_Au_init_28 (by decide) ?_
  refine va_newa (D := (dC, dI)) (atype := .long) (a0 := (5, .inr (.inl (fun _ => 0)))) (ty := .long) hx hb (hB _ hw_198) rfl hK hP hD hS hA (fun _ => rfl) (by decide) (N' := 5) rfl (by decide) (Nat.le_of_ble_eq_true rfl) (Nat.le_of_ble_eq_true rfl) d_Au_init_29 (fun q7 cA8 H hK hP hD hS => ?_)
  have hP : va_P (dC, dI) gx_cl [(h0, .inr (0, [.ref q1, .ref q3, .ref q5, .null, .null])), (q7, .inl (cA8, 5, .inr (.inl (fun _ => 0))))] H := hP
  have hD : va_D A [(h0, .inr (0, [.ref q1, .ref q3, .ref q5, .null, .null])), (q7, .inl (cA8, 5, .inr (.inl (fun _ => 0))))] := hD
  have hK : va_K (dC, dI) gx_cl [(cA8, .long)] s := hK
  refine W.widen (k := 4) (n := 42) (Nat.le_of_ble_eq_true rfl) (Nat.le_of_ble_eq_true rfl) ?_
  refine va_putF (D := (dC, dI)) (ci := 0) (v := .ref q7) (ty := .array .long) (C := RAu) (T := FAu) (N := 5) hx hb hB in_Au tAu tAu_ok nAu hown hK hP hD hS 0 rfl rfl 3 (by decide) (hB _ hw_185) (fun _ h9 => h9) rfl hin rfl (by decide +kernel) rfl rfl (Nat.le_of_ble_eq_true rfl) d_Au_init_31 (fun H locs hP hD hS => ?_)
  have hP : va_P (dC, dI) gx_cl [(h0, .inr (0, [.ref q1, .ref q3, .ref q5, .ref q7, .null])), (q7, .inl (cA8, 5, .inr (.inl (fun _ => 0))))] H := hP
  have hD : va_D A [(h0, .inr (0, [.ref q1, .ref q3, .ref q5, .ref q7, .null])), (q7, .inl (cA8, 5, .inr (.inl (fun _ => 0))))] := hD
  have hP := hP.sub (ws' := [(h0, .inr (0, [.ref q1, .ref q3, .ref q5, .ref q7, .null]))]) [0] rfl
  have hD := hD.sub (ws' := [(h0, .inr (0, [.ref q1, .ref q3, .ref q5, .ref q7, .null]))]) [0] (by decide) rfl
  have hK := hK.sub (tys' := []) [] rfl
  refine lv_aload_n hx hb d_Au_init_34 rfl (lv_at hl 0 rfl) ?_
  refine lv_iconst (v := 5) hx hb d_Au_init_35 (by decide) ?_
  refine va_newa (D := (dC, dI)) (atype := .long) (a0 := (5, .inr (.inl (fun _ => 0)))) (ty := .long) hx hb (hB _ hw_198) rfl hK hP hD hS hA (fun _ => rfl) (by decide) (N' := 5) rfl (by decide) (Nat.le_of_ble_eq_true rfl) (Nat.le_of_ble_eq_true rfl) d_Au_init_36 (fun q9 cA10 H hK hP hD hS => ?_)
  have hP : va_P (dC, dI) gx_cl [(h0, .inr (0, [.ref q1, .ref q3, .ref q5, .ref q7, .null])), (q9, .inl (cA10, 5, .inr (.inl (fun _ => 0))))] H := hP
  have hD : va_D A [(h0, .inr (0, [.ref q1, .ref q3, .ref q5, .ref q7, .null])), (q9, .inl (cA10, 5, .inr (.inl (fun _ => 0))))] := hD
  have hK : va_K (dC, dI) gx_cl [(cA10, .long)] s := hK
  refine W.widen (k := 5) (n := 47) (Nat.le_of_ble_eq_true rfl) (Nat.le_of_ble_eq_true rfl) ?_
  refine va_putF (D := (dC, dI)) (ci := 0) (v := .ref q9) (ty := .array .long) (C := RAu) (T := FAu) (N := 5) hx hb hB in_Au tAu tAu_ok nAu hown hK hP hD hS 0 rfl rfl 4 (by decide) (hB _ hw_186) (fun _ h9 => h9) rfl hin rfl (by decide +kernel) rfl rfl (Nat.le_of_ble_eq_true rfl) d_Au_init_38 (fun H locs hP hD hS => ?_)
  have hP : va_P (dC, dI) gx_cl [(h0, .inr (0, [.ref q1, .ref q3, .ref q5, .ref q7, .ref q9])), (q9, .inl (cA10, 5, .inr (.inl (fun _ => 0))))] H := hP
  have hD : va_D A [(h0, .inr (0, [.ref q1, .ref q3, .ref q5, .ref q7, .ref q9])), (q9, .inl (cA10, 5, .inr (.inl (fun _ => 0))))] := hD
  have hP := hP.sub (ws' := [(h0, .inr (0, [.ref q1, .ref q3, .ref q5, .ref q7, .ref q9]))]) [0] rfl
  have hD := hD.sub (ws' := [(h0, .inr (0, [.ref q1, .ref q3, .ref q5, .ref q7, .ref q9]))]) [0] (by decide) rfl
  have hK := hK.sub (tys' := []) [] rfl
  refine W.widen (k := 5) (n := 47) (Nat.le_of_ble_eq_true rfl) (Nat.le_of_ble_eq_true rfl) ?_
  exact W.vret hx hb hr (fun t ht hW => ⟨⟨(), rfl, trivial, trivial⟩, hS.F ht⟩) hS.2.2 d_Au_init_41
set_option maxHeartbeats 4000000 in
set_option maxRecDepth 100000 in
theorem c_Ks_init (l : Launch) (dC : Nat → ClassId) (dI : Nat → Nat → Nat) (h0 sz : Nat) : Met l y_Ks_init w_Ks_init ({ frames := 1, cells := 3, slots := 96, locals := 20 }) (va_Pc [.ref h0] (fun U => U.heap.size = sz ∧ va_P (dC, dI) gx_cl [(h0, .inr (4, [.null, .null, .null]))] U.heap ∧ va_K (dC, dI) gx_cl [] U ∧ va_D (fun _ => True) [(h0, .inr (4, [.null, .null, .null]))])) (va_Qv (fun _ : Unit => True) (fun _ t => True) (va_A [(h0, .inr (4, [.null, .null, .null]))] sz)) 3 96 (va_A [(h0, .inr (4, [.null, .null, .null]))] sz) := by
  refine Met.ofW (cc := b_Ks_init) (maxL := 1) (ret := none) (by decide) rfl ?_
  intro p e s m args below meth c s₁ B hml hv
  obtain ⟨rfl, hsz, hP, hK, hD0⟩ := hv
  have hx := B.exec
  have hb := B.bytes
  have hr := B.returns
  have hts := atoms_spec (ws := w_Ks_init) B.pre
  have hB : ∀ w ∈ gx_B, w.before _ s = true := fun w h => hts w (List.mem_cons_of_mem _ h)
  have hown : s.vm.findClass RKs = some m.cls := findClass_of_methodNamed B.named
  have hlocks := B.notSynchronized
  have hin : meth.name = "<init>" := (name_of_methodNamed B.named B.method).1
  subst hsz
  have hD := hD0.self (sz := s.heap.size)
  generalize hAe : va_A [(h0, .inr (4, [.null, .null, .null]))] s.heap.size = A at hD ⊢
  have hA : ∀ q : Nat, s.heap.size ≤ q → A q := fun q h => by rw [← hAe]; exact Or.inr h
  have hS : va_S A s.heap s.heap [] := va_S.rf
  have hP : va_P (dC, dI) gx_cl [(h0, .inr (4, [.null, .null, .null]))] s.heap := hP
  have hl := lv_entry ([.ref h0]) (n := 1) (Nat.le_of_ble_eq_true rfl)
  rw [lg_entry_eq]
  generalize (lg_sl ([.ref h0]) ++ List.replicate (1 - (lg_sl ([.ref h0])).length) Slot.unset).toArray = ls at hl ⊢
  have hl : lv_has ls 1 [(0, .ref h0)] := hl
  refine lv_aload_n hx hb d_Ks_init_0 rfl (lv_at hl 0 rfl) ?_
  refine W.objInit hx hb hown (hB _ hw_163) (hB _ hw_94) (hB _ hw_oc) rfl (by rw [hml]; exact hl.1) rfl d_Ks_init_1 (Nat.le_of_ble_eq_true rfl) (Nat.le_of_ble_eq_true rfl) ?_
  refine W.eq (g2 := F0 m 4 ls []) rfl ?_
  refine lv_aload_n hx hb d_Ks_init_4 rfl (lv_at hl 0 rfl) ?_
  refine lv_bipush (v := 64) hx hb d_Ks_init_5 (by decide) ?_
  refine va_newa (D := (dC, dI)) (atype := .int) (a0 := (64, .inl (fun _ => 0))) (ty := .int) hx hb (hB _ hw_131) rfl hK hP hD hS hA (fun _ => rfl) (by decide) (N' := 64) rfl (by decide) (Nat.le_of_ble_eq_true rfl) (Nat.le_of_ble_eq_true rfl) d_Ks_init_7 (fun q1 cA2 H hK hP hD hS => ?_)
  have hP : va_P (dC, dI) gx_cl [(h0, .inr (4, [.null, .null, .null])), (q1, .inl (cA2, 64, .inl (fun _ => 0)))] H := hP
  have hD : va_D A [(h0, .inr (4, [.null, .null, .null])), (q1, .inl (cA2, 64, .inl (fun _ => 0)))] := hD
  have hK : va_K (dC, dI) gx_cl [(cA2, .int)] s := hK
  refine W.widen (k := 1) (n := 64) (Nat.le_of_ble_eq_true rfl) (Nat.le_of_ble_eq_true rfl) ?_
  refine va_putF (D := (dC, dI)) (ci := 4) (v := .ref q1) (ty := .array .int) (C := RKs) (T := FKs) (N := 3) hx hb hB in_Ks tKs tKs_ok nKs hown hK hP hD hS 0 rfl rfl 0 (by decide) (hB _ hw_164) (fun _ h9 => h9) rfl hin rfl (by decide +kernel) rfl rfl (Nat.le_of_ble_eq_true rfl) d_Ks_init_9 (fun H locs hP hD hS => ?_)
  have hP : va_P (dC, dI) gx_cl [(h0, .inr (4, [.ref q1, .null, .null])), (q1, .inl (cA2, 64, .inl (fun _ => 0)))] H := hP
  have hD : va_D A [(h0, .inr (4, [.ref q1, .null, .null])), (q1, .inl (cA2, 64, .inl (fun _ => 0)))] := hD
  have hP := hP.sub (ws' := [(h0, .inr (4, [.ref q1, .null, .null]))]) [0] rfl
  have hD := hD.sub (ws' := [(h0, .inr (4, [.ref q1, .null, .null]))]) [0] (by decide) rfl
  have hK := hK.sub (tys' := []) [] rfl
  refine lv_aload_n hx hb d_Ks_init_12 rfl (lv_at hl 0 rfl) ?_
  refine lv_bipush (v := 16) hx hb d_Ks_init_13 (by decide) ?_
  refine va_newa (D := (dC, dI)) (atype := .int) (a0 := (16, .inl (fun _ => 0))) (ty := .int) hx hb (hB _ hw_131) rfl hK hP hD hS hA (fun _ => rfl) (by decide) (N' := 16) rfl (by decide) (Nat.le_of_ble_eq_true rfl) (Nat.le_of_ble_eq_true rfl) d_Ks_init_15 (fun q3 cA4 H hK hP hD hS => ?_)
  have hP : va_P (dC, dI) gx_cl [(h0, .inr (4, [.ref q1, .null, .null])), (q3, .inl (cA4, 16, .inl (fun _ => 0)))] H := hP
  have hD : va_D A [(h0, .inr (4, [.ref q1, .null, .null])), (q3, .inl (cA4, 16, .inl (fun _ => 0)))] := hD
  have hK : va_K (dC, dI) gx_cl [(cA4, .int)] s := hK
  refine W.widen (k := 2) (n := 80) (Nat.le_of_ble_eq_true rfl) (Nat.le_of_ble_eq_true rfl) ?_
  refine va_putF (D := (dC, dI)) (ci := 4) (v := .ref q3) (ty := .array .int) (C := RKs) (T := FKs) (N := 3) hx hb hB in_Ks tKs tKs_ok nKs hown hK hP hD hS 0 rfl rfl 1 (by decide) (hB _ hw_166) (fun _ h9 => h9) rfl hin rfl (by decide +kernel) rfl rfl (Nat.le_of_ble_eq_true rfl) d_Ks_init_17 (fun H locs hP hD hS => ?_)
  have hP : va_P (dC, dI) gx_cl [(h0, .inr (4, [.ref q1, .ref q3, .null])), (q3, .inl (cA4, 16, .inl (fun _ => 0)))] H := hP
  have hD : va_D A [(h0, .inr (4, [.ref q1, .ref q3, .null])), (q3, .inl (cA4, 16, .inl (fun _ => 0)))] := hD
  have hP := hP.sub (ws' := [(h0, .inr (4, [.ref q1, .ref q3, .null]))]) [0] rfl
  have hD := hD.sub (ws' := [(h0, .inr (4, [.ref q1, .ref q3, .null]))]) [0] (by decide) rfl
  have hK := hK.sub (tys' := []) [] rfl
  refine lv_aload_n hx hb d_Ks_init_20 rfl (lv_at hl 0 rfl) ?_
  refine lv_bipush (v := 16) hx hb d_Ks_init_21 (by decide) ?_
  refine va_newa (D := (dC, dI)) (atype := .int) (a0 := (16, .inl (fun _ => 0))) (ty := .int) hx hb (hB _ hw_131) rfl hK hP hD hS hA (fun _ => rfl) (by decide) (N' := 16) rfl (by decide) (Nat.le_of_ble_eq_true rfl) (Nat.le_of_ble_eq_true rfl) d_Ks_init_23 (fun q5 cA6 H hK hP hD hS => ?_)
  have hP : va_P (dC, dI) gx_cl [(h0, .inr (4, [.ref q1, .ref q3, .null])), (q5, .inl (cA6, 16, .inl (fun _ => 0)))] H := hP
  have hD : va_D A [(h0, .inr (4, [.ref q1, .ref q3, .null])), (q5, .inl (cA6, 16, .inl (fun _ => 0)))] := hD
  have hK : va_K (dC, dI) gx_cl [(cA6, .int)] s := hK
  refine W.widen (k := 3) (n := 96) (Nat.le_of_ble_eq_true rfl) (Nat.le_of_ble_eq_true rfl) ?_
  refine va_putF (D := (dC, dI)) (ci := 4) (v := .ref q5) (ty := .array .int) (C := RKs) (T := FKs) (N := 3) hx hb hB in_Ks tKs tKs_ok nKs hown hK hP hD hS 0 rfl rfl 2 (by decide) (hB _ hw_167) (fun _ h9 => h9) rfl hin rfl (by decide +kernel) rfl rfl (Nat.le_of_ble_eq_true rfl) d_Ks_init_25 (fun H locs hP hD hS => ?_)
  have hP : va_P (dC, dI) gx_cl [(h0, .inr (4, [.ref q1, .ref q3, .ref q5])), (q5, .inl (cA6, 16, .inl (fun _ => 0)))] H := hP
  have hD : va_D A [(h0, .inr (4, [.ref q1, .ref q3, .ref q5])), (q5, .inl (cA6, 16, .inl (fun _ => 0)))] := hD
  have hP := hP.sub (ws' := [(h0, .inr (4, [.ref q1, .ref q3, .ref q5]))]) [0] rfl
  have hD := hD.sub (ws' := [(h0, .inr (4, [.ref q1, .ref q3, .ref q5]))]) [0] (by decide) rfl
  have hK := hK.sub (tys' := []) [] rfl
  refine W.widen (k := 3) (n := 96) (Nat.le_of_ble_eq_true rfl) (Nat.le_of_ble_eq_true rfl) ?_
  exact W.vret hx hb hr (fun t ht hW => ⟨⟨(), rfl, trivial, trivial⟩, hS.F ht⟩) hS.2.2 d_Ks_init_28
set_option maxHeartbeats 4000000 in
set_option maxRecDepth 100000 in
theorem c_La_init (l : Launch) (dC : Nat → ClassId) (dI : Nat → Nat → Nat) (h0 sz : Nat) (fn : Int32) : Met l y_La_init w_La_init ({ frames := 1, cells := 1, slots := 32, locals := 20 }) (va_Pc [.ref h0, .int fn] (fun U => U.heap.size = sz ∧ va_P (dC, dI) gx_cl [(h0, .inr (5, [.null, .int 0, .int 0, .int 0, .int 0, .int 0, .int 0, .int 0]))] U.heap ∧ va_K (dC, dI) gx_cl [] U ∧ va_D (fun _ => True) [(h0, .inr (5, [.null, .int 0, .int 0, .int 0, .int 0, .int 0, .int 0, .int 0]))])) (va_Qv (fun _ : Unit => True) (fun _ t => ∃ (q : Nat), va_P (dC, dI) gx_cl [(h0, .inr (5, [.ref q, .int fn, .int 0, .int 0, .int 0, .int 0, .int 0, .int 0]))] t.heap ∧ va_D (va_A [(h0, .inr (5, [.null, .int 0, .int 0, .int 0, .int 0, .int 0, .int 0, .int 0]))] sz) [(h0, .inr (5, [.ref q, .int fn, .int 0, .int 0, .int 0, .int 0, .int 0, .int 0]))]) (va_A [(h0, .inr (5, [.null, .int 0, .int 0, .int 0, .int 0, .int 0, .int 0, .int 0]))] sz)) 1 32 (va_A [(h0, .inr (5, [.null, .int 0, .int 0, .int 0, .int 0, .int 0, .int 0, .int 0]))] sz) := by
  refine Met.ofW (cc := b_La_init) (maxL := 2) (ret := none) (by decide) rfl ?_
  intro p e s m args below meth c s₁ B hml hv
  obtain ⟨rfl, hsz, hP, hK, hD0⟩ := hv
  have hx := B.exec
  have hb := B.bytes
  have hr := B.returns
  have hts := atoms_spec (ws := w_La_init) B.pre
  have hB : ∀ w ∈ gx_B, w.before _ s = true := fun w h => hts w (List.mem_cons_of_mem _ h)
  have hown : s.vm.findClass RLa = some m.cls := findClass_of_methodNamed B.named
  have hlocks := B.notSynchronized
  have hin : meth.name = "<init>" := (name_of_methodNamed B.named B.method).1
  subst hsz
  have hD := hD0.self (sz := s.heap.size)
  generalize hAe : va_A [(h0, .inr (5, [.null, .int 0, .int 0, .int 0, .int 0, .int 0, .int 0, .int 0]))] s.heap.size = A at hD ⊢
  have hA : ∀ q : Nat, s.heap.size ≤ q → A q := fun q h => by rw [← hAe]; exact Or.inr h
  have hS : va_S A s.heap s.heap [] := va_S.rf
  have hP : va_P (dC, dI) gx_cl [(h0, .inr (5, [.null, .int 0, .int 0, .int 0, .int 0, .int 0, .int 0, .int 0]))] s.heap := hP
  have hl := lv_entry ([.ref h0, .int fn]) (n := 2) (Nat.le_of_ble_eq_true rfl)
  rw [lg_entry_eq]
  generalize (lg_sl ([.ref h0, .int fn]) ++ List.replicate (2 - (lg_sl ([.ref h0, .int fn])).length) Slot.unset).toArray = ls at hl ⊢
  have hl : lv_has ls 2 [(0, .ref h0), (1, .int fn)] := hl
  refine lv_aload_n hx hb d_La_init_0 rfl (lv_at hl 0 rfl) ?_
  refine W.objInit hx hb hown (hB _ hw_246) (hB _ hw_94) (hB _ hw_oc) rfl (by rw [hml]; exact hl.1) rfl d_La_init_1 (Nat.le_of_ble_eq_true rfl) (Nat.le_of_ble_eq_true rfl) ?_
  refine W.eq (g2 := F0 m 4 ls []) rfl ?_
  refine lv_aload_n hx hb d_La_init_4 rfl (lv_at hl 0 rfl) ?_
  refine lv_bipush (v := 32) hx hb d_La_init_5 (by decide) ?_
  refine va_newa (D := (dC, dI)) (atype := .int) (a0 := (32, .inl (fun _ => 0))) (ty := .int) hx hb (hB _ hw_131) rfl hK hP hD hS hA (fun _ => rfl) (by decide) (N' := 32) rfl (by decide) (Nat.le_of_ble_eq_true rfl) (Nat.le_of_ble_eq_true rfl) d_La_init_7 (fun q1 cA2 H hK hP hD hS => ?_)
  have hP : va_P (dC, dI) gx_cl [(h0, .inr (5, [.null, .int 0, .int 0, .int 0, .int 0, .int 0, .int 0, .int 0])), (q1, .inl (cA2, 32, .inl (fun _ => 0)))] H := hP
  have hD : va_D A [(h0, .inr (5, [.null, .int 0, .int 0, .int 0, .int 0, .int 0, .int 0, .int 0])), (q1, .inl (cA2, 32, .inl (fun _ => 0)))] := hD
  have hK : va_K (dC, dI) gx_cl [(cA2, .int)] s := hK
  refine W.widen (k := 1) (n := 32) (Nat.le_of_ble_eq_true rfl) (Nat.le_of_ble_eq_true rfl) ?_
  refine va_putF (D := (dC, dI)) (ci := 5) (v := .ref q1) (ty := .array .int) (C := RLa) (T := FLa) (N := 8) hx hb hB in_La tLa tLa_ok nLa hown hK hP hD hS 0 rfl rfl 0 (by decide) (hB _ hw_247) (fun _ h9 => h9) rfl hin rfl (by decide +kernel) rfl rfl (Nat.le_of_ble_eq_true rfl) d_La_init_9 (fun H locs hP hD hS => ?_)
  have hP : va_P (dC, dI) gx_cl [(h0, .inr (5, [.ref q1, .int 0, .int 0, .int 0, .int 0, .int 0, .int 0, .int 0])), (q1, .inl (cA2, 32, .inl (fun _ => 0)))] H := hP
  have hD : va_D A [(h0, .inr (5, [.ref q1, .int 0, .int 0, .int 0, .int 0, .int 0, .int 0, .int 0])), (q1, .inl (cA2, 32, .inl (fun _ => 0)))] := hD
  have hP := hP.sub (ws' := [(h0, .inr (5, [.ref q1, .int 0, .int 0, .int 0, .int 0, .int 0, .int 0, .int 0]))]) [0] rfl
  have hD := hD.sub (ws' := [(h0, .inr (5, [.ref q1, .int 0, .int 0, .int 0, .int 0, .int 0, .int 0, .int 0]))]) [0] (by decide) rfl
  have hK := hK.sub (tys' := []) [] rfl
  refine lv_aload_n hx hb d_La_init_12 rfl (lv_at hl 0 rfl) ?_
  refine lv_iload_n hx hb d_La_init_13 rfl (lv_at hl 1 rfl) ?_
  refine va_put (D := (dC, dI)) (ci := 5) (v := .int fn) (ty := .int) (C := RLa) (T := FLa) (N := 8) hx hb hB in_La tLa tLa_ok nLa hown hK hP hD hS 0 rfl rfl 1 (by decide) (hB _ hw_249) (fun _ h9 => h9) rfl (by decide +kernel) rfl rfl (Nat.le_of_ble_eq_true rfl) d_La_init_14 (fun H locs hP hD hS => ?_)
  have hP : va_P (dC, dI) gx_cl [(h0, .inr (5, [.ref q1, .int fn, .int 0, .int 0, .int 0, .int 0, .int 0, .int 0]))] H := hP
  have hD : va_D A [(h0, .inr (5, [.ref q1, .int fn, .int 0, .int 0, .int 0, .int 0, .int 0, .int 0]))] := hD
  refine W.widen (k := 1) (n := 32) (Nat.le_of_ble_eq_true rfl) (Nat.le_of_ble_eq_true rfl) ?_
  exact W.vret hx hb hr (fun t ht hW => ⟨⟨(), rfl, trivial, q1, by rw [ht]; exact hP, hD⟩, hS.F ht⟩) hS.2.2 d_La_init_17
set_option maxHeartbeats 4000000 in
set_option maxRecDepth 100000 in
theorem c_Dr_init (l : Launch) (dC : Nat → ClassId) (dI : Nat → Nat → Nat) (h0 sz : Nat) : Met l y_Dr_init w_Dr_init ({ frames := 1, cells := 1, slots := 768, locals := 20 }) (va_Pc [.ref h0] (fun U => U.heap.size = sz ∧ va_P (dC, dI) gx_cl [(h0, .inr (2, [.null, .int 0, .int 0, .int 0]))] U.heap ∧ va_K (dC, dI) gx_cl [] U ∧ va_D (fun _ => True) [(h0, .inr (2, [.null, .int 0, .int 0, .int 0]))])) (va_Qv (fun _ : Unit => True) (fun _ t => ∃ (q : Nat), va_P (dC, dI) gx_cl [(h0, .inr (2, [.ref q, .int (-1), .int 0, .int 0]))] t.heap ∧ va_D (va_A [(h0, .inr (2, [.null, .int 0, .int 0, .int 0]))] sz) [(h0, .inr (2, [.ref q, .int (-1), .int 0, .int 0]))]) (va_A [(h0, .inr (2, [.null, .int 0, .int 0, .int 0]))] sz)) 1 768 (va_A [(h0, .inr (2, [.null, .int 0, .int 0, .int 0]))] sz) := by
  refine Met.ofW (cc := b_Dr_init) (maxL := 1) (ret := none) (by decide) rfl ?_
  intro p e s m args below meth c s₁ B hml hv
  obtain ⟨rfl, hsz, hP, hK, hD0⟩ := hv
  have hx := B.exec
  have hb := B.bytes
  have hr := B.returns
  have hts := atoms_spec (ws := w_Dr_init) B.pre
  have hB : ∀ w ∈ gx_B, w.before _ s = true := fun w h => hts w (List.mem_cons_of_mem _ h)
  have hown : s.vm.findClass RDr = some m.cls := findClass_of_methodNamed B.named
  have hlocks := B.notSynchronized
  have hin : meth.name = "<init>" := (name_of_methodNamed B.named B.method).1
  subst hsz
  have hD := hD0.self (sz := s.heap.size)
  generalize hAe : va_A [(h0, .inr (2, [.null, .int 0, .int 0, .int 0]))] s.heap.size = A at hD ⊢
  have hA : ∀ q : Nat, s.heap.size ≤ q → A q := fun q h => by rw [← hAe]; exact Or.inr h
  have hS : va_S A s.heap s.heap [] := va_S.rf
  have hP : va_P (dC, dI) gx_cl [(h0, .inr (2, [.null, .int 0, .int 0, .int 0]))] s.heap := hP
  have hl := lv_entry ([.ref h0]) (n := 1) (Nat.le_of_ble_eq_true rfl)
  rw [lg_entry_eq]
  generalize (lg_sl ([.ref h0]) ++ List.replicate (1 - (lg_sl ([.ref h0])).length) Slot.unset).toArray = ls at hl ⊢
  have hl : lv_has ls 1 [(0, .ref h0)] := hl
  refine lv_aload_n hx hb d_Dr_init_0 rfl (lv_at hl 0 rfl) ?_
  refine W.objInit hx hb hown (hB _ hw_291) (hB _ hw_94) (hB _ hw_oc) rfl (by rw [hml]; exact hl.1) rfl d_Dr_init_1 (Nat.le_of_ble_eq_true rfl) (Nat.le_of_ble_eq_true rfl) ?_
  refine W.eq (g2 := F0 m 4 ls []) rfl ?_
  refine lv_aload_n hx hb d_Dr_init_4 rfl (lv_at hl 0 rfl) ?_
  refine lv_sipush (v := 768) hx hb d_Dr_init_5 (by decide) ?_
  refine va_newa (D := (dC, dI)) (atype := .int) (a0 := (768, .inl (fun _ => 0))) (ty := .int) hx hb (hB _ hw_131) rfl hK hP hD hS hA (fun _ => rfl) (by decide) (N' := 768) rfl (by decide) (Nat.le_of_ble_eq_true rfl) (Nat.le_of_ble_eq_true rfl) d_Dr_init_8 (fun q1 cA2 H hK hP hD hS => ?_)
  have hP : va_P (dC, dI) gx_cl [(h0, .inr (2, [.null, .int 0, .int 0, .int 0])), (q1, .inl (cA2, 768, .inl (fun _ => 0)))] H := hP
  have hD : va_D A [(h0, .inr (2, [.null, .int 0, .int 0, .int 0])), (q1, .inl (cA2, 768, .inl (fun _ => 0)))] := hD
  have hK : va_K (dC, dI) gx_cl [(cA2, .int)] s := hK
  refine W.widen (k := 1) (n := 768) (Nat.le_of_ble_eq_true rfl) (Nat.le_of_ble_eq_true rfl) ?_
  refine va_putF (D := (dC, dI)) (ci := 2) (v := .ref q1) (ty := .array .int) (C := RDr) (T := FDr) (N := 4) hx hb hB in_Dr tDr tDr_ok nDr hown hK hP hD hS 0 rfl rfl 0 (by decide) (hB _ hw_292) (fun _ h9 => h9) rfl hin rfl (by decide +kernel) rfl rfl (Nat.le_of_ble_eq_true rfl) d_Dr_init_10 (fun H locs hP hD hS => ?_)
  have hP : va_P (dC, dI) gx_cl [(h0, .inr (2, [.ref q1, .int 0, .int 0, .int 0])), (q1, .inl (cA2, 768, .inl (fun _ => 0)))] H := hP
  have hD : va_D A [(h0, .inr (2, [.ref q1, .int 0, .int 0, .int 0])), (q1, .inl (cA2, 768, .inl (fun _ => 0)))] := hD
  have hP := hP.sub (ws' := [(h0, .inr (2, [.ref q1, .int 0, .int 0, .int 0]))]) [0] rfl
  have hD := hD.sub (ws' := [(h0, .inr (2, [.ref q1, .int 0, .int 0, .int 0]))]) [0] (by decide) rfl
  have hK := hK.sub (tys' := []) [] rfl
  refine lv_aload_n hx hb d_Dr_init_13 rfl (lv_at hl 0 rfl) ?_
  refine lv_iconst (v := (-1)) hx hb d_Dr_init_14 (by decide) ?_
  refine va_put (D := (dC, dI)) (ci := 2) (v := .int (-1)) (ty := .int) (C := RDr) (T := FDr) (N := 4) hx hb hB in_Dr tDr tDr_ok nDr hown hK hP hD hS 0 rfl rfl 1 (by decide) (hB _ hw_294) (fun _ h9 => h9) rfl (by decide +kernel) rfl rfl (Nat.le_of_ble_eq_true rfl) d_Dr_init_15 (fun H locs hP hD hS => ?_)
  have hP : va_P (dC, dI) gx_cl [(h0, .inr (2, [.ref q1, .int (-1), .int 0, .int 0]))] H := hP
  have hD : va_D A [(h0, .inr (2, [.ref q1, .int (-1), .int 0, .int 0]))] := hD
  refine W.widen (k := 1) (n := 768) (Nat.le_of_ble_eq_true rfl) (Nat.le_of_ble_eq_true rfl) ?_
  exact W.vret hx hb hr (fun t ht hW => ⟨⟨(), rfl, trivial, q1, by rw [ht]; exact hP, hD⟩, hS.F ht⟩) hS.2.2 d_Dr_init_18
