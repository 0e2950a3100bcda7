set_option maxHeartbeats 4000000 in
set_option maxRecDepth 100000 in
theorem c_Ep_init (l : Launch) (dC : Nat → ClassId) (dI : Nat → Nat → Nat) (aS aT : Nat) (cS cT : Cell) (h0 sz : Nat) : Met l y_Ep_init w_Ep_init ({ frames := 1, cells := 12, slots := 340, locals := 20 }) (va_Pc [.ref h0] (fun U => U.heap.size = sz ∧ va_P (dC, dI) gx_cl [(h0, .inr (3, [.null, .null, .int 0]))] U.heap ∧ va_K (dC, dI) gx_cl [] U ∧ va_D (fun _ => True) [(h0, .inr (3, [.null, .null, .int 0]))] ∧ jx aS aT cS cT U)) (va_Qv (fun _ : Unit => True) (fun _ t => ∃ (q q9 : Nat), va_P (dC, dI) gx_cl [(h0, .inr (3, [.ref q, .ref q9, .int 0]))] t.heap ∧ va_D (va_A [(h0, .inr (3, [.null, .null, .int 0]))] sz) [(h0, .inr (3, [.ref q, .ref q9, .int 0]))]) (va_A [(h0, .inr (3, [.null, .null, .int 0]))] sz)) 12 340 (va_A [(h0, .inr (3, [.null, .null, .int 0]))] sz) := by
  refine Met.ofW (cc := b_Ep_init) (maxL := 1) (ret := none) (by decide) rfl ?_
  intro p e s m args below meth c s₁ B hml hv
  obtain ⟨rfl, hsz, hP, hK, hD0, hJ⟩ := hv
  have hx := B.exec
  have hb := B.bytes
  have hr := B.returns
  have hts := atoms_spec (ws := w_Ep_init) B.pre
  have hB : ∀ w ∈ gx_B, w.before _ s = true := fun w h => hts w (List.mem_cons_of_mem _ h)
  have hown : s.vm.findClass REp = some m.cls := findClass_of_methodNamed B.named
  have hlocks := B.notSynchronized
  have hin : meth.name = "<init>" := (name_of_methodNamed B.named B.method).1
  subst hsz
  have haS := (Array.getElem?_eq_some_iff.mp hJ.2.2.2.2.2.1).1
  have haT := (Array.getElem?_eq_some_iff.mp hJ.2.2.2.2.2.2).1
  have hoS : ¬ va_A [(h0, .inr (3, [.null, .null, .int 0]))] s.heap.size aS := jx_off hP hJ.2.2.2.2.2.1 hJ.2.2.2.1.stat haS
  have hoT : ¬ va_A [(h0, .inr (3, [.null, .null, .int 0]))] s.heap.size aT := jx_off hP hJ.2.2.2.2.2.2 hJ.2.2.2.2.1.stat haT
  have hD := hD0.self (sz := s.heap.size)
  generalize hAe : va_A [(h0, .inr (3, [.null, .null, .int 0]))] s.heap.size = A at hD hoS hoT ⊢
  have hA : ∀ q : Nat, s.heap.size ≤ q → A q := fun q h => by rw [← hAe]; exact Or.inr h
  have hS : va_S A s.heap s.heap [] := va_S.rf
  have hP : va_P (dC, dI) gx_cl [(h0, .inr (3, [.null, .null, .int 0]))] s.heap := hP
  have hl := lv_entry ([.ref h0]) (n := 1) (Nat.le_of_ble_eq_true rfl)
  rw [lg_entry_eq]
  generalize (lg_sl ([.ref h0]) ++ List.replicate (1 - (lg_sl ([.ref h0])).length) Slot.unset).toArray = ls at hl ⊢
  have hl : lv_has ls 1 [(0, .ref h0)] := hl
  refine lv_aload_n hx hb d_Ep_init_0 rfl (lv_at hl 0 rfl) ?_
  refine W.objInit hx hb hown (hB _ hw_138) (hB _ hw_94) (hB _ hw_oc) rfl (by rw [hml]; exact hl.1) rfl d_Ep_init_1 (Nat.le_of_ble_eq_true rfl) (Nat.le_of_ble_eq_true rfl) ?_
  refine W.eq (g2 := F0 m 4 ls []) rfl ?_
  refine lv_aload_n hx hb d_Ep_init_4 rfl (lv_at hl 0 rfl) ?_
  refine lv_bipush (v := 10) hx hb d_Ep_init_5 (by decide) ?_
  refine lv_bipush (v := 32) hx hb d_Ep_init_7 (by decide) ?_
  refine mx_newD (D := (dC, dI)) (N := 10) (M := 32) hx hb hown (hB _ hw_139) hJ.2.1 (hB _ hw_131) hP hS (by decide) (by decide) rfl rfl (by decide) (by decide) (Nat.le_of_ble_eq_true rfl) (Nat.le_of_ble_eq_true rfl) d_Ep_init_9 (fun q1 H hP hS => ?_)
  have hP : va_P (dC, dI) gx_cl [(h0, .inr (3, [.null, .null, .int 0]))] H := hP
  have hD : va_D A [(h0, .inr (3, [.null, .null, .int 0]))] := hD
  refine W.widen (k := 11) (n := 330) (Nat.le_of_ble_eq_true rfl) (Nat.le_of_ble_eq_true rfl) ?_
  refine va_putF (D := (dC, dI)) (ci := 3) (v := .ref q1) (ty := .array (.array .int)) (C := REp) (T := FEp) (N := 3) hx hb hB in_Ep tEp tEp_ok nEp hown hK hP hD hS 0 rfl rfl 0 (by decide) (hB _ hw_140) (fun _ h9 => h9) rfl hin rfl (by decide +kernel) rfl rfl (Nat.le_of_ble_eq_true rfl) d_Ep_init_13 (fun H locs hP hD hS => ?_)
  have hP : va_P (dC, dI) gx_cl [(h0, .inr (3, [.ref q1, .null, .int 0]))] H := hP
  have hD : va_D A [(h0, .inr (3, [.ref q1, .null, .int 0]))] := hD
  refine lv_aload_n hx hb d_Ep_init_16 rfl (lv_at hl 0 rfl) ?_
  refine lv_bipush (v := 10) hx hb d_Ep_init_17 (by decide) ?_
  refine va_newa (D := (dC, dI)) (atype := .boolean) (a0 := (10, .inl (fun _ => 0))) (ty := .boolean) hx hb (hB _ hw_132) rfl hK hP hD hS hA (fun _ => rfl) (by decide) (N' := 10) rfl (by decide) (Nat.le_of_ble_eq_true rfl) (Nat.le_of_ble_eq_true rfl) d_Ep_init_19 (fun q2 cA3 H hK hP hD hS => ?_)
  have hP : va_P (dC, dI) gx_cl [(h0, .inr (3, [.ref q1, .null, .int 0])), (q2, .inl (cA3, 10, .inl (fun _ => 0)))] H := hP
  have hD : va_D A [(h0, .inr (3, [.ref q1, .null, .int 0])), (q2, .inl (cA3, 10, .inl (fun _ => 0)))] := hD
  have hK : va_K (dC, dI) gx_cl [(cA3, .boolean)] s := hK
  refine W.widen (k := 12) (n := 340) (Nat.le_of_ble_eq_true rfl) (Nat.le_of_ble_eq_true rfl) ?_
  refine va_putF (D := (dC, dI)) (ci := 3) (v := .ref q2) (ty := .array .boolean) (C := REp) (T := FEp) (N := 3) hx hb hB in_Ep tEp tEp_ok nEp hown hK hP hD hS 0 rfl rfl 1 (by decide) (hB _ hw_142) (fun _ h9 => h9) rfl hin rfl (by decide +kernel) rfl rfl (Nat.le_of_ble_eq_true rfl) d_Ep_init_21 (fun H locs hP hD hS => ?_)
  have hP : va_P (dC, dI) gx_cl [(h0, .inr (3, [.ref q1, .ref q2, .int 0])), (q2, .inl (cA3, 10, .inl (fun _ => 0)))] H := hP
  have hD : va_D A [(h0, .inr (3, [.ref q1, .ref q2, .int 0])), (q2, .inl (cA3, 10, .inl (fun _ => 0)))] := hD
  have hP := hP.sub (ws' := [(h0, .inr (3, [.ref q1, .ref q2, .int 0]))]) [0] rfl
  have hD := hD.sub (ws' := [(h0, .inr (3, [.ref q1, .ref q2, .int 0]))]) [0] (by decide) rfl
  have hK := hK.sub (tys' := []) [] rfl
  refine W.widen (k := 12) (n := 340) (Nat.le_of_ble_eq_true rfl) (Nat.le_of_ble_eq_true rfl) ?_
  exact W.vret hx hb hr (fun t ht hW => ⟨⟨(), rfl, trivial, q1, q2, by rw [ht]; exact hP, hD⟩, hS.F ht⟩) hS.2.2 d_Ep_init_24
set_option maxHeartbeats 4000000 in
set_option maxRecDepth 100000 in
theorem c_St_init (l : Launch) (dC : Nat → ClassId) (dI : Nat → Nat → Nat) (aS aT : Nat) (cS cT : Cell) (h0 sz : Nat) (ta : Nat) (se : Nat) : Met l y_St_init w_St_init ({ frames := 1, cells := 8, slots := 394, locals := 20 }) (va_Pc [.ref h0, .ref ta, .ref se] (fun U => U.heap.size = sz ∧ va_P (dC, dI) gx_cl [(h0, .inr (7, [.null, .null, .null, .null, .int 0]))] U.heap ∧ va_K (dC, dI) gx_cl [] U ∧ va_D (fun _ => True) [(h0, .inr (7, [.null, .null, .null, .null, .int 0]))] ∧ jx aS aT cS cT U)) (va_Qv (fun _ : Unit => True) (fun _ t => True) (va_A [(h0, .inr (7, [.null, .null, .null, .null, .int 0]))] sz)) 8 394 (va_A [(h0, .inr (7, [.null, .null, .null, .null, .int 0]))] sz) := by
  refine Met.ofW (cc := b_St_init) (maxL := 3) (ret := none) (by decide) rfl ?_
  intro p e s m args below meth c s₁ B hml hv
  obtain ⟨rfl, hsz, hP, hK, hD0, hJ⟩ := hv
  have hx := B.exec
  have hb := B.bytes
  have hr := B.returns
  have hts := atoms_spec (ws := w_St_init) B.pre
  have hB : ∀ w ∈ gx_B, w.before _ s = true := fun w h => hts w (List.mem_cons_of_mem _ h)
  have hown : s.vm.findClass RSt = some m.cls := findClass_of_methodNamed B.named
  have hlocks := B.notSynchronized
  have hin : meth.name = "<init>" := (name_of_methodNamed B.named B.method).1
  subst hsz
  have haS := (Array.getElem?_eq_some_iff.mp hJ.2.2.2.2.2.1).1
  have haT := (Array.getElem?_eq_some_iff.mp hJ.2.2.2.2.2.2).1
  have hoS : ¬ va_A [(h0, .inr (7, [.null, .null, .null, .null, .int 0]))] s.heap.size aS := jx_off hP hJ.2.2.2.2.2.1 hJ.2.2.2.1.stat haS
  have hoT : ¬ va_A [(h0, .inr (7, [.null, .null, .null, .null, .int 0]))] s.heap.size aT := jx_off hP hJ.2.2.2.2.2.2 hJ.2.2.2.2.1.stat haT
  have hD := hD0.self (sz := s.heap.size)
  generalize hAe : va_A [(h0, .inr (7, [.null, .null, .null, .null, .int 0]))] s.heap.size = A at hD hoS hoT ⊢
  have hA : ∀ q : Nat, s.heap.size ≤ q → A q := fun q h => by rw [← hAe]; exact Or.inr h
  have hS : va_S A s.heap s.heap [] := va_S.rf
  have hP : va_P (dC, dI) gx_cl [(h0, .inr (7, [.null, .null, .null, .null, .int 0]))] s.heap := hP
  have hl := lv_entry ([.ref h0, .ref ta, .ref se]) (n := 3) (Nat.le_of_ble_eq_true rfl)
  rw [lg_entry_eq]
  generalize (lg_sl ([.ref h0, .ref ta, .ref se]) ++ List.replicate (3 - (lg_sl ([.ref h0, .ref ta, .ref se])).length) Slot.unset).toArray = ls at hl ⊢
  have hl : lv_has ls 3 [(0, .ref h0), (1, .ref ta), (2, .ref se)] := hl
  refine lv_aload_n hx hb d_St_init_0 rfl (lv_at hl 0 rfl) ?_
  refine W.objInit hx hb hown (hB _ hw_220) (hB _ hw_94) (hB _ hw_oc) rfl (by rw [hml]; exact hl.1) rfl d_St_init_1 (Nat.le_of_ble_eq_true rfl) (Nat.le_of_ble_eq_true rfl) ?_
  refine W.eq (g2 := F0 m 4 ls []) rfl ?_
  refine lv_aload_n hx hb d_St_init_4 rfl (lv_at hl 0 rfl) ?_
  refine lv_bipush (v := 6) hx hb d_St_init_5 (by decide) ?_
  refine lv_bipush (v := 64) hx hb d_St_init_7 (by decide) ?_
  refine mx_newD (D := (dC, dI)) (N := 6) (M := 64) hx hb hown (hB _ hw_221) hJ.2.1 (hB _ hw_131) hP hS (by decide) (by decide) rfl rfl (by decide) (by decide) (Nat.le_of_ble_eq_true rfl) (Nat.le_of_ble_eq_true rfl) d_St_init_9 (fun q1 H hP hS => ?_)
  have hP : va_P (dC, dI) gx_cl [(h0, .inr (7, [.null, .null, .null, .null, .int 0]))] H := hP
  have hD : va_D A [(h0, .inr (7, [.null, .null, .null, .null, .int 0]))] := hD
  refine W.widen (k := 7) (n := 390) (Nat.le_of_ble_eq_true rfl) (Nat.le_of_ble_eq_true rfl) ?_
  refine va_putF (D := (dC, dI)) (ci := 7) (v := .ref q1) (ty := .array (.array .int)) (C := RSt) (T := FSt) (N := 5) hx hb hB in_St tSt tSt_ok nSt hown hK hP hD hS 0 rfl rfl 0 (by decide) (hB _ hw_222) (fun _ h9 => h9) rfl hin rfl (by decide +kernel) rfl rfl (Nat.le_of_ble_eq_true rfl) d_St_init_13 (fun H locs hP hD hS => ?_)
  have hP : va_P (dC, dI) gx_cl [(h0, .inr (7, [.ref q1, .null, .null, .null, .int 0]))] H := hP
  have hD : va_D A [(h0, .inr (7, [.ref q1, .null, .null, .null, .int 0]))] := hD
  refine lv_aload_n hx hb d_St_init_16 rfl (lv_at hl 0 rfl) ?_
  refine lv_iconst (v := 4) hx hb d_St_init_17 (by decide) ?_
  refine va_newa (D := (dC, dI)) (atype := .boolean) (a0 := (4, .inl (fun _ => 0))) (ty := .boolean) hx hb (hB _ hw_132) rfl hK hP hD hS hA (fun _ => rfl) (by decide) (N' := 4) rfl (by decide) (Nat.le_of_ble_eq_true rfl) (Nat.le_of_ble_eq_true rfl) d_St_init_18 (fun q2 cA3 H hK hP hD hS => ?_)
  have hP : va_P (dC, dI) gx_cl [(h0, .inr (7, [.ref q1, .null, .null, .null, .int 0])), (q2, .inl (cA3, 4, .inl (fun _ => 0)))] H := hP
  have hD : va_D A [(h0, .inr (7, [.ref q1, .null, .null, .null, .int 0])), (q2, .inl (cA3, 4, .inl (fun _ => 0)))] := hD
  have hK : va_K (dC, dI) gx_cl [(cA3, .boolean)] s := hK
  refine W.widen (k := 8) (n := 394) (Nat.le_of_ble_eq_true rfl) (Nat.le_of_ble_eq_true rfl) ?_
  refine va_putF (D := (dC, dI)) (ci := 7) (v := .ref q2) (ty := .array .boolean) (C := RSt) (T := FSt) (N := 5) hx hb hB in_St tSt tSt_ok nSt hown hK hP hD hS 0 rfl rfl 1 (by decide) (hB _ hw_224) (fun _ h9 => h9) rfl hin rfl (by decide +kernel) rfl rfl (Nat.le_of_ble_eq_true rfl) d_St_init_20 (fun H locs hP hD hS => ?_)
  have hP : va_P (dC, dI) gx_cl [(h0, .inr (7, [.ref q1, .ref q2, .null, .null, .int 0])), (q2, .inl (cA3, 4, .inl (fun _ => 0)))] H := hP
  have hD : va_D A [(h0, .inr (7, [.ref q1, .ref q2, .null, .null, .int 0])), (q2, .inl (cA3, 4, .inl (fun _ => 0)))] := hD
  have hP := hP.sub (ws' := [(h0, .inr (7, [.ref q1, .ref q2, .null, .null, .int 0]))]) [0] rfl
  have hD := hD.sub (ws' := [(h0, .inr (7, [.ref q1, .ref q2, .null, .null, .int 0]))]) [0] (by decide) rfl
  have hK := hK.sub (tys' := []) [] rfl
  refine lv_aload_n hx hb d_St_init_23 rfl (lv_at hl 0 rfl) ?_
  refine lv_bipush (v := 8) hx hb d_St_init_24 (by decide) ?_
  refine va_put (D := (dC, dI)) (ci := 7) (v := .int 8) (ty := .int) (C := RSt) (T := FSt) (N := 5) hx hb hB in_St tSt tSt_ok nSt hown hK hP hD hS 0 rfl rfl 4 (by decide) (hB _ hw_228) (fun _ h9 => h9) rfl (by decide +kernel) rfl rfl (Nat.le_of_ble_eq_true rfl) d_St_init_26 (fun H locs hP hD hS => ?_)
  have hP : va_P (dC, dI) gx_cl [(h0, .inr (7, [.ref q1, .ref q2, .null, .null, .int 8]))] H := hP
  have hD : va_D A [(h0, .inr (7, [.ref q1, .ref q2, .null, .null, .int 8]))] := hD
  refine lv_aload_n hx hb d_St_init_29 rfl (lv_at hl 0 rfl) ?_
  refine lv_aload_n hx hb d_St_init_30 rfl (lv_at hl 1 rfl) ?_
  refine va_putF (D := (dC, dI)) (ci := 7) (v := .ref ta) (ty := .object "TapeSealer$Cartridge") (C := RSt) (T := FSt) (N := 5) hx hb hB in_St tSt tSt_ok nSt hown hK hP hD hS 0 rfl rfl 2 (by decide) (hB _ hw_226) (fun _ h9 => h9) rfl hin rfl (by decide +kernel) rfl rfl (Nat.le_of_ble_eq_true rfl) d_St_init_31 (fun H locs hP hD hS => ?_)
  have hP : va_P (dC, dI) gx_cl [(h0, .inr (7, [.ref q1, .ref q2, .ref ta, .null, .int 8]))] H := hP
  have hD : va_D A [(h0, .inr (7, [.ref q1, .ref q2, .ref ta, .null, .int 8]))] := hD
  refine lv_aload_n hx hb d_St_init_34 rfl (lv_at hl 0 rfl) ?_
  refine lv_aload_n hx hb d_St_init_35 rfl (lv_at hl 2 rfl) ?_
  refine va_putF (D := (dC, dI)) (ci := 7) (v := .ref se) (ty := .object "TapeSealer$Sealing") (C := RSt) (T := FSt) (N := 5) hx hb hB in_St tSt tSt_ok nSt hown hK hP hD hS 0 rfl rfl 3 (by decide) (hB _ hw_227) (fun _ h9 => h9) rfl hin rfl (by decide +kernel) rfl rfl (Nat.le_of_ble_eq_true rfl) d_St_init_36 (fun H locs hP hD hS => ?_)
  have hP : va_P (dC, dI) gx_cl [(h0, .inr (7, [.ref q1, .ref q2, .ref ta, .ref se, .int 8]))] H := hP
  have hD : va_D A [(h0, .inr (7, [.ref q1, .ref q2, .ref ta, .ref se, .int 8]))] := hD
  refine W.widen (k := 8) (n := 394) (Nat.le_of_ble_eq_true rfl) (Nat.le_of_ble_eq_true rfl) ?_
  exact W.vret hx hb hr (fun t ht hW => ⟨⟨(), rfl, trivial, trivial⟩, hS.F ht⟩) hS.2.2 d_St_init_39
set_option maxHeartbeats 4000000 in
set_option maxRecDepth 100000 in
theorem c_Se_init (l : Launch) (dC : Nat → ClassId) (dI : Nat → Nat → Nat) (aS aT : Nat) (cS cT : Cell) (h0 sz : Nat) : Met l y_Se_init w_Se_init ({ frames := 2, cells := 13, slots := 183, locals := 40 }) (va_Pc [.ref h0] (fun U => U.heap.size = sz ∧ va_P (dC, dI) gx_cl [(h0, .inr (6, [.null, .null, .null, .null, .null]))] U.heap ∧ va_K (dC, dI) gx_cl [] U ∧ va_D (fun _ => True) [(h0, .inr (6, [.null, .null, .null, .null, .null]))] ∧ jx aS aT cS cT U)) (va_Qv (fun _ : Unit => True) (fun _ t => True) (va_A [(h0, .inr (6, [.null, .null, .null, .null, .null]))] sz)) 13 183 (va_A [(h0, .inr (6, [.null, .null, .null, .null, .null]))] sz) := by
  refine Met.ofW (cc := b_Se_init) (maxL := 1) (ret := none) (by decide) rfl ?_
  intro p e s m args below meth c s₁ B hml hv
  obtain ⟨rfl, hsz, hP, hK, hD0, hJ⟩ := hv
  have hx := B.exec
  have hb := B.bytes
  have hr := B.returns
  have hts := atoms_spec (ws := w_Se_init) B.pre
  have hB : ∀ w ∈ gx_B, w.before _ s = true := fun w h => hts w (List.mem_cons_of_mem _ h)
  have hown : s.vm.findClass RSe = some m.cls := findClass_of_methodNamed B.named
  have hlocks := B.notSynchronized
  have hin : meth.name = "<init>" := (name_of_methodNamed B.named B.method).1
  subst hsz
  have haS := (Array.getElem?_eq_some_iff.mp hJ.2.2.2.2.2.1).1
  have haT := (Array.getElem?_eq_some_iff.mp hJ.2.2.2.2.2.2).1
  have hoS : ¬ va_A [(h0, .inr (6, [.null, .null, .null, .null, .null]))] s.heap.size aS := jx_off hP hJ.2.2.2.2.2.1 hJ.2.2.2.1.stat haS
  have hoT : ¬ va_A [(h0, .inr (6, [.null, .null, .null, .null, .null]))] s.heap.size aT := jx_off hP hJ.2.2.2.2.2.2 hJ.2.2.2.2.1.stat haT
  have hD := hD0.self (sz := s.heap.size)
  generalize hAe : va_A [(h0, .inr (6, [.null, .null, .null, .null, .null]))] s.heap.size = A at hD hoS hoT ⊢
  have hA : ∀ q : Nat, s.heap.size ≤ q → A q := fun q h => by rw [← hAe]; exact Or.inr h
  have hS : va_S A s.heap s.heap [] := va_S.rf
  have hP : va_P (dC, dI) gx_cl [(h0, .inr (6, [.null, .null, .null, .null, .null]))] s.heap := hP
  have hl := lv_entry ([.ref h0]) (n := 1) (Nat.le_of_ble_eq_true rfl)
  rw [lg_entry_eq]
  generalize (lg_sl ([.ref h0]) ++ List.replicate (1 - (lg_sl ([.ref h0])).length) Slot.unset).toArray = ls at hl ⊢
  have hl : lv_has ls 1 [(0, .ref h0)] := hl
  refine lv_aload_n hx hb d_Se_init_0 rfl (lv_at hl 0 rfl) ?_
  refine W.objInit hx hb hown (hB _ hw_157) (hB _ hw_94) (hB _ hw_oc) rfl (by rw [hml]; exact hl.1) rfl d_Se_init_1 (Nat.le_of_ble_eq_true rfl) (Nat.le_of_ble_eq_true rfl) ?_
  refine W.eq (g2 := F0 m 4 ls []) rfl ?_
  refine lv_aload_n hx hb d_Se_init_4 rfl (lv_at hl 0 rfl) ?_
  refine va_new (D := (dC, dI)) (ci := 4) (fs := [.null, .null, .null]) (C := RKs) (T := FKs) (N := 3) hx hb hB in_Ks tKs tKs_ok hown (hB _ hw_158) (hB _ hw_159) (hB _ hw_70) hK hP hD hS hA rfl (fun j hj => by rcases (show j = 0 ∨ j = 1 ∨ j = 2 by omega) with rfl | rfl | rfl <;> rfl) (Nat.le_of_ble_eq_true rfl) (Nat.le_of_ble_eq_true rfl) d_Se_init_5 (fun q1 H hP hD hS => ?_)
  have hP : va_P (dC, dI) gx_cl [(h0, .inr (6, [.null, .null, .null, .null, .null])), (q1, .inr (4, [.null, .null, .null]))] H := hP
  have hD : va_D A [(h0, .inr (6, [.null, .null, .null, .null, .null])), (q1, .inr (4, [.null, .null, .null]))] := hD
  refine W.widen (k := 1) (n := 3) (Nat.le_of_ble_eq_true rfl) (Nat.le_of_ble_eq_true rfl) ?_
  refine lv_dup hx hb d_Se_init_8 rfl ?_
  have hPc := hP.sub (ws' := [(q1, .inr (4, [.null, .null, .null]))]) [1] rfl
  have hDc := hD.sub (ws' := [(q1, .inr (4, [.null, .null, .null]))]) [1] (by decide) rfl
  have hKc := hK.sub (tys' := []) [] rfl
  have hFc := va_free (wc := [(q1, .inr (4, [.null, .null, .null]))]) hD hS hA [1] rfl
  refine va_callv (va_runIN (own := "TapeSealer$Sealing") (index := 11) (host := "TapeSealer") (As := []) (rest := [.ref q1, .ref h0]) ⟨hx, hb, hml, hown, hts⟩ (c_Ks_init l dC dI q1 H.size) ⟨va_cnB 0 hts (gx_good k_Ks_init) rfl rfl rfl (hJ.1 _ (List.mem_of_getElem? (i := 160) (by decide +kernel)) rfl) (hB _ hw_70) (by decide +kernel) ⟨(Nat.le_of_ble_eq_true rfl), (Nat.le_of_ble_eq_true rfl)⟩, rfl, hB _ hw_161⟩ ⟨fun a U g mk q => by obtain ⟨q0, q1, qP, qK, qD⟩ := q; exact ⟨q0, q1, qP, va_K.moved (u := U) (U := U.calling g mk a) (Vm.Alike.refl U.vm) qK, qD⟩, fun U hU hW => ⟨rfl, by rw [hU], by rw [hU]; exact hPc, va_K.moved hW.alike hKc, hDc.weaken (fun _ _ _ _ => trivial)⟩⟩ rfl rfl hl.1 rfl (lv_room (Nat.le_of_ble_eq_true rfl)) d_Se_init_9 ⟨(Nat.le_of_ble_eq_true rfl), (Nat.le_of_ble_eq_true rfl)⟩) hS (fun q _ h => hFc q h) hFc (fun u t H1 locs ht hvm hw hB1 hz1 hk1 hS => ?_)
  obtain ⟨hP, hD⟩ := va_join (wr := [(h0, .inr (6, [.null, .null, .null, .null, .null]))]) (w1 := []) hP hD [1] [0] rfl rfl (by decide) (by decide) hk1 hFc gx_P0 gx_D0
  generalize H1 = H at hP hS ⊢
  have hP : va_P (dC, dI) gx_cl [(h0, .inr (6, [.null, .null, .null, .null, .null]))] H := hP
  have hD : va_D A [(h0, .inr (6, [.null, .null, .null, .null, .null]))] := hD
  refine W.widen (k := 4) (n := 99) (Nat.le_of_ble_eq_true rfl) (Nat.le_of_ble_eq_true rfl) ?_
  refine va_putF (D := (dC, dI)) (ci := 6) (v := .ref q1) (ty := .object "TapeSealer$KeyStream") (C := RSe) (T := FSe) (N := 5) hx hb hB in_Se tSe tSe_ok nSe hown hK hP hD hS 0 rfl rfl 0 (by decide) (hB _ hw_199) (fun _ h9 => h9) rfl hin rfl (by decide +kernel) rfl rfl (Nat.le_of_ble_eq_true rfl) d_Se_init_12 (fun H locs hP hD hS => ?_)
  have hP : va_P (dC, dI) gx_cl [(h0, .inr (6, [.ref q1, .null, .null, .null, .null]))] H := hP
  have hD : va_D A [(h0, .inr (6, [.ref q1, .null, .null, .null, .null]))] := hD
  refine lv_aload_n hx hb d_Se_init_15 rfl (lv_at hl 0 rfl) ?_
  refine va_new (D := (dC, dI)) (ci := 0) (fs := [.null, .null, .null, .null, .null]) (C := RAu) (T := FAu) (N := 5) hx hb hB in_Au tAu tAu_ok hown (hB _ hw_175) (hB _ hw_176) (hB _ hw_71) hK hP hD hS hA rfl (fun j hj => by rcases (show j = 0 ∨ j = 1 ∨ j = 2 ∨ j = 3 ∨ j = 4 by omega) with rfl | rfl | rfl | rfl | rfl <;> rfl) (Nat.le_of_ble_eq_true rfl) (Nat.le_of_ble_eq_true rfl) d_Se_init_16 (fun q2 H hP hD hS => ?_)
  have hP : va_P (dC, dI) gx_cl [(h0, .inr (6, [.ref q1, .null, .null, .null, .null])), (q2, .inr (0, [.null, .null, .null, .null, .null]))] H := hP
  have hD : va_D A [(h0, .inr (6, [.ref q1, .null, .null, .null, .null])), (q2, .inr (0, [.null, .null, .null, .null, .null]))] := hD
  refine W.widen (k := 5) (n := 104) (Nat.le_of_ble_eq_true rfl) (Nat.le_of_ble_eq_true rfl) ?_
  refine lv_dup hx hb d_Se_init_19 rfl ?_
  have hPc := hP.sub (ws' := [(q2, .inr (0, [.null, .null, .null, .null, .null]))]) [1] rfl
  have hDc := hD.sub (ws' := [(q2, .inr (0, [.null, .null, .null, .null, .null]))]) [1] (by decide) rfl
  have hKc := hK.sub (tys' := []) [] rfl
  have hFc := va_free (wc := [(q2, .inr (0, [.null, .null, .null, .null, .null]))]) hD hS hA [1] rfl
  refine va_callv (va_runIN (own := "TapeSealer$Sealing") (index := 20) (host := "TapeSealer") (As := []) (rest := [.ref q2, .ref h0]) ⟨hx, hb, hml, hown, hts⟩ (c_Au_init l dC dI q2 H.size) ⟨va_cnB 0 hts (gx_good k_Au_init) rfl rfl rfl (hJ.1 _ (List.mem_of_getElem? (i := 177) (by decide +kernel)) rfl) (hB _ hw_71) (by decide +kernel) ⟨(Nat.le_of_ble_eq_true rfl), (Nat.le_of_ble_eq_true rfl)⟩, rfl, hB _ hw_178⟩ ⟨fun a U g mk q => by obtain ⟨q0, q1, qP, qK, qD⟩ := q; exact ⟨q0, q1, qP, va_K.moved (u := U) (U := U.calling g mk a) (Vm.Alike.refl U.vm) qK, qD⟩, fun U hU hW => ⟨rfl, by rw [hU], by rw [hU]; exact hPc, va_K.moved hW.alike hKc, hDc.weaken (fun _ _ _ _ => trivial)⟩⟩ rfl rfl hl.1 rfl (lv_room (Nat.le_of_ble_eq_true rfl)) d_Se_init_20 ⟨(Nat.le_of_ble_eq_true rfl), (Nat.le_of_ble_eq_true rfl)⟩) hS (fun q _ h => hFc q h) hFc (fun u t H1 locs ht hvm hw hB1 hz1 hk1 hS => ?_)
  obtain ⟨hP, hD⟩ := va_join (wr := [(h0, .inr (6, [.ref q1, .null, .null, .null, .null]))]) (w1 := []) hP hD [1] [0] rfl rfl (by decide) (by decide) hk1 hFc gx_P0 gx_D0
  generalize H1 = H at hP hS ⊢
  have hP : va_P (dC, dI) gx_cl [(h0, .inr (6, [.ref q1, .null, .null, .null, .null]))] H := hP
  have hD : va_D A [(h0, .inr (6, [.ref q1, .null, .null, .null, .null]))] := hD
  refine W.widen (k := 10) (n := 151) (Nat.le_of_ble_eq_true rfl) (Nat.le_of_ble_eq_true rfl) ?_
  refine va_putF (D := (dC, dI)) (ci := 6) (v := .ref q2) (ty := .object "TapeSealer$Authenticator") (C := RSe) (T := FSe) (N := 5) hx hb hB in_Se tSe tSe_ok nSe hown hK hP hD hS 0 rfl rfl 1 (by decide) (hB _ hw_200) (fun _ h9 => h9) rfl hin rfl (by decide +kernel) rfl rfl (Nat.le_of_ble_eq_true rfl) d_Se_init_23 (fun H locs hP hD hS => ?_)
  have hP : va_P (dC, dI) gx_cl [(h0, .inr (6, [.ref q1, .ref q2, .null, .null, .null]))] H := hP
  have hD : va_D A [(h0, .inr (6, [.ref q1, .ref q2, .null, .null, .null]))] := hD
  refine lv_aload_n hx hb d_Se_init_26 rfl (lv_at hl 0 rfl) ?_
  refine lv_bipush (v := 12) hx hb d_Se_init_27 (by decide) ?_
  refine va_newa (D := (dC, dI)) (atype := .int) (a0 := (12, .inl (fun _ => 0))) (ty := .int) hx hb (hB _ hw_131) rfl hK hP hD hS hA (fun _ => rfl) (by decide) (N' := 12) rfl (by decide) (Nat.le_of_ble_eq_true rfl) (Nat.le_of_ble_eq_true rfl) d_Se_init_29 (fun q3 cA4 H hK hP hD hS => ?_)
  have hP : va_P (dC, dI) gx_cl [(h0, .inr (6, [.ref q1, .ref q2, .null, .null, .null])), (q3, .inl (cA4, 12, .inl (fun _ => 0)))] H := hP
  have hD : va_D A [(h0, .inr (6, [.ref q1, .ref q2, .null, .null, .null])), (q3, .inl (cA4, 12, .inl (fun _ => 0)))] := hD
  have hK : va_K (dC, dI) gx_cl [(cA4, .int)] s := hK
  refine W.widen (k := 11) (n := 163) (Nat.le_of_ble_eq_true rfl) (Nat.le_of_ble_eq_true rfl) ?_
  refine va_putF (D := (dC, dI)) (ci := 6) (v := .ref q3) (ty := .array .int) (C := RSe) (T := FSe) (N := 5) hx hb hB in_Se tSe tSe_ok nSe hown hK hP hD hS 0 rfl rfl 2 (by decide) (hB _ hw_201) (fun _ h9 => h9) rfl hin rfl (by decide +kernel) rfl rfl (Nat.le_of_ble_eq_true rfl) d_Se_init_31 (fun H locs hP hD hS => ?_)
  have hP : va_P (dC, dI) gx_cl [(h0, .inr (6, [.ref q1, .ref q2, .ref q3, .null, .null])), (q3, .inl (cA4, 12, .inl (fun _ => 0)))] H := hP
  have hD : va_D A [(h0, .inr (6, [.ref q1, .ref q2, .ref q3, .null, .null])), (q3, .inl (cA4, 12, .inl (fun _ => 0)))] := hD
  have hP := hP.sub (ws' := [(h0, .inr (6, [.ref q1, .ref q2, .ref q3, .null, .null]))]) [0] rfl
  have hD := hD.sub (ws' := [(h0, .inr (6, [.ref q1, .ref q2, .ref q3, .null, .null]))]) [0] (by decide) rfl
  have hK := hK.sub (tys' := []) [] rfl
  refine lv_aload_n hx hb d_Se_init_34 rfl (lv_at hl 0 rfl) ?_
  refine lv_iconst (v := 4) hx hb d_Se_init_35 (by decide) ?_
  refine va_newa (D := (dC, dI)) (atype := .int) (a0 := (4, .inl (fun _ => 0))) (ty := .int) hx hb (hB _ hw_131) rfl hK hP hD hS hA (fun _ => rfl) (by decide) (N' := 4) rfl (by decide) (Nat.le_of_ble_eq_true rfl) (Nat.le_of_ble_eq_true rfl) d_Se_init_36 (fun q5 cA6 H hK hP hD hS => ?_)
  have hP : va_P (dC, dI) gx_cl [(h0, .inr (6, [.ref q1, .ref q2, .ref q3, .null, .null])), (q5, .inl (cA6, 4, .inl (fun _ => 0)))] H := hP
  have hD : va_D A [(h0, .inr (6, [.ref q1, .ref q2, .ref q3, .null, .null])), (q5, .inl (cA6, 4, .inl (fun _ => 0)))] := hD
  have hK : va_K (dC, dI) gx_cl [(cA6, .int)] s := hK
  refine W.widen (k := 12) (n := 167) (Nat.le_of_ble_eq_true rfl) (Nat.le_of_ble_eq_true rfl) ?_
  refine va_putF (D := (dC, dI)) (ci := 6) (v := .ref q5) (ty := .array .int) (C := RSe) (T := FSe) (N := 5) hx hb hB in_Se tSe tSe_ok nSe hown hK hP hD hS 0 rfl rfl 3 (by decide) (hB _ hw_202) (fun _ h9 => h9) rfl hin rfl (by decide +kernel) rfl rfl (Nat.le_of_ble_eq_true rfl) d_Se_init_38 (fun H locs hP hD hS => ?_)
  have hP : va_P (dC, dI) gx_cl [(h0, .inr (6, [.ref q1, .ref q2, .ref q3, .ref q5, .null])), (q5, .inl (cA6, 4, .inl (fun _ => 0)))] H := hP
  have hD : va_D A [(h0, .inr (6, [.ref q1, .ref q2, .ref q3, .ref q5, .null])), (q5, .inl (cA6, 4, .inl (fun _ => 0)))] := hD
  have hP := hP.sub (ws' := [(h0, .inr (6, [.ref q1, .ref q2, .ref q3, .ref q5, .null]))]) [0] rfl
  have hD := hD.sub (ws' := [(h0, .inr (6, [.ref q1, .ref q2, .ref q3, .ref q5, .null]))]) [0] (by decide) rfl
  have hK := hK.sub (tys' := []) [] rfl
  refine lv_aload_n hx hb d_Se_init_41 rfl (lv_at hl 0 rfl) ?_
  refine lv_bipush (v := 16) hx hb d_Se_init_42 (by decide) ?_
  refine va_newa (D := (dC, dI)) (atype := .int) (a0 := (16, .inl (fun _ => 0))) (ty := .int) hx hb (hB _ hw_131) rfl hK hP hD hS hA (fun _ => rfl) (by decide) (N' := 16) rfl (by decide) (Nat.le_of_ble_eq_true rfl) (Nat.le_of_ble_eq_true rfl) d_Se_init_44 (fun q7 cA8 H hK hP hD hS => ?_)
  have hP : va_P (dC, dI) gx_cl [(h0, .inr (6, [.ref q1, .ref q2, .ref q3, .ref q5, .null])), (q7, .inl (cA8, 16, .inl (fun _ => 0)))] H := hP
  have hD : va_D A [(h0, .inr (6, [.ref q1, .ref q2, .ref q3, .ref q5, .null])), (q7, .inl (cA8, 16, .inl (fun _ => 0)))] := hD
  have hK : va_K (dC, dI) gx_cl [(cA8, .int)] s := hK
  refine W.widen (k := 13) (n := 183) (Nat.le_of_ble_eq_true rfl) (Nat.le_of_ble_eq_true rfl) ?_
  refine va_putF (D := (dC, dI)) (ci := 6) (v := .ref q7) (ty := .array .int) (C := RSe) (T := FSe) (N := 5) hx hb hB in_Se tSe tSe_ok nSe hown hK hP hD hS 0 rfl rfl 4 (by decide) (hB _ hw_203) (fun _ h9 => h9) rfl hin rfl (by decide +kernel) rfl rfl (Nat.le_of_ble_eq_true rfl) d_Se_init_46 (fun H locs hP hD hS => ?_)
  have hP : va_P (dC, dI) gx_cl [(h0, .inr (6, [.ref q1, .ref q2, .ref q3, .ref q5, .ref q7])), (q7, .inl (cA8, 16, .inl (fun _ => 0)))] H := hP
  have hD : va_D A [(h0, .inr (6, [.ref q1, .ref q2, .ref q3, .ref q5, .ref q7])), (q7, .inl (cA8, 16, .inl (fun _ => 0)))] := hD
  have hP := hP.sub (ws' := [(h0, .inr (6, [.ref q1, .ref q2, .ref q3, .ref q5, .ref q7]))]) [0] rfl
  have hD := hD.sub (ws' := [(h0, .inr (6, [.ref q1, .ref q2, .ref q3, .ref q5, .ref q7]))]) [0] (by decide) rfl
  have hK := hK.sub (tys' := []) [] rfl
  refine W.widen (k := 13) (n := 183) (Nat.le_of_ble_eq_true rfl) (Nat.le_of_ble_eq_true rfl) ?_
  exact W.vret hx hb hr (fun t ht hW => ⟨⟨(), rfl, trivial, trivial⟩, hS.F ht⟩) hS.2.2 d_Se_init_49
set_option maxHeartbeats 4000000 in
set_option maxRecDepth 100000 in
theorem c_Ca_init (l : Launch) (dC : Nat → ClassId) (dI : Nat → Nat → Nat) (aS aT : Nat) (cS cT : Cell) (h0 sz : Nat) : Met l y_Ca_init w_Ca_init ({ frames := 1, cells := 46, slots := 2904, locals := 20 }) (va_Pc [.ref h0] (fun U => U.heap.size = sz ∧ va_P (dC, dI) gx_cl [(h0, .inr (1, [.null, .null, .int 0, .int 0, .int 0, .int 0]))] U.heap ∧ va_K (dC, dI) gx_cl [] U ∧ va_D (fun _ => True) [(h0, .inr (1, [.null, .null, .int 0, .int 0, .int 0, .int 0]))] ∧ jx aS aT cS cT U)) (va_Qv (fun _ : Unit => True) (fun _ t => ∃ (q1 q2 : Nat) (cA cI cB : ClassId), va_P (dC, dI) gx_cl ([(h0, .inr (1, [.ref q1, .ref q2, .int 0, .int (-1), .int 0, .int 0])), (q1, .inl (cA, 44, .inr (.inr (.inr (.inr (mx_g q1 44)))))), (q2, .inl (cB, 44, .inl (fun _ => 0)))] ++ mx_Y q1 cI) t.heap ∧ va_D (va_A [(h0, .inr (1, [.null, .null, .int 0, .int 0, .int 0, .int 0]))] sz) ([(h0, .inr (1, [.ref q1, .ref q2, .int 0, .int (-1), .int 0, .int 0])), (q1, .inl (cA, 44, .inr (.inr (.inr (.inr (mx_g q1 44)))))), (q2, .inl (cB, 44, .inl (fun _ => 0)))] ++ mx_Y q1 cI) ∧ va_K (dC, dI) gx_cl [(cA, .array .int), (cI, .int), (cB, .boolean)] t) (va_A [(h0, .inr (1, [.null, .null, .int 0, .int 0, .int 0, .int 0]))] sz)) 46 2904 (va_A [(h0, .inr (1, [.null, .null, .int 0, .int 0, .int 0, .int 0]))] sz) := by
  refine Met.ofW (cc := b_Ca_init) (maxL := 1) (ret := none) (by decide) rfl ?_
  intro p e s m args below meth c s₁ B hml hv
  obtain ⟨rfl, hsz, hP, hK, hD0, hJ⟩ := hv
  have hx := B.exec
  have hb := B.bytes
  have hr := B.returns
  have hts := atoms_spec (ws := w_Ca_init) B.pre
  have hB : ∀ w ∈ gx_B, w.before _ s = true := fun w h => hts w (List.mem_cons_of_mem _ h)
  have hown : s.vm.findClass RCa = some m.cls := findClass_of_methodNamed B.named
  have hlocks := B.notSynchronized
  have hin : meth.name = "<init>" := (name_of_methodNamed B.named B.method).1
  subst hsz
  have haS := (Array.getElem?_eq_some_iff.mp hJ.2.2.2.2.2.1).1
  have haT := (Array.getElem?_eq_some_iff.mp hJ.2.2.2.2.2.2).1
  have hoS : ¬ va_A [(h0, .inr (1, [.null, .null, .int 0, .int 0, .int 0, .int 0]))] s.heap.size aS := jx_off hP hJ.2.2.2.2.2.1 hJ.2.2.2.1.stat haS
  have hoT : ¬ va_A [(h0, .inr (1, [.null, .null, .int 0, .int 0, .int 0, .int 0]))] s.heap.size aT := jx_off hP hJ.2.2.2.2.2.2 hJ.2.2.2.2.1.stat haT
  have hD := hD0.self (sz := s.heap.size)
  generalize hAe : va_A [(h0, .inr (1, [.null, .null, .int 0, .int 0, .int 0, .int 0]))] s.heap.size = A at hD hoS hoT ⊢
  have hA : ∀ q : Nat, s.heap.size ≤ q → A q := fun q h => by rw [← hAe]; exact Or.inr h
  have hS : va_S A s.heap s.heap [] := va_S.rf
  have hP : va_P (dC, dI) gx_cl [(h0, .inr (1, [.null, .null, .int 0, .int 0, .int 0, .int 0]))] s.heap := hP
  have hl := lv_entry ([.ref h0]) (n := 1) (Nat.le_of_ble_eq_true rfl)
  rw [lg_entry_eq]
  generalize (lg_sl ([.ref h0]) ++ List.replicate (1 - (lg_sl ([.ref h0])).length) Slot.unset).toArray = ls at hl ⊢
  have hl : lv_has ls 1 [(0, .ref h0)] := hl
  refine lv_aload_n hx hb d_Ca_init_0 rfl (lv_at hl 0 rfl) ?_
  refine W.objInit hx hb hown (hB _ hw_101) (hB _ hw_94) (hB _ hw_oc) rfl (by rw [hml]; exact hl.1) rfl d_Ca_init_1 (Nat.le_of_ble_eq_true rfl) (Nat.le_of_ble_eq_true rfl) ?_
  refine W.eq (g2 := F0 m 4 ls []) rfl ?_
  refine lv_aload_n hx hb d_Ca_init_4 rfl (lv_at hl 0 rfl) ?_
  refine lv_bipush (v := 44) hx hb d_Ca_init_5 (by decide) ?_
  refine lv_bipush (v := 64) hx hb d_Ca_init_7 (by decide) ?_
  refine mx_newK (D := (dC, dI)) hx hb hown (hB _ hw_102) hJ.2.1 (hB _ hw_131) hK hP hD hS hA (by decide) (by decide) rfl rfl (Nat.le_of_ble_eq_true rfl) (Nat.le_of_ble_eq_true rfl) d_Ca_init_9 (fun q1 cA2 cA3 H hK hP hD hS => ?_)
  have hP : va_P (dC, dI) gx_cl ([(h0, .inr (1, [.null, .null, .int 0, .int 0, .int 0, .int 0])), (q1, .inl (cA2, 44, .inr (.inr (.inr (.inr (mx_g q1 44))))))] ++ mx_Y q1 cA3) H := hP
  have hD : va_D A ([(h0, .inr (1, [.null, .null, .int 0, .int 0, .int 0, .int 0])), (q1, .inl (cA2, 44, .inr (.inr (.inr (.inr (mx_g q1 44))))))] ++ mx_Y q1 cA3) := hD
  have hK : va_K (dC, dI) gx_cl [(cA2, .array .int), (cA3, .int)] s := hK
  refine W.widen (k := 45) (n := 2860) (Nat.le_of_ble_eq_true rfl) (Nat.le_of_ble_eq_true rfl) ?_
  refine va_putF (D := (dC, dI)) (ci := 1) (v := .ref q1) (ty := .array (.array .int)) (C := RCa) (T := FCa) (N := 6) hx hb hB in_Ca tCa tCa_ok nCa hown hK hP hD hS 0 rfl rfl 0 (by decide) (hB _ hw_104) (fun _ h9 => h9) rfl hin rfl (by decide +kernel) rfl rfl (Nat.le_of_ble_eq_true rfl) d_Ca_init_13 (fun H locs hP hD hS => ?_)
  have hP : va_P (dC, dI) gx_cl ([(h0, .inr (1, [.ref q1, .null, .int 0, .int 0, .int 0, .int 0])), (q1, .inl (cA2, 44, .inr (.inr (.inr (.inr (mx_g q1 44))))))] ++ mx_Y q1 cA3) H := hP
  have hD : va_D A ([(h0, .inr (1, [.ref q1, .null, .int 0, .int 0, .int 0, .int 0])), (q1, .inl (cA2, 44, .inr (.inr (.inr (.inr (mx_g q1 44))))))] ++ mx_Y q1 cA3) := hD
  refine lv_aload_n hx hb d_Ca_init_16 rfl (lv_at hl 0 rfl) ?_
  refine lv_bipush (v := 44) hx hb d_Ca_init_17 (by decide) ?_
  refine va_newa (D := (dC, dI)) (atype := .boolean) (a0 := (44, .inl (fun _ => 0))) (ty := .boolean) hx hb (hB _ hw_132) rfl hK hP hD hS hA (fun _ => rfl) (by decide) (N' := 44) rfl (by decide) (Nat.le_of_ble_eq_true rfl) (Nat.le_of_ble_eq_true rfl) d_Ca_init_19 (fun q4 cA5 H hK hP hD hS => ?_)
  have hP := hP.sub (ws' := ([(h0, .inr (1, [.ref q1, .null, .int 0, .int 0, .int 0, .int 0])), (q1, .inl (cA2, 44, .inr (.inr (.inr (.inr (mx_g q1 44)))))), (q4, .inl (cA5, 44, .inl (fun _ => 0)))] ++ mx_Y q1 cA3)) [0, 1, 46, 2, 3, 4, 5, 6, 7, 8, 9, 10, 11, 12, 13, 14, 15, 16, 17, 18, 19, 20, 21, 22, 23, 24, 25, 26, 27, 28, 29, 30, 31, 32, 33, 34, 35, 36, 37, 38, 39, 40, 41, 42, 43, 44, 45] rfl
  have hD := hD.sub (ws' := ([(h0, .inr (1, [.ref q1, .null, .int 0, .int 0, .int 0, .int 0])), (q1, .inl (cA2, 44, .inr (.inr (.inr (.inr (mx_g q1 44)))))), (q4, .inl (cA5, 44, .inl (fun _ => 0)))] ++ mx_Y q1 cA3)) [0, 1, 46, 2, 3, 4, 5, 6, 7, 8, 9, 10, 11, 12, 13, 14, 15, 16, 17, 18, 19, 20, 21, 22, 23, 24, 25, 26, 27, 28, 29, 30, 31, 32, 33, 34, 35, 36, 37, 38, 39, 40, 41, 42, 43, 44, 45] (by decide) rfl
  have hK : va_K (dC, dI) gx_cl [(cA2, .array .int), (cA3, .int), (cA5, .boolean)] s := hK
  refine W.widen (k := 46) (n := 2904) (Nat.le_of_ble_eq_true rfl) (Nat.le_of_ble_eq_true rfl) ?_
  refine va_putF (D := (dC, dI)) (ci := 1) (v := .ref q4) (ty := .array .boolean) (C := RCa) (T := FCa) (N := 6) hx hb hB in_Ca tCa tCa_ok nCa hown hK hP hD hS 0 rfl rfl 1 (by decide) (hB _ hw_107) (fun _ h9 => h9) rfl hin rfl (by decide +kernel) rfl rfl (Nat.le_of_ble_eq_true rfl) d_Ca_init_21 (fun H locs hP hD hS => ?_)
  have hP : va_P (dC, dI) gx_cl ([(h0, .inr (1, [.ref q1, .ref q4, .int 0, .int 0, .int 0, .int 0])), (q1, .inl (cA2, 44, .inr (.inr (.inr (.inr (mx_g q1 44)))))), (q4, .inl (cA5, 44, .inl (fun _ => 0)))] ++ mx_Y q1 cA3) H := hP
  have hD : va_D A ([(h0, .inr (1, [.ref q1, .ref q4, .int 0, .int 0, .int 0, .int 0])), (q1, .inl (cA2, 44, .inr (.inr (.inr (.inr (mx_g q1 44)))))), (q4, .inl (cA5, 44, .inl (fun _ => 0)))] ++ mx_Y q1 cA3) := hD
  refine lv_aload_n hx hb d_Ca_init_24 rfl (lv_at hl 0 rfl) ?_
  refine lv_iconst (v := (-1)) hx hb d_Ca_init_25 (by decide) ?_
  refine va_put (D := (dC, dI)) (ci := 1) (v := .int (-1)) (ty := .int) (C := RCa) (T := FCa) (N := 6) hx hb hB in_Ca tCa tCa_ok nCa hown hK hP hD hS 0 rfl rfl 3 (by decide) (hB _ hw_112) (fun _ h9 => h9) rfl (by decide +kernel) rfl rfl (Nat.le_of_ble_eq_true rfl) d_Ca_init_26 (fun H locs hP hD hS => ?_)
  have hP : va_P (dC, dI) gx_cl ([(h0, .inr (1, [.ref q1, .ref q4, .int 0, .int (-1), .int 0, .int 0])), (q1, .inl (cA2, 44, .inr (.inr (.inr (.inr (mx_g q1 44)))))), (q4, .inl (cA5, 44, .inl (fun _ => 0)))] ++ mx_Y q1 cA3) H := hP
  have hD : va_D A ([(h0, .inr (1, [.ref q1, .ref q4, .int 0, .int (-1), .int 0, .int 0])), (q1, .inl (cA2, 44, .inr (.inr (.inr (.inr (mx_g q1 44)))))), (q4, .inl (cA5, 44, .inl (fun _ => 0)))] ++ mx_Y q1 cA3) := hD
  refine W.widen (k := 46) (n := 2904) (Nat.le_of_ble_eq_true rfl) (Nat.le_of_ble_eq_true rfl) ?_
  exact W.vret hx hb hr (fun t ht hW => ⟨⟨(), rfl, trivial, q1, q4, cA2, cA3, cA5, by rw [ht]; exact hP, hD, va_K.moved hW.alike hK⟩, hS.F ht⟩) hS.2.2 d_Ca_init_29
