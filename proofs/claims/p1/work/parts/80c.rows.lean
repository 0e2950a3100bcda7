set_option maxHeartbeats 4000000 in
set_option maxRecDepth 100000 in
theorem p_TS_block (l : Launch) (dC : Nat → ClassId) (dI : Nat → Nat → Nat) (h0 : Nat) (q : Nat → Nat) (ci : Nat → ClassId) (p0 p1 : Int32) (h1 : ¬ p0 < 0) (h2 : ¬ 44 ≤ p0) (h3 : ¬ p1 < 0) (h4 : ¬ 64 ≤ p1) : Met l y_TS_block w_TS_block ({ frames := 1, cells := 0, slots := 0, locals := 21 }) (va_Pc [.ref h0, .int p0, .int p1] (fun U => va_P (dC, dI) gx_cl [(h0, .inr (8, [.ref (q 0), .ref (q 3), .ref (q 18), .ref (q 19), .ref (q 6), .ref (q 20), .ref (q 21), .ref (q 22), .ref (q 23), .ref (q 15), .ref (q 17), .int 0, .ref (q 24), .ref (q 25), .int 0])), ((q 0), .inr (1, [.ref (q 1), .ref (q 2), .int 0, .int (-1), .int 0, .int 0])), ((q 1), .inl ((ci 0), 44, .inr (.inr (.inr (.inr (mx_g (q 1) 44)))))), ((q 2), .inl ((ci 2), 44, .inl (fun _ => 0))), ((q 1 + 1 + p0.toNatClampNeg), .inl ((ci 1), 64, .inl (fun _ => 0)))] U.heap ∧ va_K (dC, dI) gx_cl (kTS ci) U)) (px_Q (some (.int 0))) 0 0 (fun _ => False) := by
  refine Met.ofW (cc := b_TS_block) (maxL := 3) (ret := (some .int)) (by decide) rfl ?_
  intro p e s m args below meth c s₁ B hml hv
  obtain ⟨rfl, hP, hK⟩ := hv
  have hx := B.exec
  have hb := B.bytes
  have hr := B.returns
  have hts := atoms_spec (ws := w_TS_block) B.pre
  have hB : ∀ w ∈ gx_B, w.before _ s = true := fun w h => hts w (List.mem_cons_of_mem _ h)
  have hown : s.vm.findClass "TapeSealer" = some m.cls := findClass_of_methodNamed B.named
  have hlocks := B.notSynchronized
  have hl := lv_entry ([.ref h0, .int p0, .int p1]) (n := 3) (Nat.le_of_ble_eq_true rfl)
  rw [lg_entry_eq]
  generalize (lg_sl ([.ref h0, .int p0, .int p1]) ++ List.replicate (3 - (lg_sl ([.ref h0, .int p0, .int p1])).length) Slot.unset).toArray = ls at hl ⊢
  have hl : lv_has ls 3 [(0, .ref h0), (1, .int p0), (2, .int p1)] := hl
  refine lv_iload_n hx hb d_TS_block_0 rfl (lv_at hl 1 rfl) ?_
  refine lv_iload_n hx hb d_TS_block_1 rfl (lv_at hl 2 rfl) ?_
  refine px_go (va_runS (As := [.int p0, .int p1]) (rest := []) ⟨hx, hb, hml, hown, hts⟩ (p_TS_isByte1 l p0 p1 h1 h2 h3 h4) (cwS 2 hts (gx_goodS hw_841 hw_842 hw_66 k_TS_isByte) rfl rfl rfl (by decide +kernel) ⟨(Nat.le_of_ble_eq_true rfl), (Nat.le_of_ble_eq_true rfl)⟩) ⟨fun a U g mk q => q, fun U hU hW => ⟨rfl, trivial⟩⟩ rfl rfl hl.1 rfl (lv_room (Nat.le_of_ble_eq_true rfl)) d_TS_block_2 ⟨(Nat.le_of_ble_eq_true rfl), (Nat.le_of_ble_eq_true rfl)⟩) ?_
  refine W.eq (g2 := F0 m 5 ls [.int 1]) rfl ?_
  refine lv_if_ne (tgt := 16) hx hb d_TS_block_5 (by decide) (fun _ => ?_) (fun h9 => absurd h9 (by decide))
  refine lv_aload_n hx hb d_TS_block_16 rfl (lv_at hl 0 rfl) ?_
  refine va_get (D := (dC, dI)) (ci := 8) (v := .ref (q 0)) (C := RTS) (T := FTS) (N := 15) hx hb hB in_TS hown hK hP 0 rfl rfl 0 (by decide) (hB _ hw_307) (fun _ h9 => h9) rfl d_TS_block_17 ?_
  refine va_get (D := (dC, dI)) (ci := 1) (v := .ref (q 2)) (C := RCa) (T := FCa) (N := 6) hx hb hB in_Ca hown hK hP 1 rfl rfl 1 (by decide) (hB _ hw_109) (fun _ h9 => h9) rfl d_TS_block_20 ?_
  refine lv_iload_n hx hb d_TS_block_23 rfl (lv_at hl 1 rfl) ?_
  refine va_zald (D := (dC, dI)) hx hb hK hP 3 2 rfl rfl (gx_in44 h1 h2) d_TS_block_24 ?_
  refine W.eq (g2 := F0 m 25 ls [.int 0]) rfl ?_
  refine lv_if_eq (tgt := 32) hx hb d_TS_block_25 (by decide) (fun _ => ?_) (fun h9 => absurd (by decide) h9)
  refine lv_aload_n hx hb d_TS_block_32 rfl (lv_at hl 0 rfl) ?_
  refine va_get (D := (dC, dI)) (ci := 8) (v := .ref (q 0)) (C := RTS) (T := FTS) (N := 15) hx hb hB in_TS hown hK hP 0 rfl rfl 0 (by decide) (hB _ hw_307) (fun _ h9 => h9) rfl d_TS_block_33 ?_
  refine va_get (D := (dC, dI)) (ci := 1) (v := .ref (q 1)) (C := RCa) (T := FCa) (N := 6) hx hb hB in_Ca hown hK hP 1 rfl rfl 0 (by decide) (hB _ hw_106) (fun _ h9 => h9) rfl d_TS_block_36 ?_
  refine lv_iload_n hx hb d_TS_block_39 rfl (lv_at hl 1 rfl) ?_
  refine mx_ald (D := (dC, dI)) hx hb hK hP 2 0 rfl rfl (jn := p0.toNatClampNeg) rfl (gx_in44 h1 h2) d_TS_block_40 ?_
  refine W.eq (g2 := F0 m 41 ls [.ref (q 1 + 1 + p0.toNatClampNeg)]) rfl ?_
  refine lv_iload_n hx hb d_TS_block_41 rfl (lv_at hl 2 rfl) ?_
  refine va_iald (D := (dC, dI)) hx hb hK hP 4 1 rfl rfl (gx_in64 h3 h4) d_TS_block_42 ?_
  refine W.eq (g2 := F0 m 43 ls [.int 0]) rfl ?_
  exact W.iret (v := 0) hx hb hr (fun t ht _ => ⟨rfl, ht⟩) (fun _ h => nomatch h) d_TS_block_43
set_option maxHeartbeats 4000000 in
set_option maxRecDepth 100000 in
theorem x_epoch (l : Launch) (hl0 : l.stackTraces = false) (dC : Nat → ClassId) (dI : Nat → Nat → Nat) (aS aT : Nat) (cS cT : Cell) (x0 : Nat) (q : Nat → Nat) (ci : Nat → ClassId) (o0 : Nat) : Met l y_Lw_epoch w_Lw_epoch ({ frames := 7, cells := 1, slots := 6, locals := 140 }) (va_Pc [.ref x0, .ref o0] (fun U => va_P (dC, dI) gx_cl (wTS x0 q ci) U.heap ∧ va_K (dC, dI) gx_cl (kTS ci) U ∧ jx aS aT cS cT U)) (hx_Q 1) 1 6 (fun _ => False) := by
  refine va_MetW (cc := b_Lw_epoch) (maxL := 3) (ret := (some .int)) (hh := [(0, 8, 11, 13)]) (by decide) rfl ?_
  intro p e s m args below meth c s₁ B hml hv
  obtain ⟨rfl, hP, hK, hJ⟩ := hv
  have hx := B.exec
  have hb := B.bytes
  have hr := B.returns
  have hts := atoms_spec (ws := w_Lw_epoch) B.pre
  have hB : ∀ w ∈ gx_B, w.before _ s = true := fun w h => hts w (List.mem_cons_of_mem _ h)
  have hown : s.vm.findClass "TapeSealerLaw" = some m.cls := findClass_of_methodNamed B.named
  have hlocks := B.notSynchronized
  have htab : c.exceptionTable.toList = (⟨0, 8, 11, 13⟩ : ExceptionTableEntry) :: [] := tx_table B (hts _ List.mem_cons_self)
  have hl := lv_entry ([.ref x0, .ref o0]) (n := 3) (Nat.le_of_ble_eq_true rfl)
  rw [lg_entry_eq]
  generalize (lg_sl ([.ref x0, .ref o0]) ++ List.replicate (3 - (lg_sl ([.ref x0, .ref o0])).length) Slot.unset).toArray = ls at hl ⊢
  have hl : lv_has ls 3 [(0, .ref x0), (1, .ref o0)] := hl
  refine lv_aload_n hx hb d_Lw_epoch_0 rfl (lv_at hl 1 rfl) ?_
  refine lv_iconst (v := 0) hx hb d_Lw_epoch_1 (by decide) ?_
  refine lv_aload_n hx hb d_Lw_epoch_2 rfl (lv_at hl 0 rfl) ?_
  refine W.eq (g2 := F0 m 3 ls [.ref x0, .int 0, .ref o0]) rfl ?_
  refine tx_callV (E := "java/lang/IllegalStateException") (name := "java/lang/IllegalStateException") (As := []) (rest := [.int 0, .ref o0]) ⟨hx, hb, hml, hown, hts⟩ (t_TS_epoch l hl0 dC dI aS aT cS cT x0 q ci) (cwV 0 hts (gx_goodV hw_466 hw_467 hw_468 hw_66 k_TS_epoch) rfl rfl rfl (by decide +kernel) ⟨(Nat.le_of_ble_eq_true rfl), (Nat.le_of_ble_eq_true rfl)⟩) ⟨fun a U g mk q => by obtain ⟨q0, qP, qK, qJ⟩ := q; exact ⟨q0, qP, va_K.moved (u := U) (U := U.calling g mk a) (Vm.Alike.refl U.vm) qK, qJ.call g mk a⟩, va_recv hK hP rfl (q0 := 0) rfl, fun U hU hW => ⟨rfl, by rw [hU]; exact hP, va_K.moved hW.alike hK, hJ.move hW (by rw [hU]) (by rw [hU])⟩⟩ rfl hl.1 rfl (lv_room (Nat.le_of_ble_eq_true rfl)) d_Lw_epoch_3 ⟨(Nat.le_of_ble_eq_true rfl), (Nat.le_of_ble_eq_true rfl)⟩ htab (by decide) (by decide) (hB _ hw_465) (hJ.word 472 (by decide +kernel) rfl) (fun qe H1 hz hk => ?_)
  refine W.eq (g2 := F0 m 11 ls [.ref qe]) rfl ?_
  refine W.widen (k := 1) (n := 6) (Nat.le_of_ble_eq_true rfl) (Nat.le_of_ble_eq_true rfl) ?_
  refine lv_astore_n hx hb d_Lw_epoch_11 rfl hl (by decide) rfl (fun ls hl => ?_)
  refine lv_iconst (v := 1) hx hb d_Lw_epoch_12 (by decide) ?_
  exact W.iret (v := 1) hx hb hr (fun t ht hW => ⟨rfl, by rw [ht]; exact hz, fun z d h => by rw [ht]; exact hk z d h⟩) (fun _ h => nomatch h) d_Lw_epoch_13
set_option maxHeartbeats 4000000 in
set_option maxRecDepth 100000 in
theorem x_create (l : Launch) (hl0 : l.stackTraces = false) (dC : Nat → ClassId) (dI : Nat → Nat → Nat) (aS aT : Nat) (cS cT : Cell) (x0 : Nat) (q : Nat → Nat) (ci : Nat → ClassId) (o0 : Nat) (p0 : Int32) : Met l y_Lw_create w_Lw_create ({ frames := 7, cells := 1, slots := 6, locals := 142 }) (va_Pc [.ref x0, .int p0, .ref o0] (fun U => va_P (dC, dI) gx_cl (wTS x0 q ci) U.heap ∧ va_K (dC, dI) gx_cl (kTS ci) U ∧ jx aS aT cS cT U)) (hx_Q 1) 1 6 (fun _ => False) := by
  refine va_MetW (cc := b_Lw_create) (maxL := 4) (ret := (some .int)) (hh := [(0, 9, 12, 13)]) (by decide) rfl ?_
  intro p e s m args below meth c s₁ B hml hv
  obtain ⟨rfl, hP, hK, hJ⟩ := hv
  have hx := B.exec
  have hb := B.bytes
  have hr := B.returns
  have hts := atoms_spec (ws := w_Lw_create) B.pre
  have hB : ∀ w ∈ gx_B, w.before _ s = true := fun w h => hts w (List.mem_cons_of_mem _ h)
  have hown : s.vm.findClass "TapeSealerLaw" = some m.cls := findClass_of_methodNamed B.named
  have hlocks := B.notSynchronized
  have htab : c.exceptionTable.toList = (⟨0, 9, 12, 13⟩ : ExceptionTableEntry) :: [] := tx_table B (hts _ List.mem_cons_self)
  have hl := lv_entry ([.ref x0, .int p0, .ref o0]) (n := 4) (Nat.le_of_ble_eq_true rfl)
  rw [lg_entry_eq]
  generalize (lg_sl ([.ref x0, .int p0, .ref o0]) ++ List.replicate (4 - (lg_sl ([.ref x0, .int p0, .ref o0])).length) Slot.unset).toArray = ls at hl ⊢
  have hl : lv_has ls 4 [(0, .ref x0), (1, .int p0), (2, .ref o0)] := hl
  refine lv_aload_n hx hb d_Lw_create_0 rfl (lv_at hl 2 rfl) ?_
  refine lv_iconst (v := 0) hx hb d_Lw_create_1 (by decide) ?_
  refine lv_aload_n hx hb d_Lw_create_2 rfl (lv_at hl 0 rfl) ?_
  refine lv_iload_n hx hb d_Lw_create_3 rfl (lv_at hl 1 rfl) ?_
  refine W.eq (g2 := F0 m 4 ls [.int p0, .ref x0, .int 0, .ref o0]) rfl ?_
  refine tx_callV (E := "java/lang/IllegalStateException") (name := "java/lang/IllegalStateException") (As := [.int p0]) (rest := [.int 0, .ref o0]) ⟨hx, hb, hml, hown, hts⟩ (t_TS_create l hl0 dC dI aS aT cS cT x0 q ci p0) (cwV 1 hts (gx_goodV hw_543 hw_544 hw_545 hw_66 k_TS_create) rfl rfl rfl (by decide +kernel) ⟨(Nat.le_of_ble_eq_true rfl), (Nat.le_of_ble_eq_true rfl)⟩) ⟨fun a U g mk q => by obtain ⟨q0, qP, qK, qJ⟩ := q; exact ⟨q0, qP, va_K.moved (u := U) (U := U.calling g mk a) (Vm.Alike.refl U.vm) qK, qJ.call g mk a⟩, va_recv hK hP rfl (q0 := 0) rfl, fun U hU hW => ⟨rfl, by rw [hU]; exact hP, va_K.moved hW.alike hK, hJ.move hW (by rw [hU]) (by rw [hU])⟩⟩ rfl hl.1 rfl (lv_room (Nat.le_of_ble_eq_true rfl)) d_Lw_create_4 ⟨(Nat.le_of_ble_eq_true rfl), (Nat.le_of_ble_eq_true rfl)⟩ htab (by decide) (by decide) (hB _ hw_465) (hJ.word 472 (by decide +kernel) rfl) (fun qe H1 hz hk => ?_)
  refine W.eq (g2 := F0 m 12 ls [.ref qe]) rfl ?_
  refine W.widen (k := 1) (n := 6) (Nat.le_of_ble_eq_true rfl) (Nat.le_of_ble_eq_true rfl) ?_
  refine lv_astore_n hx hb d_Lw_create_12 rfl hl (by decide) rfl (fun ls hl => ?_)
  refine lv_iconst (v := 1) hx hb d_Lw_create_13 (by decide) ?_
  exact W.iret (v := 1) hx hb hr (fun t ht hW => ⟨rfl, by rw [ht]; exact hz, fun z d h => by rw [ht]; exact hk z d h⟩) (fun _ h => nomatch h) d_Lw_create_14
set_option maxHeartbeats 4000000 in
set_option maxRecDepth 100000 in
theorem x_append (l : Launch) (hl0 : l.stackTraces = false) (dC : Nat → ClassId) (dI : Nat → Nat → Nat) (aS aT : Nat) (cS cT : Cell) (x0 : Nat) (q : Nat → Nat) (ci : Nat → ClassId) (o0 : Nat) : Met l y_Lw_append w_Lw_append ({ frames := 7, cells := 1, slots := 6, locals := 141 }) (va_Pc [.ref x0, .ref o0] (fun U => va_P (dC, dI) gx_cl (wTS x0 q ci) U.heap ∧ va_K (dC, dI) gx_cl (kTS ci) U ∧ jx aS aT cS cT U)) (hx_Q 1) 1 6 (fun _ => False) := by
  refine va_MetW (cc := b_Lw_append) (maxL := 3) (ret := (some .int)) (hh := [(0, 8, 11, 13)]) (by decide) rfl ?_
  intro p e s m args below meth c s₁ B hml hv
  obtain ⟨rfl, hP, hK, hJ⟩ := hv
  have hx := B.exec
  have hb := B.bytes
  have hr := B.returns
  have hts := atoms_spec (ws := w_Lw_append) B.pre
  have hB : ∀ w ∈ gx_B, w.before _ s = true := fun w h => hts w (List.mem_cons_of_mem _ h)
  have hown : s.vm.findClass "TapeSealerLaw" = some m.cls := findClass_of_methodNamed B.named
  have hlocks := B.notSynchronized
  have htab : c.exceptionTable.toList = (⟨0, 8, 11, 13⟩ : ExceptionTableEntry) :: [] := tx_table B (hts _ List.mem_cons_self)
  have hl := lv_entry ([.ref x0, .ref o0]) (n := 3) (Nat.le_of_ble_eq_true rfl)
  rw [lg_entry_eq]
  generalize (lg_sl ([.ref x0, .ref o0]) ++ List.replicate (3 - (lg_sl ([.ref x0, .ref o0])).length) Slot.unset).toArray = ls at hl ⊢
  have hl : lv_has ls 3 [(0, .ref x0), (1, .ref o0)] := hl
  refine lv_aload_n hx hb d_Lw_append_0 rfl (lv_at hl 1 rfl) ?_
  refine lv_iconst (v := 0) hx hb d_Lw_append_1 (by decide) ?_
  refine lv_aload_n hx hb d_Lw_append_2 rfl (lv_at hl 0 rfl) ?_
  refine W.eq (g2 := F0 m 3 ls [.ref x0, .int 0, .ref o0]) rfl ?_
  refine tx_callV (E := "java/lang/IllegalStateException") (name := "java/lang/IllegalStateException") (As := []) (rest := [.int 0, .ref o0]) ⟨hx, hb, hml, hown, hts⟩ (t_TS_append l hl0 dC dI aS aT cS cT x0 q ci) (cwV 0 hts (gx_goodV hw_554 hw_555 hw_556 hw_66 k_TS_append) rfl rfl rfl (by decide +kernel) ⟨(Nat.le_of_ble_eq_true rfl), (Nat.le_of_ble_eq_true rfl)⟩) ⟨fun a U g mk q => by obtain ⟨q0, qP, qK, qJ⟩ := q; exact ⟨q0, qP, va_K.moved (u := U) (U := U.calling g mk a) (Vm.Alike.refl U.vm) qK, qJ.call g mk a⟩, va_recv hK hP rfl (q0 := 0) rfl, fun U hU hW => ⟨rfl, by rw [hU]; exact hP, va_K.moved hW.alike hK, hJ.move hW (by rw [hU]) (by rw [hU])⟩⟩ rfl hl.1 rfl (lv_room (Nat.le_of_ble_eq_true rfl)) d_Lw_append_3 ⟨(Nat.le_of_ble_eq_true rfl), (Nat.le_of_ble_eq_true rfl)⟩ htab (by decide) (by decide) (hB _ hw_465) (hJ.word 472 (by decide +kernel) rfl) (fun qe H1 hz hk => ?_)
  refine W.eq (g2 := F0 m 11 ls [.ref qe]) rfl ?_
  refine W.widen (k := 1) (n := 6) (Nat.le_of_ble_eq_true rfl) (Nat.le_of_ble_eq_true rfl) ?_
  refine lv_astore_n hx hb d_Lw_append_11 rfl hl (by decide) rfl (fun ls hl => ?_)
  refine lv_iconst (v := 1) hx hb d_Lw_append_12 (by decide) ?_
  exact W.iret (v := 1) hx hb hr (fun t ht hW => ⟨rfl, by rw [ht]; exact hz, fun z d h => by rw [ht]; exact hk z d h⟩) (fun _ h => nomatch h) d_Lw_append_13
set_option maxHeartbeats 4000000 in
set_option maxRecDepth 100000 in
theorem x_finish (l : Launch) (hl0 : l.stackTraces = false) (dC : Nat → ClassId) (dI : Nat → Nat → Nat) (aS aT : Nat) (cS cT : Cell) (x0 : Nat) (q : Nat → Nat) (ci : Nat → ClassId) (o0 : Nat) : Met l y_Lw_finish w_Lw_finish ({ frames := 7, cells := 1, slots := 6, locals := 142 }) (va_Pc [.ref x0, .ref o0] (fun U => va_P (dC, dI) gx_cl (wTS x0 q ci) U.heap ∧ va_K (dC, dI) gx_cl (kTS ci) U ∧ jx aS aT cS cT U)) (hx_Q 1) 1 6 (fun _ => False) := by
  refine va_MetW (cc := b_Lw_finish) (maxL := 3) (ret := (some .int)) (hh := [(0, 8, 11, 13)]) (by decide) rfl ?_
  intro p e s m args below meth c s₁ B hml hv
  obtain ⟨rfl, hP, hK, hJ⟩ := hv
  have hx := B.exec
  have hb := B.bytes
  have hr := B.returns
  have hts := atoms_spec (ws := w_Lw_finish) B.pre
  have hB : ∀ w ∈ gx_B, w.before _ s = true := fun w h => hts w (List.mem_cons_of_mem _ h)
  have hown : s.vm.findClass "TapeSealerLaw" = some m.cls := findClass_of_methodNamed B.named
  have hlocks := B.notSynchronized
  have htab : c.exceptionTable.toList = (⟨0, 8, 11, 13⟩ : ExceptionTableEntry) :: [] := tx_table B (hts _ List.mem_cons_self)
  have hl := lv_entry ([.ref x0, .ref o0]) (n := 3) (Nat.le_of_ble_eq_true rfl)
  rw [lg_entry_eq]
  generalize (lg_sl ([.ref x0, .ref o0]) ++ List.replicate (3 - (lg_sl ([.ref x0, .ref o0])).length) Slot.unset).toArray = ls at hl ⊢
  have hl : lv_has ls 3 [(0, .ref x0), (1, .ref o0)] := hl
  refine lv_aload_n hx hb d_Lw_finish_0 rfl (lv_at hl 1 rfl) ?_
  refine lv_iconst (v := 0) hx hb d_Lw_finish_1 (by decide) ?_
  refine lv_aload_n hx hb d_Lw_finish_2 rfl (lv_at hl 0 rfl) ?_
  refine W.eq (g2 := F0 m 3 ls [.ref x0, .int 0, .ref o0]) rfl ?_
  refine tx_callV (E := "java/lang/IllegalStateException") (name := "java/lang/IllegalStateException") (As := []) (rest := [.int 0, .ref o0]) ⟨hx, hb, hml, hown, hts⟩ (t_TS_finish l hl0 dC dI aS aT cS cT x0 q ci) (cwV 0 hts (gx_goodV hw_577 hw_578 hw_579 hw_66 k_TS_finish) rfl rfl rfl (by decide +kernel) ⟨(Nat.le_of_ble_eq_true rfl), (Nat.le_of_ble_eq_true rfl)⟩) ⟨fun a U g mk q => by obtain ⟨q0, qP, qK, qJ⟩ := q; exact ⟨q0, qP, va_K.moved (u := U) (U := U.calling g mk a) (Vm.Alike.refl U.vm) qK, qJ.call g mk a⟩, va_recv hK hP rfl (q0 := 0) rfl, fun U hU hW => ⟨rfl, by rw [hU]; exact hP, va_K.moved hW.alike hK, hJ.move hW (by rw [hU]) (by rw [hU])⟩⟩ rfl hl.1 rfl (lv_room (Nat.le_of_ble_eq_true rfl)) d_Lw_finish_3 ⟨(Nat.le_of_ble_eq_true rfl), (Nat.le_of_ble_eq_true rfl)⟩ htab (by decide) (by decide) (hB _ hw_465) (hJ.word 472 (by decide +kernel) rfl) (fun qe H1 hz hk => ?_)
  refine W.eq (g2 := F0 m 11 ls [.ref qe]) rfl ?_
  refine W.widen (k := 1) (n := 6) (Nat.le_of_ble_eq_true rfl) (Nat.le_of_ble_eq_true rfl) ?_
  refine lv_astore_n hx hb d_Lw_finish_11 rfl hl (by decide) rfl (fun ls hl => ?_)
  refine lv_iconst (v := 1) hx hb d_Lw_finish_12 (by decide) ?_
  exact W.iret (v := 1) hx hb hr (fun t ht hW => ⟨rfl, by rw [ht]; exact hz, fun z d h => by rw [ht]; exact hk z d h⟩) (fun _ h => nomatch h) d_Lw_finish_13
set_option maxHeartbeats 4000000 in
set_option maxRecDepth 100000 in
theorem x_read (l : Launch) (hl0 : l.stackTraces = false) (dC : Nat → ClassId) (dI : Nat → Nat → Nat) (aS aT : Nat) (cS cT : Cell) (x0 : Nat) (q : Nat → Nat) (ci : Nat → ClassId) (o0 : Nat) (p0 p1 p2 : Int32) : Met l y_Lw_read w_Lw_read ({ frames := 7, cells := 1, slots := 6, locals := 146 }) (va_Pc [.ref x0, .int p0, .int p1, .int p2, .ref o0] (fun U => va_P (dC, dI) gx_cl (wTS x0 q ci) U.heap ∧ va_K (dC, dI) gx_cl (kTS ci) U ∧ jx aS aT cS cT U)) (hx_Q 1) 1 6 (fun _ => False) := by
  refine va_MetW (cc := b_Lw_read) (maxL := 6) (ret := (some .int)) (hh := [(0, 12, 15, 29), (0, 12, 19, 31), (0, 12, 23, 13), (0, 12, 27, 33)]) (by decide) rfl ?_
  intro p e s m args below meth c s₁ B hml hv
  obtain ⟨rfl, hP, hK, hJ⟩ := hv
  have hx := B.exec
  have hb := B.bytes
  have hr := B.returns
  have hts := atoms_spec (ws := w_Lw_read) B.pre
  have hB : ∀ w ∈ gx_B, w.before _ s = true := fun w h => hts w (List.mem_cons_of_mem _ h)
  have hown : s.vm.findClass "TapeSealerLaw" = some m.cls := findClass_of_methodNamed B.named
  have hlocks := B.notSynchronized
  have htab : c.exceptionTable.toList = (⟨0, 12, 15, 29⟩ : ExceptionTableEntry) :: [⟨0, 12, 19, 31⟩, ⟨0, 12, 23, 13⟩, ⟨0, 12, 27, 33⟩] := tx_table B (hts _ List.mem_cons_self)
  have hl := lv_entry ([.ref x0, .int p0, .int p1, .int p2, .ref o0]) (n := 6) (Nat.le_of_ble_eq_true rfl)
  rw [lg_entry_eq]
  generalize (lg_sl ([.ref x0, .int p0, .int p1, .int p2, .ref o0]) ++ List.replicate (6 - (lg_sl ([.ref x0, .int p0, .int p1, .int p2, .ref o0])).length) Slot.unset).toArray = ls at hl ⊢
  have hl : lv_has ls 6 [(0, .ref x0), (1, .int p0), (2, .int p1), (3, .int p2), (4, .ref o0)] := hl
  refine lv_aload hx hb d_Lw_read_0 (lv_at hl 4 rfl) ?_
  refine lv_iconst (v := 0) hx hb d_Lw_read_2 (by decide) ?_
  refine lv_aload_n hx hb d_Lw_read_3 rfl (lv_at hl 0 rfl) ?_
  refine lv_iload_n hx hb d_Lw_read_4 rfl (lv_at hl 1 rfl) ?_
  refine lv_iload_n hx hb d_Lw_read_5 rfl (lv_at hl 2 rfl) ?_
  refine lv_iload_n hx hb d_Lw_read_6 rfl (lv_at hl 3 rfl) ?_
  refine W.eq (g2 := F0 m 7 ls [.int p2, .int p1, .int p0, .ref x0, .int 0, .ref o0]) rfl ?_
  refine tx_callV (E := "java/util/NoSuchElementException") (name := "java/util/NoSuchElementException") (As := [.int p0, .int p1, .int p2]) (rest := [.int 0, .ref o0]) ⟨hx, hb, hml, hown, hts⟩ (t_TS_read l hl0 dC dI aS aT cS cT x0 q ci p0 p1 p2) (cwV 3 hts (gx_goodV hw_660 hw_661 hw_662 hw_66 k_TS_read) rfl rfl rfl (by decide +kernel) ⟨(Nat.le_of_ble_eq_true rfl), (Nat.le_of_ble_eq_true rfl)⟩) ⟨fun a U g mk q => by obtain ⟨q0, qP, qK, qJ⟩ := q; exact ⟨q0, qP, va_K.moved (u := U) (U := U.calling g mk a) (Vm.Alike.refl U.vm) qK, qJ.call g mk a⟩, va_recv hK hP rfl (q0 := 0) rfl, fun U hU hW => ⟨rfl, by rw [hU]; exact hP, va_K.moved hW.alike hK, hJ.move hW (by rw [hU]) (by rw [hU])⟩⟩ rfl hl.1 rfl (lv_room (Nat.le_of_ble_eq_true rfl)) d_Lw_read_7 ⟨(Nat.le_of_ble_eq_true rfl), (Nat.le_of_ble_eq_true rfl)⟩ htab (by decide) (by decide) (hB _ hw_657) (hJ.word 670 (by decide +kernel) rfl) (fun qe H1 hz hk => ?_)
  refine W.eq (g2 := F0 m 15 ls [.ref qe]) rfl ?_
  refine W.widen (k := 1) (n := 6) (Nat.le_of_ble_eq_true rfl) (Nat.le_of_ble_eq_true rfl) ?_
  refine lv_astore hx hb d_Lw_read_15 hl (by decide) rfl (fun ls hl => ?_)
  refine lv_iconst (v := 1) hx hb d_Lw_read_17 (by decide) ?_
  exact W.iret (v := 1) hx hb hr (fun t ht hW => ⟨rfl, by rw [ht]; exact hz, fun z d h => by rw [ht]; exact hk z d h⟩) (fun _ h => nomatch h) d_Lw_read_18
set_option maxHeartbeats 4000000 in
set_option maxRecDepth 100000 in
theorem x_output (l : Launch) (hl0 : l.stackTraces = false) (dC : Nat → ClassId) (dI : Nat → Nat → Nat) (aS aT : Nat) (cS cT : Cell) (x0 : Nat) (q : Nat → Nat) (ci : Nat → ClassId) (o0 : Nat) (p0 : Int32) : Met l y_Lw_output w_Lw_output ({ frames := 7, cells := 1, slots := 6, locals := 141 }) (va_Pc [.ref x0, .int p0, .ref o0] (fun U => va_P (dC, dI) gx_cl (wTS x0 q ci) U.heap ∧ va_K (dC, dI) gx_cl (kTS ci) U ∧ jx aS aT cS cT U)) (hx_Q 1) 1 6 (fun _ => False) := by
  refine va_MetW (cc := b_Lw_output) (maxL := 4) (ret := (some .int)) (hh := [(0, 9, 12, 38)]) (by decide) rfl ?_
  intro p e s m args below meth c s₁ B hml hv
  obtain ⟨rfl, hP, hK, hJ⟩ := hv
  have hx := B.exec
  have hb := B.bytes
  have hr := B.returns
  have hts := atoms_spec (ws := w_Lw_output) B.pre
  have hB : ∀ w ∈ gx_B, w.before _ s = true := fun w h => hts w (List.mem_cons_of_mem _ h)
  have hown : s.vm.findClass "TapeSealerLaw" = some m.cls := findClass_of_methodNamed B.named
  have hlocks := B.notSynchronized
  have htab : c.exceptionTable.toList = (⟨0, 9, 12, 38⟩ : ExceptionTableEntry) :: [] := tx_table B (hts _ List.mem_cons_self)
  have hl := lv_entry ([.ref x0, .int p0, .ref o0]) (n := 4) (Nat.le_of_ble_eq_true rfl)
  rw [lg_entry_eq]
  generalize (lg_sl ([.ref x0, .int p0, .ref o0]) ++ List.replicate (4 - (lg_sl ([.ref x0, .int p0, .ref o0])).length) Slot.unset).toArray = ls at hl ⊢
  have hl : lv_has ls 4 [(0, .ref x0), (1, .int p0), (2, .ref o0)] := hl
  refine lv_aload_n hx hb d_Lw_output_0 rfl (lv_at hl 2 rfl) ?_
  refine lv_iconst (v := 0) hx hb d_Lw_output_1 (by decide) ?_
  refine lv_aload_n hx hb d_Lw_output_2 rfl (lv_at hl 0 rfl) ?_
  refine lv_iload_n hx hb d_Lw_output_3 rfl (lv_at hl 1 rfl) ?_
  refine W.eq (g2 := F0 m 4 ls [.int p0, .ref x0, .int 0, .ref o0]) rfl ?_
  refine tx_callV (E := "java/lang/IndexOutOfBoundsException") (name := "java/lang/IndexOutOfBoundsException") (As := [.int p0]) (rest := [.int 0, .ref o0]) ⟨hx, hb, hml, hown, hts⟩ (t_TS_output l hl0 dC dI aS aT cS cT x0 q ci p0) (cwV 1 hts (gx_goodV hw_762 hw_763 hw_764 hw_66 k_TS_output) rfl rfl rfl (by decide +kernel) ⟨(Nat.le_of_ble_eq_true rfl), (Nat.le_of_ble_eq_true rfl)⟩) ⟨fun a U g mk q => by obtain ⟨q0, qP, qK, qJ⟩ := q; exact ⟨q0, qP, va_K.moved (u := U) (U := U.calling g mk a) (Vm.Alike.refl U.vm) qK, qJ.call g mk a⟩, va_recv hK hP rfl (q0 := 0) rfl, fun U hU hW => ⟨rfl, by rw [hU]; exact hP, va_K.moved hW.alike hK, hJ.move hW (by rw [hU]) (by rw [hU])⟩⟩ rfl hl.1 rfl (lv_room (Nat.le_of_ble_eq_true rfl)) d_Lw_output_4 ⟨(Nat.le_of_ble_eq_true rfl), (Nat.le_of_ble_eq_true rfl)⟩ htab (by decide) (by decide) (hB _ hw_761) (hJ.word 768 (by decide +kernel) rfl) (fun qe H1 hz hk => ?_)
  refine W.eq (g2 := F0 m 12 ls [.ref qe]) rfl ?_
  refine W.widen (k := 1) (n := 6) (Nat.le_of_ble_eq_true rfl) (Nat.le_of_ble_eq_true rfl) ?_
  refine lv_astore_n hx hb d_Lw_output_12 rfl hl (by decide) rfl (fun ls hl => ?_)
  refine lv_iconst (v := 1) hx hb d_Lw_output_13 (by decide) ?_
  exact W.iret (v := 1) hx hb hr (fun t ht hW => ⟨rfl, by rw [ht]; exact hz, fun z d h => by rw [ht]; exact hk z d h⟩) (fun _ h => nomatch h) d_Lw_output_14
set_option maxHeartbeats 4000000 in
set_option maxRecDepth 100000 in
theorem x_verify (l : Launch) (hl0 : l.stackTraces = false) (dC : Nat → ClassId) (dI : Nat → Nat → Nat) (aS aT : Nat) (cS cT : Cell) (x0 : Nat) (q : Nat → Nat) (ci : Nat → ClassId) (o0 : Nat) (p0 : Int32) : Met l y_Lw_verify w_Lw_verify ({ frames := 7, cells := 1, slots := 6, locals := 144 }) (va_Pc [.ref x0, .int p0, .ref o0] (fun U => va_P (dC, dI) gx_cl (wTS x0 q ci) U.heap ∧ va_K (dC, dI) gx_cl (kTS ci) U ∧ jx aS aT cS cT U)) (hx_Q 1) 1 6 (fun _ => False) := by
  refine va_MetW (cc := b_Lw_verify) (maxL := 4) (ret := (some .int)) (hh := [(0, 9, 12, 29)]) (by decide) rfl ?_
  intro p e s m args below meth c s₁ B hml hv
  obtain ⟨rfl, hP, hK, hJ⟩ := hv
  have hx := B.exec
  have hb := B.bytes
  have hr := B.returns
  have hts := atoms_spec (ws := w_Lw_verify) B.pre
  have hB : ∀ w ∈ gx_B, w.before _ s = true := fun w h => hts w (List.mem_cons_of_mem _ h)
  have hown : s.vm.findClass "TapeSealerLaw" = some m.cls := findClass_of_methodNamed B.named
  have hlocks := B.notSynchronized
  have htab : c.exceptionTable.toList = (⟨0, 9, 12, 29⟩ : ExceptionTableEntry) :: [] := tx_table B (hts _ List.mem_cons_self)
  have hl := lv_entry ([.ref x0, .int p0, .ref o0]) (n := 4) (Nat.le_of_ble_eq_true rfl)
  rw [lg_entry_eq]
  generalize (lg_sl ([.ref x0, .int p0, .ref o0]) ++ List.replicate (4 - (lg_sl ([.ref x0, .int p0, .ref o0])).length) Slot.unset).toArray = ls at hl ⊢
  have hl : lv_has ls 4 [(0, .ref x0), (1, .int p0), (2, .ref o0)] := hl
  refine lv_aload_n hx hb d_Lw_verify_0 rfl (lv_at hl 2 rfl) ?_
  refine lv_iconst (v := 0) hx hb d_Lw_verify_1 (by decide) ?_
  refine lv_aload_n hx hb d_Lw_verify_2 rfl (lv_at hl 0 rfl) ?_
  refine lv_iload_n hx hb d_Lw_verify_3 rfl (lv_at hl 1 rfl) ?_
  refine W.eq (g2 := F0 m 4 ls [.int p0, .ref x0, .int 0, .ref o0]) rfl ?_
  refine tx_callV (E := "java/util/NoSuchElementException") (name := "java/util/NoSuchElementException") (As := [.int p0]) (rest := [.int 0, .ref o0]) ⟨hx, hb, hml, hown, hts⟩ (t_TS_verify l hl0 dC dI aS aT cS cT x0 q ci p0) (cwV 1 hts (gx_goodV hw_784 hw_785 hw_786 hw_66 k_TS_verify) rfl rfl rfl (by decide +kernel) ⟨(Nat.le_of_ble_eq_true rfl), (Nat.le_of_ble_eq_true rfl)⟩) ⟨fun a U g mk q => by obtain ⟨q0, qP, qK, qJ⟩ := q; exact ⟨q0, qP, va_K.moved (u := U) (U := U.calling g mk a) (Vm.Alike.refl U.vm) qK, qJ.call g mk a⟩, va_recv hK hP rfl (q0 := 0) rfl, fun U hU hW => ⟨rfl, by rw [hU]; exact hP, va_K.moved hW.alike hK, hJ.move hW (by rw [hU]) (by rw [hU])⟩⟩ rfl hl.1 rfl (lv_room (Nat.le_of_ble_eq_true rfl)) d_Lw_verify_4 ⟨(Nat.le_of_ble_eq_true rfl), (Nat.le_of_ble_eq_true rfl)⟩ htab (by decide) (by decide) (hB _ hw_657) (hJ.word 670 (by decide +kernel) rfl) (fun qe H1 hz hk => ?_)
  refine W.eq (g2 := F0 m 12 ls [.ref qe]) rfl ?_
  refine W.widen (k := 1) (n := 6) (Nat.le_of_ble_eq_true rfl) (Nat.le_of_ble_eq_true rfl) ?_
  refine lv_astore_n hx hb d_Lw_verify_12 rfl hl (by decide) rfl (fun ls hl => ?_)
  refine lv_iconst (v := 1) hx hb d_Lw_verify_13 (by decide) ?_
  exact W.iret (v := 1) hx hb hr (fun t ht hW => ⟨rfl, by rw [ht]; exact hz, fun z d h => by rw [ht]; exact hk z d h⟩) (fun _ h => nomatch h) d_Lw_verify_14
set_option maxHeartbeats 4000000 in
set_option maxRecDepth 100000 in
theorem x_rewrap (l : Launch) (hl0 : l.stackTraces = false) (dC : Nat → ClassId) (dI : Nat → Nat → Nat) (aS aT : Nat) (cS cT : Cell) (x0 : Nat) (q : Nat → Nat) (ci : Nat → ClassId) (o0 : Nat) (p0 : Int32) : Met l y_Lw_rewrap w_Lw_rewrap ({ frames := 7, cells := 1, slots := 6, locals := 142 }) (va_Pc [.ref x0, .int p0, .ref o0] (fun U => va_P (dC, dI) gx_cl (wTS x0 q ci) U.heap ∧ va_K (dC, dI) gx_cl (kTS ci) U ∧ jx aS aT cS cT U)) (hx_Q 1) 1 6 (fun _ => False) := by
  refine va_MetW (cc := b_Lw_rewrap) (maxL := 4) (ret := (some .int)) (hh := [(0, 16, 19, 29), (0, 16, 22, 13)]) (by decide) rfl ?_
  intro p e s m args below meth c s₁ B hml hv
  obtain ⟨rfl, hP, hK, hJ⟩ := hv
  have hx := B.exec
  have hb := B.bytes
  have hr := B.returns
  have hts := atoms_spec (ws := w_Lw_rewrap) B.pre
  have hB : ∀ w ∈ gx_B, w.before _ s = true := fun w h => hts w (List.mem_cons_of_mem _ h)
  have hown : s.vm.findClass "TapeSealerLaw" = some m.cls := findClass_of_methodNamed B.named
  have hlocks := B.notSynchronized
  have htab : c.exceptionTable.toList = (⟨0, 16, 19, 29⟩ : ExceptionTableEntry) :: [⟨0, 16, 22, 13⟩] := tx_table B (hts _ List.mem_cons_self)
  have hl := lv_entry ([.ref x0, .int p0, .ref o0]) (n := 4) (Nat.le_of_ble_eq_true rfl)
  rw [lg_entry_eq]
  generalize (lg_sl ([.ref x0, .int p0, .ref o0]) ++ List.replicate (4 - (lg_sl ([.ref x0, .int p0, .ref o0])).length) Slot.unset).toArray = ls at hl ⊢
  have hl : lv_has ls 4 [(0, .ref x0), (1, .int p0), (2, .ref o0)] := hl
  refine lv_aload_n hx hb d_Lw_rewrap_0 rfl (lv_at hl 2 rfl) ?_
  refine lv_iconst (v := 0) hx hb d_Lw_rewrap_1 (by decide) ?_
  refine lv_aload_n hx hb d_Lw_rewrap_2 rfl (lv_at hl 0 rfl) ?_
  refine lv_iload_n hx hb d_Lw_rewrap_3 rfl (lv_at hl 1 rfl) ?_
  refine W.eq (g2 := F0 m 4 ls [.int p0, .ref x0, .int 0, .ref o0]) rfl ?_
  refine tx_callV (E := "java/util/NoSuchElementException") (name := "java/util/NoSuchElementException") (As := [.int p0]) (rest := [.int 0, .ref o0]) ⟨hx, hb, hml, hown, hts⟩ (t_TS_rewrap l hl0 dC dI aS aT cS cT x0 q ci p0) (cwV 1 hts (gx_goodV hw_791 hw_792 hw_793 hw_66 k_TS_rewrap) rfl rfl rfl (by decide +kernel) ⟨(Nat.le_of_ble_eq_true rfl), (Nat.le_of_ble_eq_true rfl)⟩) ⟨fun a U g mk q => by obtain ⟨q0, qP, qK, qJ⟩ := q; exact ⟨q0, qP, va_K.moved (u := U) (U := U.calling g mk a) (Vm.Alike.refl U.vm) qK, qJ.call g mk a⟩, va_recv hK hP rfl (q0 := 0) rfl, fun U hU hW => ⟨rfl, by rw [hU]; exact hP, va_K.moved hW.alike hK, hJ.move hW (by rw [hU]) (by rw [hU])⟩⟩ rfl hl.1 rfl (lv_room (Nat.le_of_ble_eq_true rfl)) d_Lw_rewrap_4 ⟨(Nat.le_of_ble_eq_true rfl), (Nat.le_of_ble_eq_true rfl)⟩ htab (by decide) (by decide) (hB _ hw_657) (hJ.word 670 (by decide +kernel) rfl) (fun qe H1 hz hk => ?_)
  refine W.eq (g2 := F0 m 19 ls [.ref qe]) rfl ?_
  refine W.widen (k := 1) (n := 6) (Nat.le_of_ble_eq_true rfl) (Nat.le_of_ble_eq_true rfl) ?_
  refine lv_astore_n hx hb d_Lw_rewrap_19 rfl hl (by decide) rfl (fun ls hl => ?_)
  refine lv_iconst (v := 1) hx hb d_Lw_rewrap_20 (by decide) ?_
  exact W.iret (v := 1) hx hb hr (fun t ht hW => ⟨rfl, by rw [ht]; exact hz, fun z d h => by rw [ht]; exact hk z d h⟩) (fun _ h => nomatch h) d_Lw_rewrap_21
set_option maxHeartbeats 4000000 in
set_option maxRecDepth 100000 in
theorem x_dropEpoch (l : Launch) (hl0 : l.stackTraces = false) (dC : Nat → ClassId) (dI : Nat → Nat → Nat) (aS aT : Nat) (cS cT : Cell) (x0 : Nat) (q : Nat → Nat) (ci : Nat → ClassId) (p0 : Int32) : Met l y_Lw_dropEpoch w_Lw_dropEpoch ({ frames := 7, cells := 1, slots := 6, locals := 141 }) (va_Pc [.ref x0, .int p0] (fun U => va_P (dC, dI) gx_cl (wTS x0 q ci) U.heap ∧ va_K (dC, dI) gx_cl (kTS ci) U ∧ jx aS aT cS cT U)) (hx_Q 1) 1 6 (fun _ => False) := by
  refine va_MetW (cc := b_Lw_dropEpoch) (maxL := 3) (ret := (some .int)) (hh := [(0, 5, 8, 31), (0, 5, 11, 13)]) (by decide) rfl ?_
  intro p e s m args below meth c s₁ B hml hv
  obtain ⟨rfl, hP, hK, hJ⟩ := hv
  have hx := B.exec
  have hb := B.bytes
  have hr := B.returns
  have hts := atoms_spec (ws := w_Lw_dropEpoch) B.pre
  have hB : ∀ w ∈ gx_B, w.before _ s = true := fun w h => hts w (List.mem_cons_of_mem _ h)
  have hown : s.vm.findClass "TapeSealerLaw" = some m.cls := findClass_of_methodNamed B.named
  have hlocks := B.notSynchronized
  have htab : c.exceptionTable.toList = (⟨0, 5, 8, 31⟩ : ExceptionTableEntry) :: [⟨0, 5, 11, 13⟩] := tx_table B (hts _ List.mem_cons_self)
  have hl := lv_entry ([.ref x0, .int p0]) (n := 3) (Nat.le_of_ble_eq_true rfl)
  rw [lg_entry_eq]
  generalize (lg_sl ([.ref x0, .int p0]) ++ List.replicate (3 - (lg_sl ([.ref x0, .int p0])).length) Slot.unset).toArray = ls at hl ⊢
  have hl : lv_has ls 3 [(0, .ref x0), (1, .int p0)] := hl
  refine lv_aload_n hx hb d_Lw_dropEpoch_0 rfl (lv_at hl 0 rfl) ?_
  refine lv_iload_n hx hb d_Lw_dropEpoch_1 rfl (lv_at hl 1 rfl) ?_
  refine W.eq (g2 := F0 m 2 ls [.int p0, .ref x0]) rfl ?_
  refine tx_callV (E := "java/lang/IllegalArgumentException") (name := "java/lang/IllegalArgumentException") (As := [.int p0]) (rest := []) ⟨hx, hb, hml, hown, hts⟩ (t_TS_dropEpoch l hl0 dC dI aS aT cS cT x0 q ci p0) (cwV 1 hts (gx_goodV hw_798 hw_799 hw_800 hw_66 k_TS_dropEpoch) rfl rfl rfl (by decide +kernel) ⟨(Nat.le_of_ble_eq_true rfl), (Nat.le_of_ble_eq_true rfl)⟩) ⟨fun a U g mk q => by obtain ⟨q0, qP, qK, qJ⟩ := q; exact ⟨q0, qP, va_K.moved (u := U) (U := U.calling g mk a) (Vm.Alike.refl U.vm) qK, qJ.call g mk a⟩, va_recv hK hP rfl (q0 := 0) rfl, fun U hU hW => ⟨rfl, by rw [hU]; exact hP, va_K.moved hW.alike hK, hJ.move hW (by rw [hU]) (by rw [hU])⟩⟩ rfl hl.1 rfl (lv_room (Nat.le_of_ble_eq_true rfl)) d_Lw_dropEpoch_2 ⟨(Nat.le_of_ble_eq_true rfl), (Nat.le_of_ble_eq_true rfl)⟩ htab (by decide) (by decide) (hB _ hw_658) (hJ.word 685 (by decide +kernel) rfl) (fun qe H1 hz hk => ?_)
  refine W.eq (g2 := F0 m 8 ls [.ref qe]) rfl ?_
  refine W.widen (k := 1) (n := 6) (Nat.le_of_ble_eq_true rfl) (Nat.le_of_ble_eq_true rfl) ?_
  refine lv_astore_n hx hb d_Lw_dropEpoch_8 rfl hl (by decide) rfl (fun ls hl => ?_)
  refine lv_iconst (v := 1) hx hb d_Lw_dropEpoch_9 (by decide) ?_
  exact W.iret (v := 1) hx hb hr (fun t ht hW => ⟨rfl, by rw [ht]; exact hz, fun z d h => by rw [ht]; exact hk z d h⟩) (fun _ h => nomatch h) d_Lw_dropEpoch_10
set_option maxHeartbeats 4000000 in
set_option maxRecDepth 100000 in
theorem x_delete (l : Launch) (hl0 : l.stackTraces = false) (dC : Nat → ClassId) (dI : Nat → Nat → Nat) (aS aT : Nat) (cS cT : Cell) (x0 : Nat) (q : Nat → Nat) (ci : Nat → ClassId) (p0 : Int32) : Met l y_Lw_delete w_Lw_delete ({ frames := 7, cells := 1, slots := 6, locals := 141 }) (va_Pc [.ref x0, .int p0] (fun U => va_P (dC, dI) gx_cl (wTS x0 q ci) U.heap ∧ va_K (dC, dI) gx_cl (kTS ci) U ∧ jx aS aT cS cT U)) (hx_Q 1) 1 6 (fun _ => False) := by
  refine va_MetW (cc := b_Lw_delete) (maxL := 3) (ret := (some .int)) (hh := [(0, 5, 8, 29), (0, 5, 11, 13)]) (by decide) rfl ?_
  intro p e s m args below meth c s₁ B hml hv
  obtain ⟨rfl, hP, hK, hJ⟩ := hv
  have hx := B.exec
  have hb := B.bytes
  have hr := B.returns
  have hts := atoms_spec (ws := w_Lw_delete) B.pre
  have hB : ∀ w ∈ gx_B, w.before _ s = true := fun w h => hts w (List.mem_cons_of_mem _ h)
  have hown : s.vm.findClass "TapeSealerLaw" = some m.cls := findClass_of_methodNamed B.named
  have hlocks := B.notSynchronized
  have htab : c.exceptionTable.toList = (⟨0, 5, 8, 29⟩ : ExceptionTableEntry) :: [⟨0, 5, 11, 13⟩] := tx_table B (hts _ List.mem_cons_self)
  have hl := lv_entry ([.ref x0, .int p0]) (n := 3) (Nat.le_of_ble_eq_true rfl)
  rw [lg_entry_eq]
  generalize (lg_sl ([.ref x0, .int p0]) ++ List.replicate (3 - (lg_sl ([.ref x0, .int p0])).length) Slot.unset).toArray = ls at hl ⊢
  have hl : lv_has ls 3 [(0, .ref x0), (1, .int p0)] := hl
  refine lv_aload_n hx hb d_Lw_delete_0 rfl (lv_at hl 0 rfl) ?_
  refine lv_iload_n hx hb d_Lw_delete_1 rfl (lv_at hl 1 rfl) ?_
  refine W.eq (g2 := F0 m 2 ls [.int p0, .ref x0]) rfl ?_
  refine tx_callV (E := "java/util/NoSuchElementException") (name := "java/util/NoSuchElementException") (As := [.int p0]) (rest := []) ⟨hx, hb, hml, hown, hts⟩ (t_TS_delete l hl0 dC dI aS aT cS cT x0 q ci p0) (cwV 1 hts (gx_goodV hw_814 hw_815 hw_816 hw_66 k_TS_delete) rfl rfl rfl (by decide +kernel) ⟨(Nat.le_of_ble_eq_true rfl), (Nat.le_of_ble_eq_true rfl)⟩) ⟨fun a U g mk q => by obtain ⟨q0, qP, qK, qJ⟩ := q; exact ⟨q0, qP, va_K.moved (u := U) (U := U.calling g mk a) (Vm.Alike.refl U.vm) qK, qJ.call g mk a⟩, va_recv hK hP rfl (q0 := 0) rfl, fun U hU hW => ⟨rfl, by rw [hU]; exact hP, va_K.moved hW.alike hK, hJ.move hW (by rw [hU]) (by rw [hU])⟩⟩ rfl hl.1 rfl (lv_room (Nat.le_of_ble_eq_true rfl)) d_Lw_delete_2 ⟨(Nat.le_of_ble_eq_true rfl), (Nat.le_of_ble_eq_true rfl)⟩ htab (by decide) (by decide) (hB _ hw_657) (hJ.word 670 (by decide +kernel) rfl) (fun qe H1 hz hk => ?_)
  refine W.eq (g2 := F0 m 8 ls [.ref qe]) rfl ?_
  refine W.widen (k := 1) (n := 6) (Nat.le_of_ble_eq_true rfl) (Nat.le_of_ble_eq_true rfl) ?_
  refine lv_astore_n hx hb d_Lw_delete_8 rfl hl (by decide) rfl (fun ls hl => ?_)
  refine lv_iconst (v := 1) hx hb d_Lw_delete_9 (by decide) ?_
  exact W.iret (v := 1) hx hb hr (fun t ht hW => ⟨rfl, by rw [ht]; exact hz, fun z d h => by rw [ht]; exact hk z d h⟩) (fun _ h => nomatch h) d_Lw_delete_10
set_option maxHeartbeats 4000000 in
set_option maxRecDepth 100000 in
theorem x_scrub (l : Launch) (hl0 : l.stackTraces = false) (dC : Nat → ClassId) (dI : Nat → Nat → Nat) (aS aT : Nat) (cS cT : Cell) (x0 : Nat) (q : Nat → Nat) (ci : Nat → ClassId) (o0 : Nat) (p0 : Int32) (h : p0 < 0 ∨ 6 ≤ p0) : Met l y_Lw_scrub w_Lw_scrub ({ frames := 7, cells := 1, slots := 6, locals := 145 }) (va_Pc [.ref x0, .int p0, .ref o0] (fun U => va_P (dC, dI) gx_cl (wTS x0 q ci) U.heap ∧ va_K (dC, dI) gx_cl (kTS ci) U ∧ jx aS aT cS cT U)) (hx_Q 1) 1 6 (fun _ => False) := by
  refine va_MetW (cc := b_Lw_scrub) (maxL := 4) (ret := (some .int)) (hh := [(0, 9, 12, 31), (0, 9, 15, 13)]) (by decide) rfl ?_
  intro p e s m args below meth c s₁ B hml hv
  obtain ⟨rfl, hP, hK, hJ⟩ := hv
  have hx := B.exec
  have hb := B.bytes
  have hr := B.returns
  have hts := atoms_spec (ws := w_Lw_scrub) B.pre
  have hB : ∀ w ∈ gx_B, w.before _ s = true := fun w h => hts w (List.mem_cons_of_mem _ h)
  have hown : s.vm.findClass "TapeSealerLaw" = some m.cls := findClass_of_methodNamed B.named
  have hlocks := B.notSynchronized
  have htab : c.exceptionTable.toList = (⟨0, 9, 12, 31⟩ : ExceptionTableEntry) :: [⟨0, 9, 15, 13⟩] := tx_table B (hts _ List.mem_cons_self)
  have hl := lv_entry ([.ref x0, .int p0, .ref o0]) (n := 4) (Nat.le_of_ble_eq_true rfl)
  rw [lg_entry_eq]
  generalize (lg_sl ([.ref x0, .int p0, .ref o0]) ++ List.replicate (4 - (lg_sl ([.ref x0, .int p0, .ref o0])).length) Slot.unset).toArray = ls at hl ⊢
  have hl : lv_has ls 4 [(0, .ref x0), (1, .int p0), (2, .ref o0)] := hl
  refine lv_aload_n hx hb d_Lw_scrub_0 rfl (lv_at hl 2 rfl) ?_
  refine lv_iconst (v := 0) hx hb d_Lw_scrub_1 (by decide) ?_
  refine lv_aload_n hx hb d_Lw_scrub_2 rfl (lv_at hl 0 rfl) ?_
  refine lv_iload_n hx hb d_Lw_scrub_3 rfl (lv_at hl 1 rfl) ?_
  refine W.eq (g2 := F0 m 4 ls [.int p0, .ref x0, .int 0, .ref o0]) rfl ?_
  refine tx_callV (E := "java/lang/IllegalArgumentException") (name := "java/lang/IllegalArgumentException") (As := [.int p0]) (rest := [.int 0, .ref o0]) ⟨hx, hb, hml, hown, hts⟩ (t_TS_scrub l hl0 dC dI aS aT cS cT x0 q ci p0 h) (cwV 1 hts (gx_goodV hw_821 hw_822 hw_823 hw_66 k_TS_scrub) rfl rfl rfl (by decide +kernel) ⟨(Nat.le_of_ble_eq_true rfl), (Nat.le_of_ble_eq_true rfl)⟩) ⟨fun a U g mk q => by obtain ⟨q0, qP, qK, qJ⟩ := q; exact ⟨q0, qP, va_K.moved (u := U) (U := U.calling g mk a) (Vm.Alike.refl U.vm) qK, qJ.call g mk a⟩, va_recv hK hP rfl (q0 := 0) rfl, fun U hU hW => ⟨rfl, by rw [hU]; exact hP, va_K.moved hW.alike hK, hJ.move hW (by rw [hU]) (by rw [hU])⟩⟩ rfl hl.1 rfl (lv_room (Nat.le_of_ble_eq_true rfl)) d_Lw_scrub_4 ⟨(Nat.le_of_ble_eq_true rfl), (Nat.le_of_ble_eq_true rfl)⟩ htab (by decide) (by decide) (hB _ hw_658) (hJ.word 685 (by decide +kernel) rfl) (fun qe H1 hz hk => ?_)
  refine W.eq (g2 := F0 m 12 ls [.ref qe]) rfl ?_
  refine W.widen (k := 1) (n := 6) (Nat.le_of_ble_eq_true rfl) (Nat.le_of_ble_eq_true rfl) ?_
  refine lv_astore_n hx hb d_Lw_scrub_12 rfl hl (by decide) rfl (fun ls hl => ?_)
  refine lv_iconst (v := 1) hx hb d_Lw_scrub_13 (by decide) ?_
  exact W.iret (v := 1) hx hb hr (fun t ht hW => ⟨rfl, by rw [ht]; exact hz, fun z d h => by rw [ht]; exact hk z d h⟩) (fun _ h => nomatch h) d_Lw_scrub_14
set_option maxHeartbeats 4000000 in
set_option maxRecDepth 100000 in
theorem x_spoil (l : Launch) (hl0 : l.stackTraces = false) (dC : Nat → ClassId) (dI : Nat → Nat → Nat) (aS aT : Nat) (cS cT : Cell) (x0 : Nat) (q : Nat → Nat) (ci : Nat → ClassId) (p0 : Int32) (h : p0 < 0 ∨ 44 ≤ p0) : Met l y_Lw_spoil w_Lw_spoil ({ frames := 7, cells := 1, slots := 6, locals := 141 }) (va_Pc [.ref x0, .int p0] (fun U => va_P (dC, dI) gx_cl (wTS x0 q ci) U.heap ∧ va_K (dC, dI) gx_cl (kTS ci) U ∧ jx aS aT cS cT U)) (hx_Q 1) 1 6 (fun _ => False) := by
  refine va_MetW (cc := b_Lw_spoil) (maxL := 3) (ret := (some .int)) (hh := [(0, 5, 8, 31)]) (by decide) rfl ?_
  intro p e s m args below meth c s₁ B hml hv
  obtain ⟨rfl, hP, hK, hJ⟩ := hv
  have hx := B.exec
  have hb := B.bytes
  have hr := B.returns
  have hts := atoms_spec (ws := w_Lw_spoil) B.pre
  have hB : ∀ w ∈ gx_B, w.before _ s = true := fun w h => hts w (List.mem_cons_of_mem _ h)
  have hown : s.vm.findClass "TapeSealerLaw" = some m.cls := findClass_of_methodNamed B.named
  have hlocks := B.notSynchronized
  have htab : c.exceptionTable.toList = (⟨0, 5, 8, 31⟩ : ExceptionTableEntry) :: [] := tx_table B (hts _ List.mem_cons_self)
  have hl := lv_entry ([.ref x0, .int p0]) (n := 3) (Nat.le_of_ble_eq_true rfl)
  rw [lg_entry_eq]
  generalize (lg_sl ([.ref x0, .int p0]) ++ List.replicate (3 - (lg_sl ([.ref x0, .int p0])).length) Slot.unset).toArray = ls at hl ⊢
  have hl : lv_has ls 3 [(0, .ref x0), (1, .int p0)] := hl
  refine lv_aload_n hx hb d_Lw_spoil_0 rfl (lv_at hl 0 rfl) ?_
  refine lv_iload_n hx hb d_Lw_spoil_1 rfl (lv_at hl 1 rfl) ?_
  refine W.eq (g2 := F0 m 2 ls [.int p0, .ref x0]) rfl ?_
  refine tx_callV (E := "java/lang/IllegalArgumentException") (name := "java/lang/IllegalArgumentException") (As := [.int p0]) (rest := []) ⟨hx, hb, hml, hown, hts⟩ (t_TS_spoil l hl0 dC dI aS aT cS cT x0 q ci p0 h) (cwV 1 hts (gx_goodV hw_848 hw_849 hw_850 hw_66 k_TS_spoil) rfl rfl rfl (by decide +kernel) ⟨(Nat.le_of_ble_eq_true rfl), (Nat.le_of_ble_eq_true rfl)⟩) ⟨fun a U g mk q => by obtain ⟨q0, qP, qK, qJ⟩ := q; exact ⟨q0, qP, va_K.moved (u := U) (U := U.calling g mk a) (Vm.Alike.refl U.vm) qK, qJ.call g mk a⟩, va_recv hK hP rfl (q0 := 0) rfl, fun U hU hW => ⟨rfl, by rw [hU]; exact hP, va_K.moved hW.alike hK, hJ.move hW (by rw [hU]) (by rw [hU])⟩⟩ rfl hl.1 rfl (lv_room (Nat.le_of_ble_eq_true rfl)) d_Lw_spoil_2 ⟨(Nat.le_of_ble_eq_true rfl), (Nat.le_of_ble_eq_true rfl)⟩ htab (by decide) (by decide) (hB _ hw_658) (hJ.word 685 (by decide +kernel) rfl) (fun qe H1 hz hk => ?_)
  refine W.eq (g2 := F0 m 8 ls [.ref qe]) rfl ?_
  refine W.widen (k := 1) (n := 6) (Nat.le_of_ble_eq_true rfl) (Nat.le_of_ble_eq_true rfl) ?_
  refine lv_astore_n hx hb d_Lw_spoil_8 rfl hl (by decide) rfl (fun ls hl => ?_)
  refine lv_iconst (v := 1) hx hb d_Lw_spoil_9 (by decide) ?_
  exact W.iret (v := 1) hx hb hr (fun t ht hW => ⟨rfl, by rw [ht]; exact hz, fun z d h => by rw [ht]; exact hk z d h⟩) (fun _ h => nomatch h) d_Lw_spoil_10
set_option maxHeartbeats 4000000 in
set_option maxRecDepth 100000 in
theorem x_stopAfter (l : Launch) (hl0 : l.stackTraces = false) (dC : Nat → ClassId) (dI : Nat → Nat → Nat) (aS aT : Nat) (cS cT : Cell) (x0 : Nat) (q : Nat → Nat) (ci : Nat → ClassId) (p0 : Int32) (h : ¬ p0 ≤ 100) : Met l y_Lw_stopAfter w_Lw_stopAfter ({ frames := 7, cells := 1, slots := 6, locals := 141 }) (va_Pc [.ref x0, .int p0] (fun U => va_P (dC, dI) gx_cl (wTS x0 q ci) U.heap ∧ va_K (dC, dI) gx_cl (kTS ci) U ∧ jx aS aT cS cT U)) (hx_Q 1) 1 6 (fun _ => False) := by
  refine va_MetW (cc := b_Lw_stopAfter) (maxL := 3) (ret := (some .int)) (hh := [(0, 5, 8, 31)]) (by decide) rfl ?_
  intro p e s m args below meth c s₁ B hml hv
  obtain ⟨rfl, hP, hK, hJ⟩ := hv
  have hx := B.exec
  have hb := B.bytes
  have hr := B.returns
  have hts := atoms_spec (ws := w_Lw_stopAfter) B.pre
  have hB : ∀ w ∈ gx_B, w.before _ s = true := fun w h => hts w (List.mem_cons_of_mem _ h)
  have hown : s.vm.findClass "TapeSealerLaw" = some m.cls := findClass_of_methodNamed B.named
  have hlocks := B.notSynchronized
  have htab : c.exceptionTable.toList = (⟨0, 5, 8, 31⟩ : ExceptionTableEntry) :: [] := tx_table B (hts _ List.mem_cons_self)
  have hl := lv_entry ([.ref x0, .int p0]) (n := 3) (Nat.le_of_ble_eq_true rfl)
  rw [lg_entry_eq]
  generalize (lg_sl ([.ref x0, .int p0]) ++ List.replicate (3 - (lg_sl ([.ref x0, .int p0])).length) Slot.unset).toArray = ls at hl ⊢
  have hl : lv_has ls 3 [(0, .ref x0), (1, .int p0)] := hl
  refine lv_aload_n hx hb d_Lw_stopAfter_0 rfl (lv_at hl 0 rfl) ?_
  refine lv_iload_n hx hb d_Lw_stopAfter_1 rfl (lv_at hl 1 rfl) ?_
  refine W.eq (g2 := F0 m 2 ls [.int p0, .ref x0]) rfl ?_
  refine tx_callV (E := "java/lang/IllegalArgumentException") (name := "java/lang/IllegalArgumentException") (As := [.int p0]) (rest := []) ⟨hx, hb, hml, hown, hts⟩ (t_TS_stopAfter l hl0 dC dI aS aT cS cT x0 q ci p0 h) (cwV 1 hts (gx_goodV hw_855 hw_856 hw_857 hw_66 k_TS_stopAfter) rfl rfl rfl (by decide +kernel) ⟨(Nat.le_of_ble_eq_true rfl), (Nat.le_of_ble_eq_true rfl)⟩) ⟨fun a U g mk q => by obtain ⟨q0, qP, qK, qJ⟩ := q; exact ⟨q0, qP, va_K.moved (u := U) (U := U.calling g mk a) (Vm.Alike.refl U.vm) qK, qJ.call g mk a⟩, va_recv hK hP rfl (q0 := 0) rfl, fun U hU hW => ⟨rfl, by rw [hU]; exact hP, va_K.moved hW.alike hK, hJ.move hW (by rw [hU]) (by rw [hU])⟩⟩ rfl hl.1 rfl (lv_room (Nat.le_of_ble_eq_true rfl)) d_Lw_stopAfter_2 ⟨(Nat.le_of_ble_eq_true rfl), (Nat.le_of_ble_eq_true rfl)⟩ htab (by decide) (by decide) (hB _ hw_658) (hJ.word 685 (by decide +kernel) rfl) (fun qe H1 hz hk => ?_)
  refine W.eq (g2 := F0 m 8 ls [.ref qe]) rfl ?_
  refine W.widen (k := 1) (n := 6) (Nat.le_of_ble_eq_true rfl) (Nat.le_of_ble_eq_true rfl) ?_
  refine lv_astore_n hx hb d_Lw_stopAfter_8 rfl hl (by decide) rfl (fun ls hl => ?_)
  refine lv_iconst (v := 1) hx hb d_Lw_stopAfter_9 (by decide) ?_
  exact W.iret (v := 1) hx hb hr (fun t ht hW => ⟨rfl, by rw [ht]; exact hz, fun z d h => by rw [ht]; exact hk z d h⟩) (fun _ h => nomatch h) d_Lw_stopAfter_10
set_option maxHeartbeats 4000000 in
set_option maxRecDepth 100000 in
theorem x_file (l : Launch) (hl0 : l.stackTraces = false) (dC : Nat → ClassId) (dI : Nat → Nat → Nat) (aS aT : Nat) (cS cT : Cell) (x0 : Nat) (q : Nat → Nat) (ci : Nat → ClassId) (o0 : Nat) (p0 p1 : Int32) : Met l y_Lw_file w_Lw_file ({ frames := 7, cells := 1, slots := 6, locals := 143 }) (va_Pc [.ref x0, .int p0, .int p1, .ref o0] (fun U => va_P (dC, dI) gx_cl (wTS x0 q ci) U.heap ∧ va_K (dC, dI) gx_cl (kTS ci) U ∧ jx aS aT cS cT U)) (hx_Q 1) 1 6 (fun _ => False) := by
  refine va_MetW (cc := b_Lw_file) (maxL := 5) (ret := (some .int)) (hh := [(0, 10, 13, 29), (0, 10, 17, 31)]) (by decide) rfl ?_
  intro p e s m args below meth c s₁ B hml hv
  obtain ⟨rfl, hP, hK, hJ⟩ := hv
  have hx := B.exec
  have hb := B.bytes
  have hr := B.returns
  have hts := atoms_spec (ws := w_Lw_file) B.pre
  have hB : ∀ w ∈ gx_B, w.before _ s = true := fun w h => hts w (List.mem_cons_of_mem _ h)
  have hown : s.vm.findClass "TapeSealerLaw" = some m.cls := findClass_of_methodNamed B.named
  have hlocks := B.notSynchronized
  have htab : c.exceptionTable.toList = (⟨0, 10, 13, 29⟩ : ExceptionTableEntry) :: [⟨0, 10, 17, 31⟩] := tx_table B (hts _ List.mem_cons_self)
  have hl := lv_entry ([.ref x0, .int p0, .int p1, .ref o0]) (n := 5) (Nat.le_of_ble_eq_true rfl)
  rw [lg_entry_eq]
  generalize (lg_sl ([.ref x0, .int p0, .int p1, .ref o0]) ++ List.replicate (5 - (lg_sl ([.ref x0, .int p0, .int p1, .ref o0])).length) Slot.unset).toArray = ls at hl ⊢
  have hl : lv_has ls 5 [(0, .ref x0), (1, .int p0), (2, .int p1), (3, .ref o0)] := hl
  refine lv_aload_n hx hb d_Lw_file_0 rfl (lv_at hl 3 rfl) ?_
  refine lv_iconst (v := 0) hx hb d_Lw_file_1 (by decide) ?_
  refine lv_aload_n hx hb d_Lw_file_2 rfl (lv_at hl 0 rfl) ?_
  refine lv_iload_n hx hb d_Lw_file_3 rfl (lv_at hl 1 rfl) ?_
  refine lv_iload_n hx hb d_Lw_file_4 rfl (lv_at hl 2 rfl) ?_
  refine W.eq (g2 := F0 m 5 ls [.int p1, .int p0, .ref x0, .int 0, .ref o0]) rfl ?_
  refine tx_callV (E := "java/util/NoSuchElementException") (name := "java/util/NoSuchElementException") (As := [.int p0, .int p1]) (rest := [.int 0, .ref o0]) ⟨hx, hb, hml, hown, hts⟩ (t_TS_file l hl0 dC dI aS aT cS cT x0 q ci p0 p1) (cwV 2 hts (gx_goodV hw_862 hw_863 hw_864 hw_66 k_TS_file) rfl rfl rfl (by decide +kernel) ⟨(Nat.le_of_ble_eq_true rfl), (Nat.le_of_ble_eq_true rfl)⟩) ⟨fun a U g mk q => by obtain ⟨q0, qP, qK, qJ⟩ := q; exact ⟨q0, qP, va_K.moved (u := U) (U := U.calling g mk a) (Vm.Alike.refl U.vm) qK, qJ.call g mk a⟩, va_recv hK hP rfl (q0 := 0) rfl, fun U hU hW => ⟨rfl, by rw [hU]; exact hP, va_K.moved hW.alike hK, hJ.move hW (by rw [hU]) (by rw [hU])⟩⟩ rfl hl.1 rfl (lv_room (Nat.le_of_ble_eq_true rfl)) d_Lw_file_5 ⟨(Nat.le_of_ble_eq_true rfl), (Nat.le_of_ble_eq_true rfl)⟩ htab (by decide) (by decide) (hB _ hw_657) (hJ.word 670 (by decide +kernel) rfl) (fun qe H1 hz hk => ?_)
  refine W.eq (g2 := F0 m 13 ls [.ref qe]) rfl ?_
  refine W.widen (k := 1) (n := 6) (Nat.le_of_ble_eq_true rfl) (Nat.le_of_ble_eq_true rfl) ?_
  refine lv_astore hx hb d_Lw_file_13 hl (by decide) rfl (fun ls hl => ?_)
  refine lv_iconst (v := 1) hx hb d_Lw_file_15 (by decide) ?_
  exact W.iret (v := 1) hx hb hr (fun t ht hW => ⟨rfl, by rw [ht]; exact hz, fun z d h => by rw [ht]; exact hk z d h⟩) (fun _ h => nomatch h) d_Lw_file_16
set_option maxHeartbeats 4000000 in
set_option maxRecDepth 100000 in
theorem x_block (l : Launch) (hl0 : l.stackTraces = false) (dC : Nat → ClassId) (dI : Nat → Nat → Nat) (aS aT : Nat) (cS cT : Cell) (x0 : Nat) (q : Nat → Nat) (ci : Nat → ClassId) (o0 : Nat) (p0 p1 : Int32) (h : p0 < 0 ∨ 44 ≤ p0 ∨ p1 < 0 ∨ 64 ≤ p1) : Met l y_Lw_block w_Lw_block ({ frames := 7, cells := 1, slots := 6, locals := 142 }) (va_Pc [.ref x0, .int p0, .int p1, .ref o0] (fun U => va_P (dC, dI) gx_cl (wTS x0 q ci) U.heap ∧ va_K (dC, dI) gx_cl (kTS ci) U ∧ jx aS aT cS cT U)) (hx_Q 1) 1 6 (fun _ => False) := by
  refine va_MetW (cc := b_Lw_block) (maxL := 5) (ret := (some .int)) (hh := [(0, 10, 13, 31)]) (by decide) rfl ?_
  intro p e s m args below meth c s₁ B hml hv
  obtain ⟨rfl, hP, hK, hJ⟩ := hv
  have hx := B.exec
  have hb := B.bytes
  have hr := B.returns
  have hts := atoms_spec (ws := w_Lw_block) B.pre
  have hB : ∀ w ∈ gx_B, w.before _ s = true := fun w h => hts w (List.mem_cons_of_mem _ h)
  have hown : s.vm.findClass "TapeSealerLaw" = some m.cls := findClass_of_methodNamed B.named
  have hlocks := B.notSynchronized
  have htab : c.exceptionTable.toList = (⟨0, 10, 13, 31⟩ : ExceptionTableEntry) :: [] := tx_table B (hts _ List.mem_cons_self)
  have hl := lv_entry ([.ref x0, .int p0, .int p1, .ref o0]) (n := 5) (Nat.le_of_ble_eq_true rfl)
  rw [lg_entry_eq]
  generalize (lg_sl ([.ref x0, .int p0, .int p1, .ref o0]) ++ List.replicate (5 - (lg_sl ([.ref x0, .int p0, .int p1, .ref o0])).length) Slot.unset).toArray = ls at hl ⊢
  have hl : lv_has ls 5 [(0, .ref x0), (1, .int p0), (2, .int p1), (3, .ref o0)] := hl
  refine lv_aload_n hx hb d_Lw_block_0 rfl (lv_at hl 3 rfl) ?_
  refine lv_iconst (v := 0) hx hb d_Lw_block_1 (by decide) ?_
  refine lv_aload_n hx hb d_Lw_block_2 rfl (lv_at hl 0 rfl) ?_
  refine lv_iload_n hx hb d_Lw_block_3 rfl (lv_at hl 1 rfl) ?_
  refine lv_iload_n hx hb d_Lw_block_4 rfl (lv_at hl 2 rfl) ?_
  refine W.eq (g2 := F0 m 5 ls [.int p1, .int p0, .ref x0, .int 0, .ref o0]) rfl ?_
  refine tx_callV (E := "java/lang/IllegalArgumentException") (name := "java/lang/IllegalArgumentException") (As := [.int p0, .int p1]) (rest := [.int 0, .ref o0]) ⟨hx, hb, hml, hown, hts⟩ (t_TS_block l hl0 dC dI aS aT cS cT x0 q ci p0 p1 h) (cwV 2 hts (gx_goodV hw_869 hw_870 hw_871 hw_66 k_TS_block) rfl rfl rfl (by decide +kernel) ⟨(Nat.le_of_ble_eq_true rfl), (Nat.le_of_ble_eq_true rfl)⟩) ⟨fun a U g mk q => by obtain ⟨q0, qP, qK, qJ⟩ := q; exact ⟨q0, qP, va_K.moved (u := U) (U := U.calling g mk a) (Vm.Alike.refl U.vm) qK, qJ.call g mk a⟩, va_recv hK hP rfl (q0 := 0) rfl, fun U hU hW => ⟨rfl, by rw [hU]; exact hP, va_K.moved hW.alike hK, hJ.move hW (by rw [hU]) (by rw [hU])⟩⟩ rfl hl.1 rfl (lv_room (Nat.le_of_ble_eq_true rfl)) d_Lw_block_5 ⟨(Nat.le_of_ble_eq_true rfl), (Nat.le_of_ble_eq_true rfl)⟩ htab (by decide) (by decide) (hB _ hw_658) (hJ.word 685 (by decide +kernel) rfl) (fun qe H1 hz hk => ?_)
  refine W.eq (g2 := F0 m 13 ls [.ref qe]) rfl ?_
  refine W.widen (k := 1) (n := 6) (Nat.le_of_ble_eq_true rfl) (Nat.le_of_ble_eq_true rfl) ?_
  refine lv_astore hx hb d_Lw_block_13 hl (by decide) rfl (fun ls hl => ?_)
  refine lv_iconst (v := 1) hx hb d_Lw_block_15 (by decide) ?_
  exact W.iret (v := 1) hx hb hr (fun t ht hW => ⟨rfl, by rw [ht]; exact hz, fun z d h => by rw [ht]; exact hk z d h⟩) (fun _ h => nomatch h) d_Lw_block_16
set_option maxHeartbeats 4000000 in
set_option maxRecDepth 100000 in
theorem x_state (l : Launch) (hl0 : l.stackTraces = false) (dC : Nat → ClassId) (dI : Nat → Nat → Nat) (aS aT : Nat) (cS cT : Cell) (x0 : Nat) (q : Nat → Nat) (ci : Nat → ClassId) (o0 : Nat) (p0 : Int32) (h : p0.toInt < 0 ∨ 5 < p0.toInt) : Met l y_Lw_state w_Lw_state ({ frames := 7, cells := 1, slots := 6, locals := 141 }) (va_Pc [.ref x0, .int p0, .ref o0] (fun U => va_P (dC, dI) gx_cl (wTS x0 q ci) U.heap ∧ va_K (dC, dI) gx_cl (kTS ci) U ∧ jx aS aT cS cT U)) (hx_Q 1) 1 6 (fun _ => False) := by
  refine va_MetW (cc := b_Lw_state) (maxL := 4) (ret := (some .int)) (hh := [(0, 9, 12, 31)]) (by decide) rfl ?_
  intro p e s m args below meth c s₁ B hml hv
  obtain ⟨rfl, hP, hK, hJ⟩ := hv
  have hx := B.exec
  have hb := B.bytes
  have hr := B.returns
  have hts := atoms_spec (ws := w_Lw_state) B.pre
  have hB : ∀ w ∈ gx_B, w.before _ s = true := fun w h => hts w (List.mem_cons_of_mem _ h)
  have hown : s.vm.findClass "TapeSealerLaw" = some m.cls := findClass_of_methodNamed B.named
  have hlocks := B.notSynchronized
  have htab : c.exceptionTable.toList = (⟨0, 9, 12, 31⟩ : ExceptionTableEntry) :: [] := tx_table B (hts _ List.mem_cons_self)
  have hl := lv_entry ([.ref x0, .int p0, .ref o0]) (n := 4) (Nat.le_of_ble_eq_true rfl)
  rw [lg_entry_eq]
  generalize (lg_sl ([.ref x0, .int p0, .ref o0]) ++ List.replicate (4 - (lg_sl ([.ref x0, .int p0, .ref o0])).length) Slot.unset).toArray = ls at hl ⊢
  have hl : lv_has ls 4 [(0, .ref x0), (1, .int p0), (2, .ref o0)] := hl
  refine lv_aload_n hx hb d_Lw_state_0 rfl (lv_at hl 2 rfl) ?_
  refine lv_iconst (v := 0) hx hb d_Lw_state_1 (by decide) ?_
  refine lv_aload_n hx hb d_Lw_state_2 rfl (lv_at hl 0 rfl) ?_
  refine lv_iload_n hx hb d_Lw_state_3 rfl (lv_at hl 1 rfl) ?_
  refine W.eq (g2 := F0 m 4 ls [.int p0, .ref x0, .int 0, .ref o0]) rfl ?_
  refine tx_callV (E := "java/lang/IllegalArgumentException") (name := "java/lang/IllegalArgumentException") (As := [.int p0]) (rest := [.int 0, .ref o0]) ⟨hx, hb, hml, hown, hts⟩ (t_TS_state l hl0 dC dI aS aT cS cT x0 q ci p0 h) (cwV 1 hts (gx_goodV hw_876 hw_877 hw_878 hw_66 k_TS_state) rfl rfl rfl (by decide +kernel) ⟨(Nat.le_of_ble_eq_true rfl), (Nat.le_of_ble_eq_true rfl)⟩) ⟨fun a U g mk q => by obtain ⟨q0, qP, qK, qJ⟩ := q; exact ⟨q0, qP, va_K.moved (u := U) (U := U.calling g mk a) (Vm.Alike.refl U.vm) qK, qJ.call g mk a⟩, va_recv hK hP rfl (q0 := 0) rfl, fun U hU hW => ⟨rfl, by rw [hU]; exact hP, va_K.moved hW.alike hK, hJ.move hW (by rw [hU]) (by rw [hU])⟩⟩ rfl hl.1 rfl (lv_room (Nat.le_of_ble_eq_true rfl)) d_Lw_state_4 ⟨(Nat.le_of_ble_eq_true rfl), (Nat.le_of_ble_eq_true rfl)⟩ htab (by decide) (by decide) (hB _ hw_658) (hJ.word 685 (by decide +kernel) rfl) (fun qe H1 hz hk => ?_)
  refine W.eq (g2 := F0 m 12 ls [.ref qe]) rfl ?_
  refine W.widen (k := 1) (n := 6) (Nat.le_of_ble_eq_true rfl) (Nat.le_of_ble_eq_true rfl) ?_
  refine lv_astore_n hx hb d_Lw_state_12 rfl hl (by decide) rfl (fun ls hl => ?_)
  refine lv_iconst (v := 1) hx hb d_Lw_state_13 (by decide) ?_
  exact W.iret (v := 1) hx hb hr (fun t ht hW => ⟨rfl, by rw [ht]; exact hz, fun z d h => by rw [ht]; exact hk z d h⟩) (fun _ h => nomatch h) d_Lw_state_14
set_option maxHeartbeats 4000000 in
set_option maxRecDepth 100000 in
theorem x_damage_b (l : Launch) (hl0 : l.stackTraces = false) (dC : Nat → ClassId) (dI : Nat → Nat → Nat) (aS aT : Nat) (cS cT : Cell) (x0 : Nat) (q : Nat → Nat) (ci : Nat → ClassId) (p0 p1 p2 : Int32) (h : p0 < 0 ∨ 44 ≤ p0 ∨ p1 < 0 ∨ 64 ≤ p1) : Met l y_Lw_damage w_Lw_damage ({ frames := 7, cells := 1, slots := 6, locals := 143 }) (va_Pc [.ref x0, .int p0, .int p1, .int p2] (fun U => va_P (dC, dI) gx_cl (wTS x0 q ci) U.heap ∧ va_K (dC, dI) gx_cl (kTS ci) U ∧ jx aS aT cS cT U)) (hx_Q 1) 1 6 (fun _ => False) := by
  refine va_MetW (cc := b_Lw_damage) (maxL := 5) (ret := (some .int)) (hh := [(0, 7, 10, 31)]) (by decide) rfl ?_
  intro p e s m args below meth c s₁ B hml hv
  obtain ⟨rfl, hP, hK, hJ⟩ := hv
  have hx := B.exec
  have hb := B.bytes
  have hr := B.returns
  have hts := atoms_spec (ws := w_Lw_damage) B.pre
  have hB : ∀ w ∈ gx_B, w.before _ s = true := fun w h => hts w (List.mem_cons_of_mem _ h)
  have hown : s.vm.findClass "TapeSealerLaw" = some m.cls := findClass_of_methodNamed B.named
  have hlocks := B.notSynchronized
  have htab : c.exceptionTable.toList = (⟨0, 7, 10, 31⟩ : ExceptionTableEntry) :: [] := tx_table B (hts _ List.mem_cons_self)
  have hl := lv_entry ([.ref x0, .int p0, .int p1, .int p2]) (n := 5) (Nat.le_of_ble_eq_true rfl)
  rw [lg_entry_eq]
  generalize (lg_sl ([.ref x0, .int p0, .int p1, .int p2]) ++ List.replicate (5 - (lg_sl ([.ref x0, .int p0, .int p1, .int p2])).length) Slot.unset).toArray = ls at hl ⊢
  have hl : lv_has ls 5 [(0, .ref x0), (1, .int p0), (2, .int p1), (3, .int p2)] := hl
  refine lv_aload_n hx hb d_Lw_damage_0 rfl (lv_at hl 0 rfl) ?_
  refine lv_iload_n hx hb d_Lw_damage_1 rfl (lv_at hl 1 rfl) ?_
  refine lv_iload_n hx hb d_Lw_damage_2 rfl (lv_at hl 2 rfl) ?_
  refine lv_iload_n hx hb d_Lw_damage_3 rfl (lv_at hl 3 rfl) ?_
  refine W.eq (g2 := F0 m 4 ls [.int p2, .int p1, .int p0, .ref x0]) rfl ?_
  refine tx_callV (E := "java/lang/IllegalArgumentException") (name := "java/lang/IllegalArgumentException") (As := [.int p0, .int p1, .int p2]) (rest := []) ⟨hx, hb, hml, hown, hts⟩ (t_TS_damage_b l hl0 dC dI aS aT cS cT x0 q ci p0 p1 p2 h) (cwV 3 hts (gx_goodV hw_837 hw_838 hw_839 hw_66 k_TS_damage) rfl rfl rfl (by decide +kernel) ⟨(Nat.le_of_ble_eq_true rfl), (Nat.le_of_ble_eq_true rfl)⟩) ⟨fun a U g mk q => by obtain ⟨q0, qP, qK, qJ⟩ := q; exact ⟨q0, qP, va_K.moved (u := U) (U := U.calling g mk a) (Vm.Alike.refl U.vm) qK, qJ.call g mk a⟩, va_recv hK hP rfl (q0 := 0) rfl, fun U hU hW => ⟨rfl, by rw [hU]; exact hP, va_K.moved hW.alike hK, hJ.move hW (by rw [hU]) (by rw [hU])⟩⟩ rfl hl.1 rfl (lv_room (Nat.le_of_ble_eq_true rfl)) d_Lw_damage_4 ⟨(Nat.le_of_ble_eq_true rfl), (Nat.le_of_ble_eq_true rfl)⟩ htab (by decide) (by decide) (hB _ hw_658) (hJ.word 685 (by decide +kernel) rfl) (fun qe H1 hz hk => ?_)
  refine W.eq (g2 := F0 m 10 ls [.ref qe]) rfl ?_
  refine W.widen (k := 1) (n := 6) (Nat.le_of_ble_eq_true rfl) (Nat.le_of_ble_eq_true rfl) ?_
  refine lv_astore hx hb d_Lw_damage_10 hl (by decide) rfl (fun ls hl => ?_)
  refine lv_iconst (v := 1) hx hb d_Lw_damage_12 (by decide) ?_
  exact W.iret (v := 1) hx hb hr (fun t ht hW => ⟨rfl, by rw [ht]; exact hz, fun z d h => by rw [ht]; exact hk z d h⟩) (fun _ h => nomatch h) d_Lw_damage_13
set_option maxHeartbeats 4000000 in
set_option maxRecDepth 100000 in
theorem x_damage_m (l : Launch) (hl0 : l.stackTraces = false) (dC : Nat → ClassId) (dI : Nat → Nat → Nat) (aS aT : Nat) (cS cT : Cell) (x0 : Nat) (q : Nat → Nat) (ci : Nat → ClassId) (p0 p1 p2 : Int32) (h1 : ¬ p0 < 0) (h2 : ¬ 44 ≤ p0) (h3 : ¬ p1 < 0) (h4 : ¬ 64 ≤ p1) (h : p2 < 0 ∨ 255 < p2) : Met l y_Lw_damage w_Lw_damage ({ frames := 7, cells := 1, slots := 6, locals := 143 }) (va_Pc [.ref x0, .int p0, .int p1, .int p2] (fun U => va_P (dC, dI) gx_cl (wTS x0 q ci) U.heap ∧ va_K (dC, dI) gx_cl (kTS ci) U ∧ jx aS aT cS cT U)) (hx_Q 1) 1 6 (fun _ => False) := by
  refine va_MetW (cc := b_Lw_damage) (maxL := 5) (ret := (some .int)) (hh := [(0, 7, 10, 31)]) (by decide) rfl ?_
  intro p e s m args below meth c s₁ B hml hv
  obtain ⟨rfl, hP, hK, hJ⟩ := hv
  have hx := B.exec
  have hb := B.bytes
  have hr := B.returns
  have hts := atoms_spec (ws := w_Lw_damage) B.pre
  have hB : ∀ w ∈ gx_B, w.before _ s = true := fun w h => hts w (List.mem_cons_of_mem _ h)
  have hown : s.vm.findClass "TapeSealerLaw" = some m.cls := findClass_of_methodNamed B.named
  have hlocks := B.notSynchronized
  have htab : c.exceptionTable.toList = (⟨0, 7, 10, 31⟩ : ExceptionTableEntry) :: [] := tx_table B (hts _ List.mem_cons_self)
  have hl := lv_entry ([.ref x0, .int p0, .int p1, .int p2]) (n := 5) (Nat.le_of_ble_eq_true rfl)
  rw [lg_entry_eq]
  generalize (lg_sl ([.ref x0, .int p0, .int p1, .int p2]) ++ List.replicate (5 - (lg_sl ([.ref x0, .int p0, .int p1, .int p2])).length) Slot.unset).toArray = ls at hl ⊢
  have hl : lv_has ls 5 [(0, .ref x0), (1, .int p0), (2, .int p1), (3, .int p2)] := hl
  refine lv_aload_n hx hb d_Lw_damage_0 rfl (lv_at hl 0 rfl) ?_
  refine lv_iload_n hx hb d_Lw_damage_1 rfl (lv_at hl 1 rfl) ?_
  refine lv_iload_n hx hb d_Lw_damage_2 rfl (lv_at hl 2 rfl) ?_
  refine lv_iload_n hx hb d_Lw_damage_3 rfl (lv_at hl 3 rfl) ?_
  refine W.eq (g2 := F0 m 4 ls [.int p2, .int p1, .int p0, .ref x0]) rfl ?_
  refine tx_callV (E := "java/lang/IllegalArgumentException") (name := "java/lang/IllegalArgumentException") (As := [.int p0, .int p1, .int p2]) (rest := []) ⟨hx, hb, hml, hown, hts⟩ (t_TS_damage_m l hl0 dC dI aS aT cS cT x0 q ci p0 p1 p2 h1 h2 h3 h4 h) (cwV 3 hts (gx_goodV hw_837 hw_838 hw_839 hw_66 k_TS_damage) rfl rfl rfl (by decide +kernel) ⟨(Nat.le_of_ble_eq_true rfl), (Nat.le_of_ble_eq_true rfl)⟩) ⟨fun a U g mk q => by obtain ⟨q0, qP, qK, qJ⟩ := q; exact ⟨q0, qP, va_K.moved (u := U) (U := U.calling g mk a) (Vm.Alike.refl U.vm) qK, qJ.call g mk a⟩, va_recv hK hP rfl (q0 := 0) rfl, fun U hU hW => ⟨rfl, by rw [hU]; exact hP, va_K.moved hW.alike hK, hJ.move hW (by rw [hU]) (by rw [hU])⟩⟩ rfl hl.1 rfl (lv_room (Nat.le_of_ble_eq_true rfl)) d_Lw_damage_4 ⟨(Nat.le_of_ble_eq_true rfl), (Nat.le_of_ble_eq_true rfl)⟩ htab (by decide) (by decide) (hB _ hw_658) (hJ.word 685 (by decide +kernel) rfl) (fun qe H1 hz hk => ?_)
  refine W.eq (g2 := F0 m 10 ls [.ref qe]) rfl ?_
  refine W.widen (k := 1) (n := 6) (Nat.le_of_ble_eq_true rfl) (Nat.le_of_ble_eq_true rfl) ?_
  refine lv_astore hx hb d_Lw_damage_10 hl (by decide) rfl (fun ls hl => ?_)
  refine lv_iconst (v := 1) hx hb d_Lw_damage_12 (by decide) ?_
  exact W.iret (v := 1) hx hb hr (fun t ht hW => ⟨rfl, by rw [ht]; exact hz, fun z d h => by rw [ht]; exact hk z d h⟩) (fun _ h => nomatch h) d_Lw_damage_13
set_option maxHeartbeats 4000000 in
set_option maxRecDepth 100000 in
theorem x_damage1 (l : Launch) (dC : Nat → ClassId) (dI : Nat → Nat → Nat) (sz : Nat) (x0 : Nat) (q : Nat → Nat) (ci : Nat → ClassId) (p0 p1 p2 : Int32) (h1 : ¬ p0 < 0) (h2 : ¬ 44 ≤ p0) (h3 : ¬ p1 < 0) (h4 : ¬ 64 ≤ p1) (h5 : ¬ p2 < 0) (h6 : p2 ≤ 255) : Met l y_Lw_damage w_Lw_damage ({ frames := 2, cells := 0, slots := 0, locals := 44 }) (va_Pc [.ref x0, .int p0, .int p1, .int p2] (fun U => U.heap.size = sz ∧ va_P (dC, dI) gx_cl [(x0, .inr (8, [.ref (q 0), .ref (q 3), .ref (q 18), .ref (q 19), .ref (q 6), .ref (q 20), .ref (q 21), .ref (q 22), .ref (q 23), .ref (q 15), .ref (q 17), .int 0, .ref (q 24), .ref (q 25), .int 0])), ((q 0), .inr (1, [.ref (q 1), .ref (q 2), .int 0, .int (-1), .int 0, .int 0])), ((q 1), .inl ((ci 0), 44, .inr (.inr (.inr (.inr (mx_g (q 1) 44)))))), ((q 1 + 1 + p0.toNatClampNeg), .inl ((ci 1), 64, .inl (fun _ => 0)))] U.heap ∧ va_K (dC, dI) gx_cl (kTS ci) U ∧ va_D (fun _ => True) [(x0, .inr (8, [.ref (q 0), .ref (q 3), .ref (q 18), .ref (q 19), .ref (q 6), .ref (q 20), .ref (q 21), .ref (q 22), .ref (q 23), .ref (q 15), .ref (q 17), .int 0, .ref (q 24), .ref (q 25), .int 0])), ((q 0), .inr (1, [.ref (q 1), .ref (q 2), .int 0, .int (-1), .int 0, .int 0])), ((q 1), .inl ((ci 0), 44, .inr (.inr (.inr (.inr (mx_g (q 1) 44)))))), ((q 1 + 1 + p0.toNatClampNeg), .inl ((ci 1), 64, .inl (fun _ => 0)))])) (va_Qi (fun (r : Int32) (_ : Unit) => r = 0) (fun _ _ => True) (va_A [(x0, .inr (8, [.ref (q 0), .ref (q 3), .ref (q 18), .ref (q 19), .ref (q 6), .ref (q 20), .ref (q 21), .ref (q 22), .ref (q 23), .ref (q 15), .ref (q 17), .int 0, .ref (q 24), .ref (q 25), .int 0])), ((q 0), .inr (1, [.ref (q 1), .ref (q 2), .int 0, .int (-1), .int 0, .int 0])), ((q 1), .inl ((ci 0), 44, .inr (.inr (.inr (.inr (mx_g (q 1) 44)))))), ((q 1 + 1 + p0.toNatClampNeg), .inl ((ci 1), 64, .inl (fun _ => 0)))] sz)) 0 0 (va_A [(x0, .inr (8, [.ref (q 0), .ref (q 3), .ref (q 18), .ref (q 19), .ref (q 6), .ref (q 20), .ref (q 21), .ref (q 22), .ref (q 23), .ref (q 15), .ref (q 17), .int 0, .ref (q 24), .ref (q 25), .int 0])), ((q 0), .inr (1, [.ref (q 1), .ref (q 2), .int 0, .int (-1), .int 0, .int 0])), ((q 1), .inl ((ci 0), 44, .inr (.inr (.inr (.inr (mx_g (q 1) 44)))))), ((q 1 + 1 + p0.toNatClampNeg), .inl ((ci 1), 64, .inl (fun _ => 0)))] sz) := by
  refine va_MetW (cc := b_Lw_damage) (maxL := 5) (ret := (some .int)) (hh := [(0, 7, 10, 31)]) (by decide) rfl ?_
  intro p e s m args below meth c s₁ B hml hv
  obtain ⟨rfl, hsz, hP, hK, hD0⟩ := hv
  have hx := B.exec
  have hb := B.bytes
  have hr := B.returns
  have hts := atoms_spec (ws := w_Lw_damage) B.pre
  have hB : ∀ w ∈ gx_B, w.before _ s = true := fun w h => hts w (List.mem_cons_of_mem _ h)
  have hown : s.vm.findClass "TapeSealerLaw" = some m.cls := findClass_of_methodNamed B.named
  have hlocks := B.notSynchronized
  subst hsz
  have hD := hD0.self (sz := s.heap.size)
  generalize hAe : va_A [(x0, .inr (8, [.ref (q 0), .ref (q 3), .ref (q 18), .ref (q 19), .ref (q 6), .ref (q 20), .ref (q 21), .ref (q 22), .ref (q 23), .ref (q 15), .ref (q 17), .int 0, .ref (q 24), .ref (q 25), .int 0])), ((q 0), .inr (1, [.ref (q 1), .ref (q 2), .int 0, .int (-1), .int 0, .int 0])), ((q 1), .inl ((ci 0), 44, .inr (.inr (.inr (.inr (mx_g (q 1) 44)))))), ((q 1 + 1 + p0.toNatClampNeg), .inl ((ci 1), 64, .inl (fun _ => 0)))] s.heap.size = A at hD ⊢
  have hA : ∀ q : Nat, s.heap.size ≤ q → A q := fun q h => by rw [← hAe]; exact Or.inr h
  have hS : va_S A s.heap s.heap [] := va_S.rf
  have hl := lv_entry ([.ref x0, .int p0, .int p1, .int p2]) (n := 5) (Nat.le_of_ble_eq_true rfl)
  rw [lg_entry_eq]
  generalize (lg_sl ([.ref x0, .int p0, .int p1, .int p2]) ++ List.replicate (5 - (lg_sl ([.ref x0, .int p0, .int p1, .int p2])).length) Slot.unset).toArray = ls at hl ⊢
  have hl : lv_has ls 5 [(0, .ref x0), (1, .int p0), (2, .int p1), (3, .int p2)] := hl
  refine lv_aload_n hx hb d_Lw_damage_0 rfl (lv_at hl 0 rfl) ?_
  refine lv_iload_n hx hb d_Lw_damage_1 rfl (lv_at hl 1 rfl) ?_
  refine lv_iload_n hx hb d_Lw_damage_2 rfl (lv_at hl 2 rfl) ?_
  refine lv_iload_n hx hb d_Lw_damage_3 rfl (lv_at hl 3 rfl) ?_
  refine W.eq (g2 := F0 m 4 ls [.int p2, .int p1, .int p0, .ref x0]) rfl ?_
  have hFc := va_free (wc := [(x0, .inr (8, [.ref (q 0), .ref (q 3), .ref (q 18), .ref (q 19), .ref (q 6), .ref (q 20), .ref (q 21), .ref (q 22), .ref (q 23), .ref (q 15), .ref (q 17), .int 0, .ref (q 24), .ref (q 25), .int 0])), ((q 0), .inr (1, [.ref (q 1), .ref (q 2), .int 0, .int (-1), .int 0, .int 0])), ((q 1), .inl ((ci 0), 44, .inr (.inr (.inr (.inr (mx_g (q 1) 44)))))), ((q 1 + 1 + p0.toNatClampNeg), .inl ((ci 1), 64, .inl (fun _ => 0)))]) hD hS hA [0, 1, 2, 3] rfl
  refine va_callv (va_runV (C := "TapeSealer") (As := [.int p0, .int p1, .int p2]) (rest := []) ⟨hx, hb, hml, hown, hts⟩ (m_TS_damage l dC dI s.heap.size x0 q ci p0 p1 p2 h1 h2 h3 h4 h5 h6) (cwV 3 hts (gx_goodV hw_837 hw_838 hw_839 hw_66 k_TS_damage) rfl rfl rfl (by decide +kernel) ⟨(Nat.le_of_ble_eq_true rfl), (Nat.le_of_ble_eq_true rfl)⟩) ⟨fun a U g mk q => by obtain ⟨q0, q1, qP, qK, qD⟩ := q; exact ⟨q0, q1, qP, va_K.moved (u := U) (U := U.calling g mk a) (Vm.Alike.refl U.vm) qK, qD⟩, va_recv hK hP rfl (q0 := 0) rfl, fun U hU hW => ⟨rfl, by rw [hU], by rw [hU]; exact hP, va_K.moved hW.alike hK, hD.weaken (fun _ _ _ _ => trivial)⟩⟩ rfl rfl hl.1 rfl (lv_room (Nat.le_of_ble_eq_true rfl)) d_Lw_damage_4 ⟨(Nat.le_of_ble_eq_true rfl), (Nat.le_of_ble_eq_true rfl)⟩) hS (fun q _ h => hFc q h) hFc (fun u t H1 locs ht hvm hw hB1 hz1 hk1 hS => ?_)
  refine W.eq (g2 := F0 m 7 ls []) rfl ?_
  refine lv_goto (tgt := 14) hx hb d_Lw_damage_7 (by decide) ?_
  refine lv_iconst (v := 0) hx hb d_Lw_damage_14 (by decide) ?_
  refine W.widen (k := 0) (n := 0) (Nat.le_of_ble_eq_true rfl) (Nat.le_of_ble_eq_true rfl) ?_
  exact W.iret (v := 0) hx hb hr (fun t ht hW => ⟨⟨0, (), rfl, rfl, trivial⟩, hS.F ht⟩) hS.2.2 d_Lw_damage_15
set_option maxHeartbeats 4000000 in
set_option maxRecDepth 100000 in
theorem x_spoil1 (l : Launch) (dC : Nat → ClassId) (dI : Nat → Nat → Nat) (sz : Nat) (x0 : Nat) (q : Nat → Nat) (ci : Nat → ClassId) (p0 : Int32) (h1 : ¬ p0 < 0) (h2 : ¬ 44 ≤ p0) : Met l y_Lw_spoil w_Lw_spoil ({ frames := 2, cells := 0, slots := 0, locals := 42 }) (va_Pc [.ref x0, .int p0] (fun U => U.heap.size = sz ∧ va_P (dC, dI) gx_cl [(x0, .inr (8, [.ref (q 0), .ref (q 3), .ref (q 18), .ref (q 19), .ref (q 6), .ref (q 20), .ref (q 21), .ref (q 22), .ref (q 23), .ref (q 15), .ref (q 17), .int 0, .ref (q 24), .ref (q 25), .int 0])), ((q 0), .inr (1, [.ref (q 1), .ref (q 2), .int 0, .int (-1), .int 0, .int 0])), ((q 2), .inl ((ci 2), 44, .inl (fun _ => 0)))] U.heap ∧ va_K (dC, dI) gx_cl (kTS ci) U ∧ va_D (fun _ => True) [(x0, .inr (8, [.ref (q 0), .ref (q 3), .ref (q 18), .ref (q 19), .ref (q 6), .ref (q 20), .ref (q 21), .ref (q 22), .ref (q 23), .ref (q 15), .ref (q 17), .int 0, .ref (q 24), .ref (q 25), .int 0])), ((q 0), .inr (1, [.ref (q 1), .ref (q 2), .int 0, .int (-1), .int 0, .int 0])), ((q 2), .inl ((ci 2), 44, .inl (fun _ => 0)))])) (va_Qi (fun (r : Int32) (_ : Unit) => r = 0) (fun _ _ => True) (va_A [(x0, .inr (8, [.ref (q 0), .ref (q 3), .ref (q 18), .ref (q 19), .ref (q 6), .ref (q 20), .ref (q 21), .ref (q 22), .ref (q 23), .ref (q 15), .ref (q 17), .int 0, .ref (q 24), .ref (q 25), .int 0])), ((q 0), .inr (1, [.ref (q 1), .ref (q 2), .int 0, .int (-1), .int 0, .int 0])), ((q 2), .inl ((ci 2), 44, .inl (fun _ => 0)))] sz)) 0 0 (va_A [(x0, .inr (8, [.ref (q 0), .ref (q 3), .ref (q 18), .ref (q 19), .ref (q 6), .ref (q 20), .ref (q 21), .ref (q 22), .ref (q 23), .ref (q 15), .ref (q 17), .int 0, .ref (q 24), .ref (q 25), .int 0])), ((q 0), .inr (1, [.ref (q 1), .ref (q 2), .int 0, .int (-1), .int 0, .int 0])), ((q 2), .inl ((ci 2), 44, .inl (fun _ => 0)))] sz) := by
  refine va_MetW (cc := b_Lw_spoil) (maxL := 3) (ret := (some .int)) (hh := [(0, 5, 8, 31)]) (by decide) rfl ?_
  intro p e s m args below meth c s₁ B hml hv
  obtain ⟨rfl, hsz, hP, hK, hD0⟩ := hv
  have hx := B.exec
  have hb := B.bytes
  have hr := B.returns
  have hts := atoms_spec (ws := w_Lw_spoil) B.pre
  have hB : ∀ w ∈ gx_B, w.before _ s = true := fun w h => hts w (List.mem_cons_of_mem _ h)
  have hown : s.vm.findClass "TapeSealerLaw" = some m.cls := findClass_of_methodNamed B.named
  have hlocks := B.notSynchronized
  subst hsz
  have hD := hD0.self (sz := s.heap.size)
  generalize hAe : va_A [(x0, .inr (8, [.ref (q 0), .ref (q 3), .ref (q 18), .ref (q 19), .ref (q 6), .ref (q 20), .ref (q 21), .ref (q 22), .ref (q 23), .ref (q 15), .ref (q 17), .int 0, .ref (q 24), .ref (q 25), .int 0])), ((q 0), .inr (1, [.ref (q 1), .ref (q 2), .int 0, .int (-1), .int 0, .int 0])), ((q 2), .inl ((ci 2), 44, .inl (fun _ => 0)))] s.heap.size = A at hD ⊢
  have hA : ∀ q : Nat, s.heap.size ≤ q → A q := fun q h => by rw [← hAe]; exact Or.inr h
  have hS : va_S A s.heap s.heap [] := va_S.rf
  have hl := lv_entry ([.ref x0, .int p0]) (n := 3) (Nat.le_of_ble_eq_true rfl)
  rw [lg_entry_eq]
  generalize (lg_sl ([.ref x0, .int p0]) ++ List.replicate (3 - (lg_sl ([.ref x0, .int p0])).length) Slot.unset).toArray = ls at hl ⊢
  have hl : lv_has ls 3 [(0, .ref x0), (1, .int p0)] := hl
  refine lv_aload_n hx hb d_Lw_spoil_0 rfl (lv_at hl 0 rfl) ?_
  refine lv_iload_n hx hb d_Lw_spoil_1 rfl (lv_at hl 1 rfl) ?_
  refine W.eq (g2 := F0 m 2 ls [.int p0, .ref x0]) rfl ?_
  have hFc := va_free (wc := [(x0, .inr (8, [.ref (q 0), .ref (q 3), .ref (q 18), .ref (q 19), .ref (q 6), .ref (q 20), .ref (q 21), .ref (q 22), .ref (q 23), .ref (q 15), .ref (q 17), .int 0, .ref (q 24), .ref (q 25), .int 0])), ((q 0), .inr (1, [.ref (q 1), .ref (q 2), .int 0, .int (-1), .int 0, .int 0])), ((q 2), .inl ((ci 2), 44, .inl (fun _ => 0)))]) hD hS hA [0, 1, 2] rfl
  refine va_callv (va_runV (C := "TapeSealer") (As := [.int p0]) (rest := []) ⟨hx, hb, hml, hown, hts⟩ (m_TS_spoil l dC dI s.heap.size x0 q ci p0 h1 h2) (cwV 1 hts (gx_goodV hw_848 hw_849 hw_850 hw_66 k_TS_spoil) rfl rfl rfl (by decide +kernel) ⟨(Nat.le_of_ble_eq_true rfl), (Nat.le_of_ble_eq_true rfl)⟩) ⟨fun a U g mk q => by obtain ⟨q0, q1, qP, qK, qD⟩ := q; exact ⟨q0, q1, qP, va_K.moved (u := U) (U := U.calling g mk a) (Vm.Alike.refl U.vm) qK, qD⟩, va_recv hK hP rfl (q0 := 0) rfl, fun U hU hW => ⟨rfl, by rw [hU], by rw [hU]; exact hP, va_K.moved hW.alike hK, hD.weaken (fun _ _ _ _ => trivial)⟩⟩ rfl rfl hl.1 rfl (lv_room (Nat.le_of_ble_eq_true rfl)) d_Lw_spoil_2 ⟨(Nat.le_of_ble_eq_true rfl), (Nat.le_of_ble_eq_true rfl)⟩) hS (fun q _ h => hFc q h) hFc (fun u t H1 locs ht hvm hw hB1 hz1 hk1 hS => ?_)
  refine W.eq (g2 := F0 m 5 ls []) rfl ?_
  refine lv_goto (tgt := 11) hx hb d_Lw_spoil_5 (by decide) ?_
  refine lv_iconst (v := 0) hx hb d_Lw_spoil_11 (by decide) ?_
  refine W.widen (k := 0) (n := 0) (Nat.le_of_ble_eq_true rfl) (Nat.le_of_ble_eq_true rfl) ?_
  exact W.iret (v := 0) hx hb hr (fun t ht hW => ⟨⟨0, (), rfl, rfl, trivial⟩, hS.F ht⟩) hS.2.2 d_Lw_spoil_12
set_option maxHeartbeats 4000000 in
set_option maxRecDepth 100000 in
theorem x_stopAfter1 (l : Launch) (dC : Nat → ClassId) (dI : Nat → Nat → Nat) (sz : Nat) (x0 : Nat) (q : Nat → Nat) (ci : Nat → ClassId) (p0 : Int32) (h : p0 ≤ 100) : Met l y_Lw_stopAfter w_Lw_stopAfter ({ frames := 3, cells := 0, slots := 0, locals := 81 }) (va_Pc [.ref x0, .int p0] (fun U => U.heap.size = sz ∧ va_P (dC, dI) gx_cl [(x0, .inr (8, [.ref (q 0), .ref (q 3), .ref (q 18), .ref (q 19), .ref (q 6), .ref (q 20), .ref (q 21), .ref (q 22), .ref (q 23), .ref (q 15), .ref (q 17), .int 0, .ref (q 24), .ref (q 25), .int 0])), ((q 0), .inr (1, [.ref (q 1), .ref (q 2), .int 0, .int (-1), .int 0, .int 0]))] U.heap ∧ va_K (dC, dI) gx_cl (kTS ci) U ∧ va_D (fun _ => True) [(x0, .inr (8, [.ref (q 0), .ref (q 3), .ref (q 18), .ref (q 19), .ref (q 6), .ref (q 20), .ref (q 21), .ref (q 22), .ref (q 23), .ref (q 15), .ref (q 17), .int 0, .ref (q 24), .ref (q 25), .int 0])), ((q 0), .inr (1, [.ref (q 1), .ref (q 2), .int 0, .int (-1), .int 0, .int 0]))])) (va_Qi (fun (r : Int32) (_ : Unit) => r = 0) (fun _ _ => True) (va_A [(x0, .inr (8, [.ref (q 0), .ref (q 3), .ref (q 18), .ref (q 19), .ref (q 6), .ref (q 20), .ref (q 21), .ref (q 22), .ref (q 23), .ref (q 15), .ref (q 17), .int 0, .ref (q 24), .ref (q 25), .int 0])), ((q 0), .inr (1, [.ref (q 1), .ref (q 2), .int 0, .int (-1), .int 0, .int 0]))] sz)) 0 0 (va_A [(x0, .inr (8, [.ref (q 0), .ref (q 3), .ref (q 18), .ref (q 19), .ref (q 6), .ref (q 20), .ref (q 21), .ref (q 22), .ref (q 23), .ref (q 15), .ref (q 17), .int 0, .ref (q 24), .ref (q 25), .int 0])), ((q 0), .inr (1, [.ref (q 1), .ref (q 2), .int 0, .int (-1), .int 0, .int 0]))] sz) := by
  refine va_MetW (cc := b_Lw_stopAfter) (maxL := 3) (ret := (some .int)) (hh := [(0, 5, 8, 31)]) (by decide) rfl ?_
  intro p e s m args below meth c s₁ B hml hv
  obtain ⟨rfl, hsz, hP, hK, hD0⟩ := hv
  have hx := B.exec
  have hb := B.bytes
  have hr := B.returns
  have hts := atoms_spec (ws := w_Lw_stopAfter) B.pre
  have hB : ∀ w ∈ gx_B, w.before _ s = true := fun w h => hts w (List.mem_cons_of_mem _ h)
  have hown : s.vm.findClass "TapeSealerLaw" = some m.cls := findClass_of_methodNamed B.named
  have hlocks := B.notSynchronized
  subst hsz
  have hD := hD0.self (sz := s.heap.size)
  generalize hAe : va_A [(x0, .inr (8, [.ref (q 0), .ref (q 3), .ref (q 18), .ref (q 19), .ref (q 6), .ref (q 20), .ref (q 21), .ref (q 22), .ref (q 23), .ref (q 15), .ref (q 17), .int 0, .ref (q 24), .ref (q 25), .int 0])), ((q 0), .inr (1, [.ref (q 1), .ref (q 2), .int 0, .int (-1), .int 0, .int 0]))] s.heap.size = A at hD ⊢
  have hA : ∀ q : Nat, s.heap.size ≤ q → A q := fun q h => by rw [← hAe]; exact Or.inr h
  have hS : va_S A s.heap s.heap [] := va_S.rf
  have hl := lv_entry ([.ref x0, .int p0]) (n := 3) (Nat.le_of_ble_eq_true rfl)
  rw [lg_entry_eq]
  generalize (lg_sl ([.ref x0, .int p0]) ++ List.replicate (3 - (lg_sl ([.ref x0, .int p0])).length) Slot.unset).toArray = ls at hl ⊢
  have hl : lv_has ls 3 [(0, .ref x0), (1, .int p0)] := hl
  refine lv_aload_n hx hb d_Lw_stopAfter_0 rfl (lv_at hl 0 rfl) ?_
  refine lv_iload_n hx hb d_Lw_stopAfter_1 rfl (lv_at hl 1 rfl) ?_
  refine W.eq (g2 := F0 m 2 ls [.int p0, .ref x0]) rfl ?_
  have hFc := va_free (wc := [(x0, .inr (8, [.ref (q 0), .ref (q 3), .ref (q 18), .ref (q 19), .ref (q 6), .ref (q 20), .ref (q 21), .ref (q 22), .ref (q 23), .ref (q 15), .ref (q 17), .int 0, .ref (q 24), .ref (q 25), .int 0])), ((q 0), .inr (1, [.ref (q 1), .ref (q 2), .int 0, .int (-1), .int 0, .int 0]))]) hD hS hA [0, 1] rfl
  refine va_callv (va_runV (C := "TapeSealer") (As := [.int p0]) (rest := []) ⟨hx, hb, hml, hown, hts⟩ (m_TS_stopAfter l dC dI s.heap.size x0 q ci p0 h) (cwV 1 hts (gx_goodV hw_855 hw_856 hw_857 hw_66 k_TS_stopAfter) rfl rfl rfl (by decide +kernel) ⟨(Nat.le_of_ble_eq_true rfl), (Nat.le_of_ble_eq_true rfl)⟩) ⟨fun a U g mk q => by obtain ⟨q0, q1, qP, qK, qD⟩ := q; exact ⟨q0, q1, qP, va_K.moved (u := U) (U := U.calling g mk a) (Vm.Alike.refl U.vm) qK, qD⟩, va_recv hK hP rfl (q0 := 0) rfl, fun U hU hW => ⟨rfl, by rw [hU], by rw [hU]; exact hP, va_K.moved hW.alike hK, hD.weaken (fun _ _ _ _ => trivial)⟩⟩ rfl rfl hl.1 rfl (lv_room (Nat.le_of_ble_eq_true rfl)) d_Lw_stopAfter_2 ⟨(Nat.le_of_ble_eq_true rfl), (Nat.le_of_ble_eq_true rfl)⟩) hS (fun q _ h => hFc q h) hFc (fun u t H1 locs ht hvm hw hB1 hz1 hk1 hS => ?_)
  refine W.eq (g2 := F0 m 5 ls []) rfl ?_
  refine lv_goto (tgt := 11) hx hb d_Lw_stopAfter_5 (by decide) ?_
  refine lv_iconst (v := 0) hx hb d_Lw_stopAfter_11 (by decide) ?_
  refine W.widen (k := 0) (n := 0) (Nat.le_of_ble_eq_true rfl) (Nat.le_of_ble_eq_true rfl) ?_
  exact W.iret (v := 0) hx hb hr (fun t ht hW => ⟨⟨0, (), rfl, rfl, trivial⟩, hS.F ht⟩) hS.2.2 d_Lw_stopAfter_12
set_option maxHeartbeats 4000000 in
set_option maxRecDepth 100000 in
theorem x_scrub1 (l : Launch) (dC : Nat → ClassId) (dI : Nat → Nat → Nat) (sz : Nat) (x0 : Nat) (q : Nat → Nat) (ci : Nat → ClassId) (o0 : Nat) (cO : ClassId) (p0 : Int32) (h1 : ¬ p0 < 0) (h2 : p0 < 6) : Met l y_Lw_scrub w_Lw_scrub ({ frames := 3, cells := 0, slots := 0, locals := 68 }) (va_Pc [.ref x0, .int p0, .ref o0] (fun U => U.heap.size = sz ∧ va_P (dC, dI) gx_cl [(o0, .inl (cO, 1, .inr (.inl (fun _ => 0))))] U.heap ∧ va_K (dC, dI) gx_cl [(cO, .long)] U ∧ va_P (dC, dI) gx_cl (wTS x0 q ci) U.heap ∧ va_K (dC, dI) gx_cl (kTS ci) U)) (va_Qi (fun (r : Int32) (_ : Unit) => r = 0) (fun _ t => va_P (dC, dI) gx_cl [(o0, .inl (cO, 1, .inr (.inl (vp_updL (fun _ => 0) 0 (-1)))))] t.heap) (va_A [(o0, .inl (cO, 1, .inr (.inl (fun _ => 0))))] sz)) 0 0 (va_A [(o0, .inl (cO, 1, .inr (.inl (fun _ => 0))))] sz) := by
  refine va_MetW (cc := b_Lw_scrub) (maxL := 4) (ret := (some .int)) (hh := [(0, 9, 12, 31), (0, 9, 15, 13)]) (by decide) rfl ?_
  intro p e s m args below meth c s₁ B hml hv
  obtain ⟨rfl, hsz, hP, hK, hPx, hKx⟩ := hv
  have hx := B.exec
  have hb := B.bytes
  have hr := B.returns
  have hts := atoms_spec (ws := w_Lw_scrub) B.pre
  have hB : ∀ w ∈ gx_B, w.before _ s = true := fun w h => hts w (List.mem_cons_of_mem _ h)
  have hown : s.vm.findClass "TapeSealerLaw" = some m.cls := findClass_of_methodNamed B.named
  have hlocks := B.notSynchronized
  subst hsz
  have hD : va_D (va_A [(o0, .inl (cO, 1, .inr (.inl (fun _ => 0))))] s.heap.size) [(o0, .inl (cO, 1, .inr (.inl (fun _ => 0))))] := gx_D1 (Or.inl ⟨0, _, rfl⟩)
  generalize hAe : va_A [(o0, .inl (cO, 1, .inr (.inl (fun _ => 0))))] s.heap.size = A at hD ⊢
  have hS : va_S A s.heap s.heap [] := va_S.rf
  have hl := lv_entry ([.ref x0, .int p0, .ref o0]) (n := 4) (Nat.le_of_ble_eq_true rfl)
  rw [lg_entry_eq]
  generalize (lg_sl ([.ref x0, .int p0, .ref o0]) ++ List.replicate (4 - (lg_sl ([.ref x0, .int p0, .ref o0])).length) Slot.unset).toArray = ls at hl ⊢
  have hl : lv_has ls 4 [(0, .ref x0), (1, .int p0), (2, .ref o0)] := hl
  refine lv_aload_n hx hb d_Lw_scrub_0 rfl (lv_at hl 2 rfl) ?_
  refine lv_iconst (v := 0) hx hb d_Lw_scrub_1 (by decide) ?_
  refine lv_aload_n hx hb d_Lw_scrub_2 rfl (lv_at hl 0 rfl) ?_
  refine lv_iload_n hx hb d_Lw_scrub_3 rfl (lv_at hl 1 rfl) ?_
  refine W.eq (g2 := F0 m 4 ls [.int p0, .ref x0, .int 0, .ref o0]) rfl ?_
  refine px_go (va_runV (C := "TapeSealer") (As := [.int p0]) (rest := [.int 0, .ref o0]) ⟨hx, hb, hml, hown, hts⟩ (p_TS_scrub l dC dI x0 q ci p0 h1 h2) (cwV 1 hts (gx_goodV hw_821 hw_822 hw_823 hw_66 k_TS_scrub) rfl rfl rfl (by decide +kernel) ⟨(Nat.le_of_ble_eq_true rfl), (Nat.le_of_ble_eq_true rfl)⟩) ⟨fun a U g mk q => by obtain ⟨q0, qP, qK⟩ := q; exact ⟨q0, qP, va_K.moved (u := U) (U := U.calling g mk a) (Vm.Alike.refl U.vm) qK⟩, va_recv hKx hPx rfl (q0 := 0) rfl, fun U hU hW => ⟨rfl, by rw [hU]; exact hPx, va_K.moved hW.alike hKx⟩⟩ rfl rfl hl.1 rfl (lv_room (Nat.le_of_ble_eq_true rfl)) d_Lw_scrub_4 ⟨(Nat.le_of_ble_eq_true rfl), (Nat.le_of_ble_eq_true rfl)⟩) ?_
  refine W.eq (g2 := F0 m 7 ls [.int (-1), .int 0, .ref o0]) rfl ?_
  refine lv_i2l (v := (-1)) hx hb d_Lw_scrub_7 (by decide) ?_
  refine va_last (D := (dC, dI)) hx hb hK hP hD hS 0 0 rfl rfl (by unfold vp_in; decide) d_Lw_scrub_8 (fun H locs hP hD hS => ?_)
  have hP : va_P (dC, dI) gx_cl [(o0, .inl (cO, 1, .inr (.inl (vp_updL (fun _ => 0) 0 (-1)))))] H := hP
  refine W.eq (g2 := F0 m 9 ls []) rfl ?_
  refine lv_goto (tgt := 18) hx hb d_Lw_scrub_9 (by decide) ?_
  refine lv_iconst (v := 0) hx hb d_Lw_scrub_18 (by decide) ?_
  refine W.widen (k := 0) (n := 0) (Nat.le_of_ble_eq_true rfl) (Nat.le_of_ble_eq_true rfl) ?_
  exact W.iret (v := 0) hx hb hr (fun t ht hW => ⟨⟨0, (), rfl, rfl, by show va_P _ _ _ t.heap; rw [ht]; exact hP⟩, hS.F ht⟩) hS.2.2 d_Lw_scrub_19
set_option maxHeartbeats 4000000 in
set_option maxRecDepth 100000 in
theorem x_state0 (l : Launch) (dC : Nat → ClassId) (dI : Nat → Nat → Nat) (sz : Nat) (x0 : Nat) (q : Nat → Nat) (ci : Nat → ClassId) (o0 : Nat) (cO : ClassId) : Met l y_Lw_state w_Lw_state ({ frames := 2, cells := 0, slots := 0, locals := 43 }) (va_Pc [.ref x0, .int 0, .ref o0] (fun U => U.heap.size = sz ∧ va_P (dC, dI) gx_cl [(o0, .inl (cO, 1, .inr (.inl (fun _ => 0))))] U.heap ∧ va_K (dC, dI) gx_cl [(cO, .long)] U ∧ va_P (dC, dI) gx_cl (wTS x0 q ci) U.heap ∧ va_K (dC, dI) gx_cl (kTS ci) U)) (va_Qi (fun (r : Int32) (_ : Unit) => r = 0) (fun _ t => va_P (dC, dI) gx_cl [(o0, .inl (cO, 1, .inr (.inl (vp_updL (fun _ => 0) 0 0))))] t.heap) (va_A [(o0, .inl (cO, 1, .inr (.inl (fun _ => 0))))] sz)) 0 0 (va_A [(o0, .inl (cO, 1, .inr (.inl (fun _ => 0))))] sz) := by
  refine va_MetW (cc := b_Lw_state) (maxL := 4) (ret := (some .int)) (hh := [(0, 9, 12, 31)]) (by decide) rfl ?_
  intro p e s m args below meth c s₁ B hml hv
  obtain ⟨rfl, hsz, hP, hK, hPx, hKx⟩ := hv
  have hx := B.exec
  have hb := B.bytes
  have hr := B.returns
  have hts := atoms_spec (ws := w_Lw_state) B.pre
  have hB : ∀ w ∈ gx_B, w.before _ s = true := fun w h => hts w (List.mem_cons_of_mem _ h)
  have hown : s.vm.findClass "TapeSealerLaw" = some m.cls := findClass_of_methodNamed B.named
  have hlocks := B.notSynchronized
  subst hsz
  have hD : va_D (va_A [(o0, .inl (cO, 1, .inr (.inl (fun _ => 0))))] s.heap.size) [(o0, .inl (cO, 1, .inr (.inl (fun _ => 0))))] := gx_D1 (Or.inl ⟨0, _, rfl⟩)
  generalize hAe : va_A [(o0, .inl (cO, 1, .inr (.inl (fun _ => 0))))] s.heap.size = A at hD ⊢
  have hS : va_S A s.heap s.heap [] := va_S.rf
  have hl := lv_entry ([.ref x0, .int 0, .ref o0]) (n := 4) (Nat.le_of_ble_eq_true rfl)
  rw [lg_entry_eq]
  generalize (lg_sl ([.ref x0, .int 0, .ref o0]) ++ List.replicate (4 - (lg_sl ([.ref x0, .int 0, .ref o0])).length) Slot.unset).toArray = ls at hl ⊢
  have hl : lv_has ls 4 [(0, .ref x0), (1, .int 0), (2, .ref o0)] := hl
  refine lv_aload_n hx hb d_Lw_state_0 rfl (lv_at hl 2 rfl) ?_
  refine lv_iconst (v := 0) hx hb d_Lw_state_1 (by decide) ?_
  refine lv_aload_n hx hb d_Lw_state_2 rfl (lv_at hl 0 rfl) ?_
  refine lv_iload_n hx hb d_Lw_state_3 rfl (lv_at hl 1 rfl) ?_
  refine W.eq (g2 := F0 m 4 ls [.int 0, .ref x0, .int 0, .ref o0]) rfl ?_
  refine px_go (va_runV (C := "TapeSealer") (As := [.int 0]) (rest := [.int 0, .ref o0]) ⟨hx, hb, hml, hown, hts⟩ (p_TS_state0 l dC dI x0 q ci) (cwV 1 hts (gx_goodV hw_876 hw_877 hw_878 hw_66 k_TS_state) rfl rfl rfl (by decide +kernel) ⟨(Nat.le_of_ble_eq_true rfl), (Nat.le_of_ble_eq_true rfl)⟩) ⟨fun a U g mk q => by obtain ⟨q0, qP, qK⟩ := q; exact ⟨q0, qP, va_K.moved (u := U) (U := U.calling g mk a) (Vm.Alike.refl U.vm) qK⟩, va_recv hKx hPx rfl (q0 := 0) rfl, fun U hU hW => ⟨rfl, by rw [hU]; exact hPx, va_K.moved hW.alike hKx⟩⟩ rfl rfl hl.1 rfl (lv_room (Nat.le_of_ble_eq_true rfl)) d_Lw_state_4 ⟨(Nat.le_of_ble_eq_true rfl), (Nat.le_of_ble_eq_true rfl)⟩) ?_
  refine W.eq (g2 := F0 m 7 ls [.int 0, .int 0, .ref o0]) rfl ?_
  refine lv_i2l (v := 0) hx hb d_Lw_state_7 (by decide) ?_
  refine va_last (D := (dC, dI)) hx hb hK hP hD hS 0 0 rfl rfl (by unfold vp_in; decide) d_Lw_state_8 (fun H locs hP hD hS => ?_)
  have hP : va_P (dC, dI) gx_cl [(o0, .inl (cO, 1, .inr (.inl (vp_updL (fun _ => 0) 0 0))))] H := hP
  refine W.eq (g2 := F0 m 9 ls []) rfl ?_
  refine lv_goto (tgt := 15) hx hb d_Lw_state_9 (by decide) ?_
  refine lv_iconst (v := 0) hx hb d_Lw_state_15 (by decide) ?_
  refine W.widen (k := 0) (n := 0) (Nat.le_of_ble_eq_true rfl) (Nat.le_of_ble_eq_true rfl) ?_
  exact W.iret (v := 0) hx hb hr (fun t ht hW => ⟨⟨0, (), rfl, rfl, by show va_P _ _ _ t.heap; rw [ht]; exact hP⟩, hS.F ht⟩) hS.2.2 d_Lw_state_16
set_option maxHeartbeats 4000000 in
set_option maxRecDepth 100000 in
theorem x_state1 (l : Launch) (dC : Nat → ClassId) (dI : Nat → Nat → Nat) (sz : Nat) (x0 : Nat) (q : Nat → Nat) (ci : Nat → ClassId) (o0 : Nat) (cO : ClassId) : Met l y_Lw_state w_Lw_state ({ frames := 4, cells := 0, slots := 0, locals := 86 }) (va_Pc [.ref x0, .int 1, .ref o0] (fun U => U.heap.size = sz ∧ va_P (dC, dI) gx_cl [(o0, .inl (cO, 1, .inr (.inl (fun _ => 0))))] U.heap ∧ va_K (dC, dI) gx_cl [(cO, .long)] U ∧ va_P (dC, dI) gx_cl (wTS x0 q ci) U.heap ∧ va_K (dC, dI) gx_cl (kTS ci) U)) (va_Qi (fun (r : Int32) (_ : Unit) => r = 0) (fun _ t => va_P (dC, dI) gx_cl [(o0, .inl (cO, 1, .inr (.inl (vp_updL (fun _ => 0) 0 6))))] t.heap) (va_A [(o0, .inl (cO, 1, .inr (.inl (fun _ => 0))))] sz)) 0 0 (va_A [(o0, .inl (cO, 1, .inr (.inl (fun _ => 0))))] sz) := by
  refine va_MetW (cc := b_Lw_state) (maxL := 4) (ret := (some .int)) (hh := [(0, 9, 12, 31)]) (by decide) rfl ?_
  intro p e s m args below meth c s₁ B hml hv
  obtain ⟨rfl, hsz, hP, hK, hPx, hKx⟩ := hv
  have hx := B.exec
  have hb := B.bytes
  have hr := B.returns
  have hts := atoms_spec (ws := w_Lw_state) B.pre
  have hB : ∀ w ∈ gx_B, w.before _ s = true := fun w h => hts w (List.mem_cons_of_mem _ h)
  have hown : s.vm.findClass "TapeSealerLaw" = some m.cls := findClass_of_methodNamed B.named
  have hlocks := B.notSynchronized
  subst hsz
  have hD : va_D (va_A [(o0, .inl (cO, 1, .inr (.inl (fun _ => 0))))] s.heap.size) [(o0, .inl (cO, 1, .inr (.inl (fun _ => 0))))] := gx_D1 (Or.inl ⟨0, _, rfl⟩)
  generalize hAe : va_A [(o0, .inl (cO, 1, .inr (.inl (fun _ => 0))))] s.heap.size = A at hD ⊢
  have hS : va_S A s.heap s.heap [] := va_S.rf
  have hl := lv_entry ([.ref x0, .int 1, .ref o0]) (n := 4) (Nat.le_of_ble_eq_true rfl)
  rw [lg_entry_eq]
  generalize (lg_sl ([.ref x0, .int 1, .ref o0]) ++ List.replicate (4 - (lg_sl ([.ref x0, .int 1, .ref o0])).length) Slot.unset).toArray = ls at hl ⊢
  have hl : lv_has ls 4 [(0, .ref x0), (1, .int 1), (2, .ref o0)] := hl
  refine lv_aload_n hx hb d_Lw_state_0 rfl (lv_at hl 2 rfl) ?_
  refine lv_iconst (v := 0) hx hb d_Lw_state_1 (by decide) ?_
  refine lv_aload_n hx hb d_Lw_state_2 rfl (lv_at hl 0 rfl) ?_
  refine lv_iload_n hx hb d_Lw_state_3 rfl (lv_at hl 1 rfl) ?_
  refine W.eq (g2 := F0 m 4 ls [.int 1, .ref x0, .int 0, .ref o0]) rfl ?_
  refine px_go (va_runV (C := "TapeSealer") (As := [.int 1]) (rest := [.int 0, .ref o0]) ⟨hx, hb, hml, hown, hts⟩ (p_TS_state1 l dC dI x0 q ci) (cwV 1 hts (gx_goodV hw_876 hw_877 hw_878 hw_66 k_TS_state) rfl rfl rfl (by decide +kernel) ⟨(Nat.le_of_ble_eq_true rfl), (Nat.le_of_ble_eq_true rfl)⟩) ⟨fun a U g mk q => by obtain ⟨q0, qP, qK⟩ := q; exact ⟨q0, qP, va_K.moved (u := U) (U := U.calling g mk a) (Vm.Alike.refl U.vm) qK⟩, va_recv hKx hPx rfl (q0 := 0) rfl, fun U hU hW => ⟨rfl, by rw [hU]; exact hPx, va_K.moved hW.alike hKx⟩⟩ rfl rfl hl.1 rfl (lv_room (Nat.le_of_ble_eq_true rfl)) d_Lw_state_4 ⟨(Nat.le_of_ble_eq_true rfl), (Nat.le_of_ble_eq_true rfl)⟩) ?_
  refine W.eq (g2 := F0 m 7 ls [.int 6, .int 0, .ref o0]) rfl ?_
  refine lv_i2l (v := 6) hx hb d_Lw_state_7 (by decide) ?_
  refine va_last (D := (dC, dI)) hx hb hK hP hD hS 0 0 rfl rfl (by unfold vp_in; decide) d_Lw_state_8 (fun H locs hP hD hS => ?_)
  have hP : va_P (dC, dI) gx_cl [(o0, .inl (cO, 1, .inr (.inl (vp_updL (fun _ => 0) 0 6))))] H := hP
  refine W.eq (g2 := F0 m 9 ls []) rfl ?_
  refine lv_goto (tgt := 15) hx hb d_Lw_state_9 (by decide) ?_
  refine lv_iconst (v := 0) hx hb d_Lw_state_15 (by decide) ?_
  refine W.widen (k := 0) (n := 0) (Nat.le_of_ble_eq_true rfl) (Nat.le_of_ble_eq_true rfl) ?_
  exact W.iret (v := 0) hx hb hr (fun t ht hW => ⟨⟨0, (), rfl, rfl, by show va_P _ _ _ t.heap; rw [ht]; exact hP⟩, hS.F ht⟩) hS.2.2 d_Lw_state_16
set_option maxHeartbeats 4000000 in
set_option maxRecDepth 100000 in
theorem x_state2 (l : Launch) (dC : Nat → ClassId) (dI : Nat → Nat → Nat) (sz : Nat) (x0 : Nat) (q : Nat → Nat) (ci : Nat → ClassId) (o0 : Nat) (cO : ClassId) : Met l y_Lw_state w_Lw_state ({ frames := 2, cells := 0, slots := 0, locals := 42 }) (va_Pc [.ref x0, .int 2, .ref o0] (fun U => U.heap.size = sz ∧ va_P (dC, dI) gx_cl [(o0, .inl (cO, 1, .inr (.inl (fun _ => 0))))] U.heap ∧ va_K (dC, dI) gx_cl [(cO, .long)] U ∧ va_P (dC, dI) gx_cl (wTS x0 q ci) U.heap ∧ va_K (dC, dI) gx_cl (kTS ci) U)) (va_Qi (fun (r : Int32) (_ : Unit) => r = 0) (fun _ t => va_P (dC, dI) gx_cl [(o0, .inl (cO, 1, .inr (.inl (vp_updL (fun _ => 0) 0 0))))] t.heap) (va_A [(o0, .inl (cO, 1, .inr (.inl (fun _ => 0))))] sz)) 0 0 (va_A [(o0, .inl (cO, 1, .inr (.inl (fun _ => 0))))] sz) := by
  refine va_MetW (cc := b_Lw_state) (maxL := 4) (ret := (some .int)) (hh := [(0, 9, 12, 31)]) (by decide) rfl ?_
  intro p e s m args below meth c s₁ B hml hv
  obtain ⟨rfl, hsz, hP, hK, hPx, hKx⟩ := hv
  have hx := B.exec
  have hb := B.bytes
  have hr := B.returns
  have hts := atoms_spec (ws := w_Lw_state) B.pre
  have hB : ∀ w ∈ gx_B, w.before _ s = true := fun w h => hts w (List.mem_cons_of_mem _ h)
  have hown : s.vm.findClass "TapeSealerLaw" = some m.cls := findClass_of_methodNamed B.named
  have hlocks := B.notSynchronized
  subst hsz
  have hD : va_D (va_A [(o0, .inl (cO, 1, .inr (.inl (fun _ => 0))))] s.heap.size) [(o0, .inl (cO, 1, .inr (.inl (fun _ => 0))))] := gx_D1 (Or.inl ⟨0, _, rfl⟩)
  generalize hAe : va_A [(o0, .inl (cO, 1, .inr (.inl (fun _ => 0))))] s.heap.size = A at hD ⊢
  have hS : va_S A s.heap s.heap [] := va_S.rf
  have hl := lv_entry ([.ref x0, .int 2, .ref o0]) (n := 4) (Nat.le_of_ble_eq_true rfl)
  rw [lg_entry_eq]
  generalize (lg_sl ([.ref x0, .int 2, .ref o0]) ++ List.replicate (4 - (lg_sl ([.ref x0, .int 2, .ref o0])).length) Slot.unset).toArray = ls at hl ⊢
  have hl : lv_has ls 4 [(0, .ref x0), (1, .int 2), (2, .ref o0)] := hl
  refine lv_aload_n hx hb d_Lw_state_0 rfl (lv_at hl 2 rfl) ?_
  refine lv_iconst (v := 0) hx hb d_Lw_state_1 (by decide) ?_
  refine lv_aload_n hx hb d_Lw_state_2 rfl (lv_at hl 0 rfl) ?_
  refine lv_iload_n hx hb d_Lw_state_3 rfl (lv_at hl 1 rfl) ?_
  refine W.eq (g2 := F0 m 4 ls [.int 2, .ref x0, .int 0, .ref o0]) rfl ?_
  refine px_go (va_runV (C := "TapeSealer") (As := [.int 2]) (rest := [.int 0, .ref o0]) ⟨hx, hb, hml, hown, hts⟩ (p_TS_state2 l dC dI x0 q ci) (cwV 1 hts (gx_goodV hw_876 hw_877 hw_878 hw_66 k_TS_state) rfl rfl rfl (by decide +kernel) ⟨(Nat.le_of_ble_eq_true rfl), (Nat.le_of_ble_eq_true rfl)⟩) ⟨fun a U g mk q => by obtain ⟨q0, qP, qK⟩ := q; exact ⟨q0, qP, va_K.moved (u := U) (U := U.calling g mk a) (Vm.Alike.refl U.vm) qK⟩, va_recv hKx hPx rfl (q0 := 0) rfl, fun U hU hW => ⟨rfl, by rw [hU]; exact hPx, va_K.moved hW.alike hKx⟩⟩ rfl rfl hl.1 rfl (lv_room (Nat.le_of_ble_eq_true rfl)) d_Lw_state_4 ⟨(Nat.le_of_ble_eq_true rfl), (Nat.le_of_ble_eq_true rfl)⟩) ?_
  refine W.eq (g2 := F0 m 7 ls [.int 0, .int 0, .ref o0]) rfl ?_
  refine lv_i2l (v := 0) hx hb d_Lw_state_7 (by decide) ?_
  refine va_last (D := (dC, dI)) hx hb hK hP hD hS 0 0 rfl rfl (by unfold vp_in; decide) d_Lw_state_8 (fun H locs hP hD hS => ?_)
  have hP : va_P (dC, dI) gx_cl [(o0, .inl (cO, 1, .inr (.inl (vp_updL (fun _ => 0) 0 0))))] H := hP
  refine W.eq (g2 := F0 m 9 ls []) rfl ?_
  refine lv_goto (tgt := 15) hx hb d_Lw_state_9 (by decide) ?_
  refine lv_iconst (v := 0) hx hb d_Lw_state_15 (by decide) ?_
  refine W.widen (k := 0) (n := 0) (Nat.le_of_ble_eq_true rfl) (Nat.le_of_ble_eq_true rfl) ?_
  exact W.iret (v := 0) hx hb hr (fun t ht hW => ⟨⟨0, (), rfl, rfl, by show va_P _ _ _ t.heap; rw [ht]; exact hP⟩, hS.F ht⟩) hS.2.2 d_Lw_state_16
set_option maxHeartbeats 4000000 in
set_option maxRecDepth 100000 in
theorem x_state3 (l : Launch) (dC : Nat → ClassId) (dI : Nat → Nat → Nat) (sz : Nat) (x0 : Nat) (q : Nat → Nat) (ci : Nat → ClassId) (o0 : Nat) (cO : ClassId) : Met l y_Lw_state w_Lw_state ({ frames := 2, cells := 0, slots := 0, locals := 42 }) (va_Pc [.ref x0, .int 3, .ref o0] (fun U => U.heap.size = sz ∧ va_P (dC, dI) gx_cl [(o0, .inl (cO, 1, .inr (.inl (fun _ => 0))))] U.heap ∧ va_K (dC, dI) gx_cl [(cO, .long)] U ∧ va_P (dC, dI) gx_cl (wTS x0 q ci) U.heap ∧ va_K (dC, dI) gx_cl (kTS ci) U)) (va_Qi (fun (r : Int32) (_ : Unit) => r = 0) (fun _ t => va_P (dC, dI) gx_cl [(o0, .inl (cO, 1, .inr (.inl (vp_updL (fun _ => 0) 0 0))))] t.heap) (va_A [(o0, .inl (cO, 1, .inr (.inl (fun _ => 0))))] sz)) 0 0 (va_A [(o0, .inl (cO, 1, .inr (.inl (fun _ => 0))))] sz) := by
  refine va_MetW (cc := b_Lw_state) (maxL := 4) (ret := (some .int)) (hh := [(0, 9, 12, 31)]) (by decide) rfl ?_
  intro p e s m args below meth c s₁ B hml hv
  obtain ⟨rfl, hsz, hP, hK, hPx, hKx⟩ := hv
  have hx := B.exec
  have hb := B.bytes
  have hr := B.returns
  have hts := atoms_spec (ws := w_Lw_state) B.pre
  have hB : ∀ w ∈ gx_B, w.before _ s = true := fun w h => hts w (List.mem_cons_of_mem _ h)
  have hown : s.vm.findClass "TapeSealerLaw" = some m.cls := findClass_of_methodNamed B.named
  have hlocks := B.notSynchronized
  subst hsz
  have hD : va_D (va_A [(o0, .inl (cO, 1, .inr (.inl (fun _ => 0))))] s.heap.size) [(o0, .inl (cO, 1, .inr (.inl (fun _ => 0))))] := gx_D1 (Or.inl ⟨0, _, rfl⟩)
  generalize hAe : va_A [(o0, .inl (cO, 1, .inr (.inl (fun _ => 0))))] s.heap.size = A at hD ⊢
  have hS : va_S A s.heap s.heap [] := va_S.rf
  have hl := lv_entry ([.ref x0, .int 3, .ref o0]) (n := 4) (Nat.le_of_ble_eq_true rfl)
  rw [lg_entry_eq]
  generalize (lg_sl ([.ref x0, .int 3, .ref o0]) ++ List.replicate (4 - (lg_sl ([.ref x0, .int 3, .ref o0])).length) Slot.unset).toArray = ls at hl ⊢
  have hl : lv_has ls 4 [(0, .ref x0), (1, .int 3), (2, .ref o0)] := hl
  refine lv_aload_n hx hb d_Lw_state_0 rfl (lv_at hl 2 rfl) ?_
  refine lv_iconst (v := 0) hx hb d_Lw_state_1 (by decide) ?_
  refine lv_aload_n hx hb d_Lw_state_2 rfl (lv_at hl 0 rfl) ?_
  refine lv_iload_n hx hb d_Lw_state_3 rfl (lv_at hl 1 rfl) ?_
  refine W.eq (g2 := F0 m 4 ls [.int 3, .ref x0, .int 0, .ref o0]) rfl ?_
  refine px_go (va_runV (C := "TapeSealer") (As := [.int 3]) (rest := [.int 0, .ref o0]) ⟨hx, hb, hml, hown, hts⟩ (p_TS_state3 l dC dI x0 q ci) (cwV 1 hts (gx_goodV hw_876 hw_877 hw_878 hw_66 k_TS_state) rfl rfl rfl (by decide +kernel) ⟨(Nat.le_of_ble_eq_true rfl), (Nat.le_of_ble_eq_true rfl)⟩) ⟨fun a U g mk q => by obtain ⟨q0, qP, qK⟩ := q; exact ⟨q0, qP, va_K.moved (u := U) (U := U.calling g mk a) (Vm.Alike.refl U.vm) qK⟩, va_recv hKx hPx rfl (q0 := 0) rfl, fun U hU hW => ⟨rfl, by rw [hU]; exact hPx, va_K.moved hW.alike hKx⟩⟩ rfl rfl hl.1 rfl (lv_room (Nat.le_of_ble_eq_true rfl)) d_Lw_state_4 ⟨(Nat.le_of_ble_eq_true rfl), (Nat.le_of_ble_eq_true rfl)⟩) ?_
  refine W.eq (g2 := F0 m 7 ls [.int 0, .int 0, .ref o0]) rfl ?_
  refine lv_i2l (v := 0) hx hb d_Lw_state_7 (by decide) ?_
  refine va_last (D := (dC, dI)) hx hb hK hP hD hS 0 0 rfl rfl (by unfold vp_in; decide) d_Lw_state_8 (fun H locs hP hD hS => ?_)
  have hP : va_P (dC, dI) gx_cl [(o0, .inl (cO, 1, .inr (.inl (vp_updL (fun _ => 0) 0 0))))] H := hP
  refine W.eq (g2 := F0 m 9 ls []) rfl ?_
  refine lv_goto (tgt := 15) hx hb d_Lw_state_9 (by decide) ?_
  refine lv_iconst (v := 0) hx hb d_Lw_state_15 (by decide) ?_
  refine W.widen (k := 0) (n := 0) (Nat.le_of_ble_eq_true rfl) (Nat.le_of_ble_eq_true rfl) ?_
  exact W.iret (v := 0) hx hb hr (fun t ht hW => ⟨⟨0, (), rfl, rfl, by show va_P _ _ _ t.heap; rw [ht]; exact hP⟩, hS.F ht⟩) hS.2.2 d_Lw_state_16
set_option maxHeartbeats 4000000 in
set_option maxRecDepth 100000 in
theorem x_state4 (l : Launch) (dC : Nat → ClassId) (dI : Nat → Nat → Nat) (sz : Nat) (x0 : Nat) (q : Nat → Nat) (ci : Nat → ClassId) (o0 : Nat) (cO : ClassId) : Met l y_Lw_state w_Lw_state ({ frames := 2, cells := 0, slots := 0, locals := 42 }) (va_Pc [.ref x0, .int 4, .ref o0] (fun U => U.heap.size = sz ∧ va_P (dC, dI) gx_cl [(o0, .inl (cO, 1, .inr (.inl (fun _ => 0))))] U.heap ∧ va_K (dC, dI) gx_cl [(cO, .long)] U ∧ va_P (dC, dI) gx_cl (wTS x0 q ci) U.heap ∧ va_K (dC, dI) gx_cl (kTS ci) U)) (va_Qi (fun (r : Int32) (_ : Unit) => r = 0) (fun _ t => va_P (dC, dI) gx_cl [(o0, .inl (cO, 1, .inr (.inl (vp_updL (fun _ => 0) 0 0))))] t.heap) (va_A [(o0, .inl (cO, 1, .inr (.inl (fun _ => 0))))] sz)) 0 0 (va_A [(o0, .inl (cO, 1, .inr (.inl (fun _ => 0))))] sz) := by
  refine va_MetW (cc := b_Lw_state) (maxL := 4) (ret := (some .int)) (hh := [(0, 9, 12, 31)]) (by decide) rfl ?_
  intro p e s m args below meth c s₁ B hml hv
  obtain ⟨rfl, hsz, hP, hK, hPx, hKx⟩ := hv
  have hx := B.exec
  have hb := B.bytes
  have hr := B.returns
  have hts := atoms_spec (ws := w_Lw_state) B.pre
  have hB : ∀ w ∈ gx_B, w.before _ s = true := fun w h => hts w (List.mem_cons_of_mem _ h)
  have hown : s.vm.findClass "TapeSealerLaw" = some m.cls := findClass_of_methodNamed B.named
  have hlocks := B.notSynchronized
  subst hsz
  have hD : va_D (va_A [(o0, .inl (cO, 1, .inr (.inl (fun _ => 0))))] s.heap.size) [(o0, .inl (cO, 1, .inr (.inl (fun _ => 0))))] := gx_D1 (Or.inl ⟨0, _, rfl⟩)
  generalize hAe : va_A [(o0, .inl (cO, 1, .inr (.inl (fun _ => 0))))] s.heap.size = A at hD ⊢
  have hS : va_S A s.heap s.heap [] := va_S.rf
  have hl := lv_entry ([.ref x0, .int 4, .ref o0]) (n := 4) (Nat.le_of_ble_eq_true rfl)
  rw [lg_entry_eq]
  generalize (lg_sl ([.ref x0, .int 4, .ref o0]) ++ List.replicate (4 - (lg_sl ([.ref x0, .int 4, .ref o0])).length) Slot.unset).toArray = ls at hl ⊢
  have hl : lv_has ls 4 [(0, .ref x0), (1, .int 4), (2, .ref o0)] := hl
  refine lv_aload_n hx hb d_Lw_state_0 rfl (lv_at hl 2 rfl) ?_
  refine lv_iconst (v := 0) hx hb d_Lw_state_1 (by decide) ?_
  refine lv_aload_n hx hb d_Lw_state_2 rfl (lv_at hl 0 rfl) ?_
  refine lv_iload_n hx hb d_Lw_state_3 rfl (lv_at hl 1 rfl) ?_
  refine W.eq (g2 := F0 m 4 ls [.int 4, .ref x0, .int 0, .ref o0]) rfl ?_
  refine px_go (va_runV (C := "TapeSealer") (As := [.int 4]) (rest := [.int 0, .ref o0]) ⟨hx, hb, hml, hown, hts⟩ (p_TS_state4 l dC dI x0 q ci) (cwV 1 hts (gx_goodV hw_876 hw_877 hw_878 hw_66 k_TS_state) rfl rfl rfl (by decide +kernel) ⟨(Nat.le_of_ble_eq_true rfl), (Nat.le_of_ble_eq_true rfl)⟩) ⟨fun a U g mk q => by obtain ⟨q0, qP, qK⟩ := q; exact ⟨q0, qP, va_K.moved (u := U) (U := U.calling g mk a) (Vm.Alike.refl U.vm) qK⟩, va_recv hKx hPx rfl (q0 := 0) rfl, fun U hU hW => ⟨rfl, by rw [hU]; exact hPx, va_K.moved hW.alike hKx⟩⟩ rfl rfl hl.1 rfl (lv_room (Nat.le_of_ble_eq_true rfl)) d_Lw_state_4 ⟨(Nat.le_of_ble_eq_true rfl), (Nat.le_of_ble_eq_true rfl)⟩) ?_
  refine W.eq (g2 := F0 m 7 ls [.int 0, .int 0, .ref o0]) rfl ?_
  refine lv_i2l (v := 0) hx hb d_Lw_state_7 (by decide) ?_
  refine va_last (D := (dC, dI)) hx hb hK hP hD hS 0 0 rfl rfl (by unfold vp_in; decide) d_Lw_state_8 (fun H locs hP hD hS => ?_)
  have hP : va_P (dC, dI) gx_cl [(o0, .inl (cO, 1, .inr (.inl (vp_updL (fun _ => 0) 0 0))))] H := hP
  refine W.eq (g2 := F0 m 9 ls []) rfl ?_
  refine lv_goto (tgt := 15) hx hb d_Lw_state_9 (by decide) ?_
  refine lv_iconst (v := 0) hx hb d_Lw_state_15 (by decide) ?_
  refine W.widen (k := 0) (n := 0) (Nat.le_of_ble_eq_true rfl) (Nat.le_of_ble_eq_true rfl) ?_
  exact W.iret (v := 0) hx hb hr (fun t ht hW => ⟨⟨0, (), rfl, rfl, by show va_P _ _ _ t.heap; rw [ht]; exact hP⟩, hS.F ht⟩) hS.2.2 d_Lw_state_16
set_option maxHeartbeats 4000000 in
set_option maxRecDepth 100000 in
theorem x_state5 (l : Launch) (dC : Nat → ClassId) (dI : Nat → Nat → Nat) (sz : Nat) (x0 : Nat) (q : Nat → Nat) (ci : Nat → ClassId) (o0 : Nat) (cO : ClassId) : Met l y_Lw_state w_Lw_state ({ frames := 2, cells := 0, slots := 0, locals := 42 }) (va_Pc [.ref x0, .int 5, .ref o0] (fun U => U.heap.size = sz ∧ va_P (dC, dI) gx_cl [(o0, .inl (cO, 1, .inr (.inl (fun _ => 0))))] U.heap ∧ va_K (dC, dI) gx_cl [(cO, .long)] U ∧ va_P (dC, dI) gx_cl (wTS x0 q ci) U.heap ∧ va_K (dC, dI) gx_cl (kTS ci) U)) (va_Qi (fun (r : Int32) (_ : Unit) => r = 0) (fun _ t => va_P (dC, dI) gx_cl [(o0, .inl (cO, 1, .inr (.inl (vp_updL (fun _ => 0) 0 0))))] t.heap) (va_A [(o0, .inl (cO, 1, .inr (.inl (fun _ => 0))))] sz)) 0 0 (va_A [(o0, .inl (cO, 1, .inr (.inl (fun _ => 0))))] sz) := by
  refine va_MetW (cc := b_Lw_state) (maxL := 4) (ret := (some .int)) (hh := [(0, 9, 12, 31)]) (by decide) rfl ?_
  intro p e s m args below meth c s₁ B hml hv
  obtain ⟨rfl, hsz, hP, hK, hPx, hKx⟩ := hv
  have hx := B.exec
  have hb := B.bytes
  have hr := B.returns
  have hts := atoms_spec (ws := w_Lw_state) B.pre
  have hB : ∀ w ∈ gx_B, w.before _ s = true := fun w h => hts w (List.mem_cons_of_mem _ h)
  have hown : s.vm.findClass "TapeSealerLaw" = some m.cls := findClass_of_methodNamed B.named
  have hlocks := B.notSynchronized
  subst hsz
  have hD : va_D (va_A [(o0, .inl (cO, 1, .inr (.inl (fun _ => 0))))] s.heap.size) [(o0, .inl (cO, 1, .inr (.inl (fun _ => 0))))] := gx_D1 (Or.inl ⟨0, _, rfl⟩)
  generalize hAe : va_A [(o0, .inl (cO, 1, .inr (.inl (fun _ => 0))))] s.heap.size = A at hD ⊢
  have hS : va_S A s.heap s.heap [] := va_S.rf
  have hl := lv_entry ([.ref x0, .int 5, .ref o0]) (n := 4) (Nat.le_of_ble_eq_true rfl)
  rw [lg_entry_eq]
  generalize (lg_sl ([.ref x0, .int 5, .ref o0]) ++ List.replicate (4 - (lg_sl ([.ref x0, .int 5, .ref o0])).length) Slot.unset).toArray = ls at hl ⊢
  have hl : lv_has ls 4 [(0, .ref x0), (1, .int 5), (2, .ref o0)] := hl
  refine lv_aload_n hx hb d_Lw_state_0 rfl (lv_at hl 2 rfl) ?_
  refine lv_iconst (v := 0) hx hb d_Lw_state_1 (by decide) ?_
  refine lv_aload_n hx hb d_Lw_state_2 rfl (lv_at hl 0 rfl) ?_
  refine lv_iload_n hx hb d_Lw_state_3 rfl (lv_at hl 1 rfl) ?_
  refine W.eq (g2 := F0 m 4 ls [.int 5, .ref x0, .int 0, .ref o0]) rfl ?_
  refine px_go (va_runV (C := "TapeSealer") (As := [.int 5]) (rest := [.int 0, .ref o0]) ⟨hx, hb, hml, hown, hts⟩ (p_TS_state5 l dC dI x0 q ci) (cwV 1 hts (gx_goodV hw_876 hw_877 hw_878 hw_66 k_TS_state) rfl rfl rfl (by decide +kernel) ⟨(Nat.le_of_ble_eq_true rfl), (Nat.le_of_ble_eq_true rfl)⟩) ⟨fun a U g mk q => by obtain ⟨q0, qP, qK⟩ := q; exact ⟨q0, qP, va_K.moved (u := U) (U := U.calling g mk a) (Vm.Alike.refl U.vm) qK⟩, va_recv hKx hPx rfl (q0 := 0) rfl, fun U hU hW => ⟨rfl, by rw [hU]; exact hPx, va_K.moved hW.alike hKx⟩⟩ rfl rfl hl.1 rfl (lv_room (Nat.le_of_ble_eq_true rfl)) d_Lw_state_4 ⟨(Nat.le_of_ble_eq_true rfl), (Nat.le_of_ble_eq_true rfl)⟩) ?_
  refine W.eq (g2 := F0 m 7 ls [.int 0, .int 0, .ref o0]) rfl ?_
  refine lv_i2l (v := 0) hx hb d_Lw_state_7 (by decide) ?_
  refine va_last (D := (dC, dI)) hx hb hK hP hD hS 0 0 rfl rfl (by unfold vp_in; decide) d_Lw_state_8 (fun H locs hP hD hS => ?_)
  have hP : va_P (dC, dI) gx_cl [(o0, .inl (cO, 1, .inr (.inl (vp_updL (fun _ => 0) 0 0))))] H := hP
  refine W.eq (g2 := F0 m 9 ls []) rfl ?_
  refine lv_goto (tgt := 15) hx hb d_Lw_state_9 (by decide) ?_
  refine lv_iconst (v := 0) hx hb d_Lw_state_15 (by decide) ?_
  refine W.widen (k := 0) (n := 0) (Nat.le_of_ble_eq_true rfl) (Nat.le_of_ble_eq_true rfl) ?_
  exact W.iret (v := 0) hx hb hr (fun t ht hW => ⟨⟨0, (), rfl, rfl, by show va_P _ _ _ t.heap; rw [ht]; exact hP⟩, hS.F ht⟩) hS.2.2 d_Lw_state_16
set_option maxHeartbeats 4000000 in
set_option maxRecDepth 100000 in
theorem x_block1 (l : Launch) (dC : Nat → ClassId) (dI : Nat → Nat → Nat) (sz : Nat) (x0 : Nat) (q : Nat → Nat) (ci : Nat → ClassId) (o0 : Nat) (cO : ClassId) (p0 p1 : Int32) (h1 : ¬ p0 < 0) (h2 : ¬ 44 ≤ p0) (h3 : ¬ p1 < 0) (h4 : ¬ 64 ≤ p1) : Met l y_Lw_block w_Lw_block ({ frames := 2, cells := 0, slots := 0, locals := 43 }) (va_Pc [.ref x0, .int p0, .int p1, .ref o0] (fun U => U.heap.size = sz ∧ va_P (dC, dI) gx_cl [(o0, .inl (cO, 1, .inr (.inl (fun _ => 0))))] U.heap ∧ va_K (dC, dI) gx_cl [(cO, .long)] U ∧ va_P (dC, dI) gx_cl [(x0, .inr (8, [.ref (q 0), .ref (q 3), .ref (q 18), .ref (q 19), .ref (q 6), .ref (q 20), .ref (q 21), .ref (q 22), .ref (q 23), .ref (q 15), .ref (q 17), .int 0, .ref (q 24), .ref (q 25), .int 0])), ((q 0), .inr (1, [.ref (q 1), .ref (q 2), .int 0, .int (-1), .int 0, .int 0])), ((q 1), .inl ((ci 0), 44, .inr (.inr (.inr (.inr (mx_g (q 1) 44)))))), ((q 2), .inl ((ci 2), 44, .inl (fun _ => 0))), ((q 1 + 1 + p0.toNatClampNeg), .inl ((ci 1), 64, .inl (fun _ => 0)))] U.heap ∧ va_K (dC, dI) gx_cl (kTS ci) U)) (va_Qi (fun (r : Int32) (_ : Unit) => r = 0) (fun _ t => va_P (dC, dI) gx_cl [(o0, .inl (cO, 1, .inr (.inl (vp_updL (fun _ => 0) 0 0))))] t.heap) (va_A [(o0, .inl (cO, 1, .inr (.inl (fun _ => 0))))] sz)) 0 0 (va_A [(o0, .inl (cO, 1, .inr (.inl (fun _ => 0))))] sz) := by
  refine va_MetW (cc := b_Lw_block) (maxL := 5) (ret := (some .int)) (hh := [(0, 10, 13, 31)]) (by decide) rfl ?_
  intro p e s m args below meth c s₁ B hml hv
  obtain ⟨rfl, hsz, hP, hK, hPx, hKx⟩ := hv
  have hx := B.exec
  have hb := B.bytes
  have hr := B.returns
  have hts := atoms_spec (ws := w_Lw_block) B.pre
  have hB : ∀ w ∈ gx_B, w.before _ s = true := fun w h => hts w (List.mem_cons_of_mem _ h)
  have hown : s.vm.findClass "TapeSealerLaw" = some m.cls := findClass_of_methodNamed B.named
  have hlocks := B.notSynchronized
  subst hsz
  have hD : va_D (va_A [(o0, .inl (cO, 1, .inr (.inl (fun _ => 0))))] s.heap.size) [(o0, .inl (cO, 1, .inr (.inl (fun _ => 0))))] := gx_D1 (Or.inl ⟨0, _, rfl⟩)
  generalize hAe : va_A [(o0, .inl (cO, 1, .inr (.inl (fun _ => 0))))] s.heap.size = A at hD ⊢
  have hS : va_S A s.heap s.heap [] := va_S.rf
  have hl := lv_entry ([.ref x0, .int p0, .int p1, .ref o0]) (n := 5) (Nat.le_of_ble_eq_true rfl)
  rw [lg_entry_eq]
  generalize (lg_sl ([.ref x0, .int p0, .int p1, .ref o0]) ++ List.replicate (5 - (lg_sl ([.ref x0, .int p0, .int p1, .ref o0])).length) Slot.unset).toArray = ls at hl ⊢
  have hl : lv_has ls 5 [(0, .ref x0), (1, .int p0), (2, .int p1), (3, .ref o0)] := hl
  refine lv_aload_n hx hb d_Lw_block_0 rfl (lv_at hl 3 rfl) ?_
  refine lv_iconst (v := 0) hx hb d_Lw_block_1 (by decide) ?_
  refine lv_aload_n hx hb d_Lw_block_2 rfl (lv_at hl 0 rfl) ?_
  refine lv_iload_n hx hb d_Lw_block_3 rfl (lv_at hl 1 rfl) ?_
  refine lv_iload_n hx hb d_Lw_block_4 rfl (lv_at hl 2 rfl) ?_
  refine W.eq (g2 := F0 m 5 ls [.int p1, .int p0, .ref x0, .int 0, .ref o0]) rfl ?_
  refine px_go (va_runV (C := "TapeSealer") (As := [.int p0, .int p1]) (rest := [.int 0, .ref o0]) ⟨hx, hb, hml, hown, hts⟩ (p_TS_block l dC dI x0 q ci p0 p1 h1 h2 h3 h4) (cwV 2 hts (gx_goodV hw_869 hw_870 hw_871 hw_66 k_TS_block) rfl rfl rfl (by decide +kernel) ⟨(Nat.le_of_ble_eq_true rfl), (Nat.le_of_ble_eq_true rfl)⟩) ⟨fun a U g mk q => by obtain ⟨q0, qP, qK⟩ := q; exact ⟨q0, qP, va_K.moved (u := U) (U := U.calling g mk a) (Vm.Alike.refl U.vm) qK⟩, va_recv hKx hPx rfl (q0 := 0) rfl, fun U hU hW => ⟨rfl, by rw [hU]; exact hPx, va_K.moved hW.alike hKx⟩⟩ rfl rfl hl.1 rfl (lv_room (Nat.le_of_ble_eq_true rfl)) d_Lw_block_5 ⟨(Nat.le_of_ble_eq_true rfl), (Nat.le_of_ble_eq_true rfl)⟩) ?_
  refine W.eq (g2 := F0 m 8 ls [.int 0, .int 0, .ref o0]) rfl ?_
  refine lv_i2l (v := 0) hx hb d_Lw_block_8 (by decide) ?_
  refine va_last (D := (dC, dI)) hx hb hK hP hD hS 0 0 rfl rfl (by unfold vp_in; decide) d_Lw_block_9 (fun H locs hP hD hS => ?_)
  have hP : va_P (dC, dI) gx_cl [(o0, .inl (cO, 1, .inr (.inl (vp_updL (fun _ => 0) 0 0))))] H := hP
  refine W.eq (g2 := F0 m 10 ls []) rfl ?_
  refine lv_goto (tgt := 17) hx hb d_Lw_block_10 (by decide) ?_
  refine lv_iconst (v := 0) hx hb d_Lw_block_17 (by decide) ?_
  refine W.widen (k := 0) (n := 0) (Nat.le_of_ble_eq_true rfl) (Nat.le_of_ble_eq_true rfl) ?_
  exact W.iret (v := 0) hx hb hr (fun t ht hW => ⟨⟨0, (), rfl, rfl, by show va_P _ _ _ t.heap; rw [ht]; exact hP⟩, hS.F ht⟩) hS.2.2 d_Lw_block_18
