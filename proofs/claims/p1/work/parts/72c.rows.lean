theorem gx_nlt44 {g : Int32} (h : 44 ≤ g) : ¬ g < 0 := by
  rw [Int32.le_iff_toInt_le] at h
  rw [Int32.lt_iff_toInt_lt]
  have h1 : (44 : Int32).toInt = 44 := by decide
  have h0 : (0 : Int32).toInt = 0 := by decide
  omega
set_option maxHeartbeats 4000000 in
set_option maxRecDepth 100000 in
theorem p_Mo_good0 (l : Launch) (dC : Nat → ClassId) (dI : Nat → Nat → Nat) (h0 : Nat) (q : Nat → Nat) (ci : Nat → ClassId) : Met l y_Mo_isGoodHeader w_Mo_isGoodHeader ({ frames := 0, cells := 0, slots := 0, locals := 0 }) (va_Pc [.ref h0, .int 0, .int 0] (fun U => va_P (dC, dI) gx_cl (wMo h0 q ci) U.heap ∧ va_K (dC, dI) gx_cl (kMo ci) U)) (px_Q (some (.int 0))) 0 0 (fun _ => False) := by
  refine Met.ofW (cc := b_Mo_isGoodHeader) (maxL := 6) (ret := (some .boolean)) (by decide) rfl ?_
  intro p e s m args below meth c s₁ B hml hv
  obtain ⟨rfl, hP, hK⟩ := hv
  have hx := B.exec
  have hb := B.bytes
  have hr := B.returns
  have hts := atoms_spec (ws := w_Mo_isGoodHeader) B.pre
  have hB : ∀ w ∈ gx_B, w.before _ s = true := fun w h => hts w (List.mem_cons_of_mem _ h)
  have hown : s.vm.findClass "TapeSealerModel" = some m.cls := findClass_of_methodNamed B.named
  have hlocks := B.notSynchronized
  have hl := lv_entry ([.ref h0, .int 0, .int 0]) (n := 6) (Nat.le_of_ble_eq_true rfl)
  rw [lg_entry_eq]
  generalize (lg_sl ([.ref h0, .int 0, .int 0]) ++ List.replicate (6 - (lg_sl ([.ref h0, .int 0, .int 0])).length) Slot.unset).toArray = ls at hl ⊢
  have hl : lv_has ls 6 [(0, .ref h0), (1, .int 0), (2, .int 0)] := hl
  refine lv_bipush (v := 64) hx hb d_Mo_isGoodHeader_0 (by decide) ?_
  refine lv_iload_n hx hb d_Mo_isGoodHeader_2 rfl (lv_at hl 2 rfl) ?_
  refine lv_imul hx hb d_Mo_isGoodHeader_3 ?_
  refine lv_topi (fun z1 z1_e => ?_)
  obtain rfl : z1 = 0 := z1_e.trans (by decide)
  refine lv_istore_n hx hb d_Mo_isGoodHeader_4 rfl hl (by decide) rfl (fun ls hl => ?_)
  have hl : lv_has ls 6 [(3, .int 0), (0, .ref h0), (1, .int 0), (2, .int 0)] := hl
  refine lv_aload_n hx hb d_Mo_isGoodHeader_5 rfl (lv_at hl 1 rfl) ?_
  refine va_get (D := (dC, dI)) (ci := 9) (v := .ref (q 1)) (C := RMo) (T := FMo) (N := 45) hx hb hB in_Mo hown hK hP 0 rfl rfl 1 (by decide) (hB _ hw_891) (fun _ h9 => h9) rfl d_Mo_isGoodHeader_6 ?_
  refine lv_iload_n hx hb d_Mo_isGoodHeader_9 rfl (lv_at hl 0 rfl) ?_
  refine lv_iconst (v := 1) hx hb d_Mo_isGoodHeader_10 (by decide) ?_
  refine lv_iadd hx hb d_Mo_isGoodHeader_11 ?_
  refine lv_topi (fun z2 z2_e => ?_)
  obtain rfl : z2 = 1 := z2_e.trans (by decide)
  refine va_iald (D := (dC, dI)) hx hb hK hP 1 0 rfl rfl (by unfold vp_in; decide) d_Mo_isGoodHeader_12 ?_
  refine W.eq (g2 := F0 m 13 ls [.int 0]) rfl ?_
  refine lv_istore hx hb d_Mo_isGoodHeader_13 hl (by decide) rfl (fun ls hl => ?_)
  have hl : lv_has ls 6 [(4, .int 0), (3, .int 0), (0, .ref h0), (1, .int 0), (2, .int 0)] := hl
  refine lv_aload_n hx hb d_Mo_isGoodHeader_15 rfl (lv_at hl 2 rfl) ?_
  refine va_get (D := (dC, dI)) (ci := 9) (v := .ref (q 2)) (C := RMo) (T := FMo) (N := 45) hx hb hB in_Mo hown hK hP 0 rfl rfl 2 (by decide) (hB _ hw_892) (fun _ h9 => h9) rfl d_Mo_isGoodHeader_16 ?_
  refine lv_iload_n hx hb d_Mo_isGoodHeader_19 rfl (lv_at hl 4 rfl) ?_
  refine va_zald (D := (dC, dI)) hx hb hK hP 2 1 rfl rfl (by unfold vp_in; decide) d_Mo_isGoodHeader_20 ?_
  refine W.eq (g2 := F0 m 21 ls [.int 0]) rfl ?_
  refine lv_if_ne (tgt := 61) hx hb d_Mo_isGoodHeader_21 (by decide) (fun h9 => absurd (by decide) h9) (fun _ => ?_)
  refine lv_aload_n hx hb d_Mo_isGoodHeader_24 rfl (lv_at hl 2 rfl) ?_
  refine va_get (D := (dC, dI)) (ci := 9) (v := .ref (q 1)) (C := RMo) (T := FMo) (N := 45) hx hb hB in_Mo hown hK hP 0 rfl rfl 1 (by decide) (hB _ hw_891) (fun _ h9 => h9) rfl d_Mo_isGoodHeader_25 ?_
  refine lv_iload_n hx hb d_Mo_isGoodHeader_28 rfl (lv_at hl 1 rfl) ?_
  refine va_iald (D := (dC, dI)) hx hb hK hP 1 0 rfl rfl (by unfold vp_in; decide) d_Mo_isGoodHeader_29 ?_
  refine W.eq (g2 := F0 m 30 ls [.int 0]) rfl ?_
  refine lv_iload_n hx hb d_Mo_isGoodHeader_30 rfl (lv_at hl 3 rfl) ?_
  refine lv_iconst (v := 1) hx hb d_Mo_isGoodHeader_31 (by decide) ?_
  refine lv_iadd hx hb d_Mo_isGoodHeader_32 ?_
  refine lv_topi (fun z3 z3_e => ?_)
  obtain rfl : z3 = 1 := z3_e.trans (by decide)
  refine lv_icmp_ne (tgt := 61) hx hb d_Mo_isGoodHeader_33 (by decide) (fun _ => ?_) (fun h9 => absurd h9 (by decide))
  refine lv_iconst (v := 0) hx hb d_Mo_isGoodHeader_61 (by decide) ?_
  exact W.zret (v := 0) hx hb hr rfl (fun t ht _ => ⟨rfl, ht⟩) (fun _ h => nomatch h) d_Mo_isGoodHeader_62
set_option maxHeartbeats 4000000 in
set_option maxRecDepth 100000 in
theorem p_Mo_good1 (l : Launch) (dC : Nat → ClassId) (dI : Nat → Nat → Nat) (h0 : Nat) (q : Nat → Nat) (ci : Nat → ClassId) : Met l y_Mo_isGoodHeader w_Mo_isGoodHeader ({ frames := 0, cells := 0, slots := 0, locals := 0 }) (va_Pc [.ref h0, .int 0, .int 1] (fun U => va_P (dC, dI) gx_cl (wMo h0 q ci) U.heap ∧ va_K (dC, dI) gx_cl (kMo ci) U)) (px_Q (some (.int 0))) 0 0 (fun _ => False) := by
  refine Met.ofW (cc := b_Mo_isGoodHeader) (maxL := 6) (ret := (some .boolean)) (by decide) rfl ?_
  intro p e s m args below meth c s₁ B hml hv
  obtain ⟨rfl, hP, hK⟩ := hv
  have hx := B.exec
  have hb := B.bytes
  have hr := B.returns
  have hts := atoms_spec (ws := w_Mo_isGoodHeader) B.pre
  have hB : ∀ w ∈ gx_B, w.before _ s = true := fun w h => hts w (List.mem_cons_of_mem _ h)
  have hown : s.vm.findClass "TapeSealerModel" = some m.cls := findClass_of_methodNamed B.named
  have hlocks := B.notSynchronized
  have hl := lv_entry ([.ref h0, .int 0, .int 1]) (n := 6) (Nat.le_of_ble_eq_true rfl)
  rw [lg_entry_eq]
  generalize (lg_sl ([.ref h0, .int 0, .int 1]) ++ List.replicate (6 - (lg_sl ([.ref h0, .int 0, .int 1])).length) Slot.unset).toArray = ls at hl ⊢
  have hl : lv_has ls 6 [(0, .ref h0), (1, .int 0), (2, .int 1)] := hl
  refine lv_bipush (v := 64) hx hb d_Mo_isGoodHeader_0 (by decide) ?_
  refine lv_iload_n hx hb d_Mo_isGoodHeader_2 rfl (lv_at hl 2 rfl) ?_
  refine lv_imul hx hb d_Mo_isGoodHeader_3 ?_
  refine lv_topi (fun z1 z1_e => ?_)
  obtain rfl : z1 = 64 := z1_e.trans (by decide)
  refine lv_istore_n hx hb d_Mo_isGoodHeader_4 rfl hl (by decide) rfl (fun ls hl => ?_)
  have hl : lv_has ls 6 [(3, .int 64), (0, .ref h0), (1, .int 0), (2, .int 1)] := hl
  refine lv_aload_n hx hb d_Mo_isGoodHeader_5 rfl (lv_at hl 1 rfl) ?_
  refine va_get (D := (dC, dI)) (ci := 9) (v := .ref (q 1)) (C := RMo) (T := FMo) (N := 45) hx hb hB in_Mo hown hK hP 0 rfl rfl 1 (by decide) (hB _ hw_891) (fun _ h9 => h9) rfl d_Mo_isGoodHeader_6 ?_
  refine lv_iload_n hx hb d_Mo_isGoodHeader_9 rfl (lv_at hl 0 rfl) ?_
  refine lv_iconst (v := 1) hx hb d_Mo_isGoodHeader_10 (by decide) ?_
  refine lv_iadd hx hb d_Mo_isGoodHeader_11 ?_
  refine lv_topi (fun z2 z2_e => ?_)
  obtain rfl : z2 = 65 := z2_e.trans (by decide)
  refine va_iald (D := (dC, dI)) hx hb hK hP 1 0 rfl rfl (by unfold vp_in; decide) d_Mo_isGoodHeader_12 ?_
  refine W.eq (g2 := F0 m 13 ls [.int 0]) rfl ?_
  refine lv_istore hx hb d_Mo_isGoodHeader_13 hl (by decide) rfl (fun ls hl => ?_)
  have hl : lv_has ls 6 [(4, .int 0), (3, .int 64), (0, .ref h0), (1, .int 0), (2, .int 1)] := hl
  refine lv_aload_n hx hb d_Mo_isGoodHeader_15 rfl (lv_at hl 2 rfl) ?_
  refine va_get (D := (dC, dI)) (ci := 9) (v := .ref (q 2)) (C := RMo) (T := FMo) (N := 45) hx hb hB in_Mo hown hK hP 0 rfl rfl 2 (by decide) (hB _ hw_892) (fun _ h9 => h9) rfl d_Mo_isGoodHeader_16 ?_
  refine lv_iload_n hx hb d_Mo_isGoodHeader_19 rfl (lv_at hl 4 rfl) ?_
  refine va_zald (D := (dC, dI)) hx hb hK hP 2 1 rfl rfl (by unfold vp_in; decide) d_Mo_isGoodHeader_20 ?_
  refine W.eq (g2 := F0 m 21 ls [.int 0]) rfl ?_
  refine lv_if_ne (tgt := 61) hx hb d_Mo_isGoodHeader_21 (by decide) (fun h9 => absurd (by decide) h9) (fun _ => ?_)
  refine lv_aload_n hx hb d_Mo_isGoodHeader_24 rfl (lv_at hl 2 rfl) ?_
  refine va_get (D := (dC, dI)) (ci := 9) (v := .ref (q 1)) (C := RMo) (T := FMo) (N := 45) hx hb hB in_Mo hown hK hP 0 rfl rfl 1 (by decide) (hB _ hw_891) (fun _ h9 => h9) rfl d_Mo_isGoodHeader_25 ?_
  refine lv_iload_n hx hb d_Mo_isGoodHeader_28 rfl (lv_at hl 1 rfl) ?_
  refine va_iald (D := (dC, dI)) hx hb hK hP 1 0 rfl rfl (by unfold vp_in; decide) d_Mo_isGoodHeader_29 ?_
  refine W.eq (g2 := F0 m 30 ls [.int 0]) rfl ?_
  refine lv_iload_n hx hb d_Mo_isGoodHeader_30 rfl (lv_at hl 3 rfl) ?_
  refine lv_iconst (v := 1) hx hb d_Mo_isGoodHeader_31 (by decide) ?_
  refine lv_iadd hx hb d_Mo_isGoodHeader_32 ?_
  refine lv_topi (fun z3 z3_e => ?_)
  obtain rfl : z3 = 1 := z3_e.trans (by decide)
  refine lv_icmp_ne (tgt := 61) hx hb d_Mo_isGoodHeader_33 (by decide) (fun _ => ?_) (fun h9 => absurd h9 (by decide))
  refine lv_iconst (v := 0) hx hb d_Mo_isGoodHeader_61 (by decide) ?_
  exact W.zret (v := 0) hx hb hr rfl (fun t ht _ => ⟨rfl, ht⟩) (fun _ h => nomatch h) d_Mo_isGoodHeader_62
set_option maxHeartbeats 4000000 in
set_option maxRecDepth 100000 in
theorem p_Mo_good2 (l : Launch) (dC : Nat → ClassId) (dI : Nat → Nat → Nat) (h0 : Nat) (q : Nat → Nat) (ci : Nat → ClassId) : Met l y_Mo_isGoodHeader w_Mo_isGoodHeader ({ frames := 0, cells := 0, slots := 0, locals := 0 }) (va_Pc [.ref h0, .int 1, .int 2] (fun U => va_P (dC, dI) gx_cl (wMo h0 q ci) U.heap ∧ va_K (dC, dI) gx_cl (kMo ci) U)) (px_Q (some (.int 0))) 0 0 (fun _ => False) := by
  refine Met.ofW (cc := b_Mo_isGoodHeader) (maxL := 6) (ret := (some .boolean)) (by decide) rfl ?_
  intro p e s m args below meth c s₁ B hml hv
  obtain ⟨rfl, hP, hK⟩ := hv
  have hx := B.exec
  have hb := B.bytes
  have hr := B.returns
  have hts := atoms_spec (ws := w_Mo_isGoodHeader) B.pre
  have hB : ∀ w ∈ gx_B, w.before _ s = true := fun w h => hts w (List.mem_cons_of_mem _ h)
  have hown : s.vm.findClass "TapeSealerModel" = some m.cls := findClass_of_methodNamed B.named
  have hlocks := B.notSynchronized
  have hl := lv_entry ([.ref h0, .int 1, .int 2]) (n := 6) (Nat.le_of_ble_eq_true rfl)
  rw [lg_entry_eq]
  generalize (lg_sl ([.ref h0, .int 1, .int 2]) ++ List.replicate (6 - (lg_sl ([.ref h0, .int 1, .int 2])).length) Slot.unset).toArray = ls at hl ⊢
  have hl : lv_has ls 6 [(0, .ref h0), (1, .int 1), (2, .int 2)] := hl
  refine lv_bipush (v := 64) hx hb d_Mo_isGoodHeader_0 (by decide) ?_
  refine lv_iload_n hx hb d_Mo_isGoodHeader_2 rfl (lv_at hl 2 rfl) ?_
  refine lv_imul hx hb d_Mo_isGoodHeader_3 ?_
  refine lv_topi (fun z1 z1_e => ?_)
  obtain rfl : z1 = 128 := z1_e.trans (by decide)
  refine lv_istore_n hx hb d_Mo_isGoodHeader_4 rfl hl (by decide) rfl (fun ls hl => ?_)
  have hl : lv_has ls 6 [(3, .int 128), (0, .ref h0), (1, .int 1), (2, .int 2)] := hl
  refine lv_aload_n hx hb d_Mo_isGoodHeader_5 rfl (lv_at hl 1 rfl) ?_
  refine va_get (D := (dC, dI)) (ci := 9) (v := .ref (q 1)) (C := RMo) (T := FMo) (N := 45) hx hb hB in_Mo hown hK hP 0 rfl rfl 1 (by decide) (hB _ hw_891) (fun _ h9 => h9) rfl d_Mo_isGoodHeader_6 ?_
  refine lv_iload_n hx hb d_Mo_isGoodHeader_9 rfl (lv_at hl 0 rfl) ?_
  refine lv_iconst (v := 1) hx hb d_Mo_isGoodHeader_10 (by decide) ?_
  refine lv_iadd hx hb d_Mo_isGoodHeader_11 ?_
  refine lv_topi (fun z2 z2_e => ?_)
  obtain rfl : z2 = 129 := z2_e.trans (by decide)
  refine va_iald (D := (dC, dI)) hx hb hK hP 1 0 rfl rfl (by unfold vp_in; decide) d_Mo_isGoodHeader_12 ?_
  refine W.eq (g2 := F0 m 13 ls [.int 0]) rfl ?_
  refine lv_istore hx hb d_Mo_isGoodHeader_13 hl (by decide) rfl (fun ls hl => ?_)
  have hl : lv_has ls 6 [(4, .int 0), (3, .int 128), (0, .ref h0), (1, .int 1), (2, .int 2)] := hl
  refine lv_aload_n hx hb d_Mo_isGoodHeader_15 rfl (lv_at hl 2 rfl) ?_
  refine va_get (D := (dC, dI)) (ci := 9) (v := .ref (q 2)) (C := RMo) (T := FMo) (N := 45) hx hb hB in_Mo hown hK hP 0 rfl rfl 2 (by decide) (hB _ hw_892) (fun _ h9 => h9) rfl d_Mo_isGoodHeader_16 ?_
  refine lv_iload_n hx hb d_Mo_isGoodHeader_19 rfl (lv_at hl 4 rfl) ?_
  refine va_zald (D := (dC, dI)) hx hb hK hP 2 1 rfl rfl (by unfold vp_in; decide) d_Mo_isGoodHeader_20 ?_
  refine W.eq (g2 := F0 m 21 ls [.int 0]) rfl ?_
  refine lv_if_ne (tgt := 61) hx hb d_Mo_isGoodHeader_21 (by decide) (fun h9 => absurd (by decide) h9) (fun _ => ?_)
  refine lv_aload_n hx hb d_Mo_isGoodHeader_24 rfl (lv_at hl 2 rfl) ?_
  refine va_get (D := (dC, dI)) (ci := 9) (v := .ref (q 1)) (C := RMo) (T := FMo) (N := 45) hx hb hB in_Mo hown hK hP 0 rfl rfl 1 (by decide) (hB _ hw_891) (fun _ h9 => h9) rfl d_Mo_isGoodHeader_25 ?_
  refine lv_iload_n hx hb d_Mo_isGoodHeader_28 rfl (lv_at hl 1 rfl) ?_
  refine va_iald (D := (dC, dI)) hx hb hK hP 1 0 rfl rfl (by unfold vp_in; decide) d_Mo_isGoodHeader_29 ?_
  refine W.eq (g2 := F0 m 30 ls [.int 0]) rfl ?_
  refine lv_iload_n hx hb d_Mo_isGoodHeader_30 rfl (lv_at hl 3 rfl) ?_
  refine lv_iconst (v := 1) hx hb d_Mo_isGoodHeader_31 (by decide) ?_
  refine lv_iadd hx hb d_Mo_isGoodHeader_32 ?_
  refine lv_topi (fun z3 z3_e => ?_)
  obtain rfl : z3 = 2 := z3_e.trans (by decide)
  refine lv_icmp_ne (tgt := 61) hx hb d_Mo_isGoodHeader_33 (by decide) (fun _ => ?_) (fun h9 => absurd h9 (by decide))
  refine lv_iconst (v := 0) hx hb d_Mo_isGoodHeader_61 (by decide) ?_
  exact W.zret (v := 0) hx hb hr rfl (fun t ht _ => ⟨rfl, ht⟩) (fun _ h => nomatch h) d_Mo_isGoodHeader_62
set_option maxHeartbeats 4000000 in
set_option maxRecDepth 100000 in
theorem p_Mo_good3 (l : Launch) (dC : Nat → ClassId) (dI : Nat → Nat → Nat) (h0 : Nat) (q : Nat → Nat) (ci : Nat → ClassId) : Met l y_Mo_isGoodHeader w_Mo_isGoodHeader ({ frames := 0, cells := 0, slots := 0, locals := 0 }) (va_Pc [.ref h0, .int 1, .int 3] (fun U => va_P (dC, dI) gx_cl (wMo h0 q ci) U.heap ∧ va_K (dC, dI) gx_cl (kMo ci) U)) (px_Q (some (.int 0))) 0 0 (fun _ => False) := by
  refine Met.ofW (cc := b_Mo_isGoodHeader) (maxL := 6) (ret := (some .boolean)) (by decide) rfl ?_
  intro p e s m args below meth c s₁ B hml hv
  obtain ⟨rfl, hP, hK⟩ := hv
  have hx := B.exec
  have hb := B.bytes
  have hr := B.returns
  have hts := atoms_spec (ws := w_Mo_isGoodHeader) B.pre
  have hB : ∀ w ∈ gx_B, w.before _ s = true := fun w h => hts w (List.mem_cons_of_mem _ h)
  have hown : s.vm.findClass "TapeSealerModel" = some m.cls := findClass_of_methodNamed B.named
  have hlocks := B.notSynchronized
  have hl := lv_entry ([.ref h0, .int 1, .int 3]) (n := 6) (Nat.le_of_ble_eq_true rfl)
  rw [lg_entry_eq]
  generalize (lg_sl ([.ref h0, .int 1, .int 3]) ++ List.replicate (6 - (lg_sl ([.ref h0, .int 1, .int 3])).length) Slot.unset).toArray = ls at hl ⊢
  have hl : lv_has ls 6 [(0, .ref h0), (1, .int 1), (2, .int 3)] := hl
  refine lv_bipush (v := 64) hx hb d_Mo_isGoodHeader_0 (by decide) ?_
  refine lv_iload_n hx hb d_Mo_isGoodHeader_2 rfl (lv_at hl 2 rfl) ?_
  refine lv_imul hx hb d_Mo_isGoodHeader_3 ?_
  refine lv_topi (fun z1 z1_e => ?_)
  obtain rfl : z1 = 192 := z1_e.trans (by decide)
  refine lv_istore_n hx hb d_Mo_isGoodHeader_4 rfl hl (by decide) rfl (fun ls hl => ?_)
  have hl : lv_has ls 6 [(3, .int 192), (0, .ref h0), (1, .int 1), (2, .int 3)] := hl
  refine lv_aload_n hx hb d_Mo_isGoodHeader_5 rfl (lv_at hl 1 rfl) ?_
  refine va_get (D := (dC, dI)) (ci := 9) (v := .ref (q 1)) (C := RMo) (T := FMo) (N := 45) hx hb hB in_Mo hown hK hP 0 rfl rfl 1 (by decide) (hB _ hw_891) (fun _ h9 => h9) rfl d_Mo_isGoodHeader_6 ?_
  refine lv_iload_n hx hb d_Mo_isGoodHeader_9 rfl (lv_at hl 0 rfl) ?_
  refine lv_iconst (v := 1) hx hb d_Mo_isGoodHeader_10 (by decide) ?_
  refine lv_iadd hx hb d_Mo_isGoodHeader_11 ?_
  refine lv_topi (fun z2 z2_e => ?_)
  obtain rfl : z2 = 193 := z2_e.trans (by decide)
  refine va_iald (D := (dC, dI)) hx hb hK hP 1 0 rfl rfl (by unfold vp_in; decide) d_Mo_isGoodHeader_12 ?_
  refine W.eq (g2 := F0 m 13 ls [.int 0]) rfl ?_
  refine lv_istore hx hb d_Mo_isGoodHeader_13 hl (by decide) rfl (fun ls hl => ?_)
  have hl : lv_has ls 6 [(4, .int 0), (3, .int 192), (0, .ref h0), (1, .int 1), (2, .int 3)] := hl
  refine lv_aload_n hx hb d_Mo_isGoodHeader_15 rfl (lv_at hl 2 rfl) ?_
  refine va_get (D := (dC, dI)) (ci := 9) (v := .ref (q 2)) (C := RMo) (T := FMo) (N := 45) hx hb hB in_Mo hown hK hP 0 rfl rfl 2 (by decide) (hB _ hw_892) (fun _ h9 => h9) rfl d_Mo_isGoodHeader_16 ?_
  refine lv_iload_n hx hb d_Mo_isGoodHeader_19 rfl (lv_at hl 4 rfl) ?_
  refine va_zald (D := (dC, dI)) hx hb hK hP 2 1 rfl rfl (by unfold vp_in; decide) d_Mo_isGoodHeader_20 ?_
  refine W.eq (g2 := F0 m 21 ls [.int 0]) rfl ?_
  refine lv_if_ne (tgt := 61) hx hb d_Mo_isGoodHeader_21 (by decide) (fun h9 => absurd (by decide) h9) (fun _ => ?_)
  refine lv_aload_n hx hb d_Mo_isGoodHeader_24 rfl (lv_at hl 2 rfl) ?_
  refine va_get (D := (dC, dI)) (ci := 9) (v := .ref (q 1)) (C := RMo) (T := FMo) (N := 45) hx hb hB in_Mo hown hK hP 0 rfl rfl 1 (by decide) (hB _ hw_891) (fun _ h9 => h9) rfl d_Mo_isGoodHeader_25 ?_
  refine lv_iload_n hx hb d_Mo_isGoodHeader_28 rfl (lv_at hl 1 rfl) ?_
  refine va_iald (D := (dC, dI)) hx hb hK hP 1 0 rfl rfl (by unfold vp_in; decide) d_Mo_isGoodHeader_29 ?_
  refine W.eq (g2 := F0 m 30 ls [.int 0]) rfl ?_
  refine lv_iload_n hx hb d_Mo_isGoodHeader_30 rfl (lv_at hl 3 rfl) ?_
  refine lv_iconst (v := 1) hx hb d_Mo_isGoodHeader_31 (by decide) ?_
  refine lv_iadd hx hb d_Mo_isGoodHeader_32 ?_
  refine lv_topi (fun z3 z3_e => ?_)
  obtain rfl : z3 = 2 := z3_e.trans (by decide)
  refine lv_icmp_ne (tgt := 61) hx hb d_Mo_isGoodHeader_33 (by decide) (fun _ => ?_) (fun h9 => absurd h9 (by decide))
  refine lv_iconst (v := 0) hx hb d_Mo_isGoodHeader_61 (by decide) ?_
  exact W.zret (v := 0) hx hb hr rfl (fun t ht _ => ⟨rfl, ht⟩) (fun _ h => nomatch h) d_Mo_isGoodHeader_62
set_option maxHeartbeats 4000000 in
set_option maxRecDepth 100000 in
theorem p_Mo_good4 (l : Launch) (dC : Nat → ClassId) (dI : Nat → Nat → Nat) (h0 : Nat) (q : Nat → Nat) (ci : Nat → ClassId) : Met l y_Mo_isGoodHeader w_Mo_isGoodHeader ({ frames := 0, cells := 0, slots := 0, locals := 0 }) (va_Pc [.ref h0, .int 2, .int 4] (fun U => va_P (dC, dI) gx_cl (wMo h0 q ci) U.heap ∧ va_K (dC, dI) gx_cl (kMo ci) U)) (px_Q (some (.int 0))) 0 0 (fun _ => False) := by
  refine Met.ofW (cc := b_Mo_isGoodHeader) (maxL := 6) (ret := (some .boolean)) (by decide) rfl ?_
  intro p e s m args below meth c s₁ B hml hv
  obtain ⟨rfl, hP, hK⟩ := hv
  have hx := B.exec
  have hb := B.bytes
  have hr := B.returns
  have hts := atoms_spec (ws := w_Mo_isGoodHeader) B.pre
  have hB : ∀ w ∈ gx_B, w.before _ s = true := fun w h => hts w (List.mem_cons_of_mem _ h)
  have hown : s.vm.findClass "TapeSealerModel" = some m.cls := findClass_of_methodNamed B.named
  have hlocks := B.notSynchronized
  have hl := lv_entry ([.ref h0, .int 2, .int 4]) (n := 6) (Nat.le_of_ble_eq_true rfl)
  rw [lg_entry_eq]
  generalize (lg_sl ([.ref h0, .int 2, .int 4]) ++ List.replicate (6 - (lg_sl ([.ref h0, .int 2, .int 4])).length) Slot.unset).toArray = ls at hl ⊢
  have hl : lv_has ls 6 [(0, .ref h0), (1, .int 2), (2, .int 4)] := hl
  refine lv_bipush (v := 64) hx hb d_Mo_isGoodHeader_0 (by decide) ?_
  refine lv_iload_n hx hb d_Mo_isGoodHeader_2 rfl (lv_at hl 2 rfl) ?_
  refine lv_imul hx hb d_Mo_isGoodHeader_3 ?_
  refine lv_topi (fun z1 z1_e => ?_)
  obtain rfl : z1 = 256 := z1_e.trans (by decide)
  refine lv_istore_n hx hb d_Mo_isGoodHeader_4 rfl hl (by decide) rfl (fun ls hl => ?_)
  have hl : lv_has ls 6 [(3, .int 256), (0, .ref h0), (1, .int 2), (2, .int 4)] := hl
  refine lv_aload_n hx hb d_Mo_isGoodHeader_5 rfl (lv_at hl 1 rfl) ?_
  refine va_get (D := (dC, dI)) (ci := 9) (v := .ref (q 1)) (C := RMo) (T := FMo) (N := 45) hx hb hB in_Mo hown hK hP 0 rfl rfl 1 (by decide) (hB _ hw_891) (fun _ h9 => h9) rfl d_Mo_isGoodHeader_6 ?_
  refine lv_iload_n hx hb d_Mo_isGoodHeader_9 rfl (lv_at hl 0 rfl) ?_
  refine lv_iconst (v := 1) hx hb d_Mo_isGoodHeader_10 (by decide) ?_
  refine lv_iadd hx hb d_Mo_isGoodHeader_11 ?_
  refine lv_topi (fun z2 z2_e => ?_)
  obtain rfl : z2 = 257 := z2_e.trans (by decide)
  refine va_iald (D := (dC, dI)) hx hb hK hP 1 0 rfl rfl (by unfold vp_in; decide) d_Mo_isGoodHeader_12 ?_
  refine W.eq (g2 := F0 m 13 ls [.int 0]) rfl ?_
  refine lv_istore hx hb d_Mo_isGoodHeader_13 hl (by decide) rfl (fun ls hl => ?_)
  have hl : lv_has ls 6 [(4, .int 0), (3, .int 256), (0, .ref h0), (1, .int 2), (2, .int 4)] := hl
  refine lv_aload_n hx hb d_Mo_isGoodHeader_15 rfl (lv_at hl 2 rfl) ?_
  refine va_get (D := (dC, dI)) (ci := 9) (v := .ref (q 2)) (C := RMo) (T := FMo) (N := 45) hx hb hB in_Mo hown hK hP 0 rfl rfl 2 (by decide) (hB _ hw_892) (fun _ h9 => h9) rfl d_Mo_isGoodHeader_16 ?_
  refine lv_iload_n hx hb d_Mo_isGoodHeader_19 rfl (lv_at hl 4 rfl) ?_
  refine va_zald (D := (dC, dI)) hx hb hK hP 2 1 rfl rfl (by unfold vp_in; decide) d_Mo_isGoodHeader_20 ?_
  refine W.eq (g2 := F0 m 21 ls [.int 0]) rfl ?_
  refine lv_if_ne (tgt := 61) hx hb d_Mo_isGoodHeader_21 (by decide) (fun h9 => absurd (by decide) h9) (fun _ => ?_)
  refine lv_aload_n hx hb d_Mo_isGoodHeader_24 rfl (lv_at hl 2 rfl) ?_
  refine va_get (D := (dC, dI)) (ci := 9) (v := .ref (q 1)) (C := RMo) (T := FMo) (N := 45) hx hb hB in_Mo hown hK hP 0 rfl rfl 1 (by decide) (hB _ hw_891) (fun _ h9 => h9) rfl d_Mo_isGoodHeader_25 ?_
  refine lv_iload_n hx hb d_Mo_isGoodHeader_28 rfl (lv_at hl 1 rfl) ?_
  refine va_iald (D := (dC, dI)) hx hb hK hP 1 0 rfl rfl (by unfold vp_in; decide) d_Mo_isGoodHeader_29 ?_
  refine W.eq (g2 := F0 m 30 ls [.int 0]) rfl ?_
  refine lv_iload_n hx hb d_Mo_isGoodHeader_30 rfl (lv_at hl 3 rfl) ?_
  refine lv_iconst (v := 1) hx hb d_Mo_isGoodHeader_31 (by decide) ?_
  refine lv_iadd hx hb d_Mo_isGoodHeader_32 ?_
  refine lv_topi (fun z3 z3_e => ?_)
  obtain rfl : z3 = 3 := z3_e.trans (by decide)
  refine lv_icmp_ne (tgt := 61) hx hb d_Mo_isGoodHeader_33 (by decide) (fun _ => ?_) (fun h9 => absurd h9 (by decide))
  refine lv_iconst (v := 0) hx hb d_Mo_isGoodHeader_61 (by decide) ?_
  exact W.zret (v := 0) hx hb hr rfl (fun t ht _ => ⟨rfl, ht⟩) (fun _ h => nomatch h) d_Mo_isGoodHeader_62
set_option maxHeartbeats 4000000 in
set_option maxRecDepth 100000 in
theorem p_Mo_good5 (l : Launch) (dC : Nat → ClassId) (dI : Nat → Nat → Nat) (h0 : Nat) (q : Nat → Nat) (ci : Nat → ClassId) : Met l y_Mo_isGoodHeader w_Mo_isGoodHeader ({ frames := 0, cells := 0, slots := 0, locals := 0 }) (va_Pc [.ref h0, .int 2, .int 5] (fun U => va_P (dC, dI) gx_cl (wMo h0 q ci) U.heap ∧ va_K (dC, dI) gx_cl (kMo ci) U)) (px_Q (some (.int 0))) 0 0 (fun _ => False) := by
  refine Met.ofW (cc := b_Mo_isGoodHeader) (maxL := 6) (ret := (some .boolean)) (by decide) rfl ?_
  intro p e s m args below meth c s₁ B hml hv
  obtain ⟨rfl, hP, hK⟩ := hv
  have hx := B.exec
  have hb := B.bytes
  have hr := B.returns
  have hts := atoms_spec (ws := w_Mo_isGoodHeader) B.pre
  have hB : ∀ w ∈ gx_B, w.before _ s = true := fun w h => hts w (List.mem_cons_of_mem _ h)
  have hown : s.vm.findClass "TapeSealerModel" = some m.cls := findClass_of_methodNamed B.named
  have hlocks := B.notSynchronized
  have hl := lv_entry ([.ref h0, .int 2, .int 5]) (n := 6) (Nat.le_of_ble_eq_true rfl)
  rw [lg_entry_eq]
  generalize (lg_sl ([.ref h0, .int 2, .int 5]) ++ List.replicate (6 - (lg_sl ([.ref h0, .int 2, .int 5])).length) Slot.unset).toArray = ls at hl ⊢
  have hl : lv_has ls 6 [(0, .ref h0), (1, .int 2), (2, .int 5)] := hl
  refine lv_bipush (v := 64) hx hb d_Mo_isGoodHeader_0 (by decide) ?_
  refine lv_iload_n hx hb d_Mo_isGoodHeader_2 rfl (lv_at hl 2 rfl) ?_
  refine lv_imul hx hb d_Mo_isGoodHeader_3 ?_
  refine lv_topi (fun z1 z1_e => ?_)
  obtain rfl : z1 = 320 := z1_e.trans (by decide)
  refine lv_istore_n hx hb d_Mo_isGoodHeader_4 rfl hl (by decide) rfl (fun ls hl => ?_)
  have hl : lv_has ls 6 [(3, .int 320), (0, .ref h0), (1, .int 2), (2, .int 5)] := hl
  refine lv_aload_n hx hb d_Mo_isGoodHeader_5 rfl (lv_at hl 1 rfl) ?_
  refine va_get (D := (dC, dI)) (ci := 9) (v := .ref (q 1)) (C := RMo) (T := FMo) (N := 45) hx hb hB in_Mo hown hK hP 0 rfl rfl 1 (by decide) (hB _ hw_891) (fun _ h9 => h9) rfl d_Mo_isGoodHeader_6 ?_
  refine lv_iload_n hx hb d_Mo_isGoodHeader_9 rfl (lv_at hl 0 rfl) ?_
  refine lv_iconst (v := 1) hx hb d_Mo_isGoodHeader_10 (by decide) ?_
  refine lv_iadd hx hb d_Mo_isGoodHeader_11 ?_
  refine lv_topi (fun z2 z2_e => ?_)
  obtain rfl : z2 = 321 := z2_e.trans (by decide)
  refine va_iald (D := (dC, dI)) hx hb hK hP 1 0 rfl rfl (by unfold vp_in; decide) d_Mo_isGoodHeader_12 ?_
  refine W.eq (g2 := F0 m 13 ls [.int 0]) rfl ?_
  refine lv_istore hx hb d_Mo_isGoodHeader_13 hl (by decide) rfl (fun ls hl => ?_)
  have hl : lv_has ls 6 [(4, .int 0), (3, .int 320), (0, .ref h0), (1, .int 2), (2, .int 5)] := hl
  refine lv_aload_n hx hb d_Mo_isGoodHeader_15 rfl (lv_at hl 2 rfl) ?_
  refine va_get (D := (dC, dI)) (ci := 9) (v := .ref (q 2)) (C := RMo) (T := FMo) (N := 45) hx hb hB in_Mo hown hK hP 0 rfl rfl 2 (by decide) (hB _ hw_892) (fun _ h9 => h9) rfl d_Mo_isGoodHeader_16 ?_
  refine lv_iload_n hx hb d_Mo_isGoodHeader_19 rfl (lv_at hl 4 rfl) ?_
  refine va_zald (D := (dC, dI)) hx hb hK hP 2 1 rfl rfl (by unfold vp_in; decide) d_Mo_isGoodHeader_20 ?_
  refine W.eq (g2 := F0 m 21 ls [.int 0]) rfl ?_
  refine lv_if_ne (tgt := 61) hx hb d_Mo_isGoodHeader_21 (by decide) (fun h9 => absurd (by decide) h9) (fun _ => ?_)
  refine lv_aload_n hx hb d_Mo_isGoodHeader_24 rfl (lv_at hl 2 rfl) ?_
  refine va_get (D := (dC, dI)) (ci := 9) (v := .ref (q 1)) (C := RMo) (T := FMo) (N := 45) hx hb hB in_Mo hown hK hP 0 rfl rfl 1 (by decide) (hB _ hw_891) (fun _ h9 => h9) rfl d_Mo_isGoodHeader_25 ?_
  refine lv_iload_n hx hb d_Mo_isGoodHeader_28 rfl (lv_at hl 1 rfl) ?_
  refine va_iald (D := (dC, dI)) hx hb hK hP 1 0 rfl rfl (by unfold vp_in; decide) d_Mo_isGoodHeader_29 ?_
  refine W.eq (g2 := F0 m 30 ls [.int 0]) rfl ?_
  refine lv_iload_n hx hb d_Mo_isGoodHeader_30 rfl (lv_at hl 3 rfl) ?_
  refine lv_iconst (v := 1) hx hb d_Mo_isGoodHeader_31 (by decide) ?_
  refine lv_iadd hx hb d_Mo_isGoodHeader_32 ?_
  refine lv_topi (fun z3 z3_e => ?_)
  obtain rfl : z3 = 3 := z3_e.trans (by decide)
  refine lv_icmp_ne (tgt := 61) hx hb d_Mo_isGoodHeader_33 (by decide) (fun _ => ?_) (fun h9 => absurd h9 (by decide))
  refine lv_iconst (v := 0) hx hb d_Mo_isGoodHeader_61 (by decide) ?_
  exact W.zret (v := 0) hx hb hr rfl (fun t ht _ => ⟨rfl, ht⟩) (fun _ h => nomatch h) d_Mo_isGoodHeader_62
set_option maxHeartbeats 4000000 in
set_option maxRecDepth 100000 in
theorem p_Mo_good6 (l : Launch) (dC : Nat → ClassId) (dI : Nat → Nat → Nat) (h0 : Nat) (q : Nat → Nat) (ci : Nat → ClassId) : Met l y_Mo_isGoodHeader w_Mo_isGoodHeader ({ frames := 0, cells := 0, slots := 0, locals := 0 }) (va_Pc [.ref h0, .int 3, .int 6] (fun U => va_P (dC, dI) gx_cl (wMo h0 q ci) U.heap ∧ va_K (dC, dI) gx_cl (kMo ci) U)) (px_Q (some (.int 0))) 0 0 (fun _ => False) := by
  refine Met.ofW (cc := b_Mo_isGoodHeader) (maxL := 6) (ret := (some .boolean)) (by decide) rfl ?_
  intro p e s m args below meth c s₁ B hml hv
  obtain ⟨rfl, hP, hK⟩ := hv
  have hx := B.exec
  have hb := B.bytes
  have hr := B.returns
  have hts := atoms_spec (ws := w_Mo_isGoodHeader) B.pre
  have hB : ∀ w ∈ gx_B, w.before _ s = true := fun w h => hts w (List.mem_cons_of_mem _ h)
  have hown : s.vm.findClass "TapeSealerModel" = some m.cls := findClass_of_methodNamed B.named
  have hlocks := B.notSynchronized
  have hl := lv_entry ([.ref h0, .int 3, .int 6]) (n := 6) (Nat.le_of_ble_eq_true rfl)
  rw [lg_entry_eq]
  generalize (lg_sl ([.ref h0, .int 3, .int 6]) ++ List.replicate (6 - (lg_sl ([.ref h0, .int 3, .int 6])).length) Slot.unset).toArray = ls at hl ⊢
  have hl : lv_has ls 6 [(0, .ref h0), (1, .int 3), (2, .int 6)] := hl
  refine lv_bipush (v := 64) hx hb d_Mo_isGoodHeader_0 (by decide) ?_
  refine lv_iload_n hx hb d_Mo_isGoodHeader_2 rfl (lv_at hl 2 rfl) ?_
  refine lv_imul hx hb d_Mo_isGoodHeader_3 ?_
  refine lv_topi (fun z1 z1_e => ?_)
  obtain rfl : z1 = 384 := z1_e.trans (by decide)
  refine lv_istore_n hx hb d_Mo_isGoodHeader_4 rfl hl (by decide) rfl (fun ls hl => ?_)
  have hl : lv_has ls 6 [(3, .int 384), (0, .ref h0), (1, .int 3), (2, .int 6)] := hl
  refine lv_aload_n hx hb d_Mo_isGoodHeader_5 rfl (lv_at hl 1 rfl) ?_
  refine va_get (D := (dC, dI)) (ci := 9) (v := .ref (q 1)) (C := RMo) (T := FMo) (N := 45) hx hb hB in_Mo hown hK hP 0 rfl rfl 1 (by decide) (hB _ hw_891) (fun _ h9 => h9) rfl d_Mo_isGoodHeader_6 ?_
  refine lv_iload_n hx hb d_Mo_isGoodHeader_9 rfl (lv_at hl 0 rfl) ?_
  refine lv_iconst (v := 1) hx hb d_Mo_isGoodHeader_10 (by decide) ?_
  refine lv_iadd hx hb d_Mo_isGoodHeader_11 ?_
  refine lv_topi (fun z2 z2_e => ?_)
  obtain rfl : z2 = 385 := z2_e.trans (by decide)
  refine va_iald (D := (dC, dI)) hx hb hK hP 1 0 rfl rfl (by unfold vp_in; decide) d_Mo_isGoodHeader_12 ?_
  refine W.eq (g2 := F0 m 13 ls [.int 0]) rfl ?_
  refine lv_istore hx hb d_Mo_isGoodHeader_13 hl (by decide) rfl (fun ls hl => ?_)
  have hl : lv_has ls 6 [(4, .int 0), (3, .int 384), (0, .ref h0), (1, .int 3), (2, .int 6)] := hl
  refine lv_aload_n hx hb d_Mo_isGoodHeader_15 rfl (lv_at hl 2 rfl) ?_
  refine va_get (D := (dC, dI)) (ci := 9) (v := .ref (q 2)) (C := RMo) (T := FMo) (N := 45) hx hb hB in_Mo hown hK hP 0 rfl rfl 2 (by decide) (hB _ hw_892) (fun _ h9 => h9) rfl d_Mo_isGoodHeader_16 ?_
  refine lv_iload_n hx hb d_Mo_isGoodHeader_19 rfl (lv_at hl 4 rfl) ?_
  refine va_zald (D := (dC, dI)) hx hb hK hP 2 1 rfl rfl (by unfold vp_in; decide) d_Mo_isGoodHeader_20 ?_
  refine W.eq (g2 := F0 m 21 ls [.int 0]) rfl ?_
  refine lv_if_ne (tgt := 61) hx hb d_Mo_isGoodHeader_21 (by decide) (fun h9 => absurd (by decide) h9) (fun _ => ?_)
  refine lv_aload_n hx hb d_Mo_isGoodHeader_24 rfl (lv_at hl 2 rfl) ?_
  refine va_get (D := (dC, dI)) (ci := 9) (v := .ref (q 1)) (C := RMo) (T := FMo) (N := 45) hx hb hB in_Mo hown hK hP 0 rfl rfl 1 (by decide) (hB _ hw_891) (fun _ h9 => h9) rfl d_Mo_isGoodHeader_25 ?_
  refine lv_iload_n hx hb d_Mo_isGoodHeader_28 rfl (lv_at hl 1 rfl) ?_
  refine va_iald (D := (dC, dI)) hx hb hK hP 1 0 rfl rfl (by unfold vp_in; decide) d_Mo_isGoodHeader_29 ?_
  refine W.eq (g2 := F0 m 30 ls [.int 0]) rfl ?_
  refine lv_iload_n hx hb d_Mo_isGoodHeader_30 rfl (lv_at hl 3 rfl) ?_
  refine lv_iconst (v := 1) hx hb d_Mo_isGoodHeader_31 (by decide) ?_
  refine lv_iadd hx hb d_Mo_isGoodHeader_32 ?_
  refine lv_topi (fun z3 z3_e => ?_)
  obtain rfl : z3 = 4 := z3_e.trans (by decide)
  refine lv_icmp_ne (tgt := 61) hx hb d_Mo_isGoodHeader_33 (by decide) (fun _ => ?_) (fun h9 => absurd h9 (by decide))
  refine lv_iconst (v := 0) hx hb d_Mo_isGoodHeader_61 (by decide) ?_
  exact W.zret (v := 0) hx hb hr rfl (fun t ht _ => ⟨rfl, ht⟩) (fun _ h => nomatch h) d_Mo_isGoodHeader_62
set_option maxHeartbeats 4000000 in
set_option maxRecDepth 100000 in
theorem p_Mo_good7 (l : Launch) (dC : Nat → ClassId) (dI : Nat → Nat → Nat) (h0 : Nat) (q : Nat → Nat) (ci : Nat → ClassId) : Met l y_Mo_isGoodHeader w_Mo_isGoodHeader ({ frames := 0, cells := 0, slots := 0, locals := 0 }) (va_Pc [.ref h0, .int 3, .int 7] (fun U => va_P (dC, dI) gx_cl (wMo h0 q ci) U.heap ∧ va_K (dC, dI) gx_cl (kMo ci) U)) (px_Q (some (.int 0))) 0 0 (fun _ => False) := by
  refine Met.ofW (cc := b_Mo_isGoodHeader) (maxL := 6) (ret := (some .boolean)) (by decide) rfl ?_
  intro p e s m args below meth c s₁ B hml hv
  obtain ⟨rfl, hP, hK⟩ := hv
  have hx := B.exec
  have hb := B.bytes
  have hr := B.returns
  have hts := atoms_spec (ws := w_Mo_isGoodHeader) B.pre
  have hB : ∀ w ∈ gx_B, w.before _ s = true := fun w h => hts w (List.mem_cons_of_mem _ h)
  have hown : s.vm.findClass "TapeSealerModel" = some m.cls := findClass_of_methodNamed B.named
  have hlocks := B.notSynchronized
  have hl := lv_entry ([.ref h0, .int 3, .int 7]) (n := 6) (Nat.le_of_ble_eq_true rfl)
  rw [lg_entry_eq]
  generalize (lg_sl ([.ref h0, .int 3, .int 7]) ++ List.replicate (6 - (lg_sl ([.ref h0, .int 3, .int 7])).length) Slot.unset).toArray = ls at hl ⊢
  have hl : lv_has ls 6 [(0, .ref h0), (1, .int 3), (2, .int 7)] := hl
  refine lv_bipush (v := 64) hx hb d_Mo_isGoodHeader_0 (by decide) ?_
  refine lv_iload_n hx hb d_Mo_isGoodHeader_2 rfl (lv_at hl 2 rfl) ?_
  refine lv_imul hx hb d_Mo_isGoodHeader_3 ?_
  refine lv_topi (fun z1 z1_e => ?_)
  obtain rfl : z1 = 448 := z1_e.trans (by decide)
  refine lv_istore_n hx hb d_Mo_isGoodHeader_4 rfl hl (by decide) rfl (fun ls hl => ?_)
  have hl : lv_has ls 6 [(3, .int 448), (0, .ref h0), (1, .int 3), (2, .int 7)] := hl
  refine lv_aload_n hx hb d_Mo_isGoodHeader_5 rfl (lv_at hl 1 rfl) ?_
  refine va_get (D := (dC, dI)) (ci := 9) (v := .ref (q 1)) (C := RMo) (T := FMo) (N := 45) hx hb hB in_Mo hown hK hP 0 rfl rfl 1 (by decide) (hB _ hw_891) (fun _ h9 => h9) rfl d_Mo_isGoodHeader_6 ?_
  refine lv_iload_n hx hb d_Mo_isGoodHeader_9 rfl (lv_at hl 0 rfl) ?_
  refine lv_iconst (v := 1) hx hb d_Mo_isGoodHeader_10 (by decide) ?_
  refine lv_iadd hx hb d_Mo_isGoodHeader_11 ?_
  refine lv_topi (fun z2 z2_e => ?_)
  obtain rfl : z2 = 449 := z2_e.trans (by decide)
  refine va_iald (D := (dC, dI)) hx hb hK hP 1 0 rfl rfl (by unfold vp_in; decide) d_Mo_isGoodHeader_12 ?_
  refine W.eq (g2 := F0 m 13 ls [.int 0]) rfl ?_
  refine lv_istore hx hb d_Mo_isGoodHeader_13 hl (by decide) rfl (fun ls hl => ?_)
  have hl : lv_has ls 6 [(4, .int 0), (3, .int 448), (0, .ref h0), (1, .int 3), (2, .int 7)] := hl
  refine lv_aload_n hx hb d_Mo_isGoodHeader_15 rfl (lv_at hl 2 rfl) ?_
  refine va_get (D := (dC, dI)) (ci := 9) (v := .ref (q 2)) (C := RMo) (T := FMo) (N := 45) hx hb hB in_Mo hown hK hP 0 rfl rfl 2 (by decide) (hB _ hw_892) (fun _ h9 => h9) rfl d_Mo_isGoodHeader_16 ?_
  refine lv_iload_n hx hb d_Mo_isGoodHeader_19 rfl (lv_at hl 4 rfl) ?_
  refine va_zald (D := (dC, dI)) hx hb hK hP 2 1 rfl rfl (by unfold vp_in; decide) d_Mo_isGoodHeader_20 ?_
  refine W.eq (g2 := F0 m 21 ls [.int 0]) rfl ?_
  refine lv_if_ne (tgt := 61) hx hb d_Mo_isGoodHeader_21 (by decide) (fun h9 => absurd (by decide) h9) (fun _ => ?_)
  refine lv_aload_n hx hb d_Mo_isGoodHeader_24 rfl (lv_at hl 2 rfl) ?_
  refine va_get (D := (dC, dI)) (ci := 9) (v := .ref (q 1)) (C := RMo) (T := FMo) (N := 45) hx hb hB in_Mo hown hK hP 0 rfl rfl 1 (by decide) (hB _ hw_891) (fun _ h9 => h9) rfl d_Mo_isGoodHeader_25 ?_
  refine lv_iload_n hx hb d_Mo_isGoodHeader_28 rfl (lv_at hl 1 rfl) ?_
  refine va_iald (D := (dC, dI)) hx hb hK hP 1 0 rfl rfl (by unfold vp_in; decide) d_Mo_isGoodHeader_29 ?_
  refine W.eq (g2 := F0 m 30 ls [.int 0]) rfl ?_
  refine lv_iload_n hx hb d_Mo_isGoodHeader_30 rfl (lv_at hl 3 rfl) ?_
  refine lv_iconst (v := 1) hx hb d_Mo_isGoodHeader_31 (by decide) ?_
  refine lv_iadd hx hb d_Mo_isGoodHeader_32 ?_
  refine lv_topi (fun z3 z3_e => ?_)
  obtain rfl : z3 = 4 := z3_e.trans (by decide)
  refine lv_icmp_ne (tgt := 61) hx hb d_Mo_isGoodHeader_33 (by decide) (fun _ => ?_) (fun h9 => absurd h9 (by decide))
  refine lv_iconst (v := 0) hx hb d_Mo_isGoodHeader_61 (by decide) ?_
  exact W.zret (v := 0) hx hb hr rfl (fun t ht _ => ⟨rfl, ht⟩) (fun _ h => nomatch h) d_Mo_isGoodHeader_62
set_option maxHeartbeats 4000000 in
set_option maxRecDepth 100000 in
theorem p_Mo_look (l : Launch) (dC : Nat → ClassId) (dI : Nat → Nat → Nat) (h0 : Nat) (q : Nat → Nat) (ci : Nat → ClassId) (f : Int32) : Met l y_Mo_look w_Mo_look ({ frames := 1, cells := 0, slots := 0, locals := 25 }) (va_Pc [.ref h0, .int f] (fun U => va_P (dC, dI) gx_cl (wMo h0 q ci) U.heap ∧ va_K (dC, dI) gx_cl (kMo ci) U)) (px_Q (some (.int 0))) 0 0 (fun _ => False) := by
  refine Met.ofW (cc := b_Mo_look) (maxL := 2) (ret := (some .boolean)) (by decide) rfl ?_
  intro p e s m args below meth c s₁ B hml hv
  obtain ⟨rfl, hP, hK⟩ := hv
  have hx := B.exec
  have hb := B.bytes
  have hr := B.returns
  have hts := atoms_spec (ws := w_Mo_look) B.pre
  have hB : ∀ w ∈ gx_B, w.before _ s = true := fun w h => hts w (List.mem_cons_of_mem _ h)
  have hown : s.vm.findClass "TapeSealerModel" = some m.cls := findClass_of_methodNamed B.named
  have hlocks := B.notSynchronized
  have hl := lv_entry ([.ref h0, .int f]) (n := 2) (Nat.le_of_ble_eq_true rfl)
  rw [lg_entry_eq]
  generalize (lg_sl ([.ref h0, .int f]) ++ List.replicate (2 - (lg_sl ([.ref h0, .int f])).length) Slot.unset).toArray = ls at hl ⊢
  have hl : lv_has ls 2 [(0, .ref h0), (1, .int f)] := hl
  rcases gx_4 f with hf | hf | rfl | rfl | rfl | rfl
  · refine lv_iload_n hx hb d_Mo_look_0 rfl (lv_at hl 1 rfl) ?_
    refine lv_if_lt (tgt := 37) hx hb d_Mo_look_1 (by decide) (fun _ => ?_) (fun h9 => absurd hf h9)
    refine lv_iconst (v := 0) hx hb d_Mo_look_37 (by decide) ?_
    exact W.zret (v := 0) hx hb hr rfl (fun t ht _ => ⟨rfl, ht⟩) (fun _ h => nomatch h) d_Mo_look_38
  · refine lv_iload_n hx hb d_Mo_look_0 rfl (lv_at hl 1 rfl) ?_
    refine lv_if_lt (tgt := 37) hx hb d_Mo_look_1 (by decide) (fun h9 => absurd h9 (gx_nlt hf)) (fun _ => ?_)
    refine lv_iload_n hx hb d_Mo_look_4 rfl (lv_at hl 1 rfl) ?_
    refine lv_iconst (v := 4) hx hb d_Mo_look_5 (by decide) ?_
    refine lv_icmp_ge (tgt := 37) hx hb d_Mo_look_6 (by decide) (fun _ => ?_) (fun h9 => absurd hf h9)
    refine lv_iconst (v := 0) hx hb d_Mo_look_37 (by decide) ?_
    exact W.zret (v := 0) hx hb hr rfl (fun t ht _ => ⟨rfl, ht⟩) (fun _ h => nomatch h) d_Mo_look_38
  · refine lv_iload_n hx hb d_Mo_look_0 rfl (lv_at hl 1 rfl) ?_
    refine lv_if_lt (tgt := 37) hx hb d_Mo_look_1 (by decide) (fun h9 => absurd h9 (by decide)) (fun _ => ?_)
    refine lv_iload_n hx hb d_Mo_look_4 rfl (lv_at hl 1 rfl) ?_
    refine lv_iconst (v := 4) hx hb d_Mo_look_5 (by decide) ?_
    refine lv_icmp_ge (tgt := 37) hx hb d_Mo_look_6 (by decide) (fun h9 => absurd h9 (by decide)) (fun _ => ?_)
    refine lv_aload_n hx hb d_Mo_look_9 rfl (lv_at hl 0 rfl) ?_
    refine lv_iload_n hx hb d_Mo_look_10 rfl (lv_at hl 1 rfl) ?_
    refine lv_iconst (v := 2) hx hb d_Mo_look_11 (by decide) ?_
    refine lv_iload_n hx hb d_Mo_look_12 rfl (lv_at hl 1 rfl) ?_
    refine lv_imul hx hb d_Mo_look_13 ?_
    refine lv_topi (fun z1 z1_e => ?_)
    obtain rfl : z1 = 0 := z1_e.trans (by decide)
    refine px_go (va_runV (C := "TapeSealerModel") (As := [.int 0, .int 0]) (rest := []) ⟨hx, hb, hml, hown, hts⟩ (p_Mo_good0 l dC dI h0 q ci) (cwV 2 hts (gx_goodV hw_1050 hw_1052 hw_33 hw_75 k_Mo_isGoodHeader) rfl rfl rfl (by decide +kernel) ⟨(Nat.le_of_ble_eq_true rfl), (Nat.le_of_ble_eq_true rfl)⟩) ⟨fun a U g mk q => by obtain ⟨q0, qP, qK⟩ := q; exact ⟨q0, qP, va_K.moved (u := U) (U := U.calling g mk a) (Vm.Alike.refl U.vm) qK⟩, va_recv hK hP rfl (q0 := 0) rfl, fun U hU hW => ⟨rfl, by rw [hU]; exact hP, va_K.moved hW.alike (hK)⟩⟩ rfl rfl hl.1 rfl (lv_room (Nat.le_of_ble_eq_true rfl)) d_Mo_look_14 ⟨(Nat.le_of_ble_eq_true rfl), (Nat.le_of_ble_eq_true rfl)⟩) ?_
    refine W.eq (g2 := F0 m 17 ls [.int 0]) rfl ?_
    refine lv_if_ne (tgt := 33) hx hb d_Mo_look_17 (by decide) (fun h9 => absurd (by decide) h9) (fun _ => ?_)
    refine lv_aload_n hx hb d_Mo_look_20 rfl (lv_at hl 0 rfl) ?_
    refine lv_iload_n hx hb d_Mo_look_21 rfl (lv_at hl 1 rfl) ?_
    refine lv_iconst (v := 2) hx hb d_Mo_look_22 (by decide) ?_
    refine lv_iload_n hx hb d_Mo_look_23 rfl (lv_at hl 1 rfl) ?_
    refine lv_imul hx hb d_Mo_look_24 ?_
    refine lv_topi (fun z2 z2_e => ?_)
    obtain rfl : z2 = 0 := z2_e.trans (by decide)
    refine lv_iconst (v := 1) hx hb d_Mo_look_25 (by decide) ?_
    refine lv_iadd hx hb d_Mo_look_26 ?_
    refine lv_topi (fun z3 z3_e => ?_)
    obtain rfl : z3 = 1 := z3_e.trans (by decide)
    refine px_go (va_runV (C := "TapeSealerModel") (As := [.int 0, .int 1]) (rest := []) ⟨hx, hb, hml, hown, hts⟩ (p_Mo_good1 l dC dI h0 q ci) (cwV 2 hts (gx_goodV hw_1050 hw_1052 hw_33 hw_75 k_Mo_isGoodHeader) rfl rfl rfl (by decide +kernel) ⟨(Nat.le_of_ble_eq_true rfl), (Nat.le_of_ble_eq_true rfl)⟩) ⟨fun a U g mk q => by obtain ⟨q0, qP, qK⟩ := q; exact ⟨q0, qP, va_K.moved (u := U) (U := U.calling g mk a) (Vm.Alike.refl U.vm) qK⟩, va_recv hK hP rfl (q0 := 0) rfl, fun U hU hW => ⟨rfl, by rw [hU]; exact hP, va_K.moved hW.alike (hK)⟩⟩ rfl rfl hl.1 rfl (lv_room (Nat.le_of_ble_eq_true rfl)) d_Mo_look_27 ⟨(Nat.le_of_ble_eq_true rfl), (Nat.le_of_ble_eq_true rfl)⟩) ?_
    refine W.eq (g2 := F0 m 30 ls [.int 0]) rfl ?_
    refine lv_if_eq (tgt := 37) hx hb d_Mo_look_30 (by decide) (fun _ => ?_) (fun h9 => absurd (by decide) h9)
    refine lv_iconst (v := 0) hx hb d_Mo_look_37 (by decide) ?_
    exact W.zret (v := 0) hx hb hr rfl (fun t ht _ => ⟨rfl, ht⟩) (fun _ h => nomatch h) d_Mo_look_38
  · refine lv_iload_n hx hb d_Mo_look_0 rfl (lv_at hl 1 rfl) ?_
    refine lv_if_lt (tgt := 37) hx hb d_Mo_look_1 (by decide) (fun h9 => absurd h9 (by decide)) (fun _ => ?_)
    refine lv_iload_n hx hb d_Mo_look_4 rfl (lv_at hl 1 rfl) ?_
    refine lv_iconst (v := 4) hx hb d_Mo_look_5 (by decide) ?_
    refine lv_icmp_ge (tgt := 37) hx hb d_Mo_look_6 (by decide) (fun h9 => absurd h9 (by decide)) (fun _ => ?_)
    refine lv_aload_n hx hb d_Mo_look_9 rfl (lv_at hl 0 rfl) ?_
    refine lv_iload_n hx hb d_Mo_look_10 rfl (lv_at hl 1 rfl) ?_
    refine lv_iconst (v := 2) hx hb d_Mo_look_11 (by decide) ?_
    refine lv_iload_n hx hb d_Mo_look_12 rfl (lv_at hl 1 rfl) ?_
    refine lv_imul hx hb d_Mo_look_13 ?_
    refine lv_topi (fun z1 z1_e => ?_)
    obtain rfl : z1 = 2 := z1_e.trans (by decide)
    refine px_go (va_runV (C := "TapeSealerModel") (As := [.int 1, .int 2]) (rest := []) ⟨hx, hb, hml, hown, hts⟩ (p_Mo_good2 l dC dI h0 q ci) (cwV 2 hts (gx_goodV hw_1050 hw_1052 hw_33 hw_75 k_Mo_isGoodHeader) rfl rfl rfl (by decide +kernel) ⟨(Nat.le_of_ble_eq_true rfl), (Nat.le_of_ble_eq_true rfl)⟩) ⟨fun a U g mk q => by obtain ⟨q0, qP, qK⟩ := q; exact ⟨q0, qP, va_K.moved (u := U) (U := U.calling g mk a) (Vm.Alike.refl U.vm) qK⟩, va_recv hK hP rfl (q0 := 0) rfl, fun U hU hW => ⟨rfl, by rw [hU]; exact hP, va_K.moved hW.alike (hK)⟩⟩ rfl rfl hl.1 rfl (lv_room (Nat.le_of_ble_eq_true rfl)) d_Mo_look_14 ⟨(Nat.le_of_ble_eq_true rfl), (Nat.le_of_ble_eq_true rfl)⟩) ?_
    refine W.eq (g2 := F0 m 17 ls [.int 0]) rfl ?_
    refine lv_if_ne (tgt := 33) hx hb d_Mo_look_17 (by decide) (fun h9 => absurd (by decide) h9) (fun _ => ?_)
    refine lv_aload_n hx hb d_Mo_look_20 rfl (lv_at hl 0 rfl) ?_
    refine lv_iload_n hx hb d_Mo_look_21 rfl (lv_at hl 1 rfl) ?_
    refine lv_iconst (v := 2) hx hb d_Mo_look_22 (by decide) ?_
    refine lv_iload_n hx hb d_Mo_look_23 rfl (lv_at hl 1 rfl) ?_
    refine lv_imul hx hb d_Mo_look_24 ?_
    refine lv_topi (fun z2 z2_e => ?_)
    obtain rfl : z2 = 2 := z2_e.trans (by decide)
    refine lv_iconst (v := 1) hx hb d_Mo_look_25 (by decide) ?_
    refine lv_iadd hx hb d_Mo_look_26 ?_
    refine lv_topi (fun z3 z3_e => ?_)
    obtain rfl : z3 = 3 := z3_e.trans (by decide)
    refine px_go (va_runV (C := "TapeSealerModel") (As := [.int 1, .int 3]) (rest := []) ⟨hx, hb, hml, hown, hts⟩ (p_Mo_good3 l dC dI h0 q ci) (cwV 2 hts (gx_goodV hw_1050 hw_1052 hw_33 hw_75 k_Mo_isGoodHeader) rfl rfl rfl (by decide +kernel) ⟨(Nat.le_of_ble_eq_true rfl), (Nat.le_of_ble_eq_true rfl)⟩) ⟨fun a U g mk q => by obtain ⟨q0, qP, qK⟩ := q; exact ⟨q0, qP, va_K.moved (u := U) (U := U.calling g mk a) (Vm.Alike.refl U.vm) qK⟩, va_recv hK hP rfl (q0 := 0) rfl, fun U hU hW => ⟨rfl, by rw [hU]; exact hP, va_K.moved hW.alike (hK)⟩⟩ rfl rfl hl.1 rfl (lv_room (Nat.le_of_ble_eq_true rfl)) d_Mo_look_27 ⟨(Nat.le_of_ble_eq_true rfl), (Nat.le_of_ble_eq_true rfl)⟩) ?_
    refine W.eq (g2 := F0 m 30 ls [.int 0]) rfl ?_
    refine lv_if_eq (tgt := 37) hx hb d_Mo_look_30 (by decide) (fun _ => ?_) (fun h9 => absurd (by decide) h9)
    refine lv_iconst (v := 0) hx hb d_Mo_look_37 (by decide) ?_
    exact W.zret (v := 0) hx hb hr rfl (fun t ht _ => ⟨rfl, ht⟩) (fun _ h => nomatch h) d_Mo_look_38
  · refine lv_iload_n hx hb d_Mo_look_0 rfl (lv_at hl 1 rfl) ?_
    refine lv_if_lt (tgt := 37) hx hb d_Mo_look_1 (by decide) (fun h9 => absurd h9 (by decide)) (fun _ => ?_)
    refine lv_iload_n hx hb d_Mo_look_4 rfl (lv_at hl 1 rfl) ?_
    refine lv_iconst (v := 4) hx hb d_Mo_look_5 (by decide) ?_
    refine lv_icmp_ge (tgt := 37) hx hb d_Mo_look_6 (by decide) (fun h9 => absurd h9 (by decide)) (fun _ => ?_)
    refine lv_aload_n hx hb d_Mo_look_9 rfl (lv_at hl 0 rfl) ?_
    refine lv_iload_n hx hb d_Mo_look_10 rfl (lv_at hl 1 rfl) ?_
    refine lv_iconst (v := 2) hx hb d_Mo_look_11 (by decide) ?_
    refine lv_iload_n hx hb d_Mo_look_12 rfl (lv_at hl 1 rfl) ?_
    refine lv_imul hx hb d_Mo_look_13 ?_
    refine lv_topi (fun z1 z1_e => ?_)
    obtain rfl : z1 = 4 := z1_e.trans (by decide)
    refine px_go (va_runV (C := "TapeSealerModel") (As := [.int 2, .int 4]) (rest := []) ⟨hx, hb, hml, hown, hts⟩ (p_Mo_good4 l dC dI h0 q ci) (cwV 2 hts (gx_goodV hw_1050 hw_1052 hw_33 hw_75 k_Mo_isGoodHeader) rfl rfl rfl (by decide +kernel) ⟨(Nat.le_of_ble_eq_true rfl), (Nat.le_of_ble_eq_true rfl)⟩) ⟨fun a U g mk q => by obtain ⟨q0, qP, qK⟩ := q; exact ⟨q0, qP, va_K.moved (u := U) (U := U.calling g mk a) (Vm.Alike.refl U.vm) qK⟩, va_recv hK hP rfl (q0 := 0) rfl, fun U hU hW => ⟨rfl, by rw [hU]; exact hP, va_K.moved hW.alike (hK)⟩⟩ rfl rfl hl.1 rfl (lv_room (Nat.le_of_ble_eq_true rfl)) d_Mo_look_14 ⟨(Nat.le_of_ble_eq_true rfl), (Nat.le_of_ble_eq_true rfl)⟩) ?_
    refine W.eq (g2 := F0 m 17 ls [.int 0]) rfl ?_
    refine lv_if_ne (tgt := 33) hx hb d_Mo_look_17 (by decide) (fun h9 => absurd (by decide) h9) (fun _ => ?_)
    refine lv_aload_n hx hb d_Mo_look_20 rfl (lv_at hl 0 rfl) ?_
    refine lv_iload_n hx hb d_Mo_look_21 rfl (lv_at hl 1 rfl) ?_
    refine lv_iconst (v := 2) hx hb d_Mo_look_22 (by decide) ?_
    refine lv_iload_n hx hb d_Mo_look_23 rfl (lv_at hl 1 rfl) ?_
    refine lv_imul hx hb d_Mo_look_24 ?_
    refine lv_topi (fun z2 z2_e => ?_)
    obtain rfl : z2 = 4 := z2_e.trans (by decide)
    refine lv_iconst (v := 1) hx hb d_Mo_look_25 (by decide) ?_
    refine lv_iadd hx hb d_Mo_look_26 ?_
    refine lv_topi (fun z3 z3_e => ?_)
    obtain rfl : z3 = 5 := z3_e.trans (by decide)
    refine px_go (va_runV (C := "TapeSealerModel") (As := [.int 2, .int 5]) (rest := []) ⟨hx, hb, hml, hown, hts⟩ (p_Mo_good5 l dC dI h0 q ci) (cwV 2 hts (gx_goodV hw_1050 hw_1052 hw_33 hw_75 k_Mo_isGoodHeader) rfl rfl rfl (by decide +kernel) ⟨(Nat.le_of_ble_eq_true rfl), (Nat.le_of_ble_eq_true rfl)⟩) ⟨fun a U g mk q => by obtain ⟨q0, qP, qK⟩ := q; exact ⟨q0, qP, va_K.moved (u := U) (U := U.calling g mk a) (Vm.Alike.refl U.vm) qK⟩, va_recv hK hP rfl (q0 := 0) rfl, fun U hU hW => ⟨rfl, by rw [hU]; exact hP, va_K.moved hW.alike (hK)⟩⟩ rfl rfl hl.1 rfl (lv_room (Nat.le_of_ble_eq_true rfl)) d_Mo_look_27 ⟨(Nat.le_of_ble_eq_true rfl), (Nat.le_of_ble_eq_true rfl)⟩) ?_
    refine W.eq (g2 := F0 m 30 ls [.int 0]) rfl ?_
    refine lv_if_eq (tgt := 37) hx hb d_Mo_look_30 (by decide) (fun _ => ?_) (fun h9 => absurd (by decide) h9)
    refine lv_iconst (v := 0) hx hb d_Mo_look_37 (by decide) ?_
    exact W.zret (v := 0) hx hb hr rfl (fun t ht _ => ⟨rfl, ht⟩) (fun _ h => nomatch h) d_Mo_look_38
  · refine lv_iload_n hx hb d_Mo_look_0 rfl (lv_at hl 1 rfl) ?_
    refine lv_if_lt (tgt := 37) hx hb d_Mo_look_1 (by decide) (fun h9 => absurd h9 (by decide)) (fun _ => ?_)
    refine lv_iload_n hx hb d_Mo_look_4 rfl (lv_at hl 1 rfl) ?_
    refine lv_iconst (v := 4) hx hb d_Mo_look_5 (by decide) ?_
    refine lv_icmp_ge (tgt := 37) hx hb d_Mo_look_6 (by decide) (fun h9 => absurd h9 (by decide)) (fun _ => ?_)
    refine lv_aload_n hx hb d_Mo_look_9 rfl (lv_at hl 0 rfl) ?_
    refine lv_iload_n hx hb d_Mo_look_10 rfl (lv_at hl 1 rfl) ?_
    refine lv_iconst (v := 2) hx hb d_Mo_look_11 (by decide) ?_
    refine lv_iload_n hx hb d_Mo_look_12 rfl (lv_at hl 1 rfl) ?_
    refine lv_imul hx hb d_Mo_look_13 ?_
    refine lv_topi (fun z1 z1_e => ?_)
    obtain rfl : z1 = 6 := z1_e.trans (by decide)
    refine px_go (va_runV (C := "TapeSealerModel") (As := [.int 3, .int 6]) (rest := []) ⟨hx, hb, hml, hown, hts⟩ (p_Mo_good6 l dC dI h0 q ci) (cwV 2 hts (gx_goodV hw_1050 hw_1052 hw_33 hw_75 k_Mo_isGoodHeader) rfl rfl rfl (by decide +kernel) ⟨(Nat.le_of_ble_eq_true rfl), (Nat.le_of_ble_eq_true rfl)⟩) ⟨fun a U g mk q => by obtain ⟨q0, qP, qK⟩ := q; exact ⟨q0, qP, va_K.moved (u := U) (U := U.calling g mk a) (Vm.Alike.refl U.vm) qK⟩, va_recv hK hP rfl (q0 := 0) rfl, fun U hU hW => ⟨rfl, by rw [hU]; exact hP, va_K.moved hW.alike (hK)⟩⟩ rfl rfl hl.1 rfl (lv_room (Nat.le_of_ble_eq_true rfl)) d_Mo_look_14 ⟨(Nat.le_of_ble_eq_true rfl), (Nat.le_of_ble_eq_true rfl)⟩) ?_
    refine W.eq (g2 := F0 m 17 ls [.int 0]) rfl ?_
    refine lv_if_ne (tgt := 33) hx hb d_Mo_look_17 (by decide) (fun h9 => absurd (by decide) h9) (fun _ => ?_)
    refine lv_aload_n hx hb d_Mo_look_20 rfl (lv_at hl 0 rfl) ?_
    refine lv_iload_n hx hb d_Mo_look_21 rfl (lv_at hl 1 rfl) ?_
    refine lv_iconst (v := 2) hx hb d_Mo_look_22 (by decide) ?_
    refine lv_iload_n hx hb d_Mo_look_23 rfl (lv_at hl 1 rfl) ?_
    refine lv_imul hx hb d_Mo_look_24 ?_
    refine lv_topi (fun z2 z2_e => ?_)
    obtain rfl : z2 = 6 := z2_e.trans (by decide)
    refine lv_iconst (v := 1) hx hb d_Mo_look_25 (by decide) ?_
    refine lv_iadd hx hb d_Mo_look_26 ?_
    refine lv_topi (fun z3 z3_e => ?_)
    obtain rfl : z3 = 7 := z3_e.trans (by decide)
    refine px_go (va_runV (C := "TapeSealerModel") (As := [.int 3, .int 7]) (rest := []) ⟨hx, hb, hml, hown, hts⟩ (p_Mo_good7 l dC dI h0 q ci) (cwV 2 hts (gx_goodV hw_1050 hw_1052 hw_33 hw_75 k_Mo_isGoodHeader) rfl rfl rfl (by decide +kernel) ⟨(Nat.le_of_ble_eq_true rfl), (Nat.le_of_ble_eq_true rfl)⟩) ⟨fun a U g mk q => by obtain ⟨q0, qP, qK⟩ := q; exact ⟨q0, qP, va_K.moved (u := U) (U := U.calling g mk a) (Vm.Alike.refl U.vm) qK⟩, va_recv hK hP rfl (q0 := 0) rfl, fun U hU hW => ⟨rfl, by rw [hU]; exact hP, va_K.moved hW.alike (hK)⟩⟩ rfl rfl hl.1 rfl (lv_room (Nat.le_of_ble_eq_true rfl)) d_Mo_look_27 ⟨(Nat.le_of_ble_eq_true rfl), (Nat.le_of_ble_eq_true rfl)⟩) ?_
    refine W.eq (g2 := F0 m 30 ls [.int 0]) rfl ?_
    refine lv_if_eq (tgt := 37) hx hb d_Mo_look_30 (by decide) (fun _ => ?_) (fun h9 => absurd (by decide) h9)
    refine lv_iconst (v := 0) hx hb d_Mo_look_37 (by decide) ?_
    exact W.zret (v := 0) hx hb hr rfl (fun t ht _ => ⟨rfl, ht⟩) (fun _ h => nomatch h) d_Mo_look_38
set_option maxHeartbeats 4000000 in
set_option maxRecDepth 100000 in
theorem p_Mo_files (l : Launch) (dC : Nat → ClassId) (dI : Nat → Nat → Nat) (h0 : Nat) (q : Nat → Nat) (ci : Nat → ClassId) : Met l y_Mo_files w_Mo_files ({ frames := 2, cells := 0, slots := 0, locals := 46 }) (va_Pc [.ref h0] (fun U => va_P (dC, dI) gx_cl (wMo h0 q ci) U.heap ∧ va_K (dC, dI) gx_cl (kMo ci) U)) (px_Q (some (.int 0))) 0 0 (fun _ => False) := by
  refine Met.ofW (cc := b_Mo_files) (maxL := 3) (ret := (some .int)) (by decide) rfl ?_
  intro p e s m args below meth c s₁ B hml hv
  obtain ⟨rfl, hP, hK⟩ := hv
  have hx := B.exec
  have hb := B.bytes
  have hr := B.returns
  have hts := atoms_spec (ws := w_Mo_files) B.pre
  have hB : ∀ w ∈ gx_B, w.before _ s = true := fun w h => hts w (List.mem_cons_of_mem _ h)
  have hown : s.vm.findClass "TapeSealerModel" = some m.cls := findClass_of_methodNamed B.named
  have hlocks := B.notSynchronized
  have hl := lv_entry ([.ref h0]) (n := 3) (Nat.le_of_ble_eq_true rfl)
  rw [lg_entry_eq]
  generalize (lg_sl ([.ref h0]) ++ List.replicate (3 - (lg_sl ([.ref h0])).length) Slot.unset).toArray = ls at hl ⊢
  have hl : lv_has ls 3 [(0, .ref h0)] := hl
  refine lv_iconst (v := 0) hx hb d_Mo_files_0 (by decide) ?_
  refine lv_istore_n hx hb d_Mo_files_1 rfl hl (by decide) rfl (fun ls hl => ?_)
  have hl : lv_has ls 3 [(1, .int 0), (0, .ref h0)] := hl
  refine lv_iconst (v := 0) hx hb d_Mo_files_2 (by decide) ?_
  refine lv_istore_n hx hb d_Mo_files_3 rfl hl (by decide) rfl (fun ls hl => ?_)
  have hl : lv_has ls 3 [(2, .int 0), (1, .int 0), (0, .ref h0)] := hl
  refine lv_iload_n hx hb d_Mo_files_4 rfl (lv_at hl 0 rfl) ?_
  refine lv_iconst (v := 4) hx hb d_Mo_files_5 (by decide) ?_
  refine lv_icmp_ge (tgt := 31) hx hb d_Mo_files_6 (by decide) (fun h9 => absurd h9 (by decide)) (fun _ => ?_)
  refine lv_iload_n hx hb d_Mo_files_9 rfl (lv_at hl 1 rfl) ?_
  refine lv_aload_n hx hb d_Mo_files_10 rfl (lv_at hl 2 rfl) ?_
  refine lv_iload_n hx hb d_Mo_files_11 rfl (lv_at hl 0 rfl) ?_
  refine px_go (va_runV (C := "TapeSealerModel") (As := [.int 0]) (rest := [.int 0]) ⟨hx, hb, hml, hown, hts⟩ (p_Mo_look l dC dI h0 q ci 0) (cwV 1 hts (gx_goodV hw_1046 hw_1048 hw_32 hw_75 k_Mo_look) rfl rfl rfl (by decide +kernel) ⟨(Nat.le_of_ble_eq_true rfl), (Nat.le_of_ble_eq_true rfl)⟩) ⟨fun a U g mk q => by obtain ⟨q0, qP, qK⟩ := q; exact ⟨q0, qP, va_K.moved (u := U) (U := U.calling g mk a) (Vm.Alike.refl U.vm) qK⟩, va_recv hK hP rfl (q0 := 0) rfl, fun U hU hW => ⟨rfl, by rw [hU]; exact hP, va_K.moved hW.alike (hK)⟩⟩ rfl rfl hl.1 rfl (lv_room (Nat.le_of_ble_eq_true rfl)) d_Mo_files_12 ⟨(Nat.le_of_ble_eq_true rfl), (Nat.le_of_ble_eq_true rfl)⟩) ?_
  refine W.eq (g2 := F0 m 15 ls [.int 0, .int 0]) rfl ?_
  refine lv_if_eq (tgt := 22) hx hb d_Mo_files_15 (by decide) (fun _ => ?_) (fun h9 => absurd (by decide) h9)
  refine lv_iconst (v := 0) hx hb d_Mo_files_22 (by decide) ?_
  refine lv_iadd hx hb d_Mo_files_23 ?_
  refine lv_topi (fun z1 z1_e => ?_)
  obtain rfl : z1 = 0 := z1_e.trans (by decide)
  refine lv_istore_n hx hb d_Mo_files_24 rfl hl (by decide) rfl (fun ls hl => ?_)
  have hl : lv_has ls 3 [(1, .int 0), (2, .int 0), (0, .ref h0)] := hl
  refine lv_iinc (k := 1) (v := 1) hx hb d_Mo_files_25 hl rfl (by decide) (by decide) rfl (fun ls hl => ?_)
  have hl : lv_has ls 3 [(2, .int 1), (1, .int 0), (0, .ref h0)] := hl
  refine lv_goto (tgt := 4) hx hb d_Mo_files_28 (by decide) ?_
  refine lv_iload_n hx hb d_Mo_files_4 rfl (lv_at hl 0 rfl) ?_
  refine lv_iconst (v := 4) hx hb d_Mo_files_5 (by decide) ?_
  refine lv_icmp_ge (tgt := 31) hx hb d_Mo_files_6 (by decide) (fun h9 => absurd h9 (by decide)) (fun _ => ?_)
  refine lv_iload_n hx hb d_Mo_files_9 rfl (lv_at hl 1 rfl) ?_
  refine lv_aload_n hx hb d_Mo_files_10 rfl (lv_at hl 2 rfl) ?_
  refine lv_iload_n hx hb d_Mo_files_11 rfl (lv_at hl 0 rfl) ?_
  refine px_go (va_runV (C := "TapeSealerModel") (As := [.int 1]) (rest := [.int 0]) ⟨hx, hb, hml, hown, hts⟩ (p_Mo_look l dC dI h0 q ci 1) (cwV 1 hts (gx_goodV hw_1046 hw_1048 hw_32 hw_75 k_Mo_look) rfl rfl rfl (by decide +kernel) ⟨(Nat.le_of_ble_eq_true rfl), (Nat.le_of_ble_eq_true rfl)⟩) ⟨fun a U g mk q => by obtain ⟨q0, qP, qK⟩ := q; exact ⟨q0, qP, va_K.moved (u := U) (U := U.calling g mk a) (Vm.Alike.refl U.vm) qK⟩, va_recv hK hP rfl (q0 := 0) rfl, fun U hU hW => ⟨rfl, by rw [hU]; exact hP, va_K.moved hW.alike (hK)⟩⟩ rfl rfl hl.1 rfl (lv_room (Nat.le_of_ble_eq_true rfl)) d_Mo_files_12 ⟨(Nat.le_of_ble_eq_true rfl), (Nat.le_of_ble_eq_true rfl)⟩) ?_
  refine W.eq (g2 := F0 m 15 ls [.int 0, .int 0]) rfl ?_
  refine lv_if_eq (tgt := 22) hx hb d_Mo_files_15 (by decide) (fun _ => ?_) (fun h9 => absurd (by decide) h9)
  refine lv_iconst (v := 0) hx hb d_Mo_files_22 (by decide) ?_
  refine lv_iadd hx hb d_Mo_files_23 ?_
  refine lv_topi (fun z2 z2_e => ?_)
  obtain rfl : z2 = 0 := z2_e.trans (by decide)
  refine lv_istore_n hx hb d_Mo_files_24 rfl hl (by decide) rfl (fun ls hl => ?_)
  have hl : lv_has ls 3 [(1, .int 0), (2, .int 1), (0, .ref h0)] := hl
  refine lv_iinc (k := 1) (v := 2) hx hb d_Mo_files_25 hl rfl (by decide) (by decide) rfl (fun ls hl => ?_)
  have hl : lv_has ls 3 [(2, .int 2), (1, .int 0), (0, .ref h0)] := hl
  refine lv_goto (tgt := 4) hx hb d_Mo_files_28 (by decide) ?_
  refine lv_iload_n hx hb d_Mo_files_4 rfl (lv_at hl 0 rfl) ?_
  refine lv_iconst (v := 4) hx hb d_Mo_files_5 (by decide) ?_
  refine lv_icmp_ge (tgt := 31) hx hb d_Mo_files_6 (by decide) (fun h9 => absurd h9 (by decide)) (fun _ => ?_)
  refine lv_iload_n hx hb d_Mo_files_9 rfl (lv_at hl 1 rfl) ?_
  refine lv_aload_n hx hb d_Mo_files_10 rfl (lv_at hl 2 rfl) ?_
  refine lv_iload_n hx hb d_Mo_files_11 rfl (lv_at hl 0 rfl) ?_
  refine px_go (va_runV (C := "TapeSealerModel") (As := [.int 2]) (rest := [.int 0]) ⟨hx, hb, hml, hown, hts⟩ (p_Mo_look l dC dI h0 q ci 2) (cwV 1 hts (gx_goodV hw_1046 hw_1048 hw_32 hw_75 k_Mo_look) rfl rfl rfl (by decide +kernel) ⟨(Nat.le_of_ble_eq_true rfl), (Nat.le_of_ble_eq_true rfl)⟩) ⟨fun a U g mk q => by obtain ⟨q0, qP, qK⟩ := q; exact ⟨q0, qP, va_K.moved (u := U) (U := U.calling g mk a) (Vm.Alike.refl U.vm) qK⟩, va_recv hK hP rfl (q0 := 0) rfl, fun U hU hW => ⟨rfl, by rw [hU]; exact hP, va_K.moved hW.alike (hK)⟩⟩ rfl rfl hl.1 rfl (lv_room (Nat.le_of_ble_eq_true rfl)) d_Mo_files_12 ⟨(Nat.le_of_ble_eq_true rfl), (Nat.le_of_ble_eq_true rfl)⟩) ?_
  refine W.eq (g2 := F0 m 15 ls [.int 0, .int 0]) rfl ?_
  refine lv_if_eq (tgt := 22) hx hb d_Mo_files_15 (by decide) (fun _ => ?_) (fun h9 => absurd (by decide) h9)
  refine lv_iconst (v := 0) hx hb d_Mo_files_22 (by decide) ?_
  refine lv_iadd hx hb d_Mo_files_23 ?_
  refine lv_topi (fun z3 z3_e => ?_)
  obtain rfl : z3 = 0 := z3_e.trans (by decide)
  refine lv_istore_n hx hb d_Mo_files_24 rfl hl (by decide) rfl (fun ls hl => ?_)
  have hl : lv_has ls 3 [(1, .int 0), (2, .int 2), (0, .ref h0)] := hl
  refine lv_iinc (k := 1) (v := 3) hx hb d_Mo_files_25 hl rfl (by decide) (by decide) rfl (fun ls hl => ?_)
  have hl : lv_has ls 3 [(2, .int 3), (1, .int 0), (0, .ref h0)] := hl
  refine lv_goto (tgt := 4) hx hb d_Mo_files_28 (by decide) ?_
  refine lv_iload_n hx hb d_Mo_files_4 rfl (lv_at hl 0 rfl) ?_
  refine lv_iconst (v := 4) hx hb d_Mo_files_5 (by decide) ?_
  refine lv_icmp_ge (tgt := 31) hx hb d_Mo_files_6 (by decide) (fun h9 => absurd h9 (by decide)) (fun _ => ?_)
  refine lv_iload_n hx hb d_Mo_files_9 rfl (lv_at hl 1 rfl) ?_
  refine lv_aload_n hx hb d_Mo_files_10 rfl (lv_at hl 2 rfl) ?_
  refine lv_iload_n hx hb d_Mo_files_11 rfl (lv_at hl 0 rfl) ?_
  refine px_go (va_runV (C := "TapeSealerModel") (As := [.int 3]) (rest := [.int 0]) ⟨hx, hb, hml, hown, hts⟩ (p_Mo_look l dC dI h0 q ci 3) (cwV 1 hts (gx_goodV hw_1046 hw_1048 hw_32 hw_75 k_Mo_look) rfl rfl rfl (by decide +kernel) ⟨(Nat.le_of_ble_eq_true rfl), (Nat.le_of_ble_eq_true rfl)⟩) ⟨fun a U g mk q => by obtain ⟨q0, qP, qK⟩ := q; exact ⟨q0, qP, va_K.moved (u := U) (U := U.calling g mk a) (Vm.Alike.refl U.vm) qK⟩, va_recv hK hP rfl (q0 := 0) rfl, fun U hU hW => ⟨rfl, by rw [hU]; exact hP, va_K.moved hW.alike (hK)⟩⟩ rfl rfl hl.1 rfl (lv_room (Nat.le_of_ble_eq_true rfl)) d_Mo_files_12 ⟨(Nat.le_of_ble_eq_true rfl), (Nat.le_of_ble_eq_true rfl)⟩) ?_
  refine W.eq (g2 := F0 m 15 ls [.int 0, .int 0]) rfl ?_
  refine lv_if_eq (tgt := 22) hx hb d_Mo_files_15 (by decide) (fun _ => ?_) (fun h9 => absurd (by decide) h9)
  refine lv_iconst (v := 0) hx hb d_Mo_files_22 (by decide) ?_
  refine lv_iadd hx hb d_Mo_files_23 ?_
  refine lv_topi (fun z4 z4_e => ?_)
  obtain rfl : z4 = 0 := z4_e.trans (by decide)
  refine lv_istore_n hx hb d_Mo_files_24 rfl hl (by decide) rfl (fun ls hl => ?_)
  have hl : lv_has ls 3 [(1, .int 0), (2, .int 3), (0, .ref h0)] := hl
  refine lv_iinc (k := 1) (v := 4) hx hb d_Mo_files_25 hl rfl (by decide) (by decide) rfl (fun ls hl => ?_)
  have hl : lv_has ls 3 [(2, .int 4), (1, .int 0), (0, .ref h0)] := hl
  refine lv_goto (tgt := 4) hx hb d_Mo_files_28 (by decide) ?_
  refine lv_iload_n hx hb d_Mo_files_4 rfl (lv_at hl 0 rfl) ?_
  refine lv_iconst (v := 4) hx hb d_Mo_files_5 (by decide) ?_
  refine lv_icmp_ge (tgt := 31) hx hb d_Mo_files_6 (by decide) (fun _ => ?_) (fun h9 => absurd (by decide) h9)
  refine lv_iload_n hx hb d_Mo_files_31 rfl (lv_at hl 1 rfl) ?_
  exact W.iret (v := 0) hx hb hr (fun t ht _ => ⟨rfl, ht⟩) (fun _ h => nomatch h) d_Mo_files_32
set_option maxHeartbeats 4000000 in
set_option maxRecDepth 100000 in
theorem p_Mo_taken (l : Launch) (dC : Nat → ClassId) (dI : Nat → Nat → Nat) (h0 : Nat) (q : Nat → Nat) (ci : Nat → ClassId) : Met l y_Mo_taken w_Mo_taken ({ frames := 2, cells := 0, slots := 0, locals := 46 }) (va_Pc [.ref h0] (fun U => va_P (dC, dI) gx_cl (wMo h0 q ci) U.heap ∧ va_K (dC, dI) gx_cl (kMo ci) U)) (px_Q (some (.int 0))) 0 0 (fun _ => False) := by
  refine Met.ofW (cc := b_Mo_taken) (maxL := 4) (ret := (some .int)) (by decide) rfl ?_
  intro p e s m args below meth c s₁ B hml hv
  obtain ⟨rfl, hP, hK⟩ := hv
  have hx := B.exec
  have hb := B.bytes
  have hr := B.returns
  have hts := atoms_spec (ws := w_Mo_taken) B.pre
  have hB : ∀ w ∈ gx_B, w.before _ s = true := fun w h => hts w (List.mem_cons_of_mem _ h)
  have hown : s.vm.findClass "TapeSealerModel" = some m.cls := findClass_of_methodNamed B.named
  have hlocks := B.notSynchronized
  have hl := lv_entry ([.ref h0]) (n := 4) (Nat.le_of_ble_eq_true rfl)
  rw [lg_entry_eq]
  generalize (lg_sl ([.ref h0]) ++ List.replicate (4 - (lg_sl ([.ref h0])).length) Slot.unset).toArray = ls at hl ⊢
  have hl : lv_has ls 4 [(0, .ref h0)] := hl
  refine lv_iconst (v := 0) hx hb d_Mo_taken_0 (by decide) ?_
  refine lv_istore_n hx hb d_Mo_taken_1 rfl hl (by decide) rfl (fun ls hl => ?_)
  have hl : lv_has ls 4 [(1, .int 0), (0, .ref h0)] := hl
  refine lv_iconst (v := 0) hx hb d_Mo_taken_2 (by decide) ?_
  refine lv_istore_n hx hb d_Mo_taken_3 rfl hl (by decide) rfl (fun ls hl => ?_)
  have hl : lv_has ls 4 [(2, .int 0), (1, .int 0), (0, .ref h0)] := hl
  refine lv_iload_n hx hb d_Mo_taken_4 rfl (lv_at hl 0 rfl) ?_
  refine lv_iconst (v := 4) hx hb d_Mo_taken_5 (by decide) ?_
  refine lv_icmp_ge (tgt := 53) hx hb d_Mo_taken_6 (by decide) (fun h9 => absurd h9 (by decide)) (fun _ => ?_)
  refine lv_aload_n hx hb d_Mo_taken_9 rfl (lv_at hl 2 rfl) ?_
  refine lv_iload_n hx hb d_Mo_taken_10 rfl (lv_at hl 0 rfl) ?_
  refine px_go (va_runV (C := "TapeSealerModel") (As := [.int 0]) (rest := []) ⟨hx, hb, hml, hown, hts⟩ (p_Mo_look l dC dI h0 q ci 0) (cwV 1 hts (gx_goodV hw_1046 hw_1048 hw_32 hw_75 k_Mo_look) rfl rfl rfl (by decide +kernel) ⟨(Nat.le_of_ble_eq_true rfl), (Nat.le_of_ble_eq_true rfl)⟩) ⟨fun a U g mk q => by obtain ⟨q0, qP, qK⟩ := q; exact ⟨q0, qP, va_K.moved (u := U) (U := U.calling g mk a) (Vm.Alike.refl U.vm) qK⟩, va_recv hK hP rfl (q0 := 0) rfl, fun U hU hW => ⟨rfl, by rw [hU]; exact hP, va_K.moved hW.alike (hK)⟩⟩ rfl rfl hl.1 rfl (lv_room (Nat.le_of_ble_eq_true rfl)) d_Mo_taken_11 ⟨(Nat.le_of_ble_eq_true rfl), (Nat.le_of_ble_eq_true rfl)⟩) ?_
  refine W.eq (g2 := F0 m 14 ls [.int 0]) rfl ?_
  refine lv_if_ne (tgt := 20) hx hb d_Mo_taken_14 (by decide) (fun h9 => absurd (by decide) h9) (fun _ => ?_)
  refine lv_goto (tgt := 47) hx hb d_Mo_taken_17 (by decide) ?_
  refine lv_iinc (k := 0) (v := 1) hx hb d_Mo_taken_47 hl rfl (by decide) (by decide) rfl (fun ls hl => ?_)
  have hl : lv_has ls 4 [(2, .int 1), (1, .int 0), (0, .ref h0)] := hl
  refine lv_goto (tgt := 4) hx hb d_Mo_taken_50 (by decide) ?_
  refine lv_iload_n hx hb d_Mo_taken_4 rfl (lv_at hl 0 rfl) ?_
  refine lv_iconst (v := 4) hx hb d_Mo_taken_5 (by decide) ?_
  refine lv_icmp_ge (tgt := 53) hx hb d_Mo_taken_6 (by decide) (fun h9 => absurd h9 (by decide)) (fun _ => ?_)
  refine lv_aload_n hx hb d_Mo_taken_9 rfl (lv_at hl 2 rfl) ?_
  refine lv_iload_n hx hb d_Mo_taken_10 rfl (lv_at hl 0 rfl) ?_
  refine px_go (va_runV (C := "TapeSealerModel") (As := [.int 1]) (rest := []) ⟨hx, hb, hml, hown, hts⟩ (p_Mo_look l dC dI h0 q ci 1) (cwV 1 hts (gx_goodV hw_1046 hw_1048 hw_32 hw_75 k_Mo_look) rfl rfl rfl (by decide +kernel) ⟨(Nat.le_of_ble_eq_true rfl), (Nat.le_of_ble_eq_true rfl)⟩) ⟨fun a U g mk q => by obtain ⟨q0, qP, qK⟩ := q; exact ⟨q0, qP, va_K.moved (u := U) (U := U.calling g mk a) (Vm.Alike.refl U.vm) qK⟩, va_recv hK hP rfl (q0 := 0) rfl, fun U hU hW => ⟨rfl, by rw [hU]; exact hP, va_K.moved hW.alike (hK)⟩⟩ rfl rfl hl.1 rfl (lv_room (Nat.le_of_ble_eq_true rfl)) d_Mo_taken_11 ⟨(Nat.le_of_ble_eq_true rfl), (Nat.le_of_ble_eq_true rfl)⟩) ?_
  refine W.eq (g2 := F0 m 14 ls [.int 0]) rfl ?_
  refine lv_if_ne (tgt := 20) hx hb d_Mo_taken_14 (by decide) (fun h9 => absurd (by decide) h9) (fun _ => ?_)
  refine lv_goto (tgt := 47) hx hb d_Mo_taken_17 (by decide) ?_
  refine lv_iinc (k := 0) (v := 2) hx hb d_Mo_taken_47 hl rfl (by decide) (by decide) rfl (fun ls hl => ?_)
  have hl : lv_has ls 4 [(2, .int 2), (1, .int 0), (0, .ref h0)] := hl
  refine lv_goto (tgt := 4) hx hb d_Mo_taken_50 (by decide) ?_
  refine lv_iload_n hx hb d_Mo_taken_4 rfl (lv_at hl 0 rfl) ?_
  refine lv_iconst (v := 4) hx hb d_Mo_taken_5 (by decide) ?_
  refine lv_icmp_ge (tgt := 53) hx hb d_Mo_taken_6 (by decide) (fun h9 => absurd h9 (by decide)) (fun _ => ?_)
  refine lv_aload_n hx hb d_Mo_taken_9 rfl (lv_at hl 2 rfl) ?_
  refine lv_iload_n hx hb d_Mo_taken_10 rfl (lv_at hl 0 rfl) ?_
  refine px_go (va_runV (C := "TapeSealerModel") (As := [.int 2]) (rest := []) ⟨hx, hb, hml, hown, hts⟩ (p_Mo_look l dC dI h0 q ci 2) (cwV 1 hts (gx_goodV hw_1046 hw_1048 hw_32 hw_75 k_Mo_look) rfl rfl rfl (by decide +kernel) ⟨(Nat.le_of_ble_eq_true rfl), (Nat.le_of_ble_eq_true rfl)⟩) ⟨fun a U g mk q => by obtain ⟨q0, qP, qK⟩ := q; exact ⟨q0, qP, va_K.moved (u := U) (U := U.calling g mk a) (Vm.Alike.refl U.vm) qK⟩, va_recv hK hP rfl (q0 := 0) rfl, fun U hU hW => ⟨rfl, by rw [hU]; exact hP, va_K.moved hW.alike (hK)⟩⟩ rfl rfl hl.1 rfl (lv_room (Nat.le_of_ble_eq_true rfl)) d_Mo_taken_11 ⟨(Nat.le_of_ble_eq_true rfl), (Nat.le_of_ble_eq_true rfl)⟩) ?_
  refine W.eq (g2 := F0 m 14 ls [.int 0]) rfl ?_
  refine lv_if_ne (tgt := 20) hx hb d_Mo_taken_14 (by decide) (fun h9 => absurd (by decide) h9) (fun _ => ?_)
  refine lv_goto (tgt := 47) hx hb d_Mo_taken_17 (by decide) ?_
  refine lv_iinc (k := 0) (v := 3) hx hb d_Mo_taken_47 hl rfl (by decide) (by decide) rfl (fun ls hl => ?_)
  have hl : lv_has ls 4 [(2, .int 3), (1, .int 0), (0, .ref h0)] := hl
  refine lv_goto (tgt := 4) hx hb d_Mo_taken_50 (by decide) ?_
  refine lv_iload_n hx hb d_Mo_taken_4 rfl (lv_at hl 0 rfl) ?_
  refine lv_iconst (v := 4) hx hb d_Mo_taken_5 (by decide) ?_
  refine lv_icmp_ge (tgt := 53) hx hb d_Mo_taken_6 (by decide) (fun h9 => absurd h9 (by decide)) (fun _ => ?_)
  refine lv_aload_n hx hb d_Mo_taken_9 rfl (lv_at hl 2 rfl) ?_
  refine lv_iload_n hx hb d_Mo_taken_10 rfl (lv_at hl 0 rfl) ?_
  refine px_go (va_runV (C := "TapeSealerModel") (As := [.int 3]) (rest := []) ⟨hx, hb, hml, hown, hts⟩ (p_Mo_look l dC dI h0 q ci 3) (cwV 1 hts (gx_goodV hw_1046 hw_1048 hw_32 hw_75 k_Mo_look) rfl rfl rfl (by decide +kernel) ⟨(Nat.le_of_ble_eq_true rfl), (Nat.le_of_ble_eq_true rfl)⟩) ⟨fun a U g mk q => by obtain ⟨q0, qP, qK⟩ := q; exact ⟨q0, qP, va_K.moved (u := U) (U := U.calling g mk a) (Vm.Alike.refl U.vm) qK⟩, va_recv hK hP rfl (q0 := 0) rfl, fun U hU hW => ⟨rfl, by rw [hU]; exact hP, va_K.moved hW.alike (hK)⟩⟩ rfl rfl hl.1 rfl (lv_room (Nat.le_of_ble_eq_true rfl)) d_Mo_taken_11 ⟨(Nat.le_of_ble_eq_true rfl), (Nat.le_of_ble_eq_true rfl)⟩) ?_
  refine W.eq (g2 := F0 m 14 ls [.int 0]) rfl ?_
  refine lv_if_ne (tgt := 20) hx hb d_Mo_taken_14 (by decide) (fun h9 => absurd (by decide) h9) (fun _ => ?_)
  refine lv_goto (tgt := 47) hx hb d_Mo_taken_17 (by decide) ?_
  refine lv_iinc (k := 0) (v := 4) hx hb d_Mo_taken_47 hl rfl (by decide) (by decide) rfl (fun ls hl => ?_)
  have hl : lv_has ls 4 [(2, .int 4), (1, .int 0), (0, .ref h0)] := hl
  refine lv_goto (tgt := 4) hx hb d_Mo_taken_50 (by decide) ?_
  refine lv_iload_n hx hb d_Mo_taken_4 rfl (lv_at hl 0 rfl) ?_
  refine lv_iconst (v := 4) hx hb d_Mo_taken_5 (by decide) ?_
  refine lv_icmp_ge (tgt := 53) hx hb d_Mo_taken_6 (by decide) (fun _ => ?_) (fun h9 => absurd (by decide) h9)
  refine lv_iload_n hx hb d_Mo_taken_53 rfl (lv_at hl 1 rfl) ?_
  exact W.iret (v := 0) hx hb hr (fun t ht _ => ⟨rfl, ht⟩) (fun _ h => nomatch h) d_Mo_taken_54
set_option maxHeartbeats 4000000 in
set_option maxRecDepth 100000 in
theorem p_Mo_isOfFile (l : Launch) (dC : Nat → ClassId) (dI : Nat → Nat → Nat) (h0 : Nat) (q : Nat → Nat) (ci : Nat → ClassId) (g : Int32) : Met l y_Mo_isOfFile w_Mo_isOfFile ({ frames := 2, cells := 0, slots := 0, locals := 46 }) (va_Pc [.ref h0, .int g] (fun U => va_P (dC, dI) gx_cl (wMo h0 q ci) U.heap ∧ va_K (dC, dI) gx_cl (kMo ci) U)) (px_Q (some (.int 0))) 0 0 (fun _ => False) := by
  refine Met.ofW (cc := b_Mo_isOfFile) (maxL := 3) (ret := (some .boolean)) (by decide) rfl ?_
  intro p e s m args below meth c s₁ B hml hv
  obtain ⟨rfl, hP, hK⟩ := hv
  have hx := B.exec
  have hb := B.bytes
  have hr := B.returns
  have hts := atoms_spec (ws := w_Mo_isOfFile) B.pre
  have hB : ∀ w ∈ gx_B, w.before _ s = true := fun w h => hts w (List.mem_cons_of_mem _ h)
  have hown : s.vm.findClass "TapeSealerModel" = some m.cls := findClass_of_methodNamed B.named
  have hlocks := B.notSynchronized
  have hl := lv_entry ([.ref h0, .int g]) (n := 3) (Nat.le_of_ble_eq_true rfl)
  rw [lg_entry_eq]
  generalize (lg_sl ([.ref h0, .int g]) ++ List.replicate (3 - (lg_sl ([.ref h0, .int g])).length) Slot.unset).toArray = ls at hl ⊢
  have hl : lv_has ls 3 [(0, .ref h0), (1, .int g)] := hl
  refine lv_iconst (v := 0) hx hb d_Mo_isOfFile_0 (by decide) ?_
  refine lv_istore_n hx hb d_Mo_isOfFile_1 rfl hl (by decide) rfl (fun ls hl => ?_)
  have hl : lv_has ls 3 [(2, .int 0), (0, .ref h0), (1, .int g)] := hl
  refine lv_iload_n hx hb d_Mo_isOfFile_2 rfl (lv_at hl 0 rfl) ?_
  refine lv_iconst (v := 4) hx hb d_Mo_isOfFile_3 (by decide) ?_
  refine lv_icmp_ge (tgt := 44) hx hb d_Mo_isOfFile_4 (by decide) (fun h9 => absurd h9 (by decide)) (fun _ => ?_)
  refine lv_aload_n hx hb d_Mo_isOfFile_7 rfl (lv_at hl 1 rfl) ?_
  refine lv_iload_n hx hb d_Mo_isOfFile_8 rfl (lv_at hl 0 rfl) ?_
  refine px_go (va_runV (C := "TapeSealerModel") (As := [.int 0]) (rest := []) ⟨hx, hb, hml, hown, hts⟩ (p_Mo_look l dC dI h0 q ci 0) (cwV 1 hts (gx_goodV hw_1046 hw_1048 hw_32 hw_75 k_Mo_look) rfl rfl rfl (by decide +kernel) ⟨(Nat.le_of_ble_eq_true rfl), (Nat.le_of_ble_eq_true rfl)⟩) ⟨fun a U g mk q => by obtain ⟨q0, qP, qK⟩ := q; exact ⟨q0, qP, va_K.moved (u := U) (U := U.calling g mk a) (Vm.Alike.refl U.vm) qK⟩, va_recv hK hP rfl (q0 := 0) rfl, fun U hU hW => ⟨rfl, by rw [hU]; exact hP, va_K.moved hW.alike (hK)⟩⟩ rfl rfl hl.1 rfl (lv_room (Nat.le_of_ble_eq_true rfl)) d_Mo_isOfFile_9 ⟨(Nat.le_of_ble_eq_true rfl), (Nat.le_of_ble_eq_true rfl)⟩) ?_
  refine W.eq (g2 := F0 m 12 ls [.int 0]) rfl ?_
  refine lv_if_eq (tgt := 38) hx hb d_Mo_isOfFile_12 (by decide) (fun _ => ?_) (fun h9 => absurd (by decide) h9)
  refine lv_iinc (k := 0) (v := 1) hx hb d_Mo_isOfFile_38 hl rfl (by decide) (by decide) rfl (fun ls hl => ?_)
  have hl : lv_has ls 3 [(2, .int 1), (0, .ref h0), (1, .int g)] := hl
  refine lv_goto (tgt := 2) hx hb d_Mo_isOfFile_41 (by decide) ?_
  refine lv_iload_n hx hb d_Mo_isOfFile_2 rfl (lv_at hl 0 rfl) ?_
  refine lv_iconst (v := 4) hx hb d_Mo_isOfFile_3 (by decide) ?_
  refine lv_icmp_ge (tgt := 44) hx hb d_Mo_isOfFile_4 (by decide) (fun h9 => absurd h9 (by decide)) (fun _ => ?_)
  refine lv_aload_n hx hb d_Mo_isOfFile_7 rfl (lv_at hl 1 rfl) ?_
  refine lv_iload_n hx hb d_Mo_isOfFile_8 rfl (lv_at hl 0 rfl) ?_
  refine px_go (va_runV (C := "TapeSealerModel") (As := [.int 1]) (rest := []) ⟨hx, hb, hml, hown, hts⟩ (p_Mo_look l dC dI h0 q ci 1) (cwV 1 hts (gx_goodV hw_1046 hw_1048 hw_32 hw_75 k_Mo_look) rfl rfl rfl (by decide +kernel) ⟨(Nat.le_of_ble_eq_true rfl), (Nat.le_of_ble_eq_true rfl)⟩) ⟨fun a U g mk q => by obtain ⟨q0, qP, qK⟩ := q; exact ⟨q0, qP, va_K.moved (u := U) (U := U.calling g mk a) (Vm.Alike.refl U.vm) qK⟩, va_recv hK hP rfl (q0 := 0) rfl, fun U hU hW => ⟨rfl, by rw [hU]; exact hP, va_K.moved hW.alike (hK)⟩⟩ rfl rfl hl.1 rfl (lv_room (Nat.le_of_ble_eq_true rfl)) d_Mo_isOfFile_9 ⟨(Nat.le_of_ble_eq_true rfl), (Nat.le_of_ble_eq_true rfl)⟩) ?_
  refine W.eq (g2 := F0 m 12 ls [.int 0]) rfl ?_
  refine lv_if_eq (tgt := 38) hx hb d_Mo_isOfFile_12 (by decide) (fun _ => ?_) (fun h9 => absurd (by decide) h9)
  refine lv_iinc (k := 0) (v := 2) hx hb d_Mo_isOfFile_38 hl rfl (by decide) (by decide) rfl (fun ls hl => ?_)
  have hl : lv_has ls 3 [(2, .int 2), (0, .ref h0), (1, .int g)] := hl
  refine lv_goto (tgt := 2) hx hb d_Mo_isOfFile_41 (by decide) ?_
  refine lv_iload_n hx hb d_Mo_isOfFile_2 rfl (lv_at hl 0 rfl) ?_
  refine lv_iconst (v := 4) hx hb d_Mo_isOfFile_3 (by decide) ?_
  refine lv_icmp_ge (tgt := 44) hx hb d_Mo_isOfFile_4 (by decide) (fun h9 => absurd h9 (by decide)) (fun _ => ?_)
  refine lv_aload_n hx hb d_Mo_isOfFile_7 rfl (lv_at hl 1 rfl) ?_
  refine lv_iload_n hx hb d_Mo_isOfFile_8 rfl (lv_at hl 0 rfl) ?_
  refine px_go (va_runV (C := "TapeSealerModel") (As := [.int 2]) (rest := []) ⟨hx, hb, hml, hown, hts⟩ (p_Mo_look l dC dI h0 q ci 2) (cwV 1 hts (gx_goodV hw_1046 hw_1048 hw_32 hw_75 k_Mo_look) rfl rfl rfl (by decide +kernel) ⟨(Nat.le_of_ble_eq_true rfl), (Nat.le_of_ble_eq_true rfl)⟩) ⟨fun a U g mk q => by obtain ⟨q0, qP, qK⟩ := q; exact ⟨q0, qP, va_K.moved (u := U) (U := U.calling g mk a) (Vm.Alike.refl U.vm) qK⟩, va_recv hK hP rfl (q0 := 0) rfl, fun U hU hW => ⟨rfl, by rw [hU]; exact hP, va_K.moved hW.alike (hK)⟩⟩ rfl rfl hl.1 rfl (lv_room (Nat.le_of_ble_eq_true rfl)) d_Mo_isOfFile_9 ⟨(Nat.le_of_ble_eq_true rfl), (Nat.le_of_ble_eq_true rfl)⟩) ?_
  refine W.eq (g2 := F0 m 12 ls [.int 0]) rfl ?_
  refine lv_if_eq (tgt := 38) hx hb d_Mo_isOfFile_12 (by decide) (fun _ => ?_) (fun h9 => absurd (by decide) h9)
  refine lv_iinc (k := 0) (v := 3) hx hb d_Mo_isOfFile_38 hl rfl (by decide) (by decide) rfl (fun ls hl => ?_)
  have hl : lv_has ls 3 [(2, .int 3), (0, .ref h0), (1, .int g)] := hl
  refine lv_goto (tgt := 2) hx hb d_Mo_isOfFile_41 (by decide) ?_
  refine lv_iload_n hx hb d_Mo_isOfFile_2 rfl (lv_at hl 0 rfl) ?_
  refine lv_iconst (v := 4) hx hb d_Mo_isOfFile_3 (by decide) ?_
  refine lv_icmp_ge (tgt := 44) hx hb d_Mo_isOfFile_4 (by decide) (fun h9 => absurd h9 (by decide)) (fun _ => ?_)
  refine lv_aload_n hx hb d_Mo_isOfFile_7 rfl (lv_at hl 1 rfl) ?_
  refine lv_iload_n hx hb d_Mo_isOfFile_8 rfl (lv_at hl 0 rfl) ?_
  refine px_go (va_runV (C := "TapeSealerModel") (As := [.int 3]) (rest := []) ⟨hx, hb, hml, hown, hts⟩ (p_Mo_look l dC dI h0 q ci 3) (cwV 1 hts (gx_goodV hw_1046 hw_1048 hw_32 hw_75 k_Mo_look) rfl rfl rfl (by decide +kernel) ⟨(Nat.le_of_ble_eq_true rfl), (Nat.le_of_ble_eq_true rfl)⟩) ⟨fun a U g mk q => by obtain ⟨q0, qP, qK⟩ := q; exact ⟨q0, qP, va_K.moved (u := U) (U := U.calling g mk a) (Vm.Alike.refl U.vm) qK⟩, va_recv hK hP rfl (q0 := 0) rfl, fun U hU hW => ⟨rfl, by rw [hU]; exact hP, va_K.moved hW.alike (hK)⟩⟩ rfl rfl hl.1 rfl (lv_room (Nat.le_of_ble_eq_true rfl)) d_Mo_isOfFile_9 ⟨(Nat.le_of_ble_eq_true rfl), (Nat.le_of_ble_eq_true rfl)⟩) ?_
  refine W.eq (g2 := F0 m 12 ls [.int 0]) rfl ?_
  refine lv_if_eq (tgt := 38) hx hb d_Mo_isOfFile_12 (by decide) (fun _ => ?_) (fun h9 => absurd (by decide) h9)
  refine lv_iinc (k := 0) (v := 4) hx hb d_Mo_isOfFile_38 hl rfl (by decide) (by decide) rfl (fun ls hl => ?_)
  have hl : lv_has ls 3 [(2, .int 4), (0, .ref h0), (1, .int g)] := hl
  refine lv_goto (tgt := 2) hx hb d_Mo_isOfFile_41 (by decide) ?_
  refine lv_iload_n hx hb d_Mo_isOfFile_2 rfl (lv_at hl 0 rfl) ?_
  refine lv_iconst (v := 4) hx hb d_Mo_isOfFile_3 (by decide) ?_
  refine lv_icmp_ge (tgt := 44) hx hb d_Mo_isOfFile_4 (by decide) (fun _ => ?_) (fun h9 => absurd (by decide) h9)
  refine lv_iconst (v := 0) hx hb d_Mo_isOfFile_44 (by decide) ?_
  exact W.zret (v := 0) hx hb hr rfl (fun t ht _ => ⟨rfl, ht⟩) (fun _ h => nomatch h) d_Mo_isOfFile_45
set_option maxHeartbeats 4000000 in
set_option maxRecDepth 100000 in
theorem p_Mo_isBlock1 (l : Launch) (b : Int32) (h1 : ¬ b < 0) (h2 : ¬ 44 ≤ b) : Met l y_Mo_isBlock w_Mo_isBlock ({ frames := 0, cells := 0, slots := 0, locals := 0 }) (va_Pc [.int b] (fun U => True)) (px_Q (some (.int 1))) 0 0 (fun _ => False) := by
  refine Met.ofW (cc := b_Mo_isBlock) (maxL := 1) (ret := (some .boolean)) (by decide) rfl ?_
  intro p e s m args below meth c s₁ B hml hv
  obtain ⟨rfl, -⟩ := hv
  have hx := B.exec
  have hb := B.bytes
  have hr := B.returns
  have hts := atoms_spec (ws := w_Mo_isBlock) B.pre
  have hB : ∀ w ∈ gx_B, w.before _ s = true := fun w h => hts w (List.mem_cons_of_mem _ h)
  have hown : s.vm.findClass "TapeSealerModel" = some m.cls := findClass_of_methodNamed B.named
  have hlocks := B.notSynchronized
  have hl := lv_entry ([.int b]) (n := 1) (Nat.le_of_ble_eq_true rfl)
  rw [lg_entry_eq]
  generalize (lg_sl ([.int b]) ++ List.replicate (1 - (lg_sl ([.int b])).length) Slot.unset).toArray = ls at hl ⊢
  have hl : lv_has ls 1 [(0, .int b)] := hl
  refine lv_iload_n hx hb d_Mo_isBlock_0 rfl (lv_at hl 0 rfl) ?_
  refine lv_if_lt (tgt := 14) hx hb d_Mo_isBlock_1 (by decide) (fun h9 => absurd h9 h1) (fun _ => ?_)
  refine lv_iload_n hx hb d_Mo_isBlock_4 rfl (lv_at hl 0 rfl) ?_
  refine lv_bipush (v := 44) hx hb d_Mo_isBlock_5 (by decide) ?_
  refine lv_icmp_ge (tgt := 14) hx hb d_Mo_isBlock_7 (by decide) (fun h9 => absurd h9 h2) (fun _ => ?_)
  refine lv_iconst (v := 1) hx hb d_Mo_isBlock_10 (by decide) ?_
  refine lv_goto (tgt := 15) hx hb d_Mo_isBlock_11 (by decide) ?_
  exact W.zret (v := 1) hx hb hr rfl (fun t ht _ => ⟨rfl, ht⟩) (fun _ h => nomatch h) d_Mo_isBlock_15
set_option maxHeartbeats 4000000 in
set_option maxRecDepth 100000 in
theorem p_Mo_isBlock0 (l : Launch) (b : Int32) (h : b < 0 ∨ 44 ≤ b) : Met l y_Mo_isBlock w_Mo_isBlock ({ frames := 0, cells := 0, slots := 0, locals := 0 }) (va_Pc [.int b] (fun U => True)) (px_Q (some (.int 0))) 0 0 (fun _ => False) := by
  refine Met.ofW (cc := b_Mo_isBlock) (maxL := 1) (ret := (some .boolean)) (by decide) rfl ?_
  intro p e s m args below meth c s₁ B hml hv
  obtain ⟨rfl, -⟩ := hv
  have hx := B.exec
  have hb := B.bytes
  have hr := B.returns
  have hts := atoms_spec (ws := w_Mo_isBlock) B.pre
  have hB : ∀ w ∈ gx_B, w.before _ s = true := fun w h => hts w (List.mem_cons_of_mem _ h)
  have hown : s.vm.findClass "TapeSealerModel" = some m.cls := findClass_of_methodNamed B.named
  have hlocks := B.notSynchronized
  have hl := lv_entry ([.int b]) (n := 1) (Nat.le_of_ble_eq_true rfl)
  rw [lg_entry_eq]
  generalize (lg_sl ([.int b]) ++ List.replicate (1 - (lg_sl ([.int b])).length) Slot.unset).toArray = ls at hl ⊢
  have hl : lv_has ls 1 [(0, .int b)] := hl
  rcases h with h1 | h1
  · refine lv_iload_n hx hb d_Mo_isBlock_0 rfl (lv_at hl 0 rfl) ?_
    refine lv_if_lt (tgt := 14) hx hb d_Mo_isBlock_1 (by decide) (fun _ => ?_) (fun h9 => absurd h1 h9)
    refine lv_iconst (v := 0) hx hb d_Mo_isBlock_14 (by decide) ?_
    exact W.zret (v := 0) hx hb hr rfl (fun t ht _ => ⟨rfl, ht⟩) (fun _ h => nomatch h) d_Mo_isBlock_15
  · refine lv_iload_n hx hb d_Mo_isBlock_0 rfl (lv_at hl 0 rfl) ?_
    refine lv_if_lt (tgt := 14) hx hb d_Mo_isBlock_1 (by decide) (fun h9 => absurd h9 (gx_nlt44 h1)) (fun _ => ?_)
    refine lv_iload_n hx hb d_Mo_isBlock_4 rfl (lv_at hl 0 rfl) ?_
    refine lv_bipush (v := 44) hx hb d_Mo_isBlock_5 (by decide) ?_
    refine lv_icmp_ge (tgt := 14) hx hb d_Mo_isBlock_7 (by decide) (fun _ => ?_) (fun h9 => absurd h1 h9)
    refine lv_iconst (v := 0) hx hb d_Mo_isBlock_14 (by decide) ?_
    exact W.zret (v := 0) hx hb hr rfl (fun t ht _ => ⟨rfl, ht⟩) (fun _ h => nomatch h) d_Mo_isBlock_15
set_option maxHeartbeats 4000000 in
set_option maxRecDepth 100000 in
theorem p_Mo_thrown (l : Launch) (dC : Nat → ClassId) (dI : Nat → Nat → Nat) (h0 : Nat) (k : Int32) (fs : List Value) : Met l y_Mo_thrown w_Mo_thrown ({ frames := 0, cells := 0, slots := 0, locals := 0 }) (va_Pc [.ref h0] (fun U => va_P (dC, dI) gx_cl [(h0, .inr (9, .int k :: fs))] U.heap ∧ va_K (dC, dI) gx_cl [] U)) (px_Q (some (.int k))) 0 0 (fun _ => False) := by
  refine Met.ofW (cc := b_Mo_thrown) (maxL := 1) (ret := (some .int)) (by decide) rfl ?_
  intro p e s m args below meth c s₁ B hml hv
  obtain ⟨rfl, hP, hK⟩ := hv
  have hx := B.exec
  have hb := B.bytes
  have hr := B.returns
  have hts := atoms_spec (ws := w_Mo_thrown) B.pre
  have hB : ∀ w ∈ gx_B, w.before _ s = true := fun w h => hts w (List.mem_cons_of_mem _ h)
  have hown : s.vm.findClass "TapeSealerModel" = some m.cls := findClass_of_methodNamed B.named
  have hlocks := B.notSynchronized
  have hl := lv_entry ([.ref h0]) (n := 1) (Nat.le_of_ble_eq_true rfl)
  rw [lg_entry_eq]
  generalize (lg_sl ([.ref h0]) ++ List.replicate (1 - (lg_sl ([.ref h0])).length) Slot.unset).toArray = ls at hl ⊢
  have hl : lv_has ls 1 [(0, .ref h0)] := hl
  refine lv_aload_n hx hb d_Mo_thrown_0 rfl (lv_at hl 0 rfl) ?_
  refine va_get (D := (dC, dI)) (ci := 9) (v := .int k) (C := RMo) (T := FMo) (N := 45) hx hb hB in_Mo hown hK hP 0 rfl rfl 0 (by decide) (hB _ hw_890) (fun _ h9 => h9) rfl d_Mo_thrown_1 ?_
  exact W.iret (v := k) hx hb hr (fun t ht _ => ⟨rfl, ht⟩) (fun _ h => nomatch h) d_Mo_thrown_4
