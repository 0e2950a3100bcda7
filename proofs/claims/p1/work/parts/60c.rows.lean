theorem gx_pos {g : Int32} (h : ¬ g < 1) : 0 < g := by
  rw [Int32.lt_iff_toInt_lt] at h ⊢
  have h1 : (1 : Int32).toInt = 1 := by decide
  have h0 : (0 : Int32).toInt = 0 := by decide
  omega
theorem gx_nlt {g : Int32} (h : 4 ≤ g) : ¬ g < 0 := by
  rw [Int32.le_iff_toInt_le] at h
  rw [Int32.lt_iff_toInt_lt]
  have h1 : (4 : Int32).toInt = 4 := by decide
  have h0 : (0 : Int32).toInt = 0 := by decide
  omega
set_option maxHeartbeats 4000000 in
set_option maxRecDepth 100000 in
theorem p_La_hasGroup (l : Launch) (dC : Nat → ClassId) (dI : Nat → Nat → Nat) (h0 n0 : Nat) (fn g : Int32) : Met l y_La_hasGroup w_La_hasGroup ({ frames := 0, cells := 0, slots := 0, locals := 0 }) (va_Pc [.ref h0, .int g] (fun U => va_P (dC, dI) gx_cl [(h0, .inr (5, [.ref n0, .int fn, .int 0, .int 0, .int 0, .int 0, .int 0, .int 0]))] U.heap ∧ va_K (dC, dI) gx_cl [] U)) (px_Q (some (.int 0))) 0 0 (fun _ => False) := by
  refine Met.ofW (cc := b_La_hasGroup) (maxL := 2) (ret := (some .boolean)) (by decide) rfl ?_
  intro p e s m args below meth c s₁ B hml hv
  obtain ⟨rfl, hP, hK⟩ := hv
  have hx := B.exec
  have hb := B.bytes
  have hr := B.returns
  have hts := atoms_spec (ws := w_La_hasGroup) B.pre
  have hB : ∀ w ∈ gx_B, w.before _ s = true := fun w h => hts w (List.mem_cons_of_mem _ h)
  have hown : s.vm.findClass "TapeSealer$Label" = some m.cls := findClass_of_methodNamed B.named
  have hlocks := B.notSynchronized
  have hl := lv_entry ([.ref h0, .int g]) (n := 2) (Nat.le_of_ble_eq_true rfl)
  rw [lg_entry_eq]
  generalize (lg_sl ([.ref h0, .int g]) ++ List.replicate (2 - (lg_sl ([.ref h0, .int g])).length) Slot.unset).toArray = ls at hl ⊢
  have hl : lv_has ls 2 [(0, .ref h0), (1, .int g)] := hl
  refine lv_aload_n hx hb d_La_hasGroup_0 rfl (lv_at hl 0 rfl) ?_
  refine va_get (D := (dC, dI)) (ci := 5) (v := .int 0) (C := RLa) (T := FLa) (N := 8) hx hb hB in_La hown hK hP 0 rfl rfl 2 (by decide) (hB _ hw_252) (fun _ h9 => h9) rfl d_La_hasGroup_1 ?_
  refine lv_if_eq (tgt := 32) hx hb d_La_hasGroup_4 (by decide) (fun _ => ?_) (fun h9 => absurd (by decide) h9)
  refine lv_iconst (v := 0) hx hb d_La_hasGroup_32 (by decide) ?_
  exact W.zret (v := 0) hx hb hr rfl (fun t ht _ => ⟨rfl, ht⟩) (fun _ h => nomatch h) d_La_hasGroup_33
set_option maxHeartbeats 4000000 in
set_option maxRecDepth 100000 in
theorem p_Ep_known (l : Launch) (dC : Nat → ClassId) (dI : Nat → Nat → Nat) (h0 e1 e2 : Nat) (g : Int32) : Met l y_Ep_known w_Ep_known ({ frames := 0, cells := 0, slots := 0, locals := 0 }) (va_Pc [.ref h0, .int g] (fun U => va_P (dC, dI) gx_cl [(h0, .inr (3, [.ref e1, .ref e2, .int 0]))] U.heap ∧ va_K (dC, dI) gx_cl [] U)) (px_Q (some (.int 0))) 0 0 (fun _ => False) := by
  refine Met.ofW (cc := b_Ep_known) (maxL := 2) (ret := (some .boolean)) (by decide) rfl ?_
  intro p e s m args below meth c s₁ B hml hv
  obtain ⟨rfl, hP, hK⟩ := hv
  have hx := B.exec
  have hb := B.bytes
  have hr := B.returns
  have hts := atoms_spec (ws := w_Ep_known) B.pre
  have hB : ∀ w ∈ gx_B, w.before _ s = true := fun w h => hts w (List.mem_cons_of_mem _ h)
  have hown : s.vm.findClass "TapeSealer$Epochs" = some m.cls := findClass_of_methodNamed B.named
  have hlocks := B.notSynchronized
  have hl := lv_entry ([.ref h0, .int g]) (n := 2) (Nat.le_of_ble_eq_true rfl)
  rw [lg_entry_eq]
  generalize (lg_sl ([.ref h0, .int g]) ++ List.replicate (2 - (lg_sl ([.ref h0, .int g])).length) Slot.unset).toArray = ls at hl ⊢
  have hl : lv_has ls 2 [(0, .ref h0), (1, .int g)] := hl
  by_cases hg : g < 1
  · refine lv_iload_n hx hb d_Ep_known_0 rfl (lv_at hl 1 rfl) ?_
    refine lv_iconst (v := 1) hx hb d_Ep_known_1 (by decide) ?_
    refine lv_icmp_lt (tgt := 26) hx hb d_Ep_known_2 (by decide) (fun _ => ?_) (fun h9 => absurd hg h9)
    refine lv_iconst (v := 0) hx hb d_Ep_known_26 (by decide) ?_
    exact W.zret (v := 0) hx hb hr rfl (fun t ht _ => ⟨rfl, ht⟩) (fun _ h => nomatch h) d_Ep_known_27
  · refine lv_iload_n hx hb d_Ep_known_0 rfl (lv_at hl 1 rfl) ?_
    refine lv_iconst (v := 1) hx hb d_Ep_known_1 (by decide) ?_
    refine lv_icmp_lt (tgt := 26) hx hb d_Ep_known_2 (by decide) (fun h9 => absurd h9 hg) (fun _ => ?_)
    refine lv_iload_n hx hb d_Ep_known_5 rfl (lv_at hl 1 rfl) ?_
    refine lv_aload_n hx hb d_Ep_known_6 rfl (lv_at hl 0 rfl) ?_
    refine va_get (D := (dC, dI)) (ci := 3) (v := .int 0) (C := REp) (T := FEp) (N := 3) hx hb hB in_Ep hown hK hP 0 rfl rfl 2 (by decide) (hB _ hw_143) (fun _ h9 => h9) rfl d_Ep_known_7 ?_
    refine lv_icmp_gt (tgt := 26) hx hb d_Ep_known_10 (by decide) (fun _ => ?_) (fun h9 => absurd (gx_pos hg) h9)
    refine lv_iconst (v := 0) hx hb d_Ep_known_26 (by decide) ?_
    exact W.zret (v := 0) hx hb hr rfl (fun t ht _ => ⟨rfl, ht⟩) (fun _ h => nomatch h) d_Ep_known_27
set_option maxHeartbeats 4000000 in
set_option maxRecDepth 100000 in
theorem p_TS_lookAtHeaders (l : Launch) (dC : Nat → ClassId) (dI : Nat → Nat → Nat) (h0 : Nat) (q : Nat → Nat) (ci : Nat → ClassId) : Met l y_TS_lookAtHeaders w_TS_lookAtHeaders ({ frames := 0, cells := 0, slots := 0, locals := 0 }) (va_Pc [.ref h0] (fun U => va_P (dC, dI) gx_cl (wTS h0 q ci) U.heap ∧ va_K (dC, dI) gx_cl (kTS ci) U)) (px_Q none) 0 0 (fun _ => False) := by
  refine Met.ofW (cc := b_TS_lookAtHeaders) (maxL := 2) (ret := none) (by decide) rfl ?_
  intro p e s m args below meth c s₁ B hml hv
  obtain ⟨rfl, hP, hK⟩ := hv
  have hx := B.exec
  have hb := B.bytes
  have hr := B.returns
  have hts := atoms_spec (ws := w_TS_lookAtHeaders) B.pre
  have hB : ∀ w ∈ gx_B, w.before _ s = true := fun w h => hts w (List.mem_cons_of_mem _ h)
  have hown : s.vm.findClass "TapeSealer" = some m.cls := findClass_of_methodNamed B.named
  have hlocks := B.notSynchronized
  have hl := lv_entry ([.ref h0]) (n := 2) (Nat.le_of_ble_eq_true rfl)
  rw [lg_entry_eq]
  generalize (lg_sl ([.ref h0]) ++ List.replicate (2 - (lg_sl ([.ref h0])).length) Slot.unset).toArray = ls at hl ⊢
  have hl : lv_has ls 2 [(0, .ref h0)] := hl
  refine lv_aload_n hx hb d_TS_lookAtHeaders_0 rfl (lv_at hl 0 rfl) ?_
  refine va_get (D := (dC, dI)) (ci := 8) (v := .ref (q 0)) (C := RTS) (T := FTS) (N := 15) hx hb hB in_TS hown hK hP 0 rfl rfl 0 (by decide) (hB _ hw_307) (fun _ h9 => h9) rfl d_TS_lookAtHeaders_1 ?_
  refine va_get (D := (dC, dI)) (ci := 1) (v := .int 0) (C := RCa) (T := FCa) (N := 6) hx hb hB in_Ca hown hK hP 1 rfl rfl 5 (by decide) (hB _ hw_117) (fun _ h9 => h9) rfl d_TS_lookAtHeaders_4 ?_
  refine lv_if_ne (tgt := 11) hx hb d_TS_lookAtHeaders_7 (by decide) (fun h9 => absurd (by decide) h9) (fun _ => ?_)
  exact W.vret hx hb hr (fun t ht _ => ⟨rfl, ht⟩) (fun _ h => nomatch h) d_TS_lookAtHeaders_10
set_option maxHeartbeats 4000000 in
set_option maxRecDepth 100000 in
theorem p_TS_leastMissing (l : Launch) (dC : Nat → ClassId) (dI : Nat → Nat → Nat) (h0 : Nat) (q : Nat → Nat) (ci : Nat → ClassId) : Met l y_TS_leastMissing w_TS_leastMissing ({ frames := 0, cells := 0, slots := 0, locals := 0 }) (va_Pc [.ref h0] (fun U => va_P (dC, dI) gx_cl (wTS h0 q ci) U.heap ∧ va_K (dC, dI) gx_cl (kTS ci) U)) (px_Q (some (.int 0))) 0 0 (fun _ => False) := by
  refine Met.ofW (cc := b_TS_leastMissing) (maxL := 2) (ret := (some .int)) (by decide) rfl ?_
  intro p e s m args below meth c s₁ B hml hv
  obtain ⟨rfl, hP, hK⟩ := hv
  have hx := B.exec
  have hb := B.bytes
  have hr := B.returns
  have hts := atoms_spec (ws := w_TS_leastMissing) B.pre
  have hB : ∀ w ∈ gx_B, w.before _ s = true := fun w h => hts w (List.mem_cons_of_mem _ h)
  have hown : s.vm.findClass "TapeSealer" = some m.cls := findClass_of_methodNamed B.named
  have hlocks := B.notSynchronized
  have hl := lv_entry ([.ref h0]) (n := 2) (Nat.le_of_ble_eq_true rfl)
  rw [lg_entry_eq]
  generalize (lg_sl ([.ref h0]) ++ List.replicate (2 - (lg_sl ([.ref h0])).length) Slot.unset).toArray = ls at hl ⊢
  have hl : lv_has ls 2 [(0, .ref h0)] := hl
  refine lv_iconst (v := 0) hx hb d_TS_leastMissing_0 (by decide) ?_
  refine lv_istore_n hx hb d_TS_leastMissing_1 rfl hl (by decide) rfl (fun ls hl => ?_)
  have hl : lv_has ls 2 [(1, .int 0), (0, .ref h0)] := hl
  refine lv_iload_n hx hb d_TS_leastMissing_2 rfl (lv_at hl 0 rfl) ?_
  refine lv_iconst (v := 4) hx hb d_TS_leastMissing_3 (by decide) ?_
  refine lv_icmp_ge (tgt := 27) hx hb d_TS_leastMissing_4 (by decide) (fun h9 => absurd h9 (by decide)) (fun _ => ?_)
  refine lv_aload_n hx hb d_TS_leastMissing_7 rfl (lv_at hl 1 rfl) ?_
  refine va_get (D := (dC, dI)) (ci := 8) (v := .ref (q 6)) (C := RTS) (T := FTS) (N := 15) hx hb hB in_TS hown hK hP 0 rfl rfl 4 (by decide) (hB _ hw_311) (fun _ h9 => h9) rfl d_TS_leastMissing_8 ?_
  refine lv_iload_n hx hb d_TS_leastMissing_11 rfl (lv_at hl 0 rfl) ?_
  refine va_aldq (D := (dC, dI)) hx hb hK hP 5 3 rfl rfl (by unfold vp_in; decide) d_TS_leastMissing_12 ?_
  refine W.eq (g2 := F0 m 13 ls [.ref (q 7)]) rfl ?_
  refine va_get (D := (dC, dI)) (ci := 5) (v := .int 0) (C := RLa) (T := FLa) (N := 8) hx hb hB in_La hown hK hP 6 rfl rfl 2 (by decide) (hB _ hw_253) (fun _ h9 => h9) rfl d_TS_leastMissing_13 ?_
  refine lv_if_ne (tgt := 21) hx hb d_TS_leastMissing_16 (by decide) (fun h9 => absurd (by decide) h9) (fun _ => ?_)
  refine lv_iload_n hx hb d_TS_leastMissing_19 rfl (lv_at hl 0 rfl) ?_
  exact W.iret (v := 0) hx hb hr (fun t ht _ => ⟨rfl, ht⟩) (fun _ h => nomatch h) d_TS_leastMissing_20
set_option maxHeartbeats 4000000 in
set_option maxRecDepth 100000 in
theorem p_TS_countFiles (l : Launch) (dC : Nat → ClassId) (dI : Nat → Nat → Nat) (h0 : Nat) (q : Nat → Nat) (ci : Nat → ClassId) : Met l y_TS_countFiles w_TS_countFiles ({ frames := 0, cells := 0, slots := 0, locals := 0 }) (va_Pc [.ref h0] (fun U => va_P (dC, dI) gx_cl (wTS h0 q ci) U.heap ∧ va_K (dC, dI) gx_cl (kTS ci) U)) (px_Q (some (.int 0))) 0 0 (fun _ => False) := by
  refine Met.ofW (cc := b_TS_countFiles) (maxL := 3) (ret := (some .int)) (by decide) rfl ?_
  intro p e s m args below meth c s₁ B hml hv
  obtain ⟨rfl, hP, hK⟩ := hv
  have hx := B.exec
  have hb := B.bytes
  have hr := B.returns
  have hts := atoms_spec (ws := w_TS_countFiles) B.pre
  have hB : ∀ w ∈ gx_B, w.before _ s = true := fun w h => hts w (List.mem_cons_of_mem _ h)
  have hown : s.vm.findClass "TapeSealer" = some m.cls := findClass_of_methodNamed B.named
  have hlocks := B.notSynchronized
  have hl := lv_entry ([.ref h0]) (n := 3) (Nat.le_of_ble_eq_true rfl)
  rw [lg_entry_eq]
  generalize (lg_sl ([.ref h0]) ++ List.replicate (3 - (lg_sl ([.ref h0])).length) Slot.unset).toArray = ls at hl ⊢
  have hl : lv_has ls 3 [(0, .ref h0)] := hl
  refine lv_iconst (v := 0) hx hb d_TS_countFiles_0 (by decide) ?_
  refine lv_istore_n hx hb d_TS_countFiles_1 rfl hl (by decide) rfl (fun ls hl => ?_)
  have hl : lv_has ls 3 [(1, .int 0), (0, .ref h0)] := hl
  refine lv_iconst (v := 0) hx hb d_TS_countFiles_2 (by decide) ?_
  refine lv_istore_n hx hb d_TS_countFiles_3 rfl hl (by decide) rfl (fun ls hl => ?_)
  have hl : lv_has ls 3 [(2, .int 0), (1, .int 0), (0, .ref h0)] := hl
  refine lv_iload_n hx hb d_TS_countFiles_4 rfl (lv_at hl 0 rfl) ?_
  refine lv_iconst (v := 4) hx hb d_TS_countFiles_5 (by decide) ?_
  refine lv_icmp_ge (tgt := 35) hx hb d_TS_countFiles_6 (by decide) (fun h9 => absurd h9 (by decide)) (fun _ => ?_)
  refine lv_iload_n hx hb d_TS_countFiles_9 rfl (lv_at hl 1 rfl) ?_
  refine lv_aload_n hx hb d_TS_countFiles_10 rfl (lv_at hl 2 rfl) ?_
  refine va_get (D := (dC, dI)) (ci := 8) (v := .ref (q 6)) (C := RTS) (T := FTS) (N := 15) hx hb hB in_TS hown hK hP 0 rfl rfl 4 (by decide) (hB _ hw_311) (fun _ h9 => h9) rfl d_TS_countFiles_11 ?_
  refine lv_iload_n hx hb d_TS_countFiles_14 rfl (lv_at hl 0 rfl) ?_
  refine va_aldq (D := (dC, dI)) hx hb hK hP 5 3 rfl rfl (by unfold vp_in; decide) d_TS_countFiles_15 ?_
  refine W.eq (g2 := F0 m 16 ls [.ref (q 7), .int 0]) rfl ?_
  refine va_get (D := (dC, dI)) (ci := 5) (v := .int 0) (C := RLa) (T := FLa) (N := 8) hx hb hB in_La hown hK hP 6 rfl rfl 2 (by decide) (hB _ hw_253) (fun _ h9 => h9) rfl d_TS_countFiles_16 ?_
  refine lv_if_eq (tgt := 26) hx hb d_TS_countFiles_19 (by decide) (fun _ => ?_) (fun h9 => absurd (by decide) h9)
  refine lv_iconst (v := 0) hx hb d_TS_countFiles_26 (by decide) ?_
  refine lv_iadd hx hb d_TS_countFiles_27 ?_
  refine lv_topi (fun z1 z1_e => ?_)
  obtain rfl : z1 = 0 := z1_e.trans (by decide)
  refine lv_istore_n hx hb d_TS_countFiles_28 rfl hl (by decide) rfl (fun ls hl => ?_)
  have hl : lv_has ls 3 [(1, .int 0), (2, .int 0), (0, .ref h0)] := hl
  refine lv_iinc (k := 1) (v := 1) hx hb d_TS_countFiles_29 hl rfl (by decide) (by decide) rfl (fun ls hl => ?_)
  have hl : lv_has ls 3 [(2, .int 1), (1, .int 0), (0, .ref h0)] := hl
  refine lv_goto (tgt := 4) hx hb d_TS_countFiles_32 (by decide) ?_
  refine lv_iload_n hx hb d_TS_countFiles_4 rfl (lv_at hl 0 rfl) ?_
  refine lv_iconst (v := 4) hx hb d_TS_countFiles_5 (by decide) ?_
  refine lv_icmp_ge (tgt := 35) hx hb d_TS_countFiles_6 (by decide) (fun h9 => absurd h9 (by decide)) (fun _ => ?_)
  refine lv_iload_n hx hb d_TS_countFiles_9 rfl (lv_at hl 1 rfl) ?_
  refine lv_aload_n hx hb d_TS_countFiles_10 rfl (lv_at hl 2 rfl) ?_
  refine va_get (D := (dC, dI)) (ci := 8) (v := .ref (q 6)) (C := RTS) (T := FTS) (N := 15) hx hb hB in_TS hown hK hP 0 rfl rfl 4 (by decide) (hB _ hw_311) (fun _ h9 => h9) rfl d_TS_countFiles_11 ?_
  refine lv_iload_n hx hb d_TS_countFiles_14 rfl (lv_at hl 0 rfl) ?_
  refine va_aldq (D := (dC, dI)) hx hb hK hP 5 3 rfl rfl (by unfold vp_in; decide) d_TS_countFiles_15 ?_
  refine W.eq (g2 := F0 m 16 ls [.ref (q 8), .int 0]) rfl ?_
  refine va_get (D := (dC, dI)) (ci := 5) (v := .int 0) (C := RLa) (T := FLa) (N := 8) hx hb hB in_La hown hK hP 7 rfl rfl 2 (by decide) (hB _ hw_253) (fun _ h9 => h9) rfl d_TS_countFiles_16 ?_
  refine lv_if_eq (tgt := 26) hx hb d_TS_countFiles_19 (by decide) (fun _ => ?_) (fun h9 => absurd (by decide) h9)
  refine lv_iconst (v := 0) hx hb d_TS_countFiles_26 (by decide) ?_
  refine lv_iadd hx hb d_TS_countFiles_27 ?_
  refine lv_topi (fun z2 z2_e => ?_)
  obtain rfl : z2 = 0 := z2_e.trans (by decide)
  refine lv_istore_n hx hb d_TS_countFiles_28 rfl hl (by decide) rfl (fun ls hl => ?_)
  have hl : lv_has ls 3 [(1, .int 0), (2, .int 1), (0, .ref h0)] := hl
  refine lv_iinc (k := 1) (v := 2) hx hb d_TS_countFiles_29 hl rfl (by decide) (by decide) rfl (fun ls hl => ?_)
  have hl : lv_has ls 3 [(2, .int 2), (1, .int 0), (0, .ref h0)] := hl
  refine lv_goto (tgt := 4) hx hb d_TS_countFiles_32 (by decide) ?_
  refine lv_iload_n hx hb d_TS_countFiles_4 rfl (lv_at hl 0 rfl) ?_
  refine lv_iconst (v := 4) hx hb d_TS_countFiles_5 (by decide) ?_
  refine lv_icmp_ge (tgt := 35) hx hb d_TS_countFiles_6 (by decide) (fun h9 => absurd h9 (by decide)) (fun _ => ?_)
  refine lv_iload_n hx hb d_TS_countFiles_9 rfl (lv_at hl 1 rfl) ?_
  refine lv_aload_n hx hb d_TS_countFiles_10 rfl (lv_at hl 2 rfl) ?_
  refine va_get (D := (dC, dI)) (ci := 8) (v := .ref (q 6)) (C := RTS) (T := FTS) (N := 15) hx hb hB in_TS hown hK hP 0 rfl rfl 4 (by decide) (hB _ hw_311) (fun _ h9 => h9) rfl d_TS_countFiles_11 ?_
  refine lv_iload_n hx hb d_TS_countFiles_14 rfl (lv_at hl 0 rfl) ?_
  refine va_aldq (D := (dC, dI)) hx hb hK hP 5 3 rfl rfl (by unfold vp_in; decide) d_TS_countFiles_15 ?_
  refine W.eq (g2 := F0 m 16 ls [.ref (q 9), .int 0]) rfl ?_
  refine va_get (D := (dC, dI)) (ci := 5) (v := .int 0) (C := RLa) (T := FLa) (N := 8) hx hb hB in_La hown hK hP 8 rfl rfl 2 (by decide) (hB _ hw_253) (fun _ h9 => h9) rfl d_TS_countFiles_16 ?_
  refine lv_if_eq (tgt := 26) hx hb d_TS_countFiles_19 (by decide) (fun _ => ?_) (fun h9 => absurd (by decide) h9)
  refine lv_iconst (v := 0) hx hb d_TS_countFiles_26 (by decide) ?_
  refine lv_iadd hx hb d_TS_countFiles_27 ?_
  refine lv_topi (fun z3 z3_e => ?_)
  obtain rfl : z3 = 0 := z3_e.trans (by decide)
  refine lv_istore_n hx hb d_TS_countFiles_28 rfl hl (by decide) rfl (fun ls hl => ?_)
  have hl : lv_has ls 3 [(1, .int 0), (2, .int 2), (0, .ref h0)] := hl
  refine lv_iinc (k := 1) (v := 3) hx hb d_TS_countFiles_29 hl rfl (by decide) (by decide) rfl (fun ls hl => ?_)
  have hl : lv_has ls 3 [(2, .int 3), (1, .int 0), (0, .ref h0)] := hl
  refine lv_goto (tgt := 4) hx hb d_TS_countFiles_32 (by decide) ?_
  refine lv_iload_n hx hb d_TS_countFiles_4 rfl (lv_at hl 0 rfl) ?_
  refine lv_iconst (v := 4) hx hb d_TS_countFiles_5 (by decide) ?_
  refine lv_icmp_ge (tgt := 35) hx hb d_TS_countFiles_6 (by decide) (fun h9 => absurd h9 (by decide)) (fun _ => ?_)
  refine lv_iload_n hx hb d_TS_countFiles_9 rfl (lv_at hl 1 rfl) ?_
  refine lv_aload_n hx hb d_TS_countFiles_10 rfl (lv_at hl 2 rfl) ?_
  refine va_get (D := (dC, dI)) (ci := 8) (v := .ref (q 6)) (C := RTS) (T := FTS) (N := 15) hx hb hB in_TS hown hK hP 0 rfl rfl 4 (by decide) (hB _ hw_311) (fun _ h9 => h9) rfl d_TS_countFiles_11 ?_
  refine lv_iload_n hx hb d_TS_countFiles_14 rfl (lv_at hl 0 rfl) ?_
  refine va_aldq (D := (dC, dI)) hx hb hK hP 5 3 rfl rfl (by unfold vp_in; decide) d_TS_countFiles_15 ?_
  refine W.eq (g2 := F0 m 16 ls [.ref (q 10), .int 0]) rfl ?_
  refine va_get (D := (dC, dI)) (ci := 5) (v := .int 0) (C := RLa) (T := FLa) (N := 8) hx hb hB in_La hown hK hP 9 rfl rfl 2 (by decide) (hB _ hw_253) (fun _ h9 => h9) rfl d_TS_countFiles_16 ?_
  refine lv_if_eq (tgt := 26) hx hb d_TS_countFiles_19 (by decide) (fun _ => ?_) (fun h9 => absurd (by decide) h9)
  refine lv_iconst (v := 0) hx hb d_TS_countFiles_26 (by decide) ?_
  refine lv_iadd hx hb d_TS_countFiles_27 ?_
  refine lv_topi (fun z4 z4_e => ?_)
  obtain rfl : z4 = 0 := z4_e.trans (by decide)
  refine lv_istore_n hx hb d_TS_countFiles_28 rfl hl (by decide) rfl (fun ls hl => ?_)
  have hl : lv_has ls 3 [(1, .int 0), (2, .int 3), (0, .ref h0)] := hl
  refine lv_iinc (k := 1) (v := 4) hx hb d_TS_countFiles_29 hl rfl (by decide) (by decide) rfl (fun ls hl => ?_)
  have hl : lv_has ls 3 [(2, .int 4), (1, .int 0), (0, .ref h0)] := hl
  refine lv_goto (tgt := 4) hx hb d_TS_countFiles_32 (by decide) ?_
  refine lv_iload_n hx hb d_TS_countFiles_4 rfl (lv_at hl 0 rfl) ?_
  refine lv_iconst (v := 4) hx hb d_TS_countFiles_5 (by decide) ?_
  refine lv_icmp_ge (tgt := 35) hx hb d_TS_countFiles_6 (by decide) (fun _ => ?_) (fun h9 => absurd (by decide) h9)
  refine lv_iload_n hx hb d_TS_countFiles_35 rfl (lv_at hl 1 rfl) ?_
  exact W.iret (v := 0) hx hb hr (fun t ht _ => ⟨rfl, ht⟩) (fun _ h => nomatch h) d_TS_countFiles_36
set_option maxHeartbeats 4000000 in
set_option maxRecDepth 100000 in
theorem p_TS_exists (l : Launch) (dC : Nat → ClassId) (dI : Nat → Nat → Nat) (h0 : Nat) (q : Nat → Nat) (ci : Nat → ClassId) (f : Int32) : Met l y_TS_exists w_TS_exists ({ frames := 0, cells := 0, slots := 0, locals := 0 }) (va_Pc [.ref h0, .int f] (fun U => va_P (dC, dI) gx_cl (wTS h0 q ci) U.heap ∧ va_K (dC, dI) gx_cl (kTS ci) U)) (px_Q (some (.int 0))) 0 0 (fun _ => False) := by
  refine Met.ofW (cc := b_TS_exists) (maxL := 2) (ret := (some .boolean)) (by decide) rfl ?_
  intro p e s m args below meth c s₁ B hml hv
  obtain ⟨rfl, hP, hK⟩ := hv
  have hx := B.exec
  have hb := B.bytes
  have hr := B.returns
  have hts := atoms_spec (ws := w_TS_exists) B.pre
  have hB : ∀ w ∈ gx_B, w.before _ s = true := fun w h => hts w (List.mem_cons_of_mem _ h)
  have hown : s.vm.findClass "TapeSealer" = some m.cls := findClass_of_methodNamed B.named
  have hlocks := B.notSynchronized
  have hl := lv_entry ([.ref h0, .int f]) (n := 2) (Nat.le_of_ble_eq_true rfl)
  rw [lg_entry_eq]
  generalize (lg_sl ([.ref h0, .int f]) ++ List.replicate (2 - (lg_sl ([.ref h0, .int f])).length) Slot.unset).toArray = ls at hl ⊢
  have hl : lv_has ls 2 [(0, .ref h0), (1, .int f)] := hl
  rcases gx_4 f with hf | hf | rfl | rfl | rfl | rfl
  · refine lv_iload_n hx hb d_TS_exists_0 rfl (lv_at hl 1 rfl) ?_
    refine lv_if_lt (tgt := 25) hx hb d_TS_exists_1 (by decide) (fun _ => ?_) (fun h9 => absurd hf h9)
    refine lv_iconst (v := 0) hx hb d_TS_exists_25 (by decide) ?_
    exact W.zret (v := 0) hx hb hr rfl (fun t ht _ => ⟨rfl, ht⟩) (fun _ h => nomatch h) d_TS_exists_26
  · refine lv_iload_n hx hb d_TS_exists_0 rfl (lv_at hl 1 rfl) ?_
    refine lv_if_lt (tgt := 25) hx hb d_TS_exists_1 (by decide) (fun h9 => absurd h9 (gx_nlt hf)) (fun _ => ?_)
    refine lv_iload_n hx hb d_TS_exists_4 rfl (lv_at hl 1 rfl) ?_
    refine lv_iconst (v := 4) hx hb d_TS_exists_5 (by decide) ?_
    refine lv_icmp_ge (tgt := 25) hx hb d_TS_exists_6 (by decide) (fun _ => ?_) (fun h9 => absurd hf h9)
    refine lv_iconst (v := 0) hx hb d_TS_exists_25 (by decide) ?_
    exact W.zret (v := 0) hx hb hr rfl (fun t ht _ => ⟨rfl, ht⟩) (fun _ h => nomatch h) d_TS_exists_26
  · refine lv_iload_n hx hb d_TS_exists_0 rfl (lv_at hl 1 rfl) ?_
    refine lv_if_lt (tgt := 25) hx hb d_TS_exists_1 (by decide) (fun h9 => absurd h9 (by decide)) (fun _ => ?_)
    refine lv_iload_n hx hb d_TS_exists_4 rfl (lv_at hl 1 rfl) ?_
    refine lv_iconst (v := 4) hx hb d_TS_exists_5 (by decide) ?_
    refine lv_icmp_ge (tgt := 25) hx hb d_TS_exists_6 (by decide) (fun h9 => absurd h9 (by decide)) (fun _ => ?_)
    refine lv_aload_n hx hb d_TS_exists_9 rfl (lv_at hl 0 rfl) ?_
    refine va_get (D := (dC, dI)) (ci := 8) (v := .ref (q 6)) (C := RTS) (T := FTS) (N := 15) hx hb hB in_TS hown hK hP 0 rfl rfl 4 (by decide) (hB _ hw_311) (fun _ h9 => h9) rfl d_TS_exists_10 ?_
    refine lv_iload_n hx hb d_TS_exists_13 rfl (lv_at hl 1 rfl) ?_
    refine va_aldq (D := (dC, dI)) hx hb hK hP 5 3 rfl rfl (by unfold vp_in; decide) d_TS_exists_14 ?_
    refine W.eq (g2 := F0 m 15 ls [.ref (q 7)]) rfl ?_
    refine va_get (D := (dC, dI)) (ci := 5) (v := .int 0) (C := RLa) (T := FLa) (N := 8) hx hb hB in_La hown hK hP 6 rfl rfl 2 (by decide) (hB _ hw_253) (fun _ h9 => h9) rfl d_TS_exists_15 ?_
    refine lv_if_eq (tgt := 25) hx hb d_TS_exists_18 (by decide) (fun _ => ?_) (fun h9 => absurd (by decide) h9)
    refine lv_iconst (v := 0) hx hb d_TS_exists_25 (by decide) ?_
    exact W.zret (v := 0) hx hb hr rfl (fun t ht _ => ⟨rfl, ht⟩) (fun _ h => nomatch h) d_TS_exists_26
  · refine lv_iload_n hx hb d_TS_exists_0 rfl (lv_at hl 1 rfl) ?_
    refine lv_if_lt (tgt := 25) hx hb d_TS_exists_1 (by decide) (fun h9 => absurd h9 (by decide)) (fun _ => ?_)
    refine lv_iload_n hx hb d_TS_exists_4 rfl (lv_at hl 1 rfl) ?_
    refine lv_iconst (v := 4) hx hb d_TS_exists_5 (by decide) ?_
    refine lv_icmp_ge (tgt := 25) hx hb d_TS_exists_6 (by decide) (fun h9 => absurd h9 (by decide)) (fun _ => ?_)
    refine lv_aload_n hx hb d_TS_exists_9 rfl (lv_at hl 0 rfl) ?_
    refine va_get (D := (dC, dI)) (ci := 8) (v := .ref (q 6)) (C := RTS) (T := FTS) (N := 15) hx hb hB in_TS hown hK hP 0 rfl rfl 4 (by decide) (hB _ hw_311) (fun _ h9 => h9) rfl d_TS_exists_10 ?_
    refine lv_iload_n hx hb d_TS_exists_13 rfl (lv_at hl 1 rfl) ?_
    refine va_aldq (D := (dC, dI)) hx hb hK hP 5 3 rfl rfl (by unfold vp_in; decide) d_TS_exists_14 ?_
    refine W.eq (g2 := F0 m 15 ls [.ref (q 8)]) rfl ?_
    refine va_get (D := (dC, dI)) (ci := 5) (v := .int 0) (C := RLa) (T := FLa) (N := 8) hx hb hB in_La hown hK hP 7 rfl rfl 2 (by decide) (hB _ hw_253) (fun _ h9 => h9) rfl d_TS_exists_15 ?_
    refine lv_if_eq (tgt := 25) hx hb d_TS_exists_18 (by decide) (fun _ => ?_) (fun h9 => absurd (by decide) h9)
    refine lv_iconst (v := 0) hx hb d_TS_exists_25 (by decide) ?_
    exact W.zret (v := 0) hx hb hr rfl (fun t ht _ => ⟨rfl, ht⟩) (fun _ h => nomatch h) d_TS_exists_26
  · refine lv_iload_n hx hb d_TS_exists_0 rfl (lv_at hl 1 rfl) ?_
    refine lv_if_lt (tgt := 25) hx hb d_TS_exists_1 (by decide) (fun h9 => absurd h9 (by decide)) (fun _ => ?_)
    refine lv_iload_n hx hb d_TS_exists_4 rfl (lv_at hl 1 rfl) ?_
    refine lv_iconst (v := 4) hx hb d_TS_exists_5 (by decide) ?_
    refine lv_icmp_ge (tgt := 25) hx hb d_TS_exists_6 (by decide) (fun h9 => absurd h9 (by decide)) (fun _ => ?_)
    refine lv_aload_n hx hb d_TS_exists_9 rfl (lv_at hl 0 rfl) ?_
    refine va_get (D := (dC, dI)) (ci := 8) (v := .ref (q 6)) (C := RTS) (T := FTS) (N := 15) hx hb hB in_TS hown hK hP 0 rfl rfl 4 (by decide) (hB _ hw_311) (fun _ h9 => h9) rfl d_TS_exists_10 ?_
    refine lv_iload_n hx hb d_TS_exists_13 rfl (lv_at hl 1 rfl) ?_
    refine va_aldq (D := (dC, dI)) hx hb hK hP 5 3 rfl rfl (by unfold vp_in; decide) d_TS_exists_14 ?_
    refine W.eq (g2 := F0 m 15 ls [.ref (q 9)]) rfl ?_
    refine va_get (D := (dC, dI)) (ci := 5) (v := .int 0) (C := RLa) (T := FLa) (N := 8) hx hb hB in_La hown hK hP 8 rfl rfl 2 (by decide) (hB _ hw_253) (fun _ h9 => h9) rfl d_TS_exists_15 ?_
    refine lv_if_eq (tgt := 25) hx hb d_TS_exists_18 (by decide) (fun _ => ?_) (fun h9 => absurd (by decide) h9)
    refine lv_iconst (v := 0) hx hb d_TS_exists_25 (by decide) ?_
    exact W.zret (v := 0) hx hb hr rfl (fun t ht _ => ⟨rfl, ht⟩) (fun _ h => nomatch h) d_TS_exists_26
  · refine lv_iload_n hx hb d_TS_exists_0 rfl (lv_at hl 1 rfl) ?_
    refine lv_if_lt (tgt := 25) hx hb d_TS_exists_1 (by decide) (fun h9 => absurd h9 (by decide)) (fun _ => ?_)
    refine lv_iload_n hx hb d_TS_exists_4 rfl (lv_at hl 1 rfl) ?_
    refine lv_iconst (v := 4) hx hb d_TS_exists_5 (by decide) ?_
    refine lv_icmp_ge (tgt := 25) hx hb d_TS_exists_6 (by decide) (fun h9 => absurd h9 (by decide)) (fun _ => ?_)
    refine lv_aload_n hx hb d_TS_exists_9 rfl (lv_at hl 0 rfl) ?_
    refine va_get (D := (dC, dI)) (ci := 8) (v := .ref (q 6)) (C := RTS) (T := FTS) (N := 15) hx hb hB in_TS hown hK hP 0 rfl rfl 4 (by decide) (hB _ hw_311) (fun _ h9 => h9) rfl d_TS_exists_10 ?_
    refine lv_iload_n hx hb d_TS_exists_13 rfl (lv_at hl 1 rfl) ?_
    refine va_aldq (D := (dC, dI)) hx hb hK hP 5 3 rfl rfl (by unfold vp_in; decide) d_TS_exists_14 ?_
    refine W.eq (g2 := F0 m 15 ls [.ref (q 10)]) rfl ?_
    refine va_get (D := (dC, dI)) (ci := 5) (v := .int 0) (C := RLa) (T := FLa) (N := 8) hx hb hB in_La hown hK hP 9 rfl rfl 2 (by decide) (hB _ hw_253) (fun _ h9 => h9) rfl d_TS_exists_15 ?_
    refine lv_if_eq (tgt := 25) hx hb d_TS_exists_18 (by decide) (fun _ => ?_) (fun h9 => absurd (by decide) h9)
    refine lv_iconst (v := 0) hx hb d_TS_exists_25 (by decide) ?_
    exact W.zret (v := 0) hx hb hr rfl (fun t ht _ => ⟨rfl, ht⟩) (fun _ h => nomatch h) d_TS_exists_26
set_option maxHeartbeats 4000000 in
set_option maxRecDepth 100000 in
theorem p_TS_ownerOf (l : Launch) (dC : Nat → ClassId) (dI : Nat → Nat → Nat) (h0 : Nat) (q : Nat → Nat) (ci : Nat → ClassId) (g : Int32) : Met l y_TS_ownerOf w_TS_ownerOf ({ frames := 1, cells := 0, slots := 0, locals := 21 }) (va_Pc [.ref h0, .int g] (fun U => va_P (dC, dI) gx_cl (wTS h0 q ci) U.heap ∧ va_K (dC, dI) gx_cl (kTS ci) U)) (px_Q (some (.int (-1)))) 0 0 (fun _ => False) := by
  refine Met.ofW (cc := b_TS_ownerOf) (maxL := 3) (ret := (some .int)) (by decide) rfl ?_
  intro p e s m args below meth c s₁ B hml hv
  obtain ⟨rfl, hP, hK⟩ := hv
  have hx := B.exec
  have hb := B.bytes
  have hr := B.returns
  have hts := atoms_spec (ws := w_TS_ownerOf) B.pre
  have hB : ∀ w ∈ gx_B, w.before _ s = true := fun w h => hts w (List.mem_cons_of_mem _ h)
  have hown : s.vm.findClass "TapeSealer" = some m.cls := findClass_of_methodNamed B.named
  have hlocks := B.notSynchronized
  have hl := lv_entry ([.ref h0, .int g]) (n := 3) (Nat.le_of_ble_eq_true rfl)
  rw [lg_entry_eq]
  generalize (lg_sl ([.ref h0, .int g]) ++ List.replicate (3 - (lg_sl ([.ref h0, .int g])).length) Slot.unset).toArray = ls at hl ⊢
  have hl : lv_has ls 3 [(0, .ref h0), (1, .int g)] := hl
  refine lv_iconst (v := 0) hx hb d_TS_ownerOf_0 (by decide) ?_
  refine lv_istore_n hx hb d_TS_ownerOf_1 rfl hl (by decide) rfl (fun ls hl => ?_)
  have hl : lv_has ls 3 [(2, .int 0), (0, .ref h0), (1, .int g)] := hl
  refine lv_iload_n hx hb d_TS_ownerOf_2 rfl (lv_at hl 0 rfl) ?_
  refine lv_iconst (v := 4) hx hb d_TS_ownerOf_3 (by decide) ?_
  refine lv_icmp_ge (tgt := 28) hx hb d_TS_ownerOf_4 (by decide) (fun h9 => absurd h9 (by decide)) (fun _ => ?_)
  refine lv_aload_n hx hb d_TS_ownerOf_7 rfl (lv_at hl 1 rfl) ?_
  refine va_get (D := (dC, dI)) (ci := 8) (v := .ref (q 6)) (C := RTS) (T := FTS) (N := 15) hx hb hB in_TS hown hK hP 0 rfl rfl 4 (by decide) (hB _ hw_311) (fun _ h9 => h9) rfl d_TS_ownerOf_8 ?_
  refine lv_iload_n hx hb d_TS_ownerOf_11 rfl (lv_at hl 0 rfl) ?_
  refine va_aldq (D := (dC, dI)) hx hb hK hP 5 3 rfl rfl (by unfold vp_in; decide) d_TS_ownerOf_12 ?_
  refine W.eq (g2 := F0 m 13 ls [.ref (q 7)]) rfl ?_
  refine lv_iload_n hx hb d_TS_ownerOf_13 rfl (lv_at hl 2 rfl) ?_
  refine px_go (va_runV (C := "TapeSealer$Label") (As := [.int g]) (rest := []) ⟨hx, hb, hml, hown, hts⟩ (p_La_hasGroup l dC dI (q 7) (q 11) 0 g) (cwV 1 hts (gx_goodV hw_569 hw_570 hw_571 hw_73 k_La_hasGroup) rfl rfl rfl (by decide +kernel) ⟨(Nat.le_of_ble_eq_true rfl), (Nat.le_of_ble_eq_true rfl)⟩) ⟨fun a U g mk q => by obtain ⟨q0, qP, qK⟩ := q; exact ⟨q0, qP, va_K.moved (u := U) (U := U.calling g mk a) (Vm.Alike.refl U.vm) qK⟩, va_recv hK hP rfl (q0 := 6) rfl, fun U hU hW => ⟨rfl, by rw [hU]; exact hP.sub (ws' := [((q 7), .inr (5, [.ref (q 11), .int 0, .int 0, .int 0, .int 0, .int 0, .int 0, .int 0]))]) [6] rfl, va_K.moved hW.alike (hK.sub (tys' := []) [] rfl)⟩⟩ rfl rfl hl.1 rfl (lv_room (Nat.le_of_ble_eq_true rfl)) d_TS_ownerOf_14 ⟨(Nat.le_of_ble_eq_true rfl), (Nat.le_of_ble_eq_true rfl)⟩) ?_
  refine W.eq (g2 := F0 m 17 ls [.int 0]) rfl ?_
  refine lv_if_eq (tgt := 22) hx hb d_TS_ownerOf_17 (by decide) (fun _ => ?_) (fun h9 => absurd (by decide) h9)
  refine lv_iinc (k := 0) (v := 1) hx hb d_TS_ownerOf_22 hl rfl (by decide) (by decide) rfl (fun ls hl => ?_)
  have hl : lv_has ls 3 [(2, .int 1), (0, .ref h0), (1, .int g)] := hl
  refine lv_goto (tgt := 2) hx hb d_TS_ownerOf_25 (by decide) ?_
  refine lv_iload_n hx hb d_TS_ownerOf_2 rfl (lv_at hl 0 rfl) ?_
  refine lv_iconst (v := 4) hx hb d_TS_ownerOf_3 (by decide) ?_
  refine lv_icmp_ge (tgt := 28) hx hb d_TS_ownerOf_4 (by decide) (fun h9 => absurd h9 (by decide)) (fun _ => ?_)
  refine lv_aload_n hx hb d_TS_ownerOf_7 rfl (lv_at hl 1 rfl) ?_
  refine va_get (D := (dC, dI)) (ci := 8) (v := .ref (q 6)) (C := RTS) (T := FTS) (N := 15) hx hb hB in_TS hown hK hP 0 rfl rfl 4 (by decide) (hB _ hw_311) (fun _ h9 => h9) rfl d_TS_ownerOf_8 ?_
  refine lv_iload_n hx hb d_TS_ownerOf_11 rfl (lv_at hl 0 rfl) ?_
  refine va_aldq (D := (dC, dI)) hx hb hK hP 5 3 rfl rfl (by unfold vp_in; decide) d_TS_ownerOf_12 ?_
  refine W.eq (g2 := F0 m 13 ls [.ref (q 8)]) rfl ?_
  refine lv_iload_n hx hb d_TS_ownerOf_13 rfl (lv_at hl 2 rfl) ?_
  refine px_go (va_runV (C := "TapeSealer$Label") (As := [.int g]) (rest := []) ⟨hx, hb, hml, hown, hts⟩ (p_La_hasGroup l dC dI (q 8) (q 12) 1 g) (cwV 1 hts (gx_goodV hw_569 hw_570 hw_571 hw_73 k_La_hasGroup) rfl rfl rfl (by decide +kernel) ⟨(Nat.le_of_ble_eq_true rfl), (Nat.le_of_ble_eq_true rfl)⟩) ⟨fun a U g mk q => by obtain ⟨q0, qP, qK⟩ := q; exact ⟨q0, qP, va_K.moved (u := U) (U := U.calling g mk a) (Vm.Alike.refl U.vm) qK⟩, va_recv hK hP rfl (q0 := 7) rfl, fun U hU hW => ⟨rfl, by rw [hU]; exact hP.sub (ws' := [((q 8), .inr (5, [.ref (q 12), .int 1, .int 0, .int 0, .int 0, .int 0, .int 0, .int 0]))]) [7] rfl, va_K.moved hW.alike (hK.sub (tys' := []) [] rfl)⟩⟩ rfl rfl hl.1 rfl (lv_room (Nat.le_of_ble_eq_true rfl)) d_TS_ownerOf_14 ⟨(Nat.le_of_ble_eq_true rfl), (Nat.le_of_ble_eq_true rfl)⟩) ?_
  refine W.eq (g2 := F0 m 17 ls [.int 0]) rfl ?_
  refine lv_if_eq (tgt := 22) hx hb d_TS_ownerOf_17 (by decide) (fun _ => ?_) (fun h9 => absurd (by decide) h9)
  refine lv_iinc (k := 0) (v := 2) hx hb d_TS_ownerOf_22 hl rfl (by decide) (by decide) rfl (fun ls hl => ?_)
  have hl : lv_has ls 3 [(2, .int 2), (0, .ref h0), (1, .int g)] := hl
  refine lv_goto (tgt := 2) hx hb d_TS_ownerOf_25 (by decide) ?_
  refine lv_iload_n hx hb d_TS_ownerOf_2 rfl (lv_at hl 0 rfl) ?_
  refine lv_iconst (v := 4) hx hb d_TS_ownerOf_3 (by decide) ?_
  refine lv_icmp_ge (tgt := 28) hx hb d_TS_ownerOf_4 (by decide) (fun h9 => absurd h9 (by decide)) (fun _ => ?_)
  refine lv_aload_n hx hb d_TS_ownerOf_7 rfl (lv_at hl 1 rfl) ?_
  refine va_get (D := (dC, dI)) (ci := 8) (v := .ref (q 6)) (C := RTS) (T := FTS) (N := 15) hx hb hB in_TS hown hK hP 0 rfl rfl 4 (by decide) (hB _ hw_311) (fun _ h9 => h9) rfl d_TS_ownerOf_8 ?_
  refine lv_iload_n hx hb d_TS_ownerOf_11 rfl (lv_at hl 0 rfl) ?_
  refine va_aldq (D := (dC, dI)) hx hb hK hP 5 3 rfl rfl (by unfold vp_in; decide) d_TS_ownerOf_12 ?_
  refine W.eq (g2 := F0 m 13 ls [.ref (q 9)]) rfl ?_
  refine lv_iload_n hx hb d_TS_ownerOf_13 rfl (lv_at hl 2 rfl) ?_
  refine px_go (va_runV (C := "TapeSealer$Label") (As := [.int g]) (rest := []) ⟨hx, hb, hml, hown, hts⟩ (p_La_hasGroup l dC dI (q 9) (q 13) 2 g) (cwV 1 hts (gx_goodV hw_569 hw_570 hw_571 hw_73 k_La_hasGroup) rfl rfl rfl (by decide +kernel) ⟨(Nat.le_of_ble_eq_true rfl), (Nat.le_of_ble_eq_true rfl)⟩) ⟨fun a U g mk q => by obtain ⟨q0, qP, qK⟩ := q; exact ⟨q0, qP, va_K.moved (u := U) (U := U.calling g mk a) (Vm.Alike.refl U.vm) qK⟩, va_recv hK hP rfl (q0 := 8) rfl, fun U hU hW => ⟨rfl, by rw [hU]; exact hP.sub (ws' := [((q 9), .inr (5, [.ref (q 13), .int 2, .int 0, .int 0, .int 0, .int 0, .int 0, .int 0]))]) [8] rfl, va_K.moved hW.alike (hK.sub (tys' := []) [] rfl)⟩⟩ rfl rfl hl.1 rfl (lv_room (Nat.le_of_ble_eq_true rfl)) d_TS_ownerOf_14 ⟨(Nat.le_of_ble_eq_true rfl), (Nat.le_of_ble_eq_true rfl)⟩) ?_
  refine W.eq (g2 := F0 m 17 ls [.int 0]) rfl ?_
  refine lv_if_eq (tgt := 22) hx hb d_TS_ownerOf_17 (by decide) (fun _ => ?_) (fun h9 => absurd (by decide) h9)
  refine lv_iinc (k := 0) (v := 3) hx hb d_TS_ownerOf_22 hl rfl (by decide) (by decide) rfl (fun ls hl => ?_)
  have hl : lv_has ls 3 [(2, .int 3), (0, .ref h0), (1, .int g)] := hl
  refine lv_goto (tgt := 2) hx hb d_TS_ownerOf_25 (by decide) ?_
  refine lv_iload_n hx hb d_TS_ownerOf_2 rfl (lv_at hl 0 rfl) ?_
  refine lv_iconst (v := 4) hx hb d_TS_ownerOf_3 (by decide) ?_
  refine lv_icmp_ge (tgt := 28) hx hb d_TS_ownerOf_4 (by decide) (fun h9 => absurd h9 (by decide)) (fun _ => ?_)
  refine lv_aload_n hx hb d_TS_ownerOf_7 rfl (lv_at hl 1 rfl) ?_
  refine va_get (D := (dC, dI)) (ci := 8) (v := .ref (q 6)) (C := RTS) (T := FTS) (N := 15) hx hb hB in_TS hown hK hP 0 rfl rfl 4 (by decide) (hB _ hw_311) (fun _ h9 => h9) rfl d_TS_ownerOf_8 ?_
  refine lv_iload_n hx hb d_TS_ownerOf_11 rfl (lv_at hl 0 rfl) ?_
  refine va_aldq (D := (dC, dI)) hx hb hK hP 5 3 rfl rfl (by unfold vp_in; decide) d_TS_ownerOf_12 ?_
  refine W.eq (g2 := F0 m 13 ls [.ref (q 10)]) rfl ?_
  refine lv_iload_n hx hb d_TS_ownerOf_13 rfl (lv_at hl 2 rfl) ?_
  refine px_go (va_runV (C := "TapeSealer$Label") (As := [.int g]) (rest := []) ⟨hx, hb, hml, hown, hts⟩ (p_La_hasGroup l dC dI (q 10) (q 14) 3 g) (cwV 1 hts (gx_goodV hw_569 hw_570 hw_571 hw_73 k_La_hasGroup) rfl rfl rfl (by decide +kernel) ⟨(Nat.le_of_ble_eq_true rfl), (Nat.le_of_ble_eq_true rfl)⟩) ⟨fun a U g mk q => by obtain ⟨q0, qP, qK⟩ := q; exact ⟨q0, qP, va_K.moved (u := U) (U := U.calling g mk a) (Vm.Alike.refl U.vm) qK⟩, va_recv hK hP rfl (q0 := 9) rfl, fun U hU hW => ⟨rfl, by rw [hU]; exact hP.sub (ws' := [((q 10), .inr (5, [.ref (q 14), .int 3, .int 0, .int 0, .int 0, .int 0, .int 0, .int 0]))]) [9] rfl, va_K.moved hW.alike (hK.sub (tys' := []) [] rfl)⟩⟩ rfl rfl hl.1 rfl (lv_room (Nat.le_of_ble_eq_true rfl)) d_TS_ownerOf_14 ⟨(Nat.le_of_ble_eq_true rfl), (Nat.le_of_ble_eq_true rfl)⟩) ?_
  refine W.eq (g2 := F0 m 17 ls [.int 0]) rfl ?_
  refine lv_if_eq (tgt := 22) hx hb d_TS_ownerOf_17 (by decide) (fun _ => ?_) (fun h9 => absurd (by decide) h9)
  refine lv_iinc (k := 0) (v := 4) hx hb d_TS_ownerOf_22 hl rfl (by decide) (by decide) rfl (fun ls hl => ?_)
  have hl : lv_has ls 3 [(2, .int 4), (0, .ref h0), (1, .int g)] := hl
  refine lv_goto (tgt := 2) hx hb d_TS_ownerOf_25 (by decide) ?_
  refine lv_iload_n hx hb d_TS_ownerOf_2 rfl (lv_at hl 0 rfl) ?_
  refine lv_iconst (v := 4) hx hb d_TS_ownerOf_3 (by decide) ?_
  refine lv_icmp_ge (tgt := 28) hx hb d_TS_ownerOf_4 (by decide) (fun _ => ?_) (fun h9 => absurd (by decide) h9)
  refine lv_iconst (v := (-1)) hx hb d_TS_ownerOf_28 (by decide) ?_
  exact W.iret (v := (-1)) hx hb hr (fun t ht _ => ⟨rfl, ht⟩) (fun _ h => nomatch h) d_TS_ownerOf_29
set_option maxHeartbeats 4000000 in
set_option maxRecDepth 100000 in
theorem p_TS_countFree (l : Launch) (dC : Nat → ClassId) (dI : Nat → Nat → Nat) (h0 : Nat) (q : Nat → Nat) (ci : Nat → ClassId) : Met l y_TS_countFree w_TS_countFree ({ frames := 2, cells := 0, slots := 0, locals := 43 }) (va_Pc [.ref h0] (fun U => va_P (dC, dI) gx_cl (wTS h0 q ci) U.heap ∧ va_K (dC, dI) gx_cl (kTS ci) U)) (px_Q (some (.int 6))) 0 0 (fun _ => False) := by
  refine Met.ofW (cc := b_TS_countFree) (maxL := 3) (ret := (some .int)) (by decide) rfl ?_
  intro p e s m args below meth c s₁ B hml hv
  obtain ⟨rfl, hP, hK⟩ := hv
  have hx := B.exec
  have hb := B.bytes
  have hr := B.returns
  have hts := atoms_spec (ws := w_TS_countFree) B.pre
  have hB : ∀ w ∈ gx_B, w.before _ s = true := fun w h => hts w (List.mem_cons_of_mem _ h)
  have hown : s.vm.findClass "TapeSealer" = some m.cls := findClass_of_methodNamed B.named
  have hlocks := B.notSynchronized
  have hl := lv_entry ([.ref h0]) (n := 3) (Nat.le_of_ble_eq_true rfl)
  rw [lg_entry_eq]
  generalize (lg_sl ([.ref h0]) ++ List.replicate (3 - (lg_sl ([.ref h0])).length) Slot.unset).toArray = ls at hl ⊢
  have hl : lv_has ls 3 [(0, .ref h0)] := hl
  refine lv_iconst (v := 0) hx hb d_TS_countFree_0 (by decide) ?_
  refine lv_istore_n hx hb d_TS_countFree_1 rfl hl (by decide) rfl (fun ls hl => ?_)
  have hl : lv_has ls 3 [(1, .int 0), (0, .ref h0)] := hl
  refine lv_iconst (v := 0) hx hb d_TS_countFree_2 (by decide) ?_
  refine lv_istore_n hx hb d_TS_countFree_3 rfl hl (by decide) rfl (fun ls hl => ?_)
  have hl : lv_has ls 3 [(2, .int 0), (1, .int 0), (0, .ref h0)] := hl
  refine lv_iload_n hx hb d_TS_countFree_4 rfl (lv_at hl 0 rfl) ?_
  refine lv_bipush (v := 6) hx hb d_TS_countFree_5 (by decide) ?_
  refine lv_icmp_ge (tgt := 33) hx hb d_TS_countFree_7 (by decide) (fun h9 => absurd h9 (by decide)) (fun _ => ?_)
  refine lv_iload_n hx hb d_TS_countFree_10 rfl (lv_at hl 1 rfl) ?_
  refine lv_aload_n hx hb d_TS_countFree_11 rfl (lv_at hl 2 rfl) ?_
  refine lv_iload_n hx hb d_TS_countFree_12 rfl (lv_at hl 0 rfl) ?_
  refine px_go (va_runV (C := "TapeSealer") (As := [.int 0]) (rest := [.int 0]) ⟨hx, hb, hml, hown, hts⟩ (p_TS_ownerOf l dC dI h0 q ci 0) (cwV 1 hts (gx_goodV hw_565 hw_567 hw_14 hw_66 k_TS_ownerOf) rfl rfl rfl (by decide +kernel) ⟨(Nat.le_of_ble_eq_true rfl), (Nat.le_of_ble_eq_true rfl)⟩) ⟨fun a U g mk q => by obtain ⟨q0, qP, qK⟩ := q; exact ⟨q0, qP, va_K.moved (u := U) (U := U.calling g mk a) (Vm.Alike.refl U.vm) qK⟩, va_recv hK hP rfl (q0 := 0) rfl, fun U hU hW => ⟨rfl, by rw [hU]; exact hP, va_K.moved hW.alike (hK)⟩⟩ rfl rfl hl.1 rfl (lv_room (Nat.le_of_ble_eq_true rfl)) d_TS_countFree_13 ⟨(Nat.le_of_ble_eq_true rfl), (Nat.le_of_ble_eq_true rfl)⟩) ?_
  refine W.eq (g2 := F0 m 16 ls [.int (-1), .int 0]) rfl ?_
  refine lv_iconst (v := (-1)) hx hb d_TS_countFree_16 (by decide) ?_
  refine lv_icmp_ne (tgt := 24) hx hb d_TS_countFree_17 (by decide) (fun h9 => absurd (by decide) h9) (fun _ => ?_)
  refine lv_iconst (v := 1) hx hb d_TS_countFree_20 (by decide) ?_
  refine lv_goto (tgt := 25) hx hb d_TS_countFree_21 (by decide) ?_
  refine lv_iadd hx hb d_TS_countFree_25 ?_
  refine lv_topi (fun z1 z1_e => ?_)
  obtain rfl : z1 = 1 := z1_e.trans (by decide)
  refine lv_istore_n hx hb d_TS_countFree_26 rfl hl (by decide) rfl (fun ls hl => ?_)
  have hl : lv_has ls 3 [(1, .int 1), (2, .int 0), (0, .ref h0)] := hl
  refine lv_iinc (k := 1) (v := 1) hx hb d_TS_countFree_27 hl rfl (by decide) (by decide) rfl (fun ls hl => ?_)
  have hl : lv_has ls 3 [(2, .int 1), (1, .int 1), (0, .ref h0)] := hl
  refine lv_goto (tgt := 4) hx hb d_TS_countFree_30 (by decide) ?_
  refine lv_iload_n hx hb d_TS_countFree_4 rfl (lv_at hl 0 rfl) ?_
  refine lv_bipush (v := 6) hx hb d_TS_countFree_5 (by decide) ?_
  refine lv_icmp_ge (tgt := 33) hx hb d_TS_countFree_7 (by decide) (fun h9 => absurd h9 (by decide)) (fun _ => ?_)
  refine lv_iload_n hx hb d_TS_countFree_10 rfl (lv_at hl 1 rfl) ?_
  refine lv_aload_n hx hb d_TS_countFree_11 rfl (lv_at hl 2 rfl) ?_
  refine lv_iload_n hx hb d_TS_countFree_12 rfl (lv_at hl 0 rfl) ?_
  refine px_go (va_runV (C := "TapeSealer") (As := [.int 1]) (rest := [.int 1]) ⟨hx, hb, hml, hown, hts⟩ (p_TS_ownerOf l dC dI h0 q ci 1) (cwV 1 hts (gx_goodV hw_565 hw_567 hw_14 hw_66 k_TS_ownerOf) rfl rfl rfl (by decide +kernel) ⟨(Nat.le_of_ble_eq_true rfl), (Nat.le_of_ble_eq_true rfl)⟩) ⟨fun a U g mk q => by obtain ⟨q0, qP, qK⟩ := q; exact ⟨q0, qP, va_K.moved (u := U) (U := U.calling g mk a) (Vm.Alike.refl U.vm) qK⟩, va_recv hK hP rfl (q0 := 0) rfl, fun U hU hW => ⟨rfl, by rw [hU]; exact hP, va_K.moved hW.alike (hK)⟩⟩ rfl rfl hl.1 rfl (lv_room (Nat.le_of_ble_eq_true rfl)) d_TS_countFree_13 ⟨(Nat.le_of_ble_eq_true rfl), (Nat.le_of_ble_eq_true rfl)⟩) ?_
  refine W.eq (g2 := F0 m 16 ls [.int (-1), .int 1]) rfl ?_
  refine lv_iconst (v := (-1)) hx hb d_TS_countFree_16 (by decide) ?_
  refine lv_icmp_ne (tgt := 24) hx hb d_TS_countFree_17 (by decide) (fun h9 => absurd (by decide) h9) (fun _ => ?_)
  refine lv_iconst (v := 1) hx hb d_TS_countFree_20 (by decide) ?_
  refine lv_goto (tgt := 25) hx hb d_TS_countFree_21 (by decide) ?_
  refine lv_iadd hx hb d_TS_countFree_25 ?_
  refine lv_topi (fun z2 z2_e => ?_)
  obtain rfl : z2 = 2 := z2_e.trans (by decide)
  refine lv_istore_n hx hb d_TS_countFree_26 rfl hl (by decide) rfl (fun ls hl => ?_)
  have hl : lv_has ls 3 [(1, .int 2), (2, .int 1), (0, .ref h0)] := hl
  refine lv_iinc (k := 1) (v := 2) hx hb d_TS_countFree_27 hl rfl (by decide) (by decide) rfl (fun ls hl => ?_)
  have hl : lv_has ls 3 [(2, .int 2), (1, .int 2), (0, .ref h0)] := hl
  refine lv_goto (tgt := 4) hx hb d_TS_countFree_30 (by decide) ?_
  refine lv_iload_n hx hb d_TS_countFree_4 rfl (lv_at hl 0 rfl) ?_
  refine lv_bipush (v := 6) hx hb d_TS_countFree_5 (by decide) ?_
  refine lv_icmp_ge (tgt := 33) hx hb d_TS_countFree_7 (by decide) (fun h9 => absurd h9 (by decide)) (fun _ => ?_)
  refine lv_iload_n hx hb d_TS_countFree_10 rfl (lv_at hl 1 rfl) ?_
  refine lv_aload_n hx hb d_TS_countFree_11 rfl (lv_at hl 2 rfl) ?_
  refine lv_iload_n hx hb d_TS_countFree_12 rfl (lv_at hl 0 rfl) ?_
  refine px_go (va_runV (C := "TapeSealer") (As := [.int 2]) (rest := [.int 2]) ⟨hx, hb, hml, hown, hts⟩ (p_TS_ownerOf l dC dI h0 q ci 2) (cwV 1 hts (gx_goodV hw_565 hw_567 hw_14 hw_66 k_TS_ownerOf) rfl rfl rfl (by decide +kernel) ⟨(Nat.le_of_ble_eq_true rfl), (Nat.le_of_ble_eq_true rfl)⟩) ⟨fun a U g mk q => by obtain ⟨q0, qP, qK⟩ := q; exact ⟨q0, qP, va_K.moved (u := U) (U := U.calling g mk a) (Vm.Alike.refl U.vm) qK⟩, va_recv hK hP rfl (q0 := 0) rfl, fun U hU hW => ⟨rfl, by rw [hU]; exact hP, va_K.moved hW.alike (hK)⟩⟩ rfl rfl hl.1 rfl (lv_room (Nat.le_of_ble_eq_true rfl)) d_TS_countFree_13 ⟨(Nat.le_of_ble_eq_true rfl), (Nat.le_of_ble_eq_true rfl)⟩) ?_
  refine W.eq (g2 := F0 m 16 ls [.int (-1), .int 2]) rfl ?_
  refine lv_iconst (v := (-1)) hx hb d_TS_countFree_16 (by decide) ?_
  refine lv_icmp_ne (tgt := 24) hx hb d_TS_countFree_17 (by decide) (fun h9 => absurd (by decide) h9) (fun _ => ?_)
  refine lv_iconst (v := 1) hx hb d_TS_countFree_20 (by decide) ?_
  refine lv_goto (tgt := 25) hx hb d_TS_countFree_21 (by decide) ?_
  refine lv_iadd hx hb d_TS_countFree_25 ?_
  refine lv_topi (fun z3 z3_e => ?_)
  obtain rfl : z3 = 3 := z3_e.trans (by decide)
  refine lv_istore_n hx hb d_TS_countFree_26 rfl hl (by decide) rfl (fun ls hl => ?_)
  have hl : lv_has ls 3 [(1, .int 3), (2, .int 2), (0, .ref h0)] := hl
  refine lv_iinc (k := 1) (v := 3) hx hb d_TS_countFree_27 hl rfl (by decide) (by decide) rfl (fun ls hl => ?_)
  have hl : lv_has ls 3 [(2, .int 3), (1, .int 3), (0, .ref h0)] := hl
  refine lv_goto (tgt := 4) hx hb d_TS_countFree_30 (by decide) ?_
  refine lv_iload_n hx hb d_TS_countFree_4 rfl (lv_at hl 0 rfl) ?_
  refine lv_bipush (v := 6) hx hb d_TS_countFree_5 (by decide) ?_
  refine lv_icmp_ge (tgt := 33) hx hb d_TS_countFree_7 (by decide) (fun h9 => absurd h9 (by decide)) (fun _ => ?_)
  refine lv_iload_n hx hb d_TS_countFree_10 rfl (lv_at hl 1 rfl) ?_
  refine lv_aload_n hx hb d_TS_countFree_11 rfl (lv_at hl 2 rfl) ?_
  refine lv_iload_n hx hb d_TS_countFree_12 rfl (lv_at hl 0 rfl) ?_
  refine px_go (va_runV (C := "TapeSealer") (As := [.int 3]) (rest := [.int 3]) ⟨hx, hb, hml, hown, hts⟩ (p_TS_ownerOf l dC dI h0 q ci 3) (cwV 1 hts (gx_goodV hw_565 hw_567 hw_14 hw_66 k_TS_ownerOf) rfl rfl rfl (by decide +kernel) ⟨(Nat.le_of_ble_eq_true rfl), (Nat.le_of_ble_eq_true rfl)⟩) ⟨fun a U g mk q => by obtain ⟨q0, qP, qK⟩ := q; exact ⟨q0, qP, va_K.moved (u := U) (U := U.calling g mk a) (Vm.Alike.refl U.vm) qK⟩, va_recv hK hP rfl (q0 := 0) rfl, fun U hU hW => ⟨rfl, by rw [hU]; exact hP, va_K.moved hW.alike (hK)⟩⟩ rfl rfl hl.1 rfl (lv_room (Nat.le_of_ble_eq_true rfl)) d_TS_countFree_13 ⟨(Nat.le_of_ble_eq_true rfl), (Nat.le_of_ble_eq_true rfl)⟩) ?_
  refine W.eq (g2 := F0 m 16 ls [.int (-1), .int 3]) rfl ?_
  refine lv_iconst (v := (-1)) hx hb d_TS_countFree_16 (by decide) ?_
  refine lv_icmp_ne (tgt := 24) hx hb d_TS_countFree_17 (by decide) (fun h9 => absurd (by decide) h9) (fun _ => ?_)
  refine lv_iconst (v := 1) hx hb d_TS_countFree_20 (by decide) ?_
  refine lv_goto (tgt := 25) hx hb d_TS_countFree_21 (by decide) ?_
  refine lv_iadd hx hb d_TS_countFree_25 ?_
  refine lv_topi (fun z4 z4_e => ?_)
  obtain rfl : z4 = 4 := z4_e.trans (by decide)
  refine lv_istore_n hx hb d_TS_countFree_26 rfl hl (by decide) rfl (fun ls hl => ?_)
  have hl : lv_has ls 3 [(1, .int 4), (2, .int 3), (0, .ref h0)] := hl
  refine lv_iinc (k := 1) (v := 4) hx hb d_TS_countFree_27 hl rfl (by decide) (by decide) rfl (fun ls hl => ?_)
  have hl : lv_has ls 3 [(2, .int 4), (1, .int 4), (0, .ref h0)] := hl
  refine lv_goto (tgt := 4) hx hb d_TS_countFree_30 (by decide) ?_
  refine lv_iload_n hx hb d_TS_countFree_4 rfl (lv_at hl 0 rfl) ?_
  refine lv_bipush (v := 6) hx hb d_TS_countFree_5 (by decide) ?_
  refine lv_icmp_ge (tgt := 33) hx hb d_TS_countFree_7 (by decide) (fun h9 => absurd h9 (by decide)) (fun _ => ?_)
  refine lv_iload_n hx hb d_TS_countFree_10 rfl (lv_at hl 1 rfl) ?_
  refine lv_aload_n hx hb d_TS_countFree_11 rfl (lv_at hl 2 rfl) ?_
  refine lv_iload_n hx hb d_TS_countFree_12 rfl (lv_at hl 0 rfl) ?_
  refine px_go (va_runV (C := "TapeSealer") (As := [.int 4]) (rest := [.int 4]) ⟨hx, hb, hml, hown, hts⟩ (p_TS_ownerOf l dC dI h0 q ci 4) (cwV 1 hts (gx_goodV hw_565 hw_567 hw_14 hw_66 k_TS_ownerOf) rfl rfl rfl (by decide +kernel) ⟨(Nat.le_of_ble_eq_true rfl), (Nat.le_of_ble_eq_true rfl)⟩) ⟨fun a U g mk q => by obtain ⟨q0, qP, qK⟩ := q; exact ⟨q0, qP, va_K.moved (u := U) (U := U.calling g mk a) (Vm.Alike.refl U.vm) qK⟩, va_recv hK hP rfl (q0 := 0) rfl, fun U hU hW => ⟨rfl, by rw [hU]; exact hP, va_K.moved hW.alike (hK)⟩⟩ rfl rfl hl.1 rfl (lv_room (Nat.le_of_ble_eq_true rfl)) d_TS_countFree_13 ⟨(Nat.le_of_ble_eq_true rfl), (Nat.le_of_ble_eq_true rfl)⟩) ?_
  refine W.eq (g2 := F0 m 16 ls [.int (-1), .int 4]) rfl ?_
  refine lv_iconst (v := (-1)) hx hb d_TS_countFree_16 (by decide) ?_
  refine lv_icmp_ne (tgt := 24) hx hb d_TS_countFree_17 (by decide) (fun h9 => absurd (by decide) h9) (fun _ => ?_)
  refine lv_iconst (v := 1) hx hb d_TS_countFree_20 (by decide) ?_
  refine lv_goto (tgt := 25) hx hb d_TS_countFree_21 (by decide) ?_
  refine lv_iadd hx hb d_TS_countFree_25 ?_
  refine lv_topi (fun z5 z5_e => ?_)
  obtain rfl : z5 = 5 := z5_e.trans (by decide)
  refine lv_istore_n hx hb d_TS_countFree_26 rfl hl (by decide) rfl (fun ls hl => ?_)
  have hl : lv_has ls 3 [(1, .int 5), (2, .int 4), (0, .ref h0)] := hl
  refine lv_iinc (k := 1) (v := 5) hx hb d_TS_countFree_27 hl rfl (by decide) (by decide) rfl (fun ls hl => ?_)
  have hl : lv_has ls 3 [(2, .int 5), (1, .int 5), (0, .ref h0)] := hl
  refine lv_goto (tgt := 4) hx hb d_TS_countFree_30 (by decide) ?_
  refine lv_iload_n hx hb d_TS_countFree_4 rfl (lv_at hl 0 rfl) ?_
  refine lv_bipush (v := 6) hx hb d_TS_countFree_5 (by decide) ?_
  refine lv_icmp_ge (tgt := 33) hx hb d_TS_countFree_7 (by decide) (fun h9 => absurd h9 (by decide)) (fun _ => ?_)
  refine lv_iload_n hx hb d_TS_countFree_10 rfl (lv_at hl 1 rfl) ?_
  refine lv_aload_n hx hb d_TS_countFree_11 rfl (lv_at hl 2 rfl) ?_
  refine lv_iload_n hx hb d_TS_countFree_12 rfl (lv_at hl 0 rfl) ?_
  refine px_go (va_runV (C := "TapeSealer") (As := [.int 5]) (rest := [.int 5]) ⟨hx, hb, hml, hown, hts⟩ (p_TS_ownerOf l dC dI h0 q ci 5) (cwV 1 hts (gx_goodV hw_565 hw_567 hw_14 hw_66 k_TS_ownerOf) rfl rfl rfl (by decide +kernel) ⟨(Nat.le_of_ble_eq_true rfl), (Nat.le_of_ble_eq_true rfl)⟩) ⟨fun a U g mk q => by obtain ⟨q0, qP, qK⟩ := q; exact ⟨q0, qP, va_K.moved (u := U) (U := U.calling g mk a) (Vm.Alike.refl U.vm) qK⟩, va_recv hK hP rfl (q0 := 0) rfl, fun U hU hW => ⟨rfl, by rw [hU]; exact hP, va_K.moved hW.alike (hK)⟩⟩ rfl rfl hl.1 rfl (lv_room (Nat.le_of_ble_eq_true rfl)) d_TS_countFree_13 ⟨(Nat.le_of_ble_eq_true rfl), (Nat.le_of_ble_eq_true rfl)⟩) ?_
  refine W.eq (g2 := F0 m 16 ls [.int (-1), .int 5]) rfl ?_
  refine lv_iconst (v := (-1)) hx hb d_TS_countFree_16 (by decide) ?_
  refine lv_icmp_ne (tgt := 24) hx hb d_TS_countFree_17 (by decide) (fun h9 => absurd (by decide) h9) (fun _ => ?_)
  refine lv_iconst (v := 1) hx hb d_TS_countFree_20 (by decide) ?_
  refine lv_goto (tgt := 25) hx hb d_TS_countFree_21 (by decide) ?_
  refine lv_iadd hx hb d_TS_countFree_25 ?_
  refine lv_topi (fun z6 z6_e => ?_)
  obtain rfl : z6 = 6 := z6_e.trans (by decide)
  refine lv_istore_n hx hb d_TS_countFree_26 rfl hl (by decide) rfl (fun ls hl => ?_)
  have hl : lv_has ls 3 [(1, .int 6), (2, .int 5), (0, .ref h0)] := hl
  refine lv_iinc (k := 1) (v := 6) hx hb d_TS_countFree_27 hl rfl (by decide) (by decide) rfl (fun ls hl => ?_)
  have hl : lv_has ls 3 [(2, .int 6), (1, .int 6), (0, .ref h0)] := hl
  refine lv_goto (tgt := 4) hx hb d_TS_countFree_30 (by decide) ?_
  refine lv_iload_n hx hb d_TS_countFree_4 rfl (lv_at hl 0 rfl) ?_
  refine lv_bipush (v := 6) hx hb d_TS_countFree_5 (by decide) ?_
  refine lv_icmp_ge (tgt := 33) hx hb d_TS_countFree_7 (by decide) (fun _ => ?_) (fun h9 => absurd (by decide) h9)
  refine lv_iload_n hx hb d_TS_countFree_33 rfl (lv_at hl 1 rfl) ?_
  exact W.iret (v := 6) hx hb hr (fun t ht _ => ⟨rfl, ht⟩) (fun _ h => nomatch h) d_TS_countFree_34
