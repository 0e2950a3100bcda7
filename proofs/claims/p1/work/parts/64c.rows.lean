theorem gx_o4 {A B C D : Prop} (h : A ∨ B ∨ C ∨ D) : A ∨ (¬ A ∧ B) ∨ (¬ A ∧ ¬ B ∧ C) ∨ (¬ A ∧ ¬ B ∧ ¬ C ∧ D) := by
  by_cases a : A
  · exact Or.inl a
  · by_cases b : B
    · exact Or.inr (Or.inl ⟨a, b⟩)
    · by_cases c : C
      · exact Or.inr (Or.inr (Or.inl ⟨a, b, c⟩))
      · rcases h with h | h | h | h
        · exact absurd h a
        · exact absurd h b
        · exact absurd h c
        · exact Or.inr (Or.inr (Or.inr ⟨a, b, c, h⟩))
theorem gx_o2 {A B C D : Prop} (h : A ∨ B) : A ∨ B ∨ C ∨ D := h.elim Or.inl (fun h => Or.inr (Or.inl h))
theorem gx_n6 : (6 : Int32).toInt = 6 ∧ (0 : Int32).toInt = 0 ∧ (255 : Int32).toInt = 255 := by decide
theorem gx_nlt6 {g : Int32} (h : 6 ≤ g) : ¬ g < 0 := by
  rw [Int32.le_iff_toInt_le] at h; rw [Int32.lt_iff_toInt_lt]; have := gx_n6; omega
theorem gx_nlt6b {g : Int32} (h : 6 ≤ g) : ¬ g < 6 := by
  rw [Int32.le_iff_toInt_le] at h; rw [Int32.lt_iff_toInt_lt]; omega
theorem gx_nlt255 {g : Int32} (h : 255 < g) : ¬ g < 0 := by
  rw [Int32.lt_iff_toInt_lt] at h; rw [Int32.lt_iff_toInt_lt]; have := gx_n6; omega
theorem gx_nle255 {g : Int32} (h : 255 < g) : ¬ g ≤ 255 := by
  rw [Int32.lt_iff_toInt_lt] at h; rw [Int32.le_iff_toInt_le]; omega
set_option maxHeartbeats 4000000 in
set_option maxRecDepth 100000 in
theorem p_TS_isByte1 (l : Launch) (b i : Int32) (h1 : ¬ b < 0) (h2 : ¬ 44 ≤ b) (h3 : ¬ i < 0) (h4 : ¬ 64 ≤ i) : Met l y_TS_isByte w_TS_isByte ({ frames := 0, cells := 0, slots := 0, locals := 0 }) (va_Pc [.int b, .int i] (fun U => True)) (px_Q (some (.int 1))) 0 0 (fun _ => False) := by
  refine Met.ofW (cc := b_TS_isByte) (maxL := 2) (ret := (some .boolean)) (by decide) rfl ?_
  intro p e s m args below meth c s₁ B hml hv
  obtain ⟨rfl, -⟩ := hv
  have hx := B.exec
  have hb := B.bytes
  have hr := B.returns
  have hts := atoms_spec (ws := w_TS_isByte) B.pre
  have hB : ∀ w ∈ gx_B, w.before _ s = true := fun w h => hts w (List.mem_cons_of_mem _ h)
  have hown : s.vm.findClass "TapeSealer" = some m.cls := findClass_of_methodNamed B.named
  have hlocks := B.notSynchronized
  have hl := lv_entry ([.int b, .int i]) (n := 2) (Nat.le_of_ble_eq_true rfl)
  rw [lg_entry_eq]
  generalize (lg_sl ([.int b, .int i]) ++ List.replicate (2 - (lg_sl ([.int b, .int i])).length) Slot.unset).toArray = ls at hl ⊢
  have hl : lv_has ls 2 [(0, .int b), (1, .int i)] := hl
  refine lv_iload_n hx hb d_TS_isByte_0 rfl (lv_at hl 0 rfl) ?_
  refine lv_if_lt (tgt := 24) hx hb d_TS_isByte_1 (by decide) (fun h9 => absurd h9 h1) (fun _ => ?_)
  refine lv_iload_n hx hb d_TS_isByte_4 rfl (lv_at hl 0 rfl) ?_
  refine lv_bipush (v := 44) hx hb d_TS_isByte_5 (by decide) ?_
  refine lv_icmp_ge (tgt := 24) hx hb d_TS_isByte_7 (by decide) (fun h9 => absurd h9 h2) (fun _ => ?_)
  refine lv_iload_n hx hb d_TS_isByte_10 rfl (lv_at hl 1 rfl) ?_
  refine lv_if_lt (tgt := 24) hx hb d_TS_isByte_11 (by decide) (fun h9 => absurd h9 h3) (fun _ => ?_)
  refine lv_iload_n hx hb d_TS_isByte_14 rfl (lv_at hl 1 rfl) ?_
  refine lv_bipush (v := 64) hx hb d_TS_isByte_15 (by decide) ?_
  refine lv_icmp_ge (tgt := 24) hx hb d_TS_isByte_17 (by decide) (fun h9 => absurd h9 h4) (fun _ => ?_)
  refine lv_iconst (v := 1) hx hb d_TS_isByte_20 (by decide) ?_
  refine lv_goto (tgt := 25) hx hb d_TS_isByte_21 (by decide) ?_
  exact W.zret (v := 1) hx hb hr rfl (fun t ht _ => ⟨rfl, ht⟩) (fun _ h => nomatch h) d_TS_isByte_25
set_option maxHeartbeats 4000000 in
set_option maxRecDepth 100000 in
theorem p_TS_isByte0 (l : Launch) (b i : Int32) (h : b < 0 ∨ 44 ≤ b ∨ i < 0 ∨ 64 ≤ i) : Met l y_TS_isByte w_TS_isByte ({ frames := 0, cells := 0, slots := 0, locals := 0 }) (va_Pc [.int b, .int i] (fun U => True)) (px_Q (some (.int 0))) 0 0 (fun _ => False) := by
  refine Met.ofW (cc := b_TS_isByte) (maxL := 2) (ret := (some .boolean)) (by decide) rfl ?_
  intro p e s m args below meth c s₁ B hml hv
  obtain ⟨rfl, -⟩ := hv
  have hx := B.exec
  have hb := B.bytes
  have hr := B.returns
  have hts := atoms_spec (ws := w_TS_isByte) B.pre
  have hB : ∀ w ∈ gx_B, w.before _ s = true := fun w h => hts w (List.mem_cons_of_mem _ h)
  have hown : s.vm.findClass "TapeSealer" = some m.cls := findClass_of_methodNamed B.named
  have hlocks := B.notSynchronized
  have hl := lv_entry ([.int b, .int i]) (n := 2) (Nat.le_of_ble_eq_true rfl)
  rw [lg_entry_eq]
  generalize (lg_sl ([.int b, .int i]) ++ List.replicate (2 - (lg_sl ([.int b, .int i])).length) Slot.unset).toArray = ls at hl ⊢
  have hl : lv_has ls 2 [(0, .int b), (1, .int i)] := hl
  rcases gx_o4 h with h1 | ⟨h1, h2⟩ | ⟨h1, h2, h3⟩ | ⟨h1, h2, h3, h4⟩
  · refine lv_iload_n hx hb d_TS_isByte_0 rfl (lv_at hl 0 rfl) ?_
    refine lv_if_lt (tgt := 24) hx hb d_TS_isByte_1 (by decide) (fun _ => ?_) (fun h9 => absurd h1 h9)
    refine lv_iconst (v := 0) hx hb d_TS_isByte_24 (by decide) ?_
    exact W.zret (v := 0) hx hb hr rfl (fun t ht _ => ⟨rfl, ht⟩) (fun _ h => nomatch h) d_TS_isByte_25
  · refine lv_iload_n hx hb d_TS_isByte_0 rfl (lv_at hl 0 rfl) ?_
    refine lv_if_lt (tgt := 24) hx hb d_TS_isByte_1 (by decide) (fun h9 => absurd h9 h1) (fun _ => ?_)
    refine lv_iload_n hx hb d_TS_isByte_4 rfl (lv_at hl 0 rfl) ?_
    refine lv_bipush (v := 44) hx hb d_TS_isByte_5 (by decide) ?_
    refine lv_icmp_ge (tgt := 24) hx hb d_TS_isByte_7 (by decide) (fun _ => ?_) (fun h9 => absurd h2 h9)
    refine lv_iconst (v := 0) hx hb d_TS_isByte_24 (by decide) ?_
    exact W.zret (v := 0) hx hb hr rfl (fun t ht _ => ⟨rfl, ht⟩) (fun _ h => nomatch h) d_TS_isByte_25
  · refine lv_iload_n hx hb d_TS_isByte_0 rfl (lv_at hl 0 rfl) ?_
    refine lv_if_lt (tgt := 24) hx hb d_TS_isByte_1 (by decide) (fun h9 => absurd h9 h1) (fun _ => ?_)
    refine lv_iload_n hx hb d_TS_isByte_4 rfl (lv_at hl 0 rfl) ?_
    refine lv_bipush (v := 44) hx hb d_TS_isByte_5 (by decide) ?_
    refine lv_icmp_ge (tgt := 24) hx hb d_TS_isByte_7 (by decide) (fun h9 => absurd h9 h2) (fun _ => ?_)
    refine lv_iload_n hx hb d_TS_isByte_10 rfl (lv_at hl 1 rfl) ?_
    refine lv_if_lt (tgt := 24) hx hb d_TS_isByte_11 (by decide) (fun _ => ?_) (fun h9 => absurd h3 h9)
    refine lv_iconst (v := 0) hx hb d_TS_isByte_24 (by decide) ?_
    exact W.zret (v := 0) hx hb hr rfl (fun t ht _ => ⟨rfl, ht⟩) (fun _ h => nomatch h) d_TS_isByte_25
  · refine lv_iload_n hx hb d_TS_isByte_0 rfl (lv_at hl 0 rfl) ?_
    refine lv_if_lt (tgt := 24) hx hb d_TS_isByte_1 (by decide) (fun h9 => absurd h9 h1) (fun _ => ?_)
    refine lv_iload_n hx hb d_TS_isByte_4 rfl (lv_at hl 0 rfl) ?_
    refine lv_bipush (v := 44) hx hb d_TS_isByte_5 (by decide) ?_
    refine lv_icmp_ge (tgt := 24) hx hb d_TS_isByte_7 (by decide) (fun h9 => absurd h9 h2) (fun _ => ?_)
    refine lv_iload_n hx hb d_TS_isByte_10 rfl (lv_at hl 1 rfl) ?_
    refine lv_if_lt (tgt := 24) hx hb d_TS_isByte_11 (by decide) (fun h9 => absurd h9 h3) (fun _ => ?_)
    refine lv_iload_n hx hb d_TS_isByte_14 rfl (lv_at hl 1 rfl) ?_
    refine lv_bipush (v := 64) hx hb d_TS_isByte_15 (by decide) ?_
    refine lv_icmp_ge (tgt := 24) hx hb d_TS_isByte_17 (by decide) (fun _ => ?_) (fun h9 => absurd h4 h9)
    refine lv_iconst (v := 0) hx hb d_TS_isByte_24 (by decide) ?_
    exact W.zret (v := 0) hx hb hr rfl (fun t ht _ => ⟨rfl, ht⟩) (fun _ h => nomatch h) d_TS_isByte_25
set_option maxHeartbeats 4000000 in
set_option maxRecDepth 100000 in
theorem t_TS_epoch (l : Launch) (hl0 : l.stackTraces = false) (dC : Nat → ClassId) (dI : Nat → Nat → Nat) (aS aT : Nat) (cS cT : Cell) (h0 : Nat) (q : Nat → Nat) (ci : Nat → ClassId) : tx_Met l y_TS_epoch w_TS_epoch ({ frames := 6, cells := 1, slots := 6, locals := 120 }) (va_Pc [.ref h0] (fun U => va_P (dC, dI) gx_cl (wTS h0 q ci) U.heap ∧ va_K (dC, dI) gx_cl (kTS ci) U ∧ jx aS aT cS cT U)) "java/lang/IllegalStateException" 1 6 := by
  refine tx_ofW (cc := b_TS_epoch) (maxL := 1) (ret := (some .int)) (by decide) rfl ?_
  intro p e s m args below meth c s₁ B hml hv
  obtain ⟨rfl, hP, hK, hJ⟩ := hv
  have hx := B.exec
  have hb := B.bytes
  have hr := B.returns
  have hts := atoms_spec (ws := w_TS_epoch) B.pre
  have hB : ∀ w ∈ gx_B, w.before _ s = true := fun w h => hts w (List.mem_cons_of_mem _ h)
  have hown : s.vm.findClass "TapeSealer" = some m.cls := findClass_of_methodNamed B.named
  have hlocks := B.notSynchronized
  have hl := lv_entry ([.ref h0]) (n := 1) (Nat.le_of_ble_eq_true rfl)
  rw [lg_entry_eq]
  generalize (lg_sl ([.ref h0]) ++ List.replicate (1 - (lg_sl ([.ref h0])).length) Slot.unset).toArray = ls at hl ⊢
  have hl : lv_has ls 1 [(0, .ref h0)] := hl
  refine lv_aload_n hx hb d_TS_epoch_0 rfl (lv_at hl 0 rfl) ?_
  refine va_get (D := (dC, dI)) (ci := 8) (v := .int 0) (C := RTS) (T := FTS) (N := 15) hx hb hB in_TS hown hK hP 0 rfl rfl 11 (by decide) (hB _ hw_318) (fun _ h9 => h9) rfl d_TS_epoch_1 ?_
  refine lv_bipush (v := 32) hx hb d_TS_epoch_4 (by decide) ?_
  refine lv_icmp_ne (tgt := 31) hx hb d_TS_epoch_6 (by decide) (fun _ => ?_) (fun h9 => absurd h9 (by decide))
  refine W.eq (g2 := F0 m 31 ls []) rfl ?_
  exact tx_throw (own := "TapeSealer") (cls := "java/lang/IllegalStateException") (names := own_n) hx hb hl0 hown (by decide +kernel) (by decide +kernel) (hB _ hw_470) (hB _ hw_79) (hJ.own hB own_ISE own_ISEk) (hl.1.trans hml.symm) d_TS_epoch_31 d_TS_epoch_34 d_TS_epoch_35 d_TS_epoch_38 (tx_none (B.noHandlers (hts _ List.mem_cons_self)) _) (Nat.le_of_ble_eq_true rfl) (Nat.le_of_ble_eq_true rfl) (Nat.le_of_ble_eq_true rfl) (Nat.le_of_ble_eq_true rfl) hlocks (Nat.le_of_ble_eq_true rfl) (Nat.le_of_ble_eq_true rfl)
set_option maxHeartbeats 4000000 in
set_option maxRecDepth 100000 in
theorem t_TS_create (l : Launch) (hl0 : l.stackTraces = false) (dC : Nat → ClassId) (dI : Nat → Nat → Nat) (aS aT : Nat) (cS cT : Cell) (h0 : Nat) (q : Nat → Nat) (ci : Nat → ClassId) (p0 : Int32) : tx_Met l y_TS_create w_TS_create ({ frames := 6, cells := 1, slots := 6, locals := 120 }) (va_Pc [.ref h0, .int p0] (fun U => va_P (dC, dI) gx_cl (wTS h0 q ci) U.heap ∧ va_K (dC, dI) gx_cl (kTS ci) U ∧ jx aS aT cS cT U)) "java/lang/IllegalStateException" 1 6 := by
  refine tx_ofW (cc := b_TS_create) (maxL := 3) (ret := (some .int)) (by decide) rfl ?_
  intro p e s m args below meth c s₁ B hml hv
  obtain ⟨rfl, hP, hK, hJ⟩ := hv
  have hx := B.exec
  have hb := B.bytes
  have hr := B.returns
  have hts := atoms_spec (ws := w_TS_create) B.pre
  have hB : ∀ w ∈ gx_B, w.before _ s = true := fun w h => hts w (List.mem_cons_of_mem _ h)
  have hown : s.vm.findClass "TapeSealer" = some m.cls := findClass_of_methodNamed B.named
  have hlocks := B.notSynchronized
  have hl := lv_entry ([.ref h0, .int p0]) (n := 3) (Nat.le_of_ble_eq_true rfl)
  rw [lg_entry_eq]
  generalize (lg_sl ([.ref h0, .int p0]) ++ List.replicate (3 - (lg_sl ([.ref h0, .int p0])).length) Slot.unset).toArray = ls at hl ⊢
  have hl : lv_has ls 3 [(0, .ref h0), (1, .int p0)] := hl
  refine lv_aload_n hx hb d_TS_create_0 rfl (lv_at hl 0 rfl) ?_
  refine px_go (va_runV (C := "TapeSealer") (As := []) (rest := []) ⟨hx, hb, hml, hown, hts⟩ (p_TS_lookAtHeaders l dC dI h0 q ci) (cwV 0 hts (gx_goodV hw_361 hw_363 hw_0 hw_66 k_TS_lookAtHeaders) rfl rfl rfl (by decide +kernel) ⟨(Nat.le_of_ble_eq_true rfl), (Nat.le_of_ble_eq_true rfl)⟩) ⟨fun a U g mk q => by obtain ⟨q0, qP, qK⟩ := q; exact ⟨q0, qP, va_K.moved (u := U) (U := U.calling g mk a) (Vm.Alike.refl U.vm) qK⟩, va_recv hK hP rfl (q0 := 0) rfl, fun U hU hW => ⟨rfl, by rw [hU]; exact hP, va_K.moved hW.alike (hK)⟩⟩ rfl rfl hl.1 rfl (lv_room (Nat.le_of_ble_eq_true rfl)) d_TS_create_1 ⟨(Nat.le_of_ble_eq_true rfl), (Nat.le_of_ble_eq_true rfl)⟩) ?_
  refine W.eq (g2 := F0 m 4 ls []) rfl ?_
  refine lv_aload_n hx hb d_TS_create_4 rfl (lv_at hl 0 rfl) ?_
  refine px_go (va_runV (C := "TapeSealer") (As := []) (rest := []) ⟨hx, hb, hml, hown, hts⟩ (p_TS_leastMissing l dC dI h0 q ci) (cwV 0 hts (gx_goodV hw_547 hw_549 hw_12 hw_66 k_TS_leastMissing) rfl rfl rfl (by decide +kernel) ⟨(Nat.le_of_ble_eq_true rfl), (Nat.le_of_ble_eq_true rfl)⟩) ⟨fun a U g mk q => by obtain ⟨q0, qP, qK⟩ := q; exact ⟨q0, qP, va_K.moved (u := U) (U := U.calling g mk a) (Vm.Alike.refl U.vm) qK⟩, va_recv hK hP rfl (q0 := 0) rfl, fun U hU hW => ⟨rfl, by rw [hU]; exact hP, va_K.moved hW.alike (hK)⟩⟩ rfl rfl hl.1 rfl (lv_room (Nat.le_of_ble_eq_true rfl)) d_TS_create_5 ⟨(Nat.le_of_ble_eq_true rfl), (Nat.le_of_ble_eq_true rfl)⟩) ?_
  refine W.eq (g2 := F0 m 8 ls [.int 0]) rfl ?_
  refine lv_istore_n hx hb d_TS_create_8 rfl hl (by decide) rfl (fun ls hl => ?_)
  have hl : lv_has ls 3 [(2, .int 0), (0, .ref h0), (1, .int p0)] := hl
  refine lv_aload_n hx hb d_TS_create_9 rfl (lv_at hl 1 rfl) ?_
  refine va_get (D := (dC, dI)) (ci := 8) (v := .ref (q 3)) (C := RTS) (T := FTS) (N := 15) hx hb hB in_TS hown hK hP 0 rfl rfl 1 (by decide) (hB _ hw_308) (fun _ h9 => h9) rfl d_TS_create_10 ?_
  refine va_get (D := (dC, dI)) (ci := 3) (v := .int 0) (C := REp) (T := FEp) (N := 3) hx hb hB in_Ep hown hK hP 4 rfl rfl 2 (by decide) (hB _ hw_144) (fun _ h9 => h9) rfl d_TS_create_13 ?_
  refine lv_if_eq (tgt := 45) hx hb d_TS_create_16 (by decide) (fun _ => ?_) (fun h9 => absurd (by decide) h9)
  refine W.eq (g2 := F0 m 45 ls []) rfl ?_
  exact tx_throw (own := "TapeSealer") (cls := "java/lang/IllegalStateException") (names := own_n) hx hb hl0 hown (by decide +kernel) (by decide +kernel) (hB _ hw_470) (hB _ hw_79) (hJ.own hB own_ISE own_ISEk) (hl.1.trans hml.symm) d_TS_create_45 d_TS_create_48 d_TS_create_49 d_TS_create_52 (tx_none (B.noHandlers (hts _ List.mem_cons_self)) _) (Nat.le_of_ble_eq_true rfl) (Nat.le_of_ble_eq_true rfl) (Nat.le_of_ble_eq_true rfl) (Nat.le_of_ble_eq_true rfl) hlocks (Nat.le_of_ble_eq_true rfl) (Nat.le_of_ble_eq_true rfl)
set_option maxHeartbeats 4000000 in
set_option maxRecDepth 100000 in
theorem t_TS_append (l : Launch) (hl0 : l.stackTraces = false) (dC : Nat → ClassId) (dI : Nat → Nat → Nat) (aS aT : Nat) (cS cT : Cell) (h0 : Nat) (q : Nat → Nat) (ci : Nat → ClassId) : tx_Met l y_TS_append w_TS_append ({ frames := 6, cells := 1, slots := 6, locals := 120 }) (va_Pc [.ref h0] (fun U => va_P (dC, dI) gx_cl (wTS h0 q ci) U.heap ∧ va_K (dC, dI) gx_cl (kTS ci) U ∧ jx aS aT cS cT U)) "java/lang/IllegalStateException" 1 6 := by
  refine tx_ofW (cc := b_TS_append) (maxL := 2) (ret := (some .int)) (by decide) rfl ?_
  intro p e s m args below meth c s₁ B hml hv
  obtain ⟨rfl, hP, hK, hJ⟩ := hv
  have hx := B.exec
  have hb := B.bytes
  have hr := B.returns
  have hts := atoms_spec (ws := w_TS_append) B.pre
  have hB : ∀ w ∈ gx_B, w.before _ s = true := fun w h => hts w (List.mem_cons_of_mem _ h)
  have hown : s.vm.findClass "TapeSealer" = some m.cls := findClass_of_methodNamed B.named
  have hlocks := B.notSynchronized
  have hl := lv_entry ([.ref h0]) (n := 2) (Nat.le_of_ble_eq_true rfl)
  rw [lg_entry_eq]
  generalize (lg_sl ([.ref h0]) ++ List.replicate (2 - (lg_sl ([.ref h0])).length) Slot.unset).toArray = ls at hl ⊢
  have hl : lv_has ls 2 [(0, .ref h0)] := hl
  refine lv_aload_n hx hb d_TS_append_0 rfl (lv_at hl 0 rfl) ?_
  refine px_go (va_runV (C := "TapeSealer") (As := []) (rest := []) ⟨hx, hb, hml, hown, hts⟩ (p_TS_lookAtHeaders l dC dI h0 q ci) (cwV 0 hts (gx_goodV hw_361 hw_363 hw_0 hw_66 k_TS_lookAtHeaders) rfl rfl rfl (by decide +kernel) ⟨(Nat.le_of_ble_eq_true rfl), (Nat.le_of_ble_eq_true rfl)⟩) ⟨fun a U g mk q => by obtain ⟨q0, qP, qK⟩ := q; exact ⟨q0, qP, va_K.moved (u := U) (U := U.calling g mk a) (Vm.Alike.refl U.vm) qK⟩, va_recv hK hP rfl (q0 := 0) rfl, fun U hU hW => ⟨rfl, by rw [hU]; exact hP, va_K.moved hW.alike (hK)⟩⟩ rfl rfl hl.1 rfl (lv_room (Nat.le_of_ble_eq_true rfl)) d_TS_append_1 ⟨(Nat.le_of_ble_eq_true rfl), (Nat.le_of_ble_eq_true rfl)⟩) ?_
  refine W.eq (g2 := F0 m 4 ls []) rfl ?_
  refine lv_aload_n hx hb d_TS_append_4 rfl (lv_at hl 0 rfl) ?_
  refine va_get (D := (dC, dI)) (ci := 8) (v := .ref (q 15)) (C := RTS) (T := FTS) (N := 15) hx hb hB in_TS hown hK hP 0 rfl rfl 9 (by decide) (hB _ hw_316) (fun _ h9 => h9) rfl d_TS_append_5 ?_
  refine va_get (D := (dC, dI)) (ci := 2) (v := .int 0) (C := RDr) (T := FDr) (N := 4) hx hb hB in_Dr hown hK hP 10 rfl rfl 3 (by decide) (hB _ hw_297) (fun _ h9 => h9) rfl d_TS_append_8 ?_
  refine lv_aload_n hx hb d_TS_append_11 rfl (lv_at hl 0 rfl) ?_
  refine va_get (D := (dC, dI)) (ci := 8) (v := .int 0) (C := RTS) (T := FTS) (N := 15) hx hb hB in_TS hown hK hP 0 rfl rfl 11 (by decide) (hB _ hw_318) (fun _ h9 => h9) rfl d_TS_append_12 ?_
  refine lv_iadd hx hb d_TS_append_15 ?_
  refine lv_topi (fun z1 z1_e => ?_)
  obtain rfl : z1 = 0 := z1_e.trans (by decide)
  refine lv_istore_n hx hb d_TS_append_16 rfl hl (by decide) rfl (fun ls hl => ?_)
  have hl : lv_has ls 2 [(1, .int 0), (0, .ref h0)] := hl
  refine lv_aload_n hx hb d_TS_append_17 rfl (lv_at hl 1 rfl) ?_
  refine va_get (D := (dC, dI)) (ci := 8) (v := .ref (q 15)) (C := RTS) (T := FTS) (N := 15) hx hb hB in_TS hown hK hP 0 rfl rfl 9 (by decide) (hB _ hw_316) (fun _ h9 => h9) rfl d_TS_append_18 ?_
  refine va_get (D := (dC, dI)) (ci := 2) (v := .int (-1)) (C := RDr) (T := FDr) (N := 4) hx hb hB in_Dr hown hK hP 10 rfl rfl 1 (by decide) (hB _ hw_295) (fun _ h9 => h9) rfl d_TS_append_21 ?_
  refine lv_iconst (v := (-1)) hx hb d_TS_append_24 (by decide) ?_
  refine lv_icmp_eq (tgt := 57) hx hb d_TS_append_25 (by decide) (fun _ => ?_) (fun h9 => absurd (by decide) h9)
  refine W.eq (g2 := F0 m 57 ls []) rfl ?_
  exact tx_throw (own := "TapeSealer") (cls := "java/lang/IllegalStateException") (names := own_n) hx hb hl0 hown (by decide +kernel) (by decide +kernel) (hB _ hw_470) (hB _ hw_79) (hJ.own hB own_ISE own_ISEk) (hl.1.trans hml.symm) d_TS_append_57 d_TS_append_60 d_TS_append_61 d_TS_append_64 (tx_none (B.noHandlers (hts _ List.mem_cons_self)) _) (Nat.le_of_ble_eq_true rfl) (Nat.le_of_ble_eq_true rfl) (Nat.le_of_ble_eq_true rfl) (Nat.le_of_ble_eq_true rfl) hlocks (Nat.le_of_ble_eq_true rfl) (Nat.le_of_ble_eq_true rfl)
set_option maxHeartbeats 4000000 in
set_option maxRecDepth 100000 in
theorem t_TS_finish (l : Launch) (hl0 : l.stackTraces = false) (dC : Nat → ClassId) (dI : Nat → Nat → Nat) (aS aT : Nat) (cS cT : Cell) (h0 : Nat) (q : Nat → Nat) (ci : Nat → ClassId) : tx_Met l y_TS_finish w_TS_finish ({ frames := 6, cells := 1, slots := 6, locals := 120 }) (va_Pc [.ref h0] (fun U => va_P (dC, dI) gx_cl (wTS h0 q ci) U.heap ∧ va_K (dC, dI) gx_cl (kTS ci) U ∧ jx aS aT cS cT U)) "java/lang/IllegalStateException" 1 6 := by
  refine tx_ofW (cc := b_TS_finish) (maxL := 3) (ret := (some .int)) (by decide) rfl ?_
  intro p e s m args below meth c s₁ B hml hv
  obtain ⟨rfl, hP, hK, hJ⟩ := hv
  have hx := B.exec
  have hb := B.bytes
  have hr := B.returns
  have hts := atoms_spec (ws := w_TS_finish) B.pre
  have hB : ∀ w ∈ gx_B, w.before _ s = true := fun w h => hts w (List.mem_cons_of_mem _ h)
  have hown : s.vm.findClass "TapeSealer" = some m.cls := findClass_of_methodNamed B.named
  have hlocks := B.notSynchronized
  have hl := lv_entry ([.ref h0]) (n := 3) (Nat.le_of_ble_eq_true rfl)
  rw [lg_entry_eq]
  generalize (lg_sl ([.ref h0]) ++ List.replicate (3 - (lg_sl ([.ref h0])).length) Slot.unset).toArray = ls at hl ⊢
  have hl : lv_has ls 3 [(0, .ref h0)] := hl
  refine lv_aload_n hx hb d_TS_finish_0 rfl (lv_at hl 0 rfl) ?_
  refine va_get (D := (dC, dI)) (ci := 8) (v := .ref (q 15)) (C := RTS) (T := FTS) (N := 15) hx hb hB in_TS hown hK hP 0 rfl rfl 9 (by decide) (hB _ hw_316) (fun _ h9 => h9) rfl d_TS_finish_1 ?_
  refine va_get (D := (dC, dI)) (ci := 2) (v := .int (-1)) (C := RDr) (T := FDr) (N := 4) hx hb hB in_Dr hown hK hP 10 rfl rfl 1 (by decide) (hB _ hw_295) (fun _ h9 => h9) rfl d_TS_finish_4 ?_
  refine lv_iconst (v := (-1)) hx hb d_TS_finish_7 (by decide) ?_
  refine lv_icmp_eq (tgt := 21) hx hb d_TS_finish_8 (by decide) (fun _ => ?_) (fun h9 => absurd (by decide) h9)
  refine W.eq (g2 := F0 m 21 ls []) rfl ?_
  exact tx_throw (own := "TapeSealer") (cls := "java/lang/IllegalStateException") (names := own_n) hx hb hl0 hown (by decide +kernel) (by decide +kernel) (hB _ hw_470) (hB _ hw_79) (hJ.own hB own_ISE own_ISEk) (hl.1.trans hml.symm) d_TS_finish_21 d_TS_finish_24 d_TS_finish_25 d_TS_finish_28 (tx_none (B.noHandlers (hts _ List.mem_cons_self)) _) (Nat.le_of_ble_eq_true rfl) (Nat.le_of_ble_eq_true rfl) (Nat.le_of_ble_eq_true rfl) (Nat.le_of_ble_eq_true rfl) hlocks (Nat.le_of_ble_eq_true rfl) (Nat.le_of_ble_eq_true rfl)
set_option maxHeartbeats 4000000 in
set_option maxRecDepth 100000 in
theorem t_TS_read (l : Launch) (hl0 : l.stackTraces = false) (dC : Nat → ClassId) (dI : Nat → Nat → Nat) (aS aT : Nat) (cS cT : Cell) (h0 : Nat) (q : Nat → Nat) (ci : Nat → ClassId) (p0 p1 p2 : Int32) : tx_Met l y_TS_read w_TS_read ({ frames := 6, cells := 1, slots := 6, locals := 120 }) (va_Pc [.ref h0, .int p0, .int p1, .int p2] (fun U => va_P (dC, dI) gx_cl (wTS h0 q ci) U.heap ∧ va_K (dC, dI) gx_cl (kTS ci) U ∧ jx aS aT cS cT U)) "java/util/NoSuchElementException" 1 6 := by
  refine tx_ofW (cc := b_TS_read) (maxL := 7) (ret := (some .int)) (by decide) rfl ?_
  intro p e s m args below meth c s₁ B hml hv
  obtain ⟨rfl, hP, hK, hJ⟩ := hv
  have hx := B.exec
  have hb := B.bytes
  have hr := B.returns
  have hts := atoms_spec (ws := w_TS_read) B.pre
  have hB : ∀ w ∈ gx_B, w.before _ s = true := fun w h => hts w (List.mem_cons_of_mem _ h)
  have hown : s.vm.findClass "TapeSealer" = some m.cls := findClass_of_methodNamed B.named
  have hlocks := B.notSynchronized
  have hl := lv_entry ([.ref h0, .int p0, .int p1, .int p2]) (n := 7) (Nat.le_of_ble_eq_true rfl)
  rw [lg_entry_eq]
  generalize (lg_sl ([.ref h0, .int p0, .int p1, .int p2]) ++ List.replicate (7 - (lg_sl ([.ref h0, .int p0, .int p1, .int p2])).length) Slot.unset).toArray = ls at hl ⊢
  have hl : lv_has ls 7 [(0, .ref h0), (1, .int p0), (2, .int p1), (3, .int p2)] := hl
  refine lv_aload_n hx hb d_TS_read_0 rfl (lv_at hl 0 rfl) ?_
  refine px_go (va_runV (C := "TapeSealer") (As := []) (rest := []) ⟨hx, hb, hml, hown, hts⟩ (p_TS_lookAtHeaders l dC dI h0 q ci) (cwV 0 hts (gx_goodV hw_361 hw_363 hw_0 hw_66 k_TS_lookAtHeaders) rfl rfl rfl (by decide +kernel) ⟨(Nat.le_of_ble_eq_true rfl), (Nat.le_of_ble_eq_true rfl)⟩) ⟨fun a U g mk q => by obtain ⟨q0, qP, qK⟩ := q; exact ⟨q0, qP, va_K.moved (u := U) (U := U.calling g mk a) (Vm.Alike.refl U.vm) qK⟩, va_recv hK hP rfl (q0 := 0) rfl, fun U hU hW => ⟨rfl, by rw [hU]; exact hP, va_K.moved hW.alike (hK)⟩⟩ rfl rfl hl.1 rfl (lv_room (Nat.le_of_ble_eq_true rfl)) d_TS_read_1 ⟨(Nat.le_of_ble_eq_true rfl), (Nat.le_of_ble_eq_true rfl)⟩) ?_
  refine W.eq (g2 := F0 m 4 ls []) rfl ?_
  refine lv_aload_n hx hb d_TS_read_4 rfl (lv_at hl 0 rfl) ?_
  refine lv_iload_n hx hb d_TS_read_5 rfl (lv_at hl 1 rfl) ?_
  refine px_go (va_runV (C := "TapeSealer") (As := [.int p0]) (rest := []) ⟨hx, hb, hml, hown, hts⟩ (p_TS_exists l dC dI h0 q ci p0) (cwV 1 hts (gx_goodV hw_664 hw_666 hw_22 hw_66 k_TS_exists) rfl rfl rfl (by decide +kernel) ⟨(Nat.le_of_ble_eq_true rfl), (Nat.le_of_ble_eq_true rfl)⟩) ⟨fun a U g mk q => by obtain ⟨q0, qP, qK⟩ := q; exact ⟨q0, qP, va_K.moved (u := U) (U := U.calling g mk a) (Vm.Alike.refl U.vm) qK⟩, va_recv hK hP rfl (q0 := 0) rfl, fun U hU hW => ⟨rfl, by rw [hU]; exact hP, va_K.moved hW.alike (hK)⟩⟩ rfl rfl hl.1 rfl (lv_room (Nat.le_of_ble_eq_true rfl)) d_TS_read_6 ⟨(Nat.le_of_ble_eq_true rfl), (Nat.le_of_ble_eq_true rfl)⟩) ?_
  refine W.eq (g2 := F0 m 9 ls [.int 0]) rfl ?_
  refine lv_if_ne (tgt := 20) hx hb d_TS_read_9 (by decide) (fun h9 => absurd (by decide) h9) (fun _ => ?_)
  refine W.eq (g2 := F0 m 12 ls []) rfl ?_
  exact tx_throw (own := "TapeSealer") (cls := "java/util/NoSuchElementException") (names := own_n) hx hb hl0 hown (by decide +kernel) (by decide +kernel) (hB _ hw_668) (hB _ hw_84) (hJ.own hB own_NSE own_NSEk) (hl.1.trans hml.symm) d_TS_read_12 d_TS_read_15 d_TS_read_16 d_TS_read_19 (tx_none (B.noHandlers (hts _ List.mem_cons_self)) _) (Nat.le_of_ble_eq_true rfl) (Nat.le_of_ble_eq_true rfl) (Nat.le_of_ble_eq_true rfl) (Nat.le_of_ble_eq_true rfl) hlocks (Nat.le_of_ble_eq_true rfl) (Nat.le_of_ble_eq_true rfl)
set_option maxHeartbeats 4000000 in
set_option maxRecDepth 100000 in
theorem t_TS_output (l : Launch) (hl0 : l.stackTraces = false) (dC : Nat → ClassId) (dI : Nat → Nat → Nat) (aS aT : Nat) (cS cT : Cell) (h0 : Nat) (q : Nat → Nat) (ci : Nat → ClassId) (p0 : Int32) : tx_Met l y_TS_output w_TS_output ({ frames := 6, cells := 1, slots := 6, locals := 120 }) (va_Pc [.ref h0, .int p0] (fun U => va_P (dC, dI) gx_cl (wTS h0 q ci) U.heap ∧ va_K (dC, dI) gx_cl (kTS ci) U ∧ jx aS aT cS cT U)) "java/lang/IndexOutOfBoundsException" 1 6 := by
  refine tx_ofW (cc := b_TS_output) (maxL := 2) (ret := (some .int)) (by decide) rfl ?_
  intro p e s m args below meth c s₁ B hml hv
  obtain ⟨rfl, hP, hK, hJ⟩ := hv
  have hx := B.exec
  have hb := B.bytes
  have hr := B.returns
  have hts := atoms_spec (ws := w_TS_output) B.pre
  have hB : ∀ w ∈ gx_B, w.before _ s = true := fun w h => hts w (List.mem_cons_of_mem _ h)
  have hown : s.vm.findClass "TapeSealer" = some m.cls := findClass_of_methodNamed B.named
  have hlocks := B.notSynchronized
  have hl := lv_entry ([.ref h0, .int p0]) (n := 2) (Nat.le_of_ble_eq_true rfl)
  rw [lg_entry_eq]
  generalize (lg_sl ([.ref h0, .int p0]) ++ List.replicate (2 - (lg_sl ([.ref h0, .int p0])).length) Slot.unset).toArray = ls at hl ⊢
  have hl : lv_has ls 2 [(0, .ref h0), (1, .int p0)] := hl
  by_cases hi : p0 < 0
  · refine lv_iload_n hx hb d_TS_output_0 rfl (lv_at hl 1 rfl) ?_
    refine lv_if_lt (tgt := 12) hx hb d_TS_output_1 (by decide) (fun _ => ?_) (fun h9 => absurd hi h9)
    refine W.eq (g2 := F0 m 12 ls []) rfl ?_
    exact tx_throw (own := "TapeSealer") (cls := "java/lang/IndexOutOfBoundsException") (names := own_n) hx hb hl0 hown (by decide +kernel) (by decide +kernel) (hB _ hw_766) (hB _ hw_87) (hJ.own hB own_IOB own_IOBk) (hl.1.trans hml.symm) d_TS_output_12 d_TS_output_15 d_TS_output_16 d_TS_output_19 (tx_none (B.noHandlers (hts _ List.mem_cons_self)) _) (Nat.le_of_ble_eq_true rfl) (Nat.le_of_ble_eq_true rfl) (Nat.le_of_ble_eq_true rfl) (Nat.le_of_ble_eq_true rfl) hlocks (Nat.le_of_ble_eq_true rfl) (Nat.le_of_ble_eq_true rfl)
  · refine lv_iload_n hx hb d_TS_output_0 rfl (lv_at hl 1 rfl) ?_
    refine lv_if_lt (tgt := 12) hx hb d_TS_output_1 (by decide) (fun h9 => absurd h9 hi) (fun _ => ?_)
    refine lv_iload_n hx hb d_TS_output_4 rfl (lv_at hl 1 rfl) ?_
    refine lv_aload_n hx hb d_TS_output_5 rfl (lv_at hl 0 rfl) ?_
    refine va_get (D := (dC, dI)) (ci := 8) (v := .int 0) (C := RTS) (T := FTS) (N := 15) hx hb hB in_TS hown hK hP 0 rfl rfl 14 (by decide) (hB _ hw_321) (fun _ h9 => h9) rfl d_TS_output_6 ?_
    refine lv_icmp_lt (tgt := 20) hx hb d_TS_output_9 (by decide) (fun h9 => absurd h9 hi) (fun _ => ?_)
    refine W.eq (g2 := F0 m 12 ls []) rfl ?_
    exact tx_throw (own := "TapeSealer") (cls := "java/lang/IndexOutOfBoundsException") (names := own_n) hx hb hl0 hown (by decide +kernel) (by decide +kernel) (hB _ hw_766) (hB _ hw_87) (hJ.own hB own_IOB own_IOBk) (hl.1.trans hml.symm) d_TS_output_12 d_TS_output_15 d_TS_output_16 d_TS_output_19 (tx_none (B.noHandlers (hts _ List.mem_cons_self)) _) (Nat.le_of_ble_eq_true rfl) (Nat.le_of_ble_eq_true rfl) (Nat.le_of_ble_eq_true rfl) (Nat.le_of_ble_eq_true rfl) hlocks (Nat.le_of_ble_eq_true rfl) (Nat.le_of_ble_eq_true rfl)
set_option maxHeartbeats 4000000 in
set_option maxRecDepth 100000 in
theorem t_TS_verify (l : Launch) (hl0 : l.stackTraces = false) (dC : Nat → ClassId) (dI : Nat → Nat → Nat) (aS aT : Nat) (cS cT : Cell) (h0 : Nat) (q : Nat → Nat) (ci : Nat → ClassId) (p0 : Int32) : tx_Met l y_TS_verify w_TS_verify ({ frames := 6, cells := 1, slots := 6, locals := 120 }) (va_Pc [.ref h0, .int p0] (fun U => va_P (dC, dI) gx_cl (wTS h0 q ci) U.heap ∧ va_K (dC, dI) gx_cl (kTS ci) U ∧ jx aS aT cS cT U)) "java/util/NoSuchElementException" 1 6 := by
  refine tx_ofW (cc := b_TS_verify) (maxL := 5) (ret := (some .int)) (by decide) rfl ?_
  intro p e s m args below meth c s₁ B hml hv
  obtain ⟨rfl, hP, hK, hJ⟩ := hv
  have hx := B.exec
  have hb := B.bytes
  have hr := B.returns
  have hts := atoms_spec (ws := w_TS_verify) B.pre
  have hB : ∀ w ∈ gx_B, w.before _ s = true := fun w h => hts w (List.mem_cons_of_mem _ h)
  have hown : s.vm.findClass "TapeSealer" = some m.cls := findClass_of_methodNamed B.named
  have hlocks := B.notSynchronized
  have hl := lv_entry ([.ref h0, .int p0]) (n := 5) (Nat.le_of_ble_eq_true rfl)
  rw [lg_entry_eq]
  generalize (lg_sl ([.ref h0, .int p0]) ++ List.replicate (5 - (lg_sl ([.ref h0, .int p0])).length) Slot.unset).toArray = ls at hl ⊢
  have hl : lv_has ls 5 [(0, .ref h0), (1, .int p0)] := hl
  refine lv_aload_n hx hb d_TS_verify_0 rfl (lv_at hl 0 rfl) ?_
  refine px_go (va_runV (C := "TapeSealer") (As := []) (rest := []) ⟨hx, hb, hml, hown, hts⟩ (p_TS_lookAtHeaders l dC dI h0 q ci) (cwV 0 hts (gx_goodV hw_361 hw_363 hw_0 hw_66 k_TS_lookAtHeaders) rfl rfl rfl (by decide +kernel) ⟨(Nat.le_of_ble_eq_true rfl), (Nat.le_of_ble_eq_true rfl)⟩) ⟨fun a U g mk q => by obtain ⟨q0, qP, qK⟩ := q; exact ⟨q0, qP, va_K.moved (u := U) (U := U.calling g mk a) (Vm.Alike.refl U.vm) qK⟩, va_recv hK hP rfl (q0 := 0) rfl, fun U hU hW => ⟨rfl, by rw [hU]; exact hP, va_K.moved hW.alike (hK)⟩⟩ rfl rfl hl.1 rfl (lv_room (Nat.le_of_ble_eq_true rfl)) d_TS_verify_1 ⟨(Nat.le_of_ble_eq_true rfl), (Nat.le_of_ble_eq_true rfl)⟩) ?_
  refine W.eq (g2 := F0 m 4 ls []) rfl ?_
  refine lv_aload_n hx hb d_TS_verify_4 rfl (lv_at hl 0 rfl) ?_
  refine lv_iload_n hx hb d_TS_verify_5 rfl (lv_at hl 1 rfl) ?_
  refine px_go (va_runV (C := "TapeSealer") (As := [.int p0]) (rest := []) ⟨hx, hb, hml, hown, hts⟩ (p_TS_exists l dC dI h0 q ci p0) (cwV 1 hts (gx_goodV hw_664 hw_666 hw_22 hw_66 k_TS_exists) rfl rfl rfl (by decide +kernel) ⟨(Nat.le_of_ble_eq_true rfl), (Nat.le_of_ble_eq_true rfl)⟩) ⟨fun a U g mk q => by obtain ⟨q0, qP, qK⟩ := q; exact ⟨q0, qP, va_K.moved (u := U) (U := U.calling g mk a) (Vm.Alike.refl U.vm) qK⟩, va_recv hK hP rfl (q0 := 0) rfl, fun U hU hW => ⟨rfl, by rw [hU]; exact hP, va_K.moved hW.alike (hK)⟩⟩ rfl rfl hl.1 rfl (lv_room (Nat.le_of_ble_eq_true rfl)) d_TS_verify_6 ⟨(Nat.le_of_ble_eq_true rfl), (Nat.le_of_ble_eq_true rfl)⟩) ?_
  refine W.eq (g2 := F0 m 9 ls [.int 0]) rfl ?_
  refine lv_if_ne (tgt := 20) hx hb d_TS_verify_9 (by decide) (fun h9 => absurd (by decide) h9) (fun _ => ?_)
  refine W.eq (g2 := F0 m 12 ls []) rfl ?_
  exact tx_throw (own := "TapeSealer") (cls := "java/util/NoSuchElementException") (names := own_n) hx hb hl0 hown (by decide +kernel) (by decide +kernel) (hB _ hw_668) (hB _ hw_84) (hJ.own hB own_NSE own_NSEk) (hl.1.trans hml.symm) d_TS_verify_12 d_TS_verify_15 d_TS_verify_16 d_TS_verify_19 (tx_none (B.noHandlers (hts _ List.mem_cons_self)) _) (Nat.le_of_ble_eq_true rfl) (Nat.le_of_ble_eq_true rfl) (Nat.le_of_ble_eq_true rfl) (Nat.le_of_ble_eq_true rfl) hlocks (Nat.le_of_ble_eq_true rfl) (Nat.le_of_ble_eq_true rfl)
set_option maxHeartbeats 4000000 in
set_option maxRecDepth 100000 in
theorem t_TS_rewrap (l : Launch) (hl0 : l.stackTraces = false) (dC : Nat → ClassId) (dI : Nat → Nat → Nat) (aS aT : Nat) (cS cT : Cell) (h0 : Nat) (q : Nat → Nat) (ci : Nat → ClassId) (p0 : Int32) : tx_Met l y_TS_rewrap w_TS_rewrap ({ frames := 6, cells := 1, slots := 6, locals := 120 }) (va_Pc [.ref h0, .int p0] (fun U => va_P (dC, dI) gx_cl (wTS h0 q ci) U.heap ∧ va_K (dC, dI) gx_cl (kTS ci) U ∧ jx aS aT cS cT U)) "java/util/NoSuchElementException" 1 6 := by
  refine tx_ofW (cc := b_TS_rewrap) (maxL := 3) (ret := (some .boolean)) (by decide) rfl ?_
  intro p e s m args below meth c s₁ B hml hv
  obtain ⟨rfl, hP, hK, hJ⟩ := hv
  have hx := B.exec
  have hb := B.bytes
  have hr := B.returns
  have hts := atoms_spec (ws := w_TS_rewrap) B.pre
  have hB : ∀ w ∈ gx_B, w.before _ s = true := fun w h => hts w (List.mem_cons_of_mem _ h)
  have hown : s.vm.findClass "TapeSealer" = some m.cls := findClass_of_methodNamed B.named
  have hlocks := B.notSynchronized
  have hl := lv_entry ([.ref h0, .int p0]) (n := 3) (Nat.le_of_ble_eq_true rfl)
  rw [lg_entry_eq]
  generalize (lg_sl ([.ref h0, .int p0]) ++ List.replicate (3 - (lg_sl ([.ref h0, .int p0])).length) Slot.unset).toArray = ls at hl ⊢
  have hl : lv_has ls 3 [(0, .ref h0), (1, .int p0)] := hl
  refine lv_aload_n hx hb d_TS_rewrap_0 rfl (lv_at hl 0 rfl) ?_
  refine px_go (va_runV (C := "TapeSealer") (As := []) (rest := []) ⟨hx, hb, hml, hown, hts⟩ (p_TS_lookAtHeaders l dC dI h0 q ci) (cwV 0 hts (gx_goodV hw_361 hw_363 hw_0 hw_66 k_TS_lookAtHeaders) rfl rfl rfl (by decide +kernel) ⟨(Nat.le_of_ble_eq_true rfl), (Nat.le_of_ble_eq_true rfl)⟩) ⟨fun a U g mk q => by obtain ⟨q0, qP, qK⟩ := q; exact ⟨q0, qP, va_K.moved (u := U) (U := U.calling g mk a) (Vm.Alike.refl U.vm) qK⟩, va_recv hK hP rfl (q0 := 0) rfl, fun U hU hW => ⟨rfl, by rw [hU]; exact hP, va_K.moved hW.alike (hK)⟩⟩ rfl rfl hl.1 rfl (lv_room (Nat.le_of_ble_eq_true rfl)) d_TS_rewrap_1 ⟨(Nat.le_of_ble_eq_true rfl), (Nat.le_of_ble_eq_true rfl)⟩) ?_
  refine W.eq (g2 := F0 m 4 ls []) rfl ?_
  refine lv_aload_n hx hb d_TS_rewrap_4 rfl (lv_at hl 0 rfl) ?_
  refine lv_iload_n hx hb d_TS_rewrap_5 rfl (lv_at hl 1 rfl) ?_
  refine px_go (va_runV (C := "TapeSealer") (As := [.int p0]) (rest := []) ⟨hx, hb, hml, hown, hts⟩ (p_TS_exists l dC dI h0 q ci p0) (cwV 1 hts (gx_goodV hw_664 hw_666 hw_22 hw_66 k_TS_exists) rfl rfl rfl (by decide +kernel) ⟨(Nat.le_of_ble_eq_true rfl), (Nat.le_of_ble_eq_true rfl)⟩) ⟨fun a U g mk q => by obtain ⟨q0, qP, qK⟩ := q; exact ⟨q0, qP, va_K.moved (u := U) (U := U.calling g mk a) (Vm.Alike.refl U.vm) qK⟩, va_recv hK hP rfl (q0 := 0) rfl, fun U hU hW => ⟨rfl, by rw [hU]; exact hP, va_K.moved hW.alike (hK)⟩⟩ rfl rfl hl.1 rfl (lv_room (Nat.le_of_ble_eq_true rfl)) d_TS_rewrap_6 ⟨(Nat.le_of_ble_eq_true rfl), (Nat.le_of_ble_eq_true rfl)⟩) ?_
  refine W.eq (g2 := F0 m 9 ls [.int 0]) rfl ?_
  refine lv_if_ne (tgt := 20) hx hb d_TS_rewrap_9 (by decide) (fun h9 => absurd (by decide) h9) (fun _ => ?_)
  refine W.eq (g2 := F0 m 12 ls []) rfl ?_
  exact tx_throw (own := "TapeSealer") (cls := "java/util/NoSuchElementException") (names := own_n) hx hb hl0 hown (by decide +kernel) (by decide +kernel) (hB _ hw_668) (hB _ hw_84) (hJ.own hB own_NSE own_NSEk) (hl.1.trans hml.symm) d_TS_rewrap_12 d_TS_rewrap_15 d_TS_rewrap_16 d_TS_rewrap_19 (tx_none (B.noHandlers (hts _ List.mem_cons_self)) _) (Nat.le_of_ble_eq_true rfl) (Nat.le_of_ble_eq_true rfl) (Nat.le_of_ble_eq_true rfl) (Nat.le_of_ble_eq_true rfl) hlocks (Nat.le_of_ble_eq_true rfl) (Nat.le_of_ble_eq_true rfl)
set_option maxHeartbeats 4000000 in
set_option maxRecDepth 100000 in
theorem t_TS_delete (l : Launch) (hl0 : l.stackTraces = false) (dC : Nat → ClassId) (dI : Nat → Nat → Nat) (aS aT : Nat) (cS cT : Cell) (h0 : Nat) (q : Nat → Nat) (ci : Nat → ClassId) (p0 : Int32) : tx_Met l y_TS_delete w_TS_delete ({ frames := 6, cells := 1, slots := 6, locals := 120 }) (va_Pc [.ref h0, .int p0] (fun U => va_P (dC, dI) gx_cl (wTS h0 q ci) U.heap ∧ va_K (dC, dI) gx_cl (kTS ci) U ∧ jx aS aT cS cT U)) "java/util/NoSuchElementException" 1 6 := by
  refine tx_ofW (cc := b_TS_delete) (maxL := 2) (ret := none) (by decide) rfl ?_
  intro p e s m args below meth c s₁ B hml hv
  obtain ⟨rfl, hP, hK, hJ⟩ := hv
  have hx := B.exec
  have hb := B.bytes
  have hr := B.returns
  have hts := atoms_spec (ws := w_TS_delete) B.pre
  have hB : ∀ w ∈ gx_B, w.before _ s = true := fun w h => hts w (List.mem_cons_of_mem _ h)
  have hown : s.vm.findClass "TapeSealer" = some m.cls := findClass_of_methodNamed B.named
  have hlocks := B.notSynchronized
  have hl := lv_entry ([.ref h0, .int p0]) (n := 2) (Nat.le_of_ble_eq_true rfl)
  rw [lg_entry_eq]
  generalize (lg_sl ([.ref h0, .int p0]) ++ List.replicate (2 - (lg_sl ([.ref h0, .int p0])).length) Slot.unset).toArray = ls at hl ⊢
  have hl : lv_has ls 2 [(0, .ref h0), (1, .int p0)] := hl
  refine lv_aload_n hx hb d_TS_delete_0 rfl (lv_at hl 0 rfl) ?_
  refine px_go (va_runV (C := "TapeSealer") (As := []) (rest := []) ⟨hx, hb, hml, hown, hts⟩ (p_TS_lookAtHeaders l dC dI h0 q ci) (cwV 0 hts (gx_goodV hw_361 hw_363 hw_0 hw_66 k_TS_lookAtHeaders) rfl rfl rfl (by decide +kernel) ⟨(Nat.le_of_ble_eq_true rfl), (Nat.le_of_ble_eq_true rfl)⟩) ⟨fun a U g mk q => by obtain ⟨q0, qP, qK⟩ := q; exact ⟨q0, qP, va_K.moved (u := U) (U := U.calling g mk a) (Vm.Alike.refl U.vm) qK⟩, va_recv hK hP rfl (q0 := 0) rfl, fun U hU hW => ⟨rfl, by rw [hU]; exact hP, va_K.moved hW.alike (hK)⟩⟩ rfl rfl hl.1 rfl (lv_room (Nat.le_of_ble_eq_true rfl)) d_TS_delete_1 ⟨(Nat.le_of_ble_eq_true rfl), (Nat.le_of_ble_eq_true rfl)⟩) ?_
  refine W.eq (g2 := F0 m 4 ls []) rfl ?_
  refine lv_aload_n hx hb d_TS_delete_4 rfl (lv_at hl 0 rfl) ?_
  refine lv_iload_n hx hb d_TS_delete_5 rfl (lv_at hl 1 rfl) ?_
  refine px_go (va_runV (C := "TapeSealer") (As := [.int p0]) (rest := []) ⟨hx, hb, hml, hown, hts⟩ (p_TS_exists l dC dI h0 q ci p0) (cwV 1 hts (gx_goodV hw_664 hw_666 hw_22 hw_66 k_TS_exists) rfl rfl rfl (by decide +kernel) ⟨(Nat.le_of_ble_eq_true rfl), (Nat.le_of_ble_eq_true rfl)⟩) ⟨fun a U g mk q => by obtain ⟨q0, qP, qK⟩ := q; exact ⟨q0, qP, va_K.moved (u := U) (U := U.calling g mk a) (Vm.Alike.refl U.vm) qK⟩, va_recv hK hP rfl (q0 := 0) rfl, fun U hU hW => ⟨rfl, by rw [hU]; exact hP, va_K.moved hW.alike (hK)⟩⟩ rfl rfl hl.1 rfl (lv_room (Nat.le_of_ble_eq_true rfl)) d_TS_delete_6 ⟨(Nat.le_of_ble_eq_true rfl), (Nat.le_of_ble_eq_true rfl)⟩) ?_
  refine W.eq (g2 := F0 m 9 ls [.int 0]) rfl ?_
  refine lv_if_ne (tgt := 20) hx hb d_TS_delete_9 (by decide) (fun h9 => absurd (by decide) h9) (fun _ => ?_)
  refine W.eq (g2 := F0 m 12 ls []) rfl ?_
  exact tx_throw (own := "TapeSealer") (cls := "java/util/NoSuchElementException") (names := own_n) hx hb hl0 hown (by decide +kernel) (by decide +kernel) (hB _ hw_668) (hB _ hw_84) (hJ.own hB own_NSE own_NSEk) (hl.1.trans hml.symm) d_TS_delete_12 d_TS_delete_15 d_TS_delete_16 d_TS_delete_19 (tx_none (B.noHandlers (hts _ List.mem_cons_self)) _) (Nat.le_of_ble_eq_true rfl) (Nat.le_of_ble_eq_true rfl) (Nat.le_of_ble_eq_true rfl) (Nat.le_of_ble_eq_true rfl) hlocks (Nat.le_of_ble_eq_true rfl) (Nat.le_of_ble_eq_true rfl)
set_option maxHeartbeats 4000000 in
set_option maxRecDepth 100000 in
theorem t_TS_file (l : Launch) (hl0 : l.stackTraces = false) (dC : Nat → ClassId) (dI : Nat → Nat → Nat) (aS aT : Nat) (cS cT : Cell) (h0 : Nat) (q : Nat → Nat) (ci : Nat → ClassId) (p0 p1 : Int32) : tx_Met l y_TS_file w_TS_file ({ frames := 6, cells := 1, slots := 6, locals := 120 }) (va_Pc [.ref h0, .int p0, .int p1] (fun U => va_P (dC, dI) gx_cl (wTS h0 q ci) U.heap ∧ va_K (dC, dI) gx_cl (kTS ci) U ∧ jx aS aT cS cT U)) "java/util/NoSuchElementException" 1 6 := by
  refine tx_ofW (cc := b_TS_file) (maxL := 4) (ret := (some .int)) (by decide) rfl ?_
  intro p e s m args below meth c s₁ B hml hv
  obtain ⟨rfl, hP, hK, hJ⟩ := hv
  have hx := B.exec
  have hb := B.bytes
  have hr := B.returns
  have hts := atoms_spec (ws := w_TS_file) B.pre
  have hB : ∀ w ∈ gx_B, w.before _ s = true := fun w h => hts w (List.mem_cons_of_mem _ h)
  have hown : s.vm.findClass "TapeSealer" = some m.cls := findClass_of_methodNamed B.named
  have hlocks := B.notSynchronized
  have hl := lv_entry ([.ref h0, .int p0, .int p1]) (n := 4) (Nat.le_of_ble_eq_true rfl)
  rw [lg_entry_eq]
  generalize (lg_sl ([.ref h0, .int p0, .int p1]) ++ List.replicate (4 - (lg_sl ([.ref h0, .int p0, .int p1])).length) Slot.unset).toArray = ls at hl ⊢
  have hl : lv_has ls 4 [(0, .ref h0), (1, .int p0), (2, .int p1)] := hl
  refine lv_aload_n hx hb d_TS_file_0 rfl (lv_at hl 0 rfl) ?_
  refine px_go (va_runV (C := "TapeSealer") (As := []) (rest := []) ⟨hx, hb, hml, hown, hts⟩ (p_TS_lookAtHeaders l dC dI h0 q ci) (cwV 0 hts (gx_goodV hw_361 hw_363 hw_0 hw_66 k_TS_lookAtHeaders) rfl rfl rfl (by decide +kernel) ⟨(Nat.le_of_ble_eq_true rfl), (Nat.le_of_ble_eq_true rfl)⟩) ⟨fun a U g mk q => by obtain ⟨q0, qP, qK⟩ := q; exact ⟨q0, qP, va_K.moved (u := U) (U := U.calling g mk a) (Vm.Alike.refl U.vm) qK⟩, va_recv hK hP rfl (q0 := 0) rfl, fun U hU hW => ⟨rfl, by rw [hU]; exact hP, va_K.moved hW.alike (hK)⟩⟩ rfl rfl hl.1 rfl (lv_room (Nat.le_of_ble_eq_true rfl)) d_TS_file_1 ⟨(Nat.le_of_ble_eq_true rfl), (Nat.le_of_ble_eq_true rfl)⟩) ?_
  refine W.eq (g2 := F0 m 4 ls []) rfl ?_
  refine lv_aload_n hx hb d_TS_file_4 rfl (lv_at hl 0 rfl) ?_
  refine lv_iload_n hx hb d_TS_file_5 rfl (lv_at hl 1 rfl) ?_
  refine px_go (va_runV (C := "TapeSealer") (As := [.int p0]) (rest := []) ⟨hx, hb, hml, hown, hts⟩ (p_TS_exists l dC dI h0 q ci p0) (cwV 1 hts (gx_goodV hw_664 hw_666 hw_22 hw_66 k_TS_exists) rfl rfl rfl (by decide +kernel) ⟨(Nat.le_of_ble_eq_true rfl), (Nat.le_of_ble_eq_true rfl)⟩) ⟨fun a U g mk q => by obtain ⟨q0, qP, qK⟩ := q; exact ⟨q0, qP, va_K.moved (u := U) (U := U.calling g mk a) (Vm.Alike.refl U.vm) qK⟩, va_recv hK hP rfl (q0 := 0) rfl, fun U hU hW => ⟨rfl, by rw [hU]; exact hP, va_K.moved hW.alike (hK)⟩⟩ rfl rfl hl.1 rfl (lv_room (Nat.le_of_ble_eq_true rfl)) d_TS_file_6 ⟨(Nat.le_of_ble_eq_true rfl), (Nat.le_of_ble_eq_true rfl)⟩) ?_
  refine W.eq (g2 := F0 m 9 ls [.int 0]) rfl ?_
  refine lv_if_ne (tgt := 20) hx hb d_TS_file_9 (by decide) (fun h9 => absurd (by decide) h9) (fun _ => ?_)
  refine W.eq (g2 := F0 m 12 ls []) rfl ?_
  exact tx_throw (own := "TapeSealer") (cls := "java/util/NoSuchElementException") (names := own_n) hx hb hl0 hown (by decide +kernel) (by decide +kernel) (hB _ hw_668) (hB _ hw_84) (hJ.own hB own_NSE own_NSEk) (hl.1.trans hml.symm) d_TS_file_12 d_TS_file_15 d_TS_file_16 d_TS_file_19 (tx_none (B.noHandlers (hts _ List.mem_cons_self)) _) (Nat.le_of_ble_eq_true rfl) (Nat.le_of_ble_eq_true rfl) (Nat.le_of_ble_eq_true rfl) (Nat.le_of_ble_eq_true rfl) hlocks (Nat.le_of_ble_eq_true rfl) (Nat.le_of_ble_eq_true rfl)
set_option maxHeartbeats 4000000 in
set_option maxRecDepth 100000 in
theorem t_TS_dropEpoch (l : Launch) (hl0 : l.stackTraces = false) (dC : Nat → ClassId) (dI : Nat → Nat → Nat) (aS aT : Nat) (cS cT : Cell) (h0 : Nat) (q : Nat → Nat) (ci : Nat → ClassId) (p0 : Int32) : tx_Met l y_TS_dropEpoch w_TS_dropEpoch ({ frames := 6, cells := 1, slots := 6, locals := 120 }) (va_Pc [.ref h0, .int p0] (fun U => va_P (dC, dI) gx_cl (wTS h0 q ci) U.heap ∧ va_K (dC, dI) gx_cl (kTS ci) U ∧ jx aS aT cS cT U)) "java/lang/IllegalArgumentException" 1 6 := by
  refine tx_ofW (cc := b_TS_dropEpoch) (maxL := 2) (ret := none) (by decide) rfl ?_
  intro p e s m args below meth c s₁ B hml hv
  obtain ⟨rfl, hP, hK, hJ⟩ := hv
  have hx := B.exec
  have hb := B.bytes
  have hr := B.returns
  have hts := atoms_spec (ws := w_TS_dropEpoch) B.pre
  have hB : ∀ w ∈ gx_B, w.before _ s = true := fun w h => hts w (List.mem_cons_of_mem _ h)
  have hown : s.vm.findClass "TapeSealer" = some m.cls := findClass_of_methodNamed B.named
  have hlocks := B.notSynchronized
  have hl := lv_entry ([.ref h0, .int p0]) (n := 2) (Nat.le_of_ble_eq_true rfl)
  rw [lg_entry_eq]
  generalize (lg_sl ([.ref h0, .int p0]) ++ List.replicate (2 - (lg_sl ([.ref h0, .int p0])).length) Slot.unset).toArray = ls at hl ⊢
  have hl : lv_has ls 2 [(0, .ref h0), (1, .int p0)] := hl
  refine lv_aload_n hx hb d_TS_dropEpoch_0 rfl (lv_at hl 0 rfl) ?_
  refine va_get (D := (dC, dI)) (ci := 8) (v := .ref (q 3)) (C := RTS) (T := FTS) (N := 15) hx hb hB in_TS hown hK hP 0 rfl rfl 1 (by decide) (hB _ hw_308) (fun _ h9 => h9) rfl d_TS_dropEpoch_1 ?_
  refine lv_iload_n hx hb d_TS_dropEpoch_4 rfl (lv_at hl 1 rfl) ?_
  refine px_go (va_runV (C := "TapeSealer$Epochs") (As := [.int p0]) (rest := []) ⟨hx, hb, hml, hown, hts⟩ (p_Ep_known l dC dI (q 3) (q 4) (q 5) p0) (cwV 1 hts (gx_goodV hw_369 hw_370 hw_371 hw_68 k_Ep_known) rfl rfl rfl (by decide +kernel) ⟨(Nat.le_of_ble_eq_true rfl), (Nat.le_of_ble_eq_true rfl)⟩) ⟨fun a U g mk q => by obtain ⟨q0, qP, qK⟩ := q; exact ⟨q0, qP, va_K.moved (u := U) (U := U.calling g mk a) (Vm.Alike.refl U.vm) qK⟩, va_recv hK hP rfl (q0 := 4) rfl, fun U hU hW => ⟨rfl, by rw [hU]; exact hP.sub (ws' := [((q 3), .inr (3, [.ref (q 4), .ref (q 5), .int 0]))]) [4] rfl, va_K.moved hW.alike (hK.sub (tys' := []) [] rfl)⟩⟩ rfl rfl hl.1 rfl (lv_room (Nat.le_of_ble_eq_true rfl)) d_TS_dropEpoch_5 ⟨(Nat.le_of_ble_eq_true rfl), (Nat.le_of_ble_eq_true rfl)⟩) ?_
  refine W.eq (g2 := F0 m 8 ls [.int 0]) rfl ?_
  refine lv_if_eq (tgt := 22) hx hb d_TS_dropEpoch_8 (by decide) (fun _ => ?_) (fun h9 => absurd (by decide) h9)
  refine W.eq (g2 := F0 m 22 ls []) rfl ?_
  exact tx_throw (own := "TapeSealer") (cls := "java/lang/IllegalArgumentException") (names := own_n) hx hb hl0 hown (by decide +kernel) (by decide +kernel) (hB _ hw_683) (hB _ hw_85) (hJ.own hB own_IAE own_IAEk) (hl.1.trans hml.symm) d_TS_dropEpoch_22 d_TS_dropEpoch_25 d_TS_dropEpoch_26 d_TS_dropEpoch_29 (tx_none (B.noHandlers (hts _ List.mem_cons_self)) _) (Nat.le_of_ble_eq_true rfl) (Nat.le_of_ble_eq_true rfl) (Nat.le_of_ble_eq_true rfl) (Nat.le_of_ble_eq_true rfl) hlocks (Nat.le_of_ble_eq_true rfl) (Nat.le_of_ble_eq_true rfl)
set_option maxHeartbeats 4000000 in
set_option maxRecDepth 100000 in
theorem t_TS_scrub (l : Launch) (hl0 : l.stackTraces = false) (dC : Nat → ClassId) (dI : Nat → Nat → Nat) (aS aT : Nat) (cS cT : Cell) (h0 : Nat) (q : Nat → Nat) (ci : Nat → ClassId) (p0 : Int32) (h : p0 < 0 ∨ 6 ≤ p0) : tx_Met l y_TS_scrub w_TS_scrub ({ frames := 6, cells := 1, slots := 6, locals := 120 }) (va_Pc [.ref h0, .int p0] (fun U => va_P (dC, dI) gx_cl (wTS h0 q ci) U.heap ∧ va_K (dC, dI) gx_cl (kTS ci) U ∧ jx aS aT cS cT U)) "java/lang/IllegalArgumentException" 1 6 := by
  refine tx_ofW (cc := b_TS_scrub) (maxL := 6) (ret := (some .int)) (by decide) rfl ?_
  intro p e s m args below meth c s₁ B hml hv
  obtain ⟨rfl, hP, hK, hJ⟩ := hv
  have hx := B.exec
  have hb := B.bytes
  have hr := B.returns
  have hts := atoms_spec (ws := w_TS_scrub) B.pre
  have hB : ∀ w ∈ gx_B, w.before _ s = true := fun w h => hts w (List.mem_cons_of_mem _ h)
  have hown : s.vm.findClass "TapeSealer" = some m.cls := findClass_of_methodNamed B.named
  have hlocks := B.notSynchronized
  have hl := lv_entry ([.ref h0, .int p0]) (n := 6) (Nat.le_of_ble_eq_true rfl)
  rw [lg_entry_eq]
  generalize (lg_sl ([.ref h0, .int p0]) ++ List.replicate (6 - (lg_sl ([.ref h0, .int p0])).length) Slot.unset).toArray = ls at hl ⊢
  have hl : lv_has ls 6 [(0, .ref h0), (1, .int p0)] := hl
  rcases h with hi | hi
  · refine lv_iload_n hx hb d_TS_scrub_0 rfl (lv_at hl 1 rfl) ?_
    refine lv_if_lt (tgt := 10) hx hb d_TS_scrub_1 (by decide) (fun _ => ?_) (fun h9 => absurd hi h9)
    refine W.eq (g2 := F0 m 10 ls []) rfl ?_
    exact tx_throw (own := "TapeSealer") (cls := "java/lang/IllegalArgumentException") (names := own_n) hx hb hl0 hown (by decide +kernel) (by decide +kernel) (hB _ hw_683) (hB _ hw_85) (hJ.own hB own_IAE own_IAEk) (hl.1.trans hml.symm) d_TS_scrub_10 d_TS_scrub_13 d_TS_scrub_14 d_TS_scrub_17 (tx_none (B.noHandlers (hts _ List.mem_cons_self)) _) (Nat.le_of_ble_eq_true rfl) (Nat.le_of_ble_eq_true rfl) (Nat.le_of_ble_eq_true rfl) (Nat.le_of_ble_eq_true rfl) hlocks (Nat.le_of_ble_eq_true rfl) (Nat.le_of_ble_eq_true rfl)
  · refine lv_iload_n hx hb d_TS_scrub_0 rfl (lv_at hl 1 rfl) ?_
    refine lv_if_lt (tgt := 10) hx hb d_TS_scrub_1 (by decide) (fun h9 => absurd h9 (gx_nlt6 hi)) (fun _ => ?_)
    refine lv_iload_n hx hb d_TS_scrub_4 rfl (lv_at hl 1 rfl) ?_
    refine lv_bipush (v := 6) hx hb d_TS_scrub_5 (by decide) ?_
    refine lv_icmp_lt (tgt := 18) hx hb d_TS_scrub_7 (by decide) (fun h9 => absurd h9 (gx_nlt6b hi)) (fun _ => ?_)
    refine W.eq (g2 := F0 m 10 ls []) rfl ?_
    exact tx_throw (own := "TapeSealer") (cls := "java/lang/IllegalArgumentException") (names := own_n) hx hb hl0 hown (by decide +kernel) (by decide +kernel) (hB _ hw_683) (hB _ hw_85) (hJ.own hB own_IAE own_IAEk) (hl.1.trans hml.symm) d_TS_scrub_10 d_TS_scrub_13 d_TS_scrub_14 d_TS_scrub_17 (tx_none (B.noHandlers (hts _ List.mem_cons_self)) _) (Nat.le_of_ble_eq_true rfl) (Nat.le_of_ble_eq_true rfl) (Nat.le_of_ble_eq_true rfl) (Nat.le_of_ble_eq_true rfl) hlocks (Nat.le_of_ble_eq_true rfl) (Nat.le_of_ble_eq_true rfl)
set_option maxHeartbeats 4000000 in
set_option maxRecDepth 100000 in
theorem t_TS_damage_b (l : Launch) (hl0 : l.stackTraces = false) (dC : Nat → ClassId) (dI : Nat → Nat → Nat) (aS aT : Nat) (cS cT : Cell) (h0 : Nat) (q : Nat → Nat) (ci : Nat → ClassId) (p0 p1 p2 : Int32) (h : p0 < 0 ∨ 44 ≤ p0 ∨ p1 < 0 ∨ 64 ≤ p1) : tx_Met l y_TS_damage w_TS_damage ({ frames := 6, cells := 1, slots := 6, locals := 120 }) (va_Pc [.ref h0, .int p0, .int p1, .int p2] (fun U => va_P (dC, dI) gx_cl (wTS h0 q ci) U.heap ∧ va_K (dC, dI) gx_cl (kTS ci) U ∧ jx aS aT cS cT U)) "java/lang/IllegalArgumentException" 1 6 := by
  refine tx_ofW (cc := b_TS_damage) (maxL := 4) (ret := none) (by decide) rfl ?_
  intro p e s m args below meth c s₁ B hml hv
  obtain ⟨rfl, hP, hK, hJ⟩ := hv
  have hx := B.exec
  have hb := B.bytes
  have hr := B.returns
  have hts := atoms_spec (ws := w_TS_damage) B.pre
  have hB : ∀ w ∈ gx_B, w.before _ s = true := fun w h => hts w (List.mem_cons_of_mem _ h)
  have hown : s.vm.findClass "TapeSealer" = some m.cls := findClass_of_methodNamed B.named
  have hlocks := B.notSynchronized
  have hl := lv_entry ([.ref h0, .int p0, .int p1, .int p2]) (n := 4) (Nat.le_of_ble_eq_true rfl)
  rw [lg_entry_eq]
  generalize (lg_sl ([.ref h0, .int p0, .int p1, .int p2]) ++ List.replicate (4 - (lg_sl ([.ref h0, .int p0, .int p1, .int p2])).length) Slot.unset).toArray = ls at hl ⊢
  have hl : lv_has ls 4 [(0, .ref h0), (1, .int p0), (2, .int p1), (3, .int p2)] := hl
  refine lv_iload_n hx hb d_TS_damage_0 rfl (lv_at hl 1 rfl) ?_
  refine lv_iload_n hx hb d_TS_damage_1 rfl (lv_at hl 2 rfl) ?_
  refine px_go (va_runS (As := [.int p0, .int p1]) (rest := []) ⟨hx, hb, hml, hown, hts⟩ (p_TS_isByte0 l p0 p1 h) (cwS 2 hts (gx_goodS hw_841 hw_842 hw_66 k_TS_isByte) rfl rfl rfl (by decide +kernel) ⟨(Nat.le_of_ble_eq_true rfl), (Nat.le_of_ble_eq_true rfl)⟩) ⟨fun a U g mk q => q, fun U hU hW => ⟨rfl, trivial⟩⟩ rfl rfl hl.1 rfl (lv_room (Nat.le_of_ble_eq_true rfl)) d_TS_damage_2 ⟨(Nat.le_of_ble_eq_true rfl), (Nat.le_of_ble_eq_true rfl)⟩) ?_
  refine W.eq (g2 := F0 m 5 ls [.int 0]) rfl ?_
  refine lv_if_eq (tgt := 19) hx hb d_TS_damage_5 (by decide) (fun _ => ?_) (fun h9 => absurd (by decide) h9)
  refine W.eq (g2 := F0 m 19 ls []) rfl ?_
  exact tx_throw (own := "TapeSealer") (cls := "java/lang/IllegalArgumentException") (names := own_n) hx hb hl0 hown (by decide +kernel) (by decide +kernel) (hB _ hw_683) (hB _ hw_85) (hJ.own hB own_IAE own_IAEk) (hl.1.trans hml.symm) d_TS_damage_19 d_TS_damage_22 d_TS_damage_23 d_TS_damage_26 (tx_none (B.noHandlers (hts _ List.mem_cons_self)) _) (Nat.le_of_ble_eq_true rfl) (Nat.le_of_ble_eq_true rfl) (Nat.le_of_ble_eq_true rfl) (Nat.le_of_ble_eq_true rfl) hlocks (Nat.le_of_ble_eq_true rfl) (Nat.le_of_ble_eq_true rfl)
set_option maxHeartbeats 4000000 in
set_option maxRecDepth 100000 in
theorem t_TS_damage_m (l : Launch) (hl0 : l.stackTraces = false) (dC : Nat → ClassId) (dI : Nat → Nat → Nat) (aS aT : Nat) (cS cT : Cell) (h0 : Nat) (q : Nat → Nat) (ci : Nat → ClassId) (p0 p1 p2 : Int32) (h1 : ¬ p0 < 0) (h2 : ¬ 44 ≤ p0) (h3 : ¬ p1 < 0) (h4 : ¬ 64 ≤ p1) (h : p2 < 0 ∨ 255 < p2) : tx_Met l y_TS_damage w_TS_damage ({ frames := 6, cells := 1, slots := 6, locals := 120 }) (va_Pc [.ref h0, .int p0, .int p1, .int p2] (fun U => va_P (dC, dI) gx_cl (wTS h0 q ci) U.heap ∧ va_K (dC, dI) gx_cl (kTS ci) U ∧ jx aS aT cS cT U)) "java/lang/IllegalArgumentException" 1 6 := by
  refine tx_ofW (cc := b_TS_damage) (maxL := 4) (ret := none) (by decide) rfl ?_
  intro p e s m args below meth c s₁ B hml hv
  obtain ⟨rfl, hP, hK, hJ⟩ := hv
  have hx := B.exec
  have hb := B.bytes
  have hr := B.returns
  have hts := atoms_spec (ws := w_TS_damage) B.pre
  have hB : ∀ w ∈ gx_B, w.before _ s = true := fun w h => hts w (List.mem_cons_of_mem _ h)
  have hown : s.vm.findClass "TapeSealer" = some m.cls := findClass_of_methodNamed B.named
  have hlocks := B.notSynchronized
  have hl := lv_entry ([.ref h0, .int p0, .int p1, .int p2]) (n := 4) (Nat.le_of_ble_eq_true rfl)
  rw [lg_entry_eq]
  generalize (lg_sl ([.ref h0, .int p0, .int p1, .int p2]) ++ List.replicate (4 - (lg_sl ([.ref h0, .int p0, .int p1, .int p2])).length) Slot.unset).toArray = ls at hl ⊢
  have hl : lv_has ls 4 [(0, .ref h0), (1, .int p0), (2, .int p1), (3, .int p2)] := hl
  rcases h with hi | hi
  · refine lv_iload_n hx hb d_TS_damage_0 rfl (lv_at hl 1 rfl) ?_
    refine lv_iload_n hx hb d_TS_damage_1 rfl (lv_at hl 2 rfl) ?_
    refine px_go (va_runS (As := [.int p0, .int p1]) (rest := []) ⟨hx, hb, hml, hown, hts⟩ (p_TS_isByte1 l p0 p1 h1 h2 h3 h4) (cwS 2 hts (gx_goodS hw_841 hw_842 hw_66 k_TS_isByte) rfl rfl rfl (by decide +kernel) ⟨(Nat.le_of_ble_eq_true rfl), (Nat.le_of_ble_eq_true rfl)⟩) ⟨fun a U g mk q => q, fun U hU hW => ⟨rfl, trivial⟩⟩ rfl rfl hl.1 rfl (lv_room (Nat.le_of_ble_eq_true rfl)) d_TS_damage_2 ⟨(Nat.le_of_ble_eq_true rfl), (Nat.le_of_ble_eq_true rfl)⟩) ?_
    refine W.eq (g2 := F0 m 5 ls [.int 1]) rfl ?_
    refine lv_if_eq (tgt := 19) hx hb d_TS_damage_5 (by decide) (fun h9 => absurd h9 (by decide)) (fun _ => ?_)
    refine lv_iload_n hx hb d_TS_damage_8 rfl (lv_at hl 3 rfl) ?_
    refine lv_if_lt (tgt := 19) hx hb d_TS_damage_9 (by decide) (fun _ => ?_) (fun h9 => absurd hi h9)
    refine W.eq (g2 := F0 m 19 ls []) rfl ?_
    exact tx_throw (own := "TapeSealer") (cls := "java/lang/IllegalArgumentException") (names := own_n) hx hb hl0 hown (by decide +kernel) (by decide +kernel) (hB _ hw_683) (hB _ hw_85) (hJ.own hB own_IAE own_IAEk) (hl.1.trans hml.symm) d_TS_damage_19 d_TS_damage_22 d_TS_damage_23 d_TS_damage_26 (tx_none (B.noHandlers (hts _ List.mem_cons_self)) _) (Nat.le_of_ble_eq_true rfl) (Nat.le_of_ble_eq_true rfl) (Nat.le_of_ble_eq_true rfl) (Nat.le_of_ble_eq_true rfl) hlocks (Nat.le_of_ble_eq_true rfl) (Nat.le_of_ble_eq_true rfl)
  · refine lv_iload_n hx hb d_TS_damage_0 rfl (lv_at hl 1 rfl) ?_
    refine lv_iload_n hx hb d_TS_damage_1 rfl (lv_at hl 2 rfl) ?_
    refine px_go (va_runS (As := [.int p0, .int p1]) (rest := []) ⟨hx, hb, hml, hown, hts⟩ (p_TS_isByte1 l p0 p1 h1 h2 h3 h4) (cwS 2 hts (gx_goodS hw_841 hw_842 hw_66 k_TS_isByte) rfl rfl rfl (by decide +kernel) ⟨(Nat.le_of_ble_eq_true rfl), (Nat.le_of_ble_eq_true rfl)⟩) ⟨fun a U g mk q => q, fun U hU hW => ⟨rfl, trivial⟩⟩ rfl rfl hl.1 rfl (lv_room (Nat.le_of_ble_eq_true rfl)) d_TS_damage_2 ⟨(Nat.le_of_ble_eq_true rfl), (Nat.le_of_ble_eq_true rfl)⟩) ?_
    refine W.eq (g2 := F0 m 5 ls [.int 1]) rfl ?_
    refine lv_if_eq (tgt := 19) hx hb d_TS_damage_5 (by decide) (fun h9 => absurd h9 (by decide)) (fun _ => ?_)
    refine lv_iload_n hx hb d_TS_damage_8 rfl (lv_at hl 3 rfl) ?_
    refine lv_if_lt (tgt := 19) hx hb d_TS_damage_9 (by decide) (fun h9 => absurd h9 (gx_nlt255 hi)) (fun _ => ?_)
    refine lv_iload_n hx hb d_TS_damage_12 rfl (lv_at hl 3 rfl) ?_
    refine lv_sipush (v := 255) hx hb d_TS_damage_13 (by decide) ?_
    refine lv_icmp_le (tgt := 27) hx hb d_TS_damage_16 (by decide) (fun h9 => absurd h9 (gx_nle255 hi)) (fun _ => ?_)
    refine W.eq (g2 := F0 m 19 ls []) rfl ?_
    exact tx_throw (own := "TapeSealer") (cls := "java/lang/IllegalArgumentException") (names := own_n) hx hb hl0 hown (by decide +kernel) (by decide +kernel) (hB _ hw_683) (hB _ hw_85) (hJ.own hB own_IAE own_IAEk) (hl.1.trans hml.symm) d_TS_damage_19 d_TS_damage_22 d_TS_damage_23 d_TS_damage_26 (tx_none (B.noHandlers (hts _ List.mem_cons_self)) _) (Nat.le_of_ble_eq_true rfl) (Nat.le_of_ble_eq_true rfl) (Nat.le_of_ble_eq_true rfl) (Nat.le_of_ble_eq_true rfl) hlocks (Nat.le_of_ble_eq_true rfl) (Nat.le_of_ble_eq_true rfl)
set_option maxHeartbeats 4000000 in
set_option maxRecDepth 100000 in
theorem t_TS_spoil (l : Launch) (hl0 : l.stackTraces = false) (dC : Nat → ClassId) (dI : Nat → Nat → Nat) (aS aT : Nat) (cS cT : Cell) (h0 : Nat) (q : Nat → Nat) (ci : Nat → ClassId) (p0 : Int32) (h : p0 < 0 ∨ 44 ≤ p0) : tx_Met l y_TS_spoil w_TS_spoil ({ frames := 6, cells := 1, slots := 6, locals := 120 }) (va_Pc [.ref h0, .int p0] (fun U => va_P (dC, dI) gx_cl (wTS h0 q ci) U.heap ∧ va_K (dC, dI) gx_cl (kTS ci) U ∧ jx aS aT cS cT U)) "java/lang/IllegalArgumentException" 1 6 := by
  refine tx_ofW (cc := b_TS_spoil) (maxL := 2) (ret := none) (by decide) rfl ?_
  intro p e s m args below meth c s₁ B hml hv
  obtain ⟨rfl, hP, hK, hJ⟩ := hv
  have hx := B.exec
  have hb := B.bytes
  have hr := B.returns
  have hts := atoms_spec (ws := w_TS_spoil) B.pre
  have hB : ∀ w ∈ gx_B, w.before _ s = true := fun w h => hts w (List.mem_cons_of_mem _ h)
  have hown : s.vm.findClass "TapeSealer" = some m.cls := findClass_of_methodNamed B.named
  have hlocks := B.notSynchronized
  have hl := lv_entry ([.ref h0, .int p0]) (n := 2) (Nat.le_of_ble_eq_true rfl)
  rw [lg_entry_eq]
  generalize (lg_sl ([.ref h0, .int p0]) ++ List.replicate (2 - (lg_sl ([.ref h0, .int p0])).length) Slot.unset).toArray = ls at hl ⊢
  have hl : lv_has ls 2 [(0, .ref h0), (1, .int p0)] := hl
  refine lv_iload_n hx hb d_TS_spoil_0 rfl (lv_at hl 1 rfl) ?_
  refine lv_iconst (v := 0) hx hb d_TS_spoil_1 (by decide) ?_
  refine px_go (va_runS (As := [.int p0, .int 0]) (rest := []) ⟨hx, hb, hml, hown, hts⟩ (p_TS_isByte0 l p0 0 (gx_o2 h)) (cwS 2 hts (gx_goodS hw_841 hw_842 hw_66 k_TS_isByte) rfl rfl rfl (by decide +kernel) ⟨(Nat.le_of_ble_eq_true rfl), (Nat.le_of_ble_eq_true rfl)⟩) ⟨fun a U g mk q => q, fun U hU hW => ⟨rfl, trivial⟩⟩ rfl rfl hl.1 rfl (lv_room (Nat.le_of_ble_eq_true rfl)) d_TS_spoil_2 ⟨(Nat.le_of_ble_eq_true rfl), (Nat.le_of_ble_eq_true rfl)⟩) ?_
  refine W.eq (g2 := F0 m 5 ls [.int 0]) rfl ?_
  refine lv_if_ne (tgt := 16) hx hb d_TS_spoil_5 (by decide) (fun h9 => absurd (by decide) h9) (fun _ => ?_)
  refine W.eq (g2 := F0 m 8 ls []) rfl ?_
  exact tx_throw (own := "TapeSealer") (cls := "java/lang/IllegalArgumentException") (names := own_n) hx hb hl0 hown (by decide +kernel) (by decide +kernel) (hB _ hw_683) (hB _ hw_85) (hJ.own hB own_IAE own_IAEk) (hl.1.trans hml.symm) d_TS_spoil_8 d_TS_spoil_11 d_TS_spoil_12 d_TS_spoil_15 (tx_none (B.noHandlers (hts _ List.mem_cons_self)) _) (Nat.le_of_ble_eq_true rfl) (Nat.le_of_ble_eq_true rfl) (Nat.le_of_ble_eq_true rfl) (Nat.le_of_ble_eq_true rfl) hlocks (Nat.le_of_ble_eq_true rfl) (Nat.le_of_ble_eq_true rfl)
set_option maxHeartbeats 4000000 in
set_option maxRecDepth 100000 in
theorem t_TS_stopAfter (l : Launch) (hl0 : l.stackTraces = false) (dC : Nat → ClassId) (dI : Nat → Nat → Nat) (aS aT : Nat) (cS cT : Cell) (h0 : Nat) (q : Nat → Nat) (ci : Nat → ClassId) (p0 : Int32) (h : ¬ p0 ≤ 100) : tx_Met l y_TS_stopAfter w_TS_stopAfter ({ frames := 6, cells := 1, slots := 6, locals := 120 }) (va_Pc [.ref h0, .int p0] (fun U => va_P (dC, dI) gx_cl (wTS h0 q ci) U.heap ∧ va_K (dC, dI) gx_cl (kTS ci) U ∧ jx aS aT cS cT U)) "java/lang/IllegalArgumentException" 1 6 := by
  refine tx_ofW (cc := b_TS_stopAfter) (maxL := 2) (ret := none) (by decide) rfl ?_
  intro p e s m args below meth c s₁ B hml hv
  obtain ⟨rfl, hP, hK, hJ⟩ := hv
  have hx := B.exec
  have hb := B.bytes
  have hr := B.returns
  have hts := atoms_spec (ws := w_TS_stopAfter) B.pre
  have hB : ∀ w ∈ gx_B, w.before _ s = true := fun w h => hts w (List.mem_cons_of_mem _ h)
  have hown : s.vm.findClass "TapeSealer" = some m.cls := findClass_of_methodNamed B.named
  have hlocks := B.notSynchronized
  have hl := lv_entry ([.ref h0, .int p0]) (n := 2) (Nat.le_of_ble_eq_true rfl)
  rw [lg_entry_eq]
  generalize (lg_sl ([.ref h0, .int p0]) ++ List.replicate (2 - (lg_sl ([.ref h0, .int p0])).length) Slot.unset).toArray = ls at hl ⊢
  have hl : lv_has ls 2 [(0, .ref h0), (1, .int p0)] := hl
  refine lv_iload_n hx hb d_TS_stopAfter_0 rfl (lv_at hl 1 rfl) ?_
  refine lv_bipush (v := 100) hx hb d_TS_stopAfter_1 (by decide) ?_
  refine lv_icmp_le (tgt := 14) hx hb d_TS_stopAfter_3 (by decide) (fun h9 => absurd h9 h) (fun _ => ?_)
  refine W.eq (g2 := F0 m 6 ls []) rfl ?_
  exact tx_throw (own := "TapeSealer") (cls := "java/lang/IllegalArgumentException") (names := own_n) hx hb hl0 hown (by decide +kernel) (by decide +kernel) (hB _ hw_683) (hB _ hw_85) (hJ.own hB own_IAE own_IAEk) (hl.1.trans hml.symm) d_TS_stopAfter_6 d_TS_stopAfter_9 d_TS_stopAfter_10 d_TS_stopAfter_13 (tx_none (B.noHandlers (hts _ List.mem_cons_self)) _) (Nat.le_of_ble_eq_true rfl) (Nat.le_of_ble_eq_true rfl) (Nat.le_of_ble_eq_true rfl) (Nat.le_of_ble_eq_true rfl) hlocks (Nat.le_of_ble_eq_true rfl) (Nat.le_of_ble_eq_true rfl)
set_option maxHeartbeats 4000000 in
set_option maxRecDepth 100000 in
theorem t_TS_block (l : Launch) (hl0 : l.stackTraces = false) (dC : Nat → ClassId) (dI : Nat → Nat → Nat) (aS aT : Nat) (cS cT : Cell) (h0 : Nat) (q : Nat → Nat) (ci : Nat → ClassId) (p0 p1 : Int32) (h : p0 < 0 ∨ 44 ≤ p0 ∨ p1 < 0 ∨ 64 ≤ p1) : tx_Met l y_TS_block w_TS_block ({ frames := 6, cells := 1, slots := 6, locals := 120 }) (va_Pc [.ref h0, .int p0, .int p1] (fun U => va_P (dC, dI) gx_cl (wTS h0 q ci) U.heap ∧ va_K (dC, dI) gx_cl (kTS ci) U ∧ jx aS aT cS cT U)) "java/lang/IllegalArgumentException" 1 6 := by
  refine tx_ofW (cc := b_TS_block) (maxL := 3) (ret := (some .int)) (by decide) rfl ?_
  intro p e s m args below meth c s₁ B hml hv
  obtain ⟨rfl, hP, hK, hJ⟩ := hv
  have hx := B.exec
  have hb := B.bytes
  have hr := B.returns
  have hts := atoms_spec (ws := w_TS_block) B.pre
  have hB : ∀ w ∈ gx_B, w.before _ s = true := fun w h => hts w (List.mem_cons_of_mem _ h)
  have hown : s.vm.findClass "TapeSealer" = some m.cls := findClass_of_methodNamed B.named
  have hlocks := B.notSynchronized
  have hl := lv_entry ([.ref h0, .int p0, .int p1]) (n := 3) (Nat.le_of_ble_eq_true rfl)
  rw [lg_entry_eq]
  generalize (lg_sl ([.ref h0, .int p0, .int p1]) ++ List.replicate (3 - (lg_sl ([.ref h0, .int p0, .int p1])).length) Slot.unset).toArray = ls at hl ⊢
  have hl : lv_has ls 3 [(0, .ref h0), (1, .int p0), (2, .int p1)] := hl
  refine lv_iload_n hx hb d_TS_block_0 rfl (lv_at hl 1 rfl) ?_
  refine lv_iload_n hx hb d_TS_block_1 rfl (lv_at hl 2 rfl) ?_
  refine px_go (va_runS (As := [.int p0, .int p1]) (rest := []) ⟨hx, hb, hml, hown, hts⟩ (p_TS_isByte0 l p0 p1 h) (cwS 2 hts (gx_goodS hw_841 hw_842 hw_66 k_TS_isByte) rfl rfl rfl (by decide +kernel) ⟨(Nat.le_of_ble_eq_true rfl), (Nat.le_of_ble_eq_true rfl)⟩) ⟨fun a U g mk q => q, fun U hU hW => ⟨rfl, trivial⟩⟩ rfl rfl hl.1 rfl (lv_room (Nat.le_of_ble_eq_true rfl)) d_TS_block_2 ⟨(Nat.le_of_ble_eq_true rfl), (Nat.le_of_ble_eq_true rfl)⟩) ?_
  refine W.eq (g2 := F0 m 5 ls [.int 0]) rfl ?_
  refine lv_if_ne (tgt := 16) hx hb d_TS_block_5 (by decide) (fun h9 => absurd (by decide) h9) (fun _ => ?_)
  refine W.eq (g2 := F0 m 8 ls []) rfl ?_
  exact tx_throw (own := "TapeSealer") (cls := "java/lang/IllegalArgumentException") (names := own_n) hx hb hl0 hown (by decide +kernel) (by decide +kernel) (hB _ hw_683) (hB _ hw_85) (hJ.own hB own_IAE own_IAEk) (hl.1.trans hml.symm) d_TS_block_8 d_TS_block_11 d_TS_block_12 d_TS_block_15 (tx_none (B.noHandlers (hts _ List.mem_cons_self)) _) (Nat.le_of_ble_eq_true rfl) (Nat.le_of_ble_eq_true rfl) (Nat.le_of_ble_eq_true rfl) (Nat.le_of_ble_eq_true rfl) hlocks (Nat.le_of_ble_eq_true rfl) (Nat.le_of_ble_eq_true rfl)
set_option maxHeartbeats 4000000 in
set_option maxRecDepth 100000 in
theorem t_TS_state (l : Launch) (hl0 : l.stackTraces = false) (dC : Nat → ClassId) (dI : Nat → Nat → Nat) (aS aT : Nat) (cS cT : Cell) (h0 : Nat) (q : Nat → Nat) (ci : Nat → ClassId) (p0 : Int32) (h : p0.toInt < 0 ∨ 5 < p0.toInt) : tx_Met l y_TS_state w_TS_state ({ frames := 6, cells := 1, slots := 6, locals := 120 }) (va_Pc [.ref h0, .int p0] (fun U => va_P (dC, dI) gx_cl (wTS h0 q ci) U.heap ∧ va_K (dC, dI) gx_cl (kTS ci) U ∧ jx aS aT cS cT U)) "java/lang/IllegalArgumentException" 1 6 := by
  refine tx_ofW (cc := b_TS_state) (maxL := 2) (ret := (some .int)) (by decide) rfl ?_
  intro p e s m args below meth c s₁ B hml hv
  obtain ⟨rfl, hP, hK, hJ⟩ := hv
  have hx := B.exec
  have hb := B.bytes
  have hr := B.returns
  have hts := atoms_spec (ws := w_TS_state) B.pre
  have hB : ∀ w ∈ gx_B, w.before _ s = true := fun w h => hts w (List.mem_cons_of_mem _ h)
  have hown : s.vm.findClass "TapeSealer" = some m.cls := findClass_of_methodNamed B.named
  have hlocks := B.notSynchronized
  have hl := lv_entry ([.ref h0, .int p0]) (n := 2) (Nat.le_of_ble_eq_true rfl)
  rw [lg_entry_eq]
  generalize (lg_sl ([.ref h0, .int p0]) ++ List.replicate (2 - (lg_sl ([.ref h0, .int p0])).length) Slot.unset).toArray = ls at hl ⊢
  have hl : lv_has ls 2 [(0, .ref h0), (1, .int p0)] := hl
  refine lv_aload_n hx hb d_TS_state_0 rfl (lv_at hl 0 rfl) ?_
  refine px_go (va_runV (C := "TapeSealer") (As := []) (rest := []) ⟨hx, hb, hml, hown, hts⟩ (p_TS_lookAtHeaders l dC dI h0 q ci) (cwV 0 hts (gx_goodV hw_361 hw_363 hw_0 hw_66 k_TS_lookAtHeaders) rfl rfl rfl (by decide +kernel) ⟨(Nat.le_of_ble_eq_true rfl), (Nat.le_of_ble_eq_true rfl)⟩) ⟨fun a U g mk q => by obtain ⟨q0, qP, qK⟩ := q; exact ⟨q0, qP, va_K.moved (u := U) (U := U.calling g mk a) (Vm.Alike.refl U.vm) qK⟩, va_recv hK hP rfl (q0 := 0) rfl, fun U hU hW => ⟨rfl, by rw [hU]; exact hP, va_K.moved hW.alike (hK)⟩⟩ rfl rfl hl.1 rfl (lv_room (Nat.le_of_ble_eq_true rfl)) d_TS_state_1 ⟨(Nat.le_of_ble_eq_true rfl), (Nat.le_of_ble_eq_true rfl)⟩) ?_
  refine W.eq (g2 := F0 m 4 ls []) rfl ?_
  refine lv_iload_n hx hb d_TS_state_4 rfl (lv_at hl 1 rfl) ?_
  refine lv_tableOut (tgt := 91) hx hb d_TS_state_5 h (by decide) ?_
  refine W.eq (g2 := F0 m 91 ls []) rfl ?_
  exact tx_throw (own := "TapeSealer") (cls := "java/lang/IllegalArgumentException") (names := own_n) hx hb hl0 hown (by decide +kernel) (by decide +kernel) (hB _ hw_683) (hB _ hw_85) (hJ.own hB own_IAE own_IAEk) (hl.1.trans hml.symm) d_TS_state_91 d_TS_state_94 d_TS_state_95 d_TS_state_98 (tx_none (B.noHandlers (hts _ List.mem_cons_self)) _) (Nat.le_of_ble_eq_true rfl) (Nat.le_of_ble_eq_true rfl) (Nat.le_of_ble_eq_true rfl) (Nat.le_of_ble_eq_true rfl) hlocks (Nat.le_of_ble_eq_true rfl) (Nat.le_of_ble_eq_true rfl)
set_option maxHeartbeats 4000000 in
set_option maxRecDepth 100000 in
theorem p_TS_state0 (l : Launch) (dC : Nat → ClassId) (dI : Nat → Nat → Nat) (h0 : Nat) (q : Nat → Nat) (ci : Nat → ClassId) : Met l y_TS_state w_TS_state ({ frames := 1, cells := 0, slots := 0, locals := 22 }) (va_Pc [.ref h0, .int 0] (fun U => va_P (dC, dI) gx_cl (wTS h0 q ci) U.heap ∧ va_K (dC, dI) gx_cl (kTS ci) U)) (px_Q (some (.int 0))) 0 0 (fun _ => False) := by
  refine Met.ofW (cc := b_TS_state) (maxL := 2) (ret := (some .int)) (by decide) rfl ?_
  intro p e s m args below meth c s₁ B hml hv
  obtain ⟨rfl, hP, hK⟩ := hv
  have hx := B.exec
  have hb := B.bytes
  have hr := B.returns
  have hts := atoms_spec (ws := w_TS_state) B.pre
  have hB : ∀ w ∈ gx_B, w.before _ s = true := fun w h => hts w (List.mem_cons_of_mem _ h)
  have hown : s.vm.findClass "TapeSealer" = some m.cls := findClass_of_methodNamed B.named
  have hlocks := B.notSynchronized
  have hl := lv_entry ([.ref h0, .int 0]) (n := 2) (Nat.le_of_ble_eq_true rfl)
  rw [lg_entry_eq]
  generalize (lg_sl ([.ref h0, .int 0]) ++ List.replicate (2 - (lg_sl ([.ref h0, .int 0])).length) Slot.unset).toArray = ls at hl ⊢
  have hl : lv_has ls 2 [(0, .ref h0), (1, .int 0)] := hl
  refine lv_aload_n hx hb d_TS_state_0 rfl (lv_at hl 0 rfl) ?_
  refine px_go (va_runV (C := "TapeSealer") (As := []) (rest := []) ⟨hx, hb, hml, hown, hts⟩ (p_TS_lookAtHeaders l dC dI h0 q ci) (cwV 0 hts (gx_goodV hw_361 hw_363 hw_0 hw_66 k_TS_lookAtHeaders) rfl rfl rfl (by decide +kernel) ⟨(Nat.le_of_ble_eq_true rfl), (Nat.le_of_ble_eq_true rfl)⟩) ⟨fun a U g mk q => by obtain ⟨q0, qP, qK⟩ := q; exact ⟨q0, qP, va_K.moved (u := U) (U := U.calling g mk a) (Vm.Alike.refl U.vm) qK⟩, va_recv hK hP rfl (q0 := 0) rfl, fun U hU hW => ⟨rfl, by rw [hU]; exact hP, va_K.moved hW.alike (hK)⟩⟩ rfl rfl hl.1 rfl (lv_room (Nat.le_of_ble_eq_true rfl)) d_TS_state_1 ⟨(Nat.le_of_ble_eq_true rfl), (Nat.le_of_ble_eq_true rfl)⟩) ?_
  refine W.eq (g2 := F0 m 4 ls []) rfl ?_
  refine lv_iload_n hx hb d_TS_state_4 rfl (lv_at hl 1 rfl) ?_
  refine lv_tableIn (off := 39) (tgt := 44) hx hb d_TS_state_5 (by decide) (by decide) rfl (by decide) ?_
  refine lv_aload_n hx hb d_TS_state_44 rfl (lv_at hl 0 rfl) ?_
  refine px_go (va_runV (C := "TapeSealer") (As := []) (rest := []) ⟨hx, hb, hml, hown, hts⟩ (p_TS_countFiles l dC dI h0 q ci) (cwV 0 hts (gx_goodV hw_458 hw_460 hw_10 hw_66 k_TS_countFiles) rfl rfl rfl (by decide +kernel) ⟨(Nat.le_of_ble_eq_true rfl), (Nat.le_of_ble_eq_true rfl)⟩) ⟨fun a U g mk q => by obtain ⟨q0, qP, qK⟩ := q; exact ⟨q0, qP, va_K.moved (u := U) (U := U.calling g mk a) (Vm.Alike.refl U.vm) qK⟩, va_recv hK hP rfl (q0 := 0) rfl, fun U hU hW => ⟨rfl, by rw [hU]; exact hP, va_K.moved hW.alike (hK)⟩⟩ rfl rfl hl.1 rfl (lv_room (Nat.le_of_ble_eq_true rfl)) d_TS_state_45 ⟨(Nat.le_of_ble_eq_true rfl), (Nat.le_of_ble_eq_true rfl)⟩) ?_
  refine W.eq (g2 := F0 m 48 ls [.int 0]) rfl ?_
  exact W.iret (v := 0) hx hb hr (fun t ht _ => ⟨rfl, ht⟩) (fun _ h => nomatch h) d_TS_state_48
set_option maxHeartbeats 4000000 in
set_option maxRecDepth 100000 in
theorem p_TS_state1 (l : Launch) (dC : Nat → ClassId) (dI : Nat → Nat → Nat) (h0 : Nat) (q : Nat → Nat) (ci : Nat → ClassId) : Met l y_TS_state w_TS_state ({ frames := 3, cells := 0, slots := 0, locals := 65 }) (va_Pc [.ref h0, .int 1] (fun U => va_P (dC, dI) gx_cl (wTS h0 q ci) U.heap ∧ va_K (dC, dI) gx_cl (kTS ci) U)) (px_Q (some (.int 6))) 0 0 (fun _ => False) := by
  refine Met.ofW (cc := b_TS_state) (maxL := 2) (ret := (some .int)) (by decide) rfl ?_
  intro p e s m args below meth c s₁ B hml hv
  obtain ⟨rfl, hP, hK⟩ := hv
  have hx := B.exec
  have hb := B.bytes
  have hr := B.returns
  have hts := atoms_spec (ws := w_TS_state) B.pre
  have hB : ∀ w ∈ gx_B, w.before _ s = true := fun w h => hts w (List.mem_cons_of_mem _ h)
  have hown : s.vm.findClass "TapeSealer" = some m.cls := findClass_of_methodNamed B.named
  have hlocks := B.notSynchronized
  have hl := lv_entry ([.ref h0, .int 1]) (n := 2) (Nat.le_of_ble_eq_true rfl)
  rw [lg_entry_eq]
  generalize (lg_sl ([.ref h0, .int 1]) ++ List.replicate (2 - (lg_sl ([.ref h0, .int 1])).length) Slot.unset).toArray = ls at hl ⊢
  have hl : lv_has ls 2 [(0, .ref h0), (1, .int 1)] := hl
  refine lv_aload_n hx hb d_TS_state_0 rfl (lv_at hl 0 rfl) ?_
  refine px_go (va_runV (C := "TapeSealer") (As := []) (rest := []) ⟨hx, hb, hml, hown, hts⟩ (p_TS_lookAtHeaders l dC dI h0 q ci) (cwV 0 hts (gx_goodV hw_361 hw_363 hw_0 hw_66 k_TS_lookAtHeaders) rfl rfl rfl (by decide +kernel) ⟨(Nat.le_of_ble_eq_true rfl), (Nat.le_of_ble_eq_true rfl)⟩) ⟨fun a U g mk q => by obtain ⟨q0, qP, qK⟩ := q; exact ⟨q0, qP, va_K.moved (u := U) (U := U.calling g mk a) (Vm.Alike.refl U.vm) qK⟩, va_recv hK hP rfl (q0 := 0) rfl, fun U hU hW => ⟨rfl, by rw [hU]; exact hP, va_K.moved hW.alike (hK)⟩⟩ rfl rfl hl.1 rfl (lv_room (Nat.le_of_ble_eq_true rfl)) d_TS_state_1 ⟨(Nat.le_of_ble_eq_true rfl), (Nat.le_of_ble_eq_true rfl)⟩) ?_
  refine W.eq (g2 := F0 m 4 ls []) rfl ?_
  refine lv_iload_n hx hb d_TS_state_4 rfl (lv_at hl 1 rfl) ?_
  refine lv_tableIn (off := 44) (tgt := 49) hx hb d_TS_state_5 (by decide) (by decide) rfl (by decide) ?_
  refine lv_aload_n hx hb d_TS_state_49 rfl (lv_at hl 0 rfl) ?_
  refine px_go (va_runV (C := "TapeSealer") (As := []) (rest := []) ⟨hx, hb, hml, hown, hts⟩ (p_TS_countFree l dC dI h0 q ci) (cwV 0 hts (gx_goodV hw_880 hw_882 hw_30 hw_66 k_TS_countFree) rfl rfl rfl (by decide +kernel) ⟨(Nat.le_of_ble_eq_true rfl), (Nat.le_of_ble_eq_true rfl)⟩) ⟨fun a U g mk q => by obtain ⟨q0, qP, qK⟩ := q; exact ⟨q0, qP, va_K.moved (u := U) (U := U.calling g mk a) (Vm.Alike.refl U.vm) qK⟩, va_recv hK hP rfl (q0 := 0) rfl, fun U hU hW => ⟨rfl, by rw [hU]; exact hP, va_K.moved hW.alike (hK)⟩⟩ rfl rfl hl.1 rfl (lv_room (Nat.le_of_ble_eq_true rfl)) d_TS_state_50 ⟨(Nat.le_of_ble_eq_true rfl), (Nat.le_of_ble_eq_true rfl)⟩) ?_
  refine W.eq (g2 := F0 m 53 ls [.int 6]) rfl ?_
  exact W.iret (v := 6) hx hb hr (fun t ht _ => ⟨rfl, ht⟩) (fun _ h => nomatch h) d_TS_state_53
set_option maxHeartbeats 4000000 in
set_option maxRecDepth 100000 in
theorem p_TS_state2 (l : Launch) (dC : Nat → ClassId) (dI : Nat → Nat → Nat) (h0 : Nat) (q : Nat → Nat) (ci : Nat → ClassId) : Met l y_TS_state w_TS_state ({ frames := 1, cells := 0, slots := 0, locals := 21 }) (va_Pc [.ref h0, .int 2] (fun U => va_P (dC, dI) gx_cl (wTS h0 q ci) U.heap ∧ va_K (dC, dI) gx_cl (kTS ci) U)) (px_Q (some (.int 0))) 0 0 (fun _ => False) := by
  refine Met.ofW (cc := b_TS_state) (maxL := 2) (ret := (some .int)) (by decide) rfl ?_
  intro p e s m args below meth c s₁ B hml hv
  obtain ⟨rfl, hP, hK⟩ := hv
  have hx := B.exec
  have hb := B.bytes
  have hr := B.returns
  have hts := atoms_spec (ws := w_TS_state) B.pre
  have hB : ∀ w ∈ gx_B, w.before _ s = true := fun w h => hts w (List.mem_cons_of_mem _ h)
  have hown : s.vm.findClass "TapeSealer" = some m.cls := findClass_of_methodNamed B.named
  have hlocks := B.notSynchronized
  have hl := lv_entry ([.ref h0, .int 2]) (n := 2) (Nat.le_of_ble_eq_true rfl)
  rw [lg_entry_eq]
  generalize (lg_sl ([.ref h0, .int 2]) ++ List.replicate (2 - (lg_sl ([.ref h0, .int 2])).length) Slot.unset).toArray = ls at hl ⊢
  have hl : lv_has ls 2 [(0, .ref h0), (1, .int 2)] := hl
  refine lv_aload_n hx hb d_TS_state_0 rfl (lv_at hl 0 rfl) ?_
  refine px_go (va_runV (C := "TapeSealer") (As := []) (rest := []) ⟨hx, hb, hml, hown, hts⟩ (p_TS_lookAtHeaders l dC dI h0 q ci) (cwV 0 hts (gx_goodV hw_361 hw_363 hw_0 hw_66 k_TS_lookAtHeaders) rfl rfl rfl (by decide +kernel) ⟨(Nat.le_of_ble_eq_true rfl), (Nat.le_of_ble_eq_true rfl)⟩) ⟨fun a U g mk q => by obtain ⟨q0, qP, qK⟩ := q; exact ⟨q0, qP, va_K.moved (u := U) (U := U.calling g mk a) (Vm.Alike.refl U.vm) qK⟩, va_recv hK hP rfl (q0 := 0) rfl, fun U hU hW => ⟨rfl, by rw [hU]; exact hP, va_K.moved hW.alike (hK)⟩⟩ rfl rfl hl.1 rfl (lv_room (Nat.le_of_ble_eq_true rfl)) d_TS_state_1 ⟨(Nat.le_of_ble_eq_true rfl), (Nat.le_of_ble_eq_true rfl)⟩) ?_
  refine W.eq (g2 := F0 m 4 ls []) rfl ?_
  refine lv_iload_n hx hb d_TS_state_4 rfl (lv_at hl 1 rfl) ?_
  refine lv_tableIn (off := 49) (tgt := 54) hx hb d_TS_state_5 (by decide) (by decide) rfl (by decide) ?_
  refine lv_aload_n hx hb d_TS_state_54 rfl (lv_at hl 0 rfl) ?_
  refine va_get (D := (dC, dI)) (ci := 8) (v := .ref (q 3)) (C := RTS) (T := FTS) (N := 15) hx hb hB in_TS hown hK hP 0 rfl rfl 1 (by decide) (hB _ hw_308) (fun _ h9 => h9) rfl d_TS_state_55 ?_
  refine va_get (D := (dC, dI)) (ci := 3) (v := .int 0) (C := REp) (T := FEp) (N := 3) hx hb hB in_Ep hown hK hP 4 rfl rfl 2 (by decide) (hB _ hw_144) (fun _ h9 => h9) rfl d_TS_state_58 ?_
  exact W.iret (v := 0) hx hb hr (fun t ht _ => ⟨rfl, ht⟩) (fun _ h => nomatch h) d_TS_state_61
set_option maxHeartbeats 4000000 in
set_option maxRecDepth 100000 in
theorem p_TS_state3 (l : Launch) (dC : Nat → ClassId) (dI : Nat → Nat → Nat) (h0 : Nat) (q : Nat → Nat) (ci : Nat → ClassId) : Met l y_TS_state w_TS_state ({ frames := 1, cells := 0, slots := 0, locals := 21 }) (va_Pc [.ref h0, .int 3] (fun U => va_P (dC, dI) gx_cl (wTS h0 q ci) U.heap ∧ va_K (dC, dI) gx_cl (kTS ci) U)) (px_Q (some (.int 0))) 0 0 (fun _ => False) := by
  refine Met.ofW (cc := b_TS_state) (maxL := 2) (ret := (some .int)) (by decide) rfl ?_
  intro p e s m args below meth c s₁ B hml hv
  obtain ⟨rfl, hP, hK⟩ := hv
  have hx := B.exec
  have hb := B.bytes
  have hr := B.returns
  have hts := atoms_spec (ws := w_TS_state) B.pre
  have hB : ∀ w ∈ gx_B, w.before _ s = true := fun w h => hts w (List.mem_cons_of_mem _ h)
  have hown : s.vm.findClass "TapeSealer" = some m.cls := findClass_of_methodNamed B.named
  have hlocks := B.notSynchronized
  have hl := lv_entry ([.ref h0, .int 3]) (n := 2) (Nat.le_of_ble_eq_true rfl)
  rw [lg_entry_eq]
  generalize (lg_sl ([.ref h0, .int 3]) ++ List.replicate (2 - (lg_sl ([.ref h0, .int 3])).length) Slot.unset).toArray = ls at hl ⊢
  have hl : lv_has ls 2 [(0, .ref h0), (1, .int 3)] := hl
  refine lv_aload_n hx hb d_TS_state_0 rfl (lv_at hl 0 rfl) ?_
  refine px_go (va_runV (C := "TapeSealer") (As := []) (rest := []) ⟨hx, hb, hml, hown, hts⟩ (p_TS_lookAtHeaders l dC dI h0 q ci) (cwV 0 hts (gx_goodV hw_361 hw_363 hw_0 hw_66 k_TS_lookAtHeaders) rfl rfl rfl (by decide +kernel) ⟨(Nat.le_of_ble_eq_true rfl), (Nat.le_of_ble_eq_true rfl)⟩) ⟨fun a U g mk q => by obtain ⟨q0, qP, qK⟩ := q; exact ⟨q0, qP, va_K.moved (u := U) (U := U.calling g mk a) (Vm.Alike.refl U.vm) qK⟩, va_recv hK hP rfl (q0 := 0) rfl, fun U hU hW => ⟨rfl, by rw [hU]; exact hP, va_K.moved hW.alike (hK)⟩⟩ rfl rfl hl.1 rfl (lv_room (Nat.le_of_ble_eq_true rfl)) d_TS_state_1 ⟨(Nat.le_of_ble_eq_true rfl), (Nat.le_of_ble_eq_true rfl)⟩) ?_
  refine W.eq (g2 := F0 m 4 ls []) rfl ?_
  refine lv_iload_n hx hb d_TS_state_4 rfl (lv_at hl 1 rfl) ?_
  refine lv_tableIn (off := 57) (tgt := 62) hx hb d_TS_state_5 (by decide) (by decide) rfl (by decide) ?_
  refine lv_aload_n hx hb d_TS_state_62 rfl (lv_at hl 0 rfl) ?_
  refine va_get (D := (dC, dI)) (ci := 8) (v := .ref (q 0)) (C := RTS) (T := FTS) (N := 15) hx hb hB in_TS hown hK hP 0 rfl rfl 0 (by decide) (hB _ hw_307) (fun _ h9 => h9) rfl d_TS_state_63 ?_
  refine va_get (D := (dC, dI)) (ci := 1) (v := .int 0) (C := RCa) (T := FCa) (N := 6) hx hb hB in_Ca hown hK hP 1 rfl rfl 2 (by decide) (hB _ hw_111) (fun _ h9 => h9) rfl d_TS_state_66 ?_
  exact W.iret (v := 0) hx hb hr (fun t ht _ => ⟨rfl, ht⟩) (fun _ h => nomatch h) d_TS_state_69
set_option maxHeartbeats 4000000 in
set_option maxRecDepth 100000 in
theorem p_TS_state4 (l : Launch) (dC : Nat → ClassId) (dI : Nat → Nat → Nat) (h0 : Nat) (q : Nat → Nat) (ci : Nat → ClassId) : Met l y_TS_state w_TS_state ({ frames := 1, cells := 0, slots := 0, locals := 21 }) (va_Pc [.ref h0, .int 4] (fun U => va_P (dC, dI) gx_cl (wTS h0 q ci) U.heap ∧ va_K (dC, dI) gx_cl (kTS ci) U)) (px_Q (some (.int 0))) 0 0 (fun _ => False) := by
  refine Met.ofW (cc := b_TS_state) (maxL := 2) (ret := (some .int)) (by decide) rfl ?_
  intro p e s m args below meth c s₁ B hml hv
  obtain ⟨rfl, hP, hK⟩ := hv
  have hx := B.exec
  have hb := B.bytes
  have hr := B.returns
  have hts := atoms_spec (ws := w_TS_state) B.pre
  have hB : ∀ w ∈ gx_B, w.before _ s = true := fun w h => hts w (List.mem_cons_of_mem _ h)
  have hown : s.vm.findClass "TapeSealer" = some m.cls := findClass_of_methodNamed B.named
  have hlocks := B.notSynchronized
  have hl := lv_entry ([.ref h0, .int 4]) (n := 2) (Nat.le_of_ble_eq_true rfl)
  rw [lg_entry_eq]
  generalize (lg_sl ([.ref h0, .int 4]) ++ List.replicate (2 - (lg_sl ([.ref h0, .int 4])).length) Slot.unset).toArray = ls at hl ⊢
  have hl : lv_has ls 2 [(0, .ref h0), (1, .int 4)] := hl
  refine lv_aload_n hx hb d_TS_state_0 rfl (lv_at hl 0 rfl) ?_
  refine px_go (va_runV (C := "TapeSealer") (As := []) (rest := []) ⟨hx, hb, hml, hown, hts⟩ (p_TS_lookAtHeaders l dC dI h0 q ci) (cwV 0 hts (gx_goodV hw_361 hw_363 hw_0 hw_66 k_TS_lookAtHeaders) rfl rfl rfl (by decide +kernel) ⟨(Nat.le_of_ble_eq_true rfl), (Nat.le_of_ble_eq_true rfl)⟩) ⟨fun a U g mk q => by obtain ⟨q0, qP, qK⟩ := q; exact ⟨q0, qP, va_K.moved (u := U) (U := U.calling g mk a) (Vm.Alike.refl U.vm) qK⟩, va_recv hK hP rfl (q0 := 0) rfl, fun U hU hW => ⟨rfl, by rw [hU]; exact hP, va_K.moved hW.alike (hK)⟩⟩ rfl rfl hl.1 rfl (lv_room (Nat.le_of_ble_eq_true rfl)) d_TS_state_1 ⟨(Nat.le_of_ble_eq_true rfl), (Nat.le_of_ble_eq_true rfl)⟩) ?_
  refine W.eq (g2 := F0 m 4 ls []) rfl ?_
  refine lv_iload_n hx hb d_TS_state_4 rfl (lv_at hl 1 rfl) ?_
  refine lv_tableIn (off := 65) (tgt := 70) hx hb d_TS_state_5 (by decide) (by decide) rfl (by decide) ?_
  refine lv_aload_n hx hb d_TS_state_70 rfl (lv_at hl 0 rfl) ?_
  refine va_get (D := (dC, dI)) (ci := 8) (v := .ref (q 0)) (C := RTS) (T := FTS) (N := 15) hx hb hB in_TS hown hK hP 0 rfl rfl 0 (by decide) (hB _ hw_307) (fun _ h9 => h9) rfl d_TS_state_71 ?_
  refine va_get (D := (dC, dI)) (ci := 1) (v := .int 0) (C := RCa) (T := FCa) (N := 6) hx hb hB in_Ca hown hK hP 1 rfl rfl 4 (by decide) (hB _ hw_115) (fun _ h9 => h9) rfl d_TS_state_74 ?_
  refine lv_if_eq (tgt := 84) hx hb d_TS_state_77 (by decide) (fun _ => ?_) (fun h9 => absurd (by decide) h9)
  refine lv_iconst (v := 0) hx hb d_TS_state_84 (by decide) ?_
  exact W.iret (v := 0) hx hb hr (fun t ht _ => ⟨rfl, ht⟩) (fun _ h => nomatch h) d_TS_state_85
set_option maxHeartbeats 4000000 in
set_option maxRecDepth 100000 in
theorem p_TS_state5 (l : Launch) (dC : Nat → ClassId) (dI : Nat → Nat → Nat) (h0 : Nat) (q : Nat → Nat) (ci : Nat → ClassId) : Met l y_TS_state w_TS_state ({ frames := 1, cells := 0, slots := 0, locals := 21 }) (va_Pc [.ref h0, .int 5] (fun U => va_P (dC, dI) gx_cl (wTS h0 q ci) U.heap ∧ va_K (dC, dI) gx_cl (kTS ci) U)) (px_Q (some (.int 0))) 0 0 (fun _ => False) := by
  refine Met.ofW (cc := b_TS_state) (maxL := 2) (ret := (some .int)) (by decide) rfl ?_
  intro p e s m args below meth c s₁ B hml hv
  obtain ⟨rfl, hP, hK⟩ := hv
  have hx := B.exec
  have hb := B.bytes
  have hr := B.returns
  have hts := atoms_spec (ws := w_TS_state) B.pre
  have hB : ∀ w ∈ gx_B, w.before _ s = true := fun w h => hts w (List.mem_cons_of_mem _ h)
  have hown : s.vm.findClass "TapeSealer" = some m.cls := findClass_of_methodNamed B.named
  have hlocks := B.notSynchronized
  have hl := lv_entry ([.ref h0, .int 5]) (n := 2) (Nat.le_of_ble_eq_true rfl)
  rw [lg_entry_eq]
  generalize (lg_sl ([.ref h0, .int 5]) ++ List.replicate (2 - (lg_sl ([.ref h0, .int 5])).length) Slot.unset).toArray = ls at hl ⊢
  have hl : lv_has ls 2 [(0, .ref h0), (1, .int 5)] := hl
  refine lv_aload_n hx hb d_TS_state_0 rfl (lv_at hl 0 rfl) ?_
  refine px_go (va_runV (C := "TapeSealer") (As := []) (rest := []) ⟨hx, hb, hml, hown, hts⟩ (p_TS_lookAtHeaders l dC dI h0 q ci) (cwV 0 hts (gx_goodV hw_361 hw_363 hw_0 hw_66 k_TS_lookAtHeaders) rfl rfl rfl (by decide +kernel) ⟨(Nat.le_of_ble_eq_true rfl), (Nat.le_of_ble_eq_true rfl)⟩) ⟨fun a U g mk q => by obtain ⟨q0, qP, qK⟩ := q; exact ⟨q0, qP, va_K.moved (u := U) (U := U.calling g mk a) (Vm.Alike.refl U.vm) qK⟩, va_recv hK hP rfl (q0 := 0) rfl, fun U hU hW => ⟨rfl, by rw [hU]; exact hP, va_K.moved hW.alike (hK)⟩⟩ rfl rfl hl.1 rfl (lv_room (Nat.le_of_ble_eq_true rfl)) d_TS_state_1 ⟨(Nat.le_of_ble_eq_true rfl), (Nat.le_of_ble_eq_true rfl)⟩) ?_
  refine W.eq (g2 := F0 m 4 ls []) rfl ?_
  refine lv_iload_n hx hb d_TS_state_4 rfl (lv_at hl 1 rfl) ?_
  refine lv_tableIn (off := 81) (tgt := 86) hx hb d_TS_state_5 (by decide) (by decide) rfl (by decide) ?_
  refine lv_aload_n hx hb d_TS_state_86 rfl (lv_at hl 0 rfl) ?_
  refine va_get (D := (dC, dI)) (ci := 8) (v := .int 0) (C := RTS) (T := FTS) (N := 15) hx hb hB in_TS hown hK hP 0 rfl rfl 11 (by decide) (hB _ hw_318) (fun _ h9 => h9) rfl d_TS_state_87 ?_
  exact W.iret (v := 0) hx hb hr (fun t ht _ => ⟨rfl, ht⟩) (fun _ h => nomatch h) d_TS_state_90
set_option maxHeartbeats 4000000 in
set_option maxRecDepth 100000 in
theorem p_TS_scrub (l : Launch) (dC : Nat → ClassId) (dI : Nat → Nat → Nat) (h0 : Nat) (q : Nat → Nat) (ci : Nat → ClassId) (p0 : Int32) (h1 : ¬ p0 < 0) (h2 : p0 < 6) : Met l y_TS_scrub w_TS_scrub ({ frames := 2, cells := 0, slots := 0, locals := 43 }) (va_Pc [.ref h0, .int p0] (fun U => va_P (dC, dI) gx_cl (wTS h0 q ci) U.heap ∧ va_K (dC, dI) gx_cl (kTS ci) U)) (px_Q (some (.int (-1)))) 0 0 (fun _ => False) := by
  refine Met.ofW (cc := b_TS_scrub) (maxL := 6) (ret := (some .int)) (by decide) rfl ?_
  intro p e s m args below meth c s₁ B hml hv
  obtain ⟨rfl, hP, hK⟩ := hv
  have hx := B.exec
  have hb := B.bytes
  have hr := B.returns
  have hts := atoms_spec (ws := w_TS_scrub) B.pre
  have hB : ∀ w ∈ gx_B, w.before _ s = true := fun w h => hts w (List.mem_cons_of_mem _ h)
  have hown : s.vm.findClass "TapeSealer" = some m.cls := findClass_of_methodNamed B.named
  have hlocks := B.notSynchronized
  have hl := lv_entry ([.ref h0, .int p0]) (n := 6) (Nat.le_of_ble_eq_true rfl)
  rw [lg_entry_eq]
  generalize (lg_sl ([.ref h0, .int p0]) ++ List.replicate (6 - (lg_sl ([.ref h0, .int p0])).length) Slot.unset).toArray = ls at hl ⊢
  have hl : lv_has ls 6 [(0, .ref h0), (1, .int p0)] := hl
  refine lv_iload_n hx hb d_TS_scrub_0 rfl (lv_at hl 1 rfl) ?_
  refine lv_if_lt (tgt := 10) hx hb d_TS_scrub_1 (by decide) (fun h9 => absurd h9 h1) (fun _ => ?_)
  refine lv_iload_n hx hb d_TS_scrub_4 rfl (lv_at hl 1 rfl) ?_
  refine lv_bipush (v := 6) hx hb d_TS_scrub_5 (by decide) ?_
  refine lv_icmp_lt (tgt := 18) hx hb d_TS_scrub_7 (by decide) (fun _ => ?_) (fun h9 => absurd h2 h9)
  refine lv_aload_n hx hb d_TS_scrub_18 rfl (lv_at hl 0 rfl) ?_
  refine va_get (D := (dC, dI)) (ci := 8) (v := .ref (q 0)) (C := RTS) (T := FTS) (N := 15) hx hb hB in_TS hown hK hP 0 rfl rfl 0 (by decide) (hB _ hw_307) (fun _ h9 => h9) rfl d_TS_scrub_19 ?_
  refine va_get (D := (dC, dI)) (ci := 1) (v := .int 0) (C := RCa) (T := FCa) (N := 6) hx hb hB in_Ca hown hK hP 1 rfl rfl 4 (by decide) (hB _ hw_115) (fun _ h9 => h9) rfl d_TS_scrub_22 ?_
  refine lv_if_eq (tgt := 36) hx hb d_TS_scrub_25 (by decide) (fun _ => ?_) (fun h9 => absurd (by decide) h9)
  refine lv_aload_n hx hb d_TS_scrub_36 rfl (lv_at hl 0 rfl) ?_
  refine px_go (va_runV (C := "TapeSealer") (As := []) (rest := []) ⟨hx, hb, hml, hown, hts⟩ (p_TS_lookAtHeaders l dC dI h0 q ci) (cwV 0 hts (gx_goodV hw_361 hw_363 hw_0 hw_66 k_TS_lookAtHeaders) rfl rfl rfl (by decide +kernel) ⟨(Nat.le_of_ble_eq_true rfl), (Nat.le_of_ble_eq_true rfl)⟩) ⟨fun a U g mk q => by obtain ⟨q0, qP, qK⟩ := q; exact ⟨q0, qP, va_K.moved (u := U) (U := U.calling g mk a) (Vm.Alike.refl U.vm) qK⟩, va_recv hK hP rfl (q0 := 0) rfl, fun U hU hW => ⟨rfl, by rw [hU]; exact hP, va_K.moved hW.alike (hK)⟩⟩ rfl rfl hl.1 rfl (lv_room (Nat.le_of_ble_eq_true rfl)) d_TS_scrub_37 ⟨(Nat.le_of_ble_eq_true rfl), (Nat.le_of_ble_eq_true rfl)⟩) ?_
  refine W.eq (g2 := F0 m 40 ls []) rfl ?_
  refine lv_aload_n hx hb d_TS_scrub_40 rfl (lv_at hl 0 rfl) ?_
  refine lv_iload_n hx hb d_TS_scrub_41 rfl (lv_at hl 1 rfl) ?_
  refine px_go (va_runV (C := "TapeSealer") (As := [.int p0]) (rest := []) ⟨hx, hb, hml, hown, hts⟩ (p_TS_ownerOf l dC dI h0 q ci p0) (cwV 1 hts (gx_goodV hw_565 hw_567 hw_14 hw_66 k_TS_ownerOf) rfl rfl rfl (by decide +kernel) ⟨(Nat.le_of_ble_eq_true rfl), (Nat.le_of_ble_eq_true rfl)⟩) ⟨fun a U g mk q => by obtain ⟨q0, qP, qK⟩ := q; exact ⟨q0, qP, va_K.moved (u := U) (U := U.calling g mk a) (Vm.Alike.refl U.vm) qK⟩, va_recv hK hP rfl (q0 := 0) rfl, fun U hU hW => ⟨rfl, by rw [hU]; exact hP, va_K.moved hW.alike (hK)⟩⟩ rfl rfl hl.1 rfl (lv_room (Nat.le_of_ble_eq_true rfl)) d_TS_scrub_42 ⟨(Nat.le_of_ble_eq_true rfl), (Nat.le_of_ble_eq_true rfl)⟩) ?_
  refine W.eq (g2 := F0 m 45 ls [.int (-1)]) rfl ?_
  refine lv_istore_n hx hb d_TS_scrub_45 rfl hl (by decide) rfl (fun ls hl => ?_)
  have hl : lv_has ls 6 [(2, .int (-1)), (0, .ref h0), (1, .int p0)] := hl
  refine lv_iload_n hx hb d_TS_scrub_46 rfl (lv_at hl 0 rfl) ?_
  refine lv_iconst (v := (-1)) hx hb d_TS_scrub_47 (by decide) ?_
  refine lv_icmp_ne (tgt := 53) hx hb d_TS_scrub_48 (by decide) (fun h9 => absurd (by decide) h9) (fun _ => ?_)
  refine lv_iconst (v := (-1)) hx hb d_TS_scrub_51 (by decide) ?_
  exact W.iret (v := (-1)) hx hb hr (fun t ht _ => ⟨rfl, ht⟩) (fun _ h => nomatch h) d_TS_scrub_52
