section MXF
variable {p : Program} {l : Launch} {e : Env} {R : Room} {s : State} {m : MethodId} {args : Array Value} {below : List Frame} {meth : Method} {c : Code} {H : Heap} {locs : List Loc} {cells slots : Nat} {Q : State → Prop}
variable {cc : ByteArray} {pc : Nat} {ls : Array Slot} {rest : List Value} {D : va_G} {cl : List vw_C} {tys : List (ClassId × FieldType)} {ws : va_W} {a : Nat}
/-- a row of the grid: its address -/
theorem mx_ald (hexec : p.tables.exec = Jvm.exec) (hb : c.code = cc) (hK : va_K D cl tys s) (hP : va_P D cl ws H) (q0 t0 : Nat) {cA : ClassId} {q N jn : Nat} (ha : ws[q0]? = some (a, .inl (cA, N, .inr (.inr (.inr (.inr (mx_g q N))))))) (ht : tys[t0]? = some (cA, .array .int)) {i : Int32} (hj : i.toNatClampNeg = jn) (hin : vp_in i N) (hdg : decode cc pc = .ok (.aaload, 1))
    (kk : W p l e R s m args below meth c H locs cells slots Q (F0 m (pc + 1) ls (.ref (q + 1 + jn) :: rest))) : W p l e R s m args below meth c H locs cells slots Q (F0 m pc ls (.int i :: .ref a :: rest)) := by
  subst hj
  have hlt : i.toNatClampNeg < N := Nat.not_le.mp fun q => hin (Or.inr q)
  refine W.aald (v := .ref (q + 1 + i.toNatClampNeg)) (ty := .array .int) hexec hb (hP q0 _ ha) ((hK.2 t0 _ ht).1 N (fun j => va_rf (mx_g q N j))) rfl (fun q => by cases q) (by show ¬ (i < 0 ∨ (arrV _ _ _).slots.size ≤ _); rw [arrV_size]; exact hin) ?_ rfl rfl hdg kk
  show (arrV _ _ _).slots[_]? = _
  rw [arrV_read _ _ hlt]
  unfold mx_g
  rw [if_pos hlt]
  rfl
end MXF
theorem gx_in44 {b : Int32} (h1 : ¬ b < 0) (h2 : ¬ 44 ≤ b) : vp_in b 44 := by
  rw [vp_in_iff]
  rw [Int32.lt_iff_toInt_lt] at h1
  rw [Int32.le_iff_toInt_le] at h2
  have e1 : (44 : Int32).toInt = 44 := by decide
  have e0 : (0 : Int32).toInt = 0 := by decide
  omega
theorem gx_in64 {b : Int32} (h1 : ¬ b < 0) (h2 : ¬ 64 ≤ b) : vp_in b 64 := by
  rw [vp_in_iff]
  rw [Int32.lt_iff_toInt_lt] at h1
  rw [Int32.le_iff_toInt_le] at h2
  have e1 : (64 : Int32).toInt = 64 := by decide
  have e0 : (0 : Int32).toInt = 0 := by decide
  omega
theorem gx_p4 {n : Int32} (h : 4 < n) : ¬ n < 1 := by
  rw [Int32.lt_iff_toInt_lt] at h ⊢
  have e1 : (4 : Int32).toInt = 4 := by decide
  have e0 : (1 : Int32).toInt = 1 := by decide
  omega
set_option maxHeartbeats 4000000 in
set_option maxRecDepth 100000 in
theorem m_Ca_noteChange (l : Launch) (dC : Nat → ClassId) (dI : Nat → Nat → Nat) (sz : Nat) (h0 r0 r1 : Nat) (w0 w1 w2 w3 g : Int32) : Met l y_Ca_noteChange w_Ca_noteChange ({ frames := 0, cells := 0, slots := 0, locals := 0 }) (va_Pc [.ref h0, .int g] (fun U => U.heap.size = sz ∧ va_P (dC, dI) gx_cl [(h0, .inr (1, [.ref r0, .ref r1, .int w0, .int w1, .int w2, .int w3]))] U.heap ∧ va_K (dC, dI) gx_cl [] U ∧ va_D (fun _ => True) [(h0, .inr (1, [.ref r0, .ref r1, .int w0, .int w1, .int w2, .int w3]))])) (va_Qv (fun _ : Unit => True) (fun _ t => True) (va_A [(h0, .inr (1, [.ref r0, .ref r1, .int w0, .int w1, .int w2, .int w3]))] sz)) 0 0 (va_A [(h0, .inr (1, [.ref r0, .ref r1, .int w0, .int w1, .int w2, .int w3]))] sz) := by
  refine Met.ofW (cc := b_Ca_noteChange) (maxL := 2) (ret := none) (by decide) rfl ?_
  intro p e s m args below meth c s₁ B hml hv
  obtain ⟨rfl, hsz, hP, hK, hD0⟩ := hv
  have hx := B.exec
  have hb := B.bytes
  have hr := B.returns
  have hts := atoms_spec (ws := w_Ca_noteChange) B.pre
  have hB : ∀ w ∈ gx_B, w.before _ s = true := fun w h => hts w (List.mem_cons_of_mem _ h)
  have hown : s.vm.findClass "TapeSealer$Cartridge" = some m.cls := findClass_of_methodNamed B.named
  have hlocks := B.notSynchronized
  subst hsz
  have hD := hD0.self (sz := s.heap.size)
  generalize hAe : va_A [(h0, .inr (1, [.ref r0, .ref r1, .int w0, .int w1, .int w2, .int w3]))] s.heap.size = A at hD ⊢
  have hA : ∀ q : Nat, s.heap.size ≤ q → A q := fun q h => by rw [← hAe]; exact Or.inr h
  have hS : va_S A s.heap s.heap [] := va_S.rf
  have hl := lv_entry ([.ref h0, .int g]) (n := 2) (Nat.le_of_ble_eq_true rfl)
  rw [lg_entry_eq]
  generalize (lg_sl ([.ref h0, .int g]) ++ List.replicate (2 - (lg_sl ([.ref h0, .int g])).length) Slot.unset).toArray = ls at hl ⊢
  have hl : lv_has ls 2 [(0, .ref h0), (1, .int g)] := hl
  by_cases hg : 8 ≤ g
  · refine lv_iload_n hx hb d_Ca_noteChange_0 rfl (lv_at hl 1 rfl) ?_
    refine lv_bipush (v := 8) hx hb d_Ca_noteChange_1 (by decide) ?_
    refine lv_icmp_ge (tgt := 11) hx hb d_Ca_noteChange_3 (by decide) (fun _ => ?_) (fun h9 => absurd hg h9)
    refine W.widen (k := 0) (n := 0) (Nat.le_of_ble_eq_true rfl) (Nat.le_of_ble_eq_true rfl) ?_
    exact W.vret hx hb hr (fun t ht hW => ⟨⟨(), rfl, trivial, trivial⟩, hS.F ht⟩) hS.2.2 d_Ca_noteChange_11
  · refine lv_iload_n hx hb d_Ca_noteChange_0 rfl (lv_at hl 1 rfl) ?_
    refine lv_bipush (v := 8) hx hb d_Ca_noteChange_1 (by decide) ?_
    refine lv_icmp_ge (tgt := 11) hx hb d_Ca_noteChange_3 (by decide) (fun h9 => absurd h9 hg) (fun _ => ?_)
    refine lv_aload_n hx hb d_Ca_noteChange_6 rfl (lv_at hl 0 rfl) ?_
    refine lv_iconst (v := 1) hx hb d_Ca_noteChange_7 (by decide) ?_
    refine va_put (D := (dC, dI)) (ci := 1) (v := .int 1) (ty := .boolean) (C := RCa) (T := FCa) (N := 6) hx hb hB in_Ca tCa tCa_ok nCa hown hK hP hD hS 0 rfl rfl 5 (by decide) (hB _ hw_116) (fun _ h9 => h9) rfl (by decide +kernel) rfl rfl (Nat.le_of_ble_eq_true rfl) d_Ca_noteChange_8 (fun H locs hP hD hS => ?_)
    have hP : va_P (dC, dI) gx_cl [(h0, .inr (1, [.ref r0, .ref r1, .int w0, .int w1, .int w2, .int 1]))] H := hP
    have hD : va_D A [(h0, .inr (1, [.ref r0, .ref r1, .int w0, .int w1, .int w2, .int 1]))] := hD
    refine W.widen (k := 0) (n := 0) (Nat.le_of_ble_eq_true rfl) (Nat.le_of_ble_eq_true rfl) ?_
    exact W.vret hx hb hr (fun t ht hW => ⟨⟨(), rfl, trivial, trivial⟩, hS.F ht⟩) hS.2.2 d_Ca_noteChange_11
set_option maxHeartbeats 4000000 in
set_option maxRecDepth 100000 in
theorem m_TS_put1 (l : Launch) (dC : Nat → ClassId) (dI : Nat → Nat → Nat) (sz : Nat) (h0 : Nat) (q : Nat → Nat) (ci : Nat → ClassId) (p0 : Int32) : Met l y_TS_put w_TS_put ({ frames := 0, cells := 0, slots := 0, locals := 0 }) (va_Pc [.ref h0, .int p0, .int 1] (fun U => U.heap.size = sz ∧ va_P (dC, dI) gx_cl [(h0, .inr (8, [.ref (q 0), .ref (q 3), .ref (q 18), .ref (q 19), .ref (q 6), .ref (q 20), .ref (q 21), .ref (q 22), .ref (q 23), .ref (q 15), .ref (q 17), .int 0, .ref (q 24), .ref (q 25), .int 0])), ((q 17), .inl ((ci 4), 192, .inl (fun _ => 0)))] U.heap ∧ va_K (dC, dI) gx_cl (kTS ci) U ∧ va_D (fun _ => True) [(h0, .inr (8, [.ref (q 0), .ref (q 3), .ref (q 18), .ref (q 19), .ref (q 6), .ref (q 20), .ref (q 21), .ref (q 22), .ref (q 23), .ref (q 15), .ref (q 17), .int 0, .ref (q 24), .ref (q 25), .int 0])), ((q 17), .inl ((ci 4), 192, .inl (fun _ => 0)))])) (va_Qi (fun (r : Int32) (_ : Unit) => r = 1) (fun _ t => True) (va_A [(h0, .inr (8, [.ref (q 0), .ref (q 3), .ref (q 18), .ref (q 19), .ref (q 6), .ref (q 20), .ref (q 21), .ref (q 22), .ref (q 23), .ref (q 15), .ref (q 17), .int 0, .ref (q 24), .ref (q 25), .int 0])), ((q 17), .inl ((ci 4), 192, .inl (fun _ => 0)))] sz)) 0 0 (va_A [(h0, .inr (8, [.ref (q 0), .ref (q 3), .ref (q 18), .ref (q 19), .ref (q 6), .ref (q 20), .ref (q 21), .ref (q 22), .ref (q 23), .ref (q 15), .ref (q 17), .int 0, .ref (q 24), .ref (q 25), .int 0])), ((q 17), .inl ((ci 4), 192, .inl (fun _ => 0)))] sz) := by
  refine Met.ofW (cc := b_TS_put) (maxL := 4) (ret := (some .boolean)) (by decide) rfl ?_
  intro p e s m args below meth c s₁ B hml hv
  obtain ⟨rfl, hsz, hP, hK, hD0⟩ := hv
  have hx := B.exec
  have hb := B.bytes
  have hr := B.returns
  have hts := atoms_spec (ws := w_TS_put) B.pre
  have hB : ∀ w ∈ gx_B, w.before _ s = true := fun w h => hts w (List.mem_cons_of_mem _ h)
  have hown : s.vm.findClass "TapeSealer" = some m.cls := findClass_of_methodNamed B.named
  have hlocks := B.notSynchronized
  subst hsz
  have hD := hD0.self (sz := s.heap.size)
  generalize hAe : va_A [(h0, .inr (8, [.ref (q 0), .ref (q 3), .ref (q 18), .ref (q 19), .ref (q 6), .ref (q 20), .ref (q 21), .ref (q 22), .ref (q 23), .ref (q 15), .ref (q 17), .int 0, .ref (q 24), .ref (q 25), .int 0])), ((q 17), .inl ((ci 4), 192, .inl (fun _ => 0)))] s.heap.size = A at hD ⊢
  have hA : ∀ q : Nat, s.heap.size ≤ q → A q := fun q h => by rw [← hAe]; exact Or.inr h
  have hS : va_S A s.heap s.heap [] := va_S.rf
  have hl := lv_entry ([.ref h0, .int p0, .int 1]) (n := 4) (Nat.le_of_ble_eq_true rfl)
  rw [lg_entry_eq]
  generalize (lg_sl ([.ref h0, .int p0, .int 1]) ++ List.replicate (4 - (lg_sl ([.ref h0, .int p0, .int 1])).length) Slot.unset).toArray = ls at hl ⊢
  have hl : lv_has ls 4 [(0, .ref h0), (1, .int p0), (2, .int 1)] := hl
  refine lv_iload_n hx hb d_TS_put_0 rfl (lv_at hl 2 rfl) ?_
  refine lv_iconst (v := 1) hx hb d_TS_put_1 (by decide) ?_
  refine lv_icmp_lt (tgt := 22) hx hb d_TS_put_2 (by decide) (fun h9 => absurd h9 (by decide)) (fun _ => ?_)
  refine lv_iload_n hx hb d_TS_put_5 rfl (lv_at hl 2 rfl) ?_
  refine lv_iconst (v := 4) hx hb d_TS_put_6 (by decide) ?_
  refine lv_icmp_gt (tgt := 22) hx hb d_TS_put_7 (by decide) (fun h9 => absurd h9 (by decide)) (fun _ => ?_)
  refine lv_aload_n hx hb d_TS_put_10 rfl (lv_at hl 0 rfl) ?_
  refine va_get (D := (dC, dI)) (ci := 8) (v := .int 0) (C := RTS) (T := FTS) (N := 15) hx hb hB in_TS hown hK hP 0 rfl rfl 11 (by decide) (hB _ hw_318) (fun _ h9 => h9) rfl d_TS_put_11 ?_
  refine lv_iload_n hx hb d_TS_put_14 rfl (lv_at hl 2 rfl) ?_
  refine lv_iadd hx hb d_TS_put_15 ?_
  refine lv_topi (fun z1 z1_e => ?_)
  obtain rfl : z1 = 1 := z1_e.trans (by decide)
  refine lv_sipush (v := 192) hx hb d_TS_put_16 (by decide) ?_
  refine lv_icmp_le (tgt := 24) hx hb d_TS_put_19 (by decide) (fun _ => ?_) (fun h9 => absurd (by decide) h9)
  refine lv_iload_n hx hb d_TS_put_24 rfl (lv_at hl 2 rfl) ?_
  refine lv_iconst (v := 1) hx hb d_TS_put_25 (by decide) ?_
  refine lv_isub hx hb d_TS_put_26 ?_
  refine lv_topi (fun z2 z2_e => ?_)
  obtain rfl : z2 = 0 := z2_e.trans (by decide)
  refine lv_istore_n hx hb d_TS_put_27 rfl hl (by decide) rfl (fun ls hl => ?_)
  have hl : lv_has ls 4 [(3, .int 0), (0, .ref h0), (1, .int p0), (2, .int 1)] := hl
  refine lv_iload_n hx hb d_TS_put_28 rfl (lv_at hl 0 rfl) ?_
  refine lv_if_lt (tgt := 67) hx hb d_TS_put_29 (by decide) (fun h9 => absurd h9 (by decide)) (fun _ => ?_)
  refine lv_aload_n hx hb d_TS_put_32 rfl (lv_at hl 1 rfl) ?_
  refine va_get (D := (dC, dI)) (ci := 8) (v := .ref (q 17)) (C := RTS) (T := FTS) (N := 15) hx hb hB in_TS hown hK hP 0 rfl rfl 10 (by decide) (hB _ hw_317) (fun _ h9 => h9) rfl d_TS_put_33 ?_
  refine lv_aload_n hx hb d_TS_put_36 rfl (lv_at hl 1 rfl) ?_
  refine va_get (D := (dC, dI)) (ci := 8) (v := .int 0) (C := RTS) (T := FTS) (N := 15) hx hb hB in_TS hown hK hP 0 rfl rfl 11 (by decide) (hB _ hw_318) (fun _ h9 => h9) rfl d_TS_put_37 ?_
  refine lv_iload_n hx hb d_TS_put_40 rfl (lv_at hl 2 rfl) ?_
  refine lv_bipush (v := 8) hx hb d_TS_put_41 (by decide) ?_
  refine lv_iload_n hx hb d_TS_put_43 rfl (lv_at hl 0 rfl) ?_
  refine lv_imul hx hb d_TS_put_44 ?_
  refine lv_topi (fun z3 z3_e => ?_)
  obtain rfl : z3 = 0 := z3_e.trans (by decide)
  refine lv_iushr hx hb d_TS_put_45 rfl ?_
  refine lv_topi (fun z4 z4_e => ?_)
  refine lv_sipush (v := 255) hx hb d_TS_put_46 (by decide) ?_
  refine lv_iand hx hb d_TS_put_49 ?_
  refine lv_topi (fun z5 z5_e => ?_)
  refine va_iast (D := (dC, dI)) hx hb hK hP hD hS 1 4 rfl rfl (by unfold vp_in; decide) d_TS_put_50 (fun H locs hP hD hS => ?_)
  have hP : va_P (dC, dI) gx_cl [(h0, .inr (8, [.ref (q 0), .ref (q 3), .ref (q 18), .ref (q 19), .ref (q 6), .ref (q 20), .ref (q 21), .ref (q 22), .ref (q 23), .ref (q 15), .ref (q 17), .int 0, .ref (q 24), .ref (q 25), .int 0])), ((q 17), .inl ((ci 4), 192, .inl (upd (fun _ => 0) (Int32.toNatClampNeg 0) z5)))] H := hP
  have hD : va_D A [(h0, .inr (8, [.ref (q 0), .ref (q 3), .ref (q 18), .ref (q 19), .ref (q 6), .ref (q 20), .ref (q 21), .ref (q 22), .ref (q 23), .ref (q 15), .ref (q 17), .int 0, .ref (q 24), .ref (q 25), .int 0])), ((q 17), .inl ((ci 4), 192, .inl (upd (fun _ => 0) (Int32.toNatClampNeg 0) z5)))] := hD
  refine lv_aload_n hx hb d_TS_put_51 rfl (lv_at hl 1 rfl) ?_
  refine lv_dup hx hb d_TS_put_52 rfl ?_
  refine va_get (D := (dC, dI)) (ci := 8) (v := .int 0) (C := RTS) (T := FTS) (N := 15) hx hb hB in_TS hown hK hP 0 rfl rfl 11 (by decide) (hB _ hw_318) (fun _ h9 => h9) rfl d_TS_put_53 ?_
  refine lv_iconst (v := 1) hx hb d_TS_put_56 (by decide) ?_
  refine lv_iadd hx hb d_TS_put_57 ?_
  refine lv_topi (fun z6 z6_e => ?_)
  obtain rfl : z6 = 1 := z6_e.trans (by decide)
  refine va_put (D := (dC, dI)) (ci := 8) (v := .int 1) (ty := .int) (C := RTS) (T := FTS) (N := 15) hx hb hB in_TS tTS tTS_ok nTS hown hK hP hD hS 0 rfl rfl 11 (by decide) (hB _ hw_318) (fun _ h9 => h9) rfl (by decide +kernel) rfl rfl (Nat.le_of_ble_eq_true rfl) d_TS_put_58 (fun H locs hP hD hS => ?_)
  have hP : va_P (dC, dI) gx_cl [(h0, .inr (8, [.ref (q 0), .ref (q 3), .ref (q 18), .ref (q 19), .ref (q 6), .ref (q 20), .ref (q 21), .ref (q 22), .ref (q 23), .ref (q 15), .ref (q 17), .int 1, .ref (q 24), .ref (q 25), .int 0])), ((q 17), .inl ((ci 4), 192, .inl (upd (fun _ => 0) (Int32.toNatClampNeg 0) z5)))] H := hP
  have hD : va_D A [(h0, .inr (8, [.ref (q 0), .ref (q 3), .ref (q 18), .ref (q 19), .ref (q 6), .ref (q 20), .ref (q 21), .ref (q 22), .ref (q 23), .ref (q 15), .ref (q 17), .int 1, .ref (q 24), .ref (q 25), .int 0])), ((q 17), .inl ((ci 4), 192, .inl (upd (fun _ => 0) (Int32.toNatClampNeg 0) z5)))] := hD
  refine lv_iinc (k := 0) (v := (-1)) hx hb d_TS_put_61 hl rfl (by decide) (by decide) rfl (fun ls hl => ?_)
  have hl : lv_has ls 4 [(3, .int (-1)), (0, .ref h0), (1, .int p0), (2, .int 1)] := hl
  refine lv_goto (tgt := 28) hx hb d_TS_put_64 (by decide) ?_
  refine lv_iload_n hx hb d_TS_put_28 rfl (lv_at hl 0 rfl) ?_
  refine lv_if_lt (tgt := 67) hx hb d_TS_put_29 (by decide) (fun _ => ?_) (fun h9 => absurd (by decide) h9)
  refine lv_iconst (v := 1) hx hb d_TS_put_67 (by decide) ?_
  refine W.widen (k := 0) (n := 0) (Nat.le_of_ble_eq_true rfl) (Nat.le_of_ble_eq_true rfl) ?_
  exact W.zret (v := 1) hx hb hr rfl (fun t ht hW => ⟨⟨1, (), rfl, rfl, trivial⟩, hS.F ht⟩) hS.2.2 d_TS_put_68
set_option maxHeartbeats 4000000 in
set_option maxRecDepth 100000 in
theorem m_TS_put2 (l : Launch) (dC : Nat → ClassId) (dI : Nat → Nat → Nat) (sz : Nat) (h0 : Nat) (q : Nat → Nat) (ci : Nat → ClassId) (p0 : Int32) : Met l y_TS_put w_TS_put ({ frames := 0, cells := 0, slots := 0, locals := 0 }) (va_Pc [.ref h0, .int p0, .int 2] (fun U => U.heap.size = sz ∧ va_P (dC, dI) gx_cl [(h0, .inr (8, [.ref (q 0), .ref (q 3), .ref (q 18), .ref (q 19), .ref (q 6), .ref (q 20), .ref (q 21), .ref (q 22), .ref (q 23), .ref (q 15), .ref (q 17), .int 0, .ref (q 24), .ref (q 25), .int 0])), ((q 17), .inl ((ci 4), 192, .inl (fun _ => 0)))] U.heap ∧ va_K (dC, dI) gx_cl (kTS ci) U ∧ va_D (fun _ => True) [(h0, .inr (8, [.ref (q 0), .ref (q 3), .ref (q 18), .ref (q 19), .ref (q 6), .ref (q 20), .ref (q 21), .ref (q 22), .ref (q 23), .ref (q 15), .ref (q 17), .int 0, .ref (q 24), .ref (q 25), .int 0])), ((q 17), .inl ((ci 4), 192, .inl (fun _ => 0)))])) (va_Qi (fun (r : Int32) (_ : Unit) => r = 1) (fun _ t => True) (va_A [(h0, .inr (8, [.ref (q 0), .ref (q 3), .ref (q 18), .ref (q 19), .ref (q 6), .ref (q 20), .ref (q 21), .ref (q 22), .ref (q 23), .ref (q 15), .ref (q 17), .int 0, .ref (q 24), .ref (q 25), .int 0])), ((q 17), .inl ((ci 4), 192, .inl (fun _ => 0)))] sz)) 0 0 (va_A [(h0, .inr (8, [.ref (q 0), .ref (q 3), .ref (q 18), .ref (q 19), .ref (q 6), .ref (q 20), .ref (q 21), .ref (q 22), .ref (q 23), .ref (q 15), .ref (q 17), .int 0, .ref (q 24), .ref (q 25), .int 0])), ((q 17), .inl ((ci 4), 192, .inl (fun _ => 0)))] sz) := by
  refine Met.ofW (cc := b_TS_put) (maxL := 4) (ret := (some .boolean)) (by decide) rfl ?_
  intro p e s m args below meth c s₁ B hml hv
  obtain ⟨rfl, hsz, hP, hK, hD0⟩ := hv
  have hx := B.exec
  have hb := B.bytes
  have hr := B.returns
  have hts := atoms_spec (ws := w_TS_put) B.pre
  have hB : ∀ w ∈ gx_B, w.before _ s = true := fun w h => hts w (List.mem_cons_of_mem _ h)
  have hown : s.vm.findClass "TapeSealer" = some m.cls := findClass_of_methodNamed B.named
  have hlocks := B.notSynchronized
  subst hsz
  have hD := hD0.self (sz := s.heap.size)
  generalize hAe : va_A [(h0, .inr (8, [.ref (q 0), .ref (q 3), .ref (q 18), .ref (q 19), .ref (q 6), .ref (q 20), .ref (q 21), .ref (q 22), .ref (q 23), .ref (q 15), .ref (q 17), .int 0, .ref (q 24), .ref (q 25), .int 0])), ((q 17), .inl ((ci 4), 192, .inl (fun _ => 0)))] s.heap.size = A at hD ⊢
  have hA : ∀ q : Nat, s.heap.size ≤ q → A q := fun q h => by rw [← hAe]; exact Or.inr h
  have hS : va_S A s.heap s.heap [] := va_S.rf
  have hl := lv_entry ([.ref h0, .int p0, .int 2]) (n := 4) (Nat.le_of_ble_eq_true rfl)
  rw [lg_entry_eq]
  generalize (lg_sl ([.ref h0, .int p0, .int 2]) ++ List.replicate (4 - (lg_sl ([.ref h0, .int p0, .int 2])).length) Slot.unset).toArray = ls at hl ⊢
  have hl : lv_has ls 4 [(0, .ref h0), (1, .int p0), (2, .int 2)] := hl
  refine lv_iload_n hx hb d_TS_put_0 rfl (lv_at hl 2 rfl) ?_
  refine lv_iconst (v := 1) hx hb d_TS_put_1 (by decide) ?_
  refine lv_icmp_lt (tgt := 22) hx hb d_TS_put_2 (by decide) (fun h9 => absurd h9 (by decide)) (fun _ => ?_)
  refine lv_iload_n hx hb d_TS_put_5 rfl (lv_at hl 2 rfl) ?_
  refine lv_iconst (v := 4) hx hb d_TS_put_6 (by decide) ?_
  refine lv_icmp_gt (tgt := 22) hx hb d_TS_put_7 (by decide) (fun h9 => absurd h9 (by decide)) (fun _ => ?_)
  refine lv_aload_n hx hb d_TS_put_10 rfl (lv_at hl 0 rfl) ?_
  refine va_get (D := (dC, dI)) (ci := 8) (v := .int 0) (C := RTS) (T := FTS) (N := 15) hx hb hB in_TS hown hK hP 0 rfl rfl 11 (by decide) (hB _ hw_318) (fun _ h9 => h9) rfl d_TS_put_11 ?_
  refine lv_iload_n hx hb d_TS_put_14 rfl (lv_at hl 2 rfl) ?_
  refine lv_iadd hx hb d_TS_put_15 ?_
  refine lv_topi (fun z1 z1_e => ?_)
  obtain rfl : z1 = 2 := z1_e.trans (by decide)
  refine lv_sipush (v := 192) hx hb d_TS_put_16 (by decide) ?_
  refine lv_icmp_le (tgt := 24) hx hb d_TS_put_19 (by decide) (fun _ => ?_) (fun h9 => absurd (by decide) h9)
  refine lv_iload_n hx hb d_TS_put_24 rfl (lv_at hl 2 rfl) ?_
  refine lv_iconst (v := 1) hx hb d_TS_put_25 (by decide) ?_
  refine lv_isub hx hb d_TS_put_26 ?_
  refine lv_topi (fun z2 z2_e => ?_)
  obtain rfl : z2 = 1 := z2_e.trans (by decide)
  refine lv_istore_n hx hb d_TS_put_27 rfl hl (by decide) rfl (fun ls hl => ?_)
  have hl : lv_has ls 4 [(3, .int 1), (0, .ref h0), (1, .int p0), (2, .int 2)] := hl
  refine lv_iload_n hx hb d_TS_put_28 rfl (lv_at hl 0 rfl) ?_
  refine lv_if_lt (tgt := 67) hx hb d_TS_put_29 (by decide) (fun h9 => absurd h9 (by decide)) (fun _ => ?_)
  refine lv_aload_n hx hb d_TS_put_32 rfl (lv_at hl 1 rfl) ?_
  refine va_get (D := (dC, dI)) (ci := 8) (v := .ref (q 17)) (C := RTS) (T := FTS) (N := 15) hx hb hB in_TS hown hK hP 0 rfl rfl 10 (by decide) (hB _ hw_317) (fun _ h9 => h9) rfl d_TS_put_33 ?_
  refine lv_aload_n hx hb d_TS_put_36 rfl (lv_at hl 1 rfl) ?_
  refine va_get (D := (dC, dI)) (ci := 8) (v := .int 0) (C := RTS) (T := FTS) (N := 15) hx hb hB in_TS hown hK hP 0 rfl rfl 11 (by decide) (hB _ hw_318) (fun _ h9 => h9) rfl d_TS_put_37 ?_
  refine lv_iload_n hx hb d_TS_put_40 rfl (lv_at hl 2 rfl) ?_
  refine lv_bipush (v := 8) hx hb d_TS_put_41 (by decide) ?_
  refine lv_iload_n hx hb d_TS_put_43 rfl (lv_at hl 0 rfl) ?_
  refine lv_imul hx hb d_TS_put_44 ?_
  refine lv_topi (fun z3 z3_e => ?_)
  obtain rfl : z3 = 8 := z3_e.trans (by decide)
  refine lv_iushr hx hb d_TS_put_45 rfl ?_
  refine lv_topi (fun z4 z4_e => ?_)
  refine lv_sipush (v := 255) hx hb d_TS_put_46 (by decide) ?_
  refine lv_iand hx hb d_TS_put_49 ?_
  refine lv_topi (fun z5 z5_e => ?_)
  refine va_iast (D := (dC, dI)) hx hb hK hP hD hS 1 4 rfl rfl (by unfold vp_in; decide) d_TS_put_50 (fun H locs hP hD hS => ?_)
  have hP : va_P (dC, dI) gx_cl [(h0, .inr (8, [.ref (q 0), .ref (q 3), .ref (q 18), .ref (q 19), .ref (q 6), .ref (q 20), .ref (q 21), .ref (q 22), .ref (q 23), .ref (q 15), .ref (q 17), .int 0, .ref (q 24), .ref (q 25), .int 0])), ((q 17), .inl ((ci 4), 192, .inl (upd (fun _ => 0) (Int32.toNatClampNeg 0) z5)))] H := hP
  have hD : va_D A [(h0, .inr (8, [.ref (q 0), .ref (q 3), .ref (q 18), .ref (q 19), .ref (q 6), .ref (q 20), .ref (q 21), .ref (q 22), .ref (q 23), .ref (q 15), .ref (q 17), .int 0, .ref (q 24), .ref (q 25), .int 0])), ((q 17), .inl ((ci 4), 192, .inl (upd (fun _ => 0) (Int32.toNatClampNeg 0) z5)))] := hD
  refine lv_aload_n hx hb d_TS_put_51 rfl (lv_at hl 1 rfl) ?_
  refine lv_dup hx hb d_TS_put_52 rfl ?_
  refine va_get (D := (dC, dI)) (ci := 8) (v := .int 0) (C := RTS) (T := FTS) (N := 15) hx hb hB in_TS hown hK hP 0 rfl rfl 11 (by decide) (hB _ hw_318) (fun _ h9 => h9) rfl d_TS_put_53 ?_
  refine lv_iconst (v := 1) hx hb d_TS_put_56 (by decide) ?_
  refine lv_iadd hx hb d_TS_put_57 ?_
  refine lv_topi (fun z6 z6_e => ?_)
  obtain rfl : z6 = 1 := z6_e.trans (by decide)
  refine va_put (D := (dC, dI)) (ci := 8) (v := .int 1) (ty := .int) (C := RTS) (T := FTS) (N := 15) hx hb hB in_TS tTS tTS_ok nTS hown hK hP hD hS 0 rfl rfl 11 (by decide) (hB _ hw_318) (fun _ h9 => h9) rfl (by decide +kernel) rfl rfl (Nat.le_of_ble_eq_true rfl) d_TS_put_58 (fun H locs hP hD hS => ?_)
  have hP : va_P (dC, dI) gx_cl [(h0, .inr (8, [.ref (q 0), .ref (q 3), .ref (q 18), .ref (q 19), .ref (q 6), .ref (q 20), .ref (q 21), .ref (q 22), .ref (q 23), .ref (q 15), .ref (q 17), .int 1, .ref (q 24), .ref (q 25), .int 0])), ((q 17), .inl ((ci 4), 192, .inl (upd (fun _ => 0) (Int32.toNatClampNeg 0) z5)))] H := hP
  have hD : va_D A [(h0, .inr (8, [.ref (q 0), .ref (q 3), .ref (q 18), .ref (q 19), .ref (q 6), .ref (q 20), .ref (q 21), .ref (q 22), .ref (q 23), .ref (q 15), .ref (q 17), .int 1, .ref (q 24), .ref (q 25), .int 0])), ((q 17), .inl ((ci 4), 192, .inl (upd (fun _ => 0) (Int32.toNatClampNeg 0) z5)))] := hD
  refine lv_iinc (k := 0) (v := 0) hx hb d_TS_put_61 hl rfl (by decide) (by decide) rfl (fun ls hl => ?_)
  have hl : lv_has ls 4 [(3, .int 0), (0, .ref h0), (1, .int p0), (2, .int 2)] := hl
  refine lv_goto (tgt := 28) hx hb d_TS_put_64 (by decide) ?_
  refine lv_iload_n hx hb d_TS_put_28 rfl (lv_at hl 0 rfl) ?_
  refine lv_if_lt (tgt := 67) hx hb d_TS_put_29 (by decide) (fun h9 => absurd h9 (by decide)) (fun _ => ?_)
  refine lv_aload_n hx hb d_TS_put_32 rfl (lv_at hl 1 rfl) ?_
  refine va_get (D := (dC, dI)) (ci := 8) (v := .ref (q 17)) (C := RTS) (T := FTS) (N := 15) hx hb hB in_TS hown hK hP 0 rfl rfl 10 (by decide) (hB _ hw_317) (fun _ h9 => h9) rfl d_TS_put_33 ?_
  refine lv_aload_n hx hb d_TS_put_36 rfl (lv_at hl 1 rfl) ?_
  refine va_get (D := (dC, dI)) (ci := 8) (v := .int 1) (C := RTS) (T := FTS) (N := 15) hx hb hB in_TS hown hK hP 0 rfl rfl 11 (by decide) (hB _ hw_318) (fun _ h9 => h9) rfl d_TS_put_37 ?_
  refine lv_iload_n hx hb d_TS_put_40 rfl (lv_at hl 2 rfl) ?_
  refine lv_bipush (v := 8) hx hb d_TS_put_41 (by decide) ?_
  refine lv_iload_n hx hb d_TS_put_43 rfl (lv_at hl 0 rfl) ?_
  refine lv_imul hx hb d_TS_put_44 ?_
  refine lv_topi (fun z7 z7_e => ?_)
  obtain rfl : z7 = 0 := z7_e.trans (by decide)
  refine lv_iushr hx hb d_TS_put_45 rfl ?_
  refine lv_topi (fun z8 z8_e => ?_)
  refine lv_sipush (v := 255) hx hb d_TS_put_46 (by decide) ?_
  refine lv_iand hx hb d_TS_put_49 ?_
  refine lv_topi (fun z9 z9_e => ?_)
  refine va_iast (D := (dC, dI)) hx hb hK hP hD hS 1 4 rfl rfl (by unfold vp_in; decide) d_TS_put_50 (fun H locs hP hD hS => ?_)
  have hP : va_P (dC, dI) gx_cl [(h0, .inr (8, [.ref (q 0), .ref (q 3), .ref (q 18), .ref (q 19), .ref (q 6), .ref (q 20), .ref (q 21), .ref (q 22), .ref (q 23), .ref (q 15), .ref (q 17), .int 1, .ref (q 24), .ref (q 25), .int 0])), ((q 17), .inl ((ci 4), 192, .inl (upd (upd (fun _ => 0) (Int32.toNatClampNeg 0) z5) (Int32.toNatClampNeg 1) z9)))] H := hP
  have hD : va_D A [(h0, .inr (8, [.ref (q 0), .ref (q 3), .ref (q 18), .ref (q 19), .ref (q 6), .ref (q 20), .ref (q 21), .ref (q 22), .ref (q 23), .ref (q 15), .ref (q 17), .int 1, .ref (q 24), .ref (q 25), .int 0])), ((q 17), .inl ((ci 4), 192, .inl (upd (upd (fun _ => 0) (Int32.toNatClampNeg 0) z5) (Int32.toNatClampNeg 1) z9)))] := hD
  refine lv_aload_n hx hb d_TS_put_51 rfl (lv_at hl 1 rfl) ?_
  refine lv_dup hx hb d_TS_put_52 rfl ?_
  refine va_get (D := (dC, dI)) (ci := 8) (v := .int 1) (C := RTS) (T := FTS) (N := 15) hx hb hB in_TS hown hK hP 0 rfl rfl 11 (by decide) (hB _ hw_318) (fun _ h9 => h9) rfl d_TS_put_53 ?_
  refine lv_iconst (v := 1) hx hb d_TS_put_56 (by decide) ?_
  refine lv_iadd hx hb d_TS_put_57 ?_
  refine lv_topi (fun z10 z10_e => ?_)
  obtain rfl : z10 = 2 := z10_e.trans (by decide)
  refine va_put (D := (dC, dI)) (ci := 8) (v := .int 2) (ty := .int) (C := RTS) (T := FTS) (N := 15) hx hb hB in_TS tTS tTS_ok nTS hown hK hP hD hS 0 rfl rfl 11 (by decide) (hB _ hw_318) (fun _ h9 => h9) rfl (by decide +kernel) rfl rfl (Nat.le_of_ble_eq_true rfl) d_TS_put_58 (fun H locs hP hD hS => ?_)
  have hP : va_P (dC, dI) gx_cl [(h0, .inr (8, [.ref (q 0), .ref (q 3), .ref (q 18), .ref (q 19), .ref (q 6), .ref (q 20), .ref (q 21), .ref (q 22), .ref (q 23), .ref (q 15), .ref (q 17), .int 2, .ref (q 24), .ref (q 25), .int 0])), ((q 17), .inl ((ci 4), 192, .inl (upd (upd (fun _ => 0) (Int32.toNatClampNeg 0) z5) (Int32.toNatClampNeg 1) z9)))] H := hP
  have hD : va_D A [(h0, .inr (8, [.ref (q 0), .ref (q 3), .ref (q 18), .ref (q 19), .ref (q 6), .ref (q 20), .ref (q 21), .ref (q 22), .ref (q 23), .ref (q 15), .ref (q 17), .int 2, .ref (q 24), .ref (q 25), .int 0])), ((q 17), .inl ((ci 4), 192, .inl (upd (upd (fun _ => 0) (Int32.toNatClampNeg 0) z5) (Int32.toNatClampNeg 1) z9)))] := hD
  refine lv_iinc (k := 0) (v := (-1)) hx hb d_TS_put_61 hl rfl (by decide) (by decide) rfl (fun ls hl => ?_)
  have hl : lv_has ls 4 [(3, .int (-1)), (0, .ref h0), (1, .int p0), (2, .int 2)] := hl
  refine lv_goto (tgt := 28) hx hb d_TS_put_64 (by decide) ?_
  refine lv_iload_n hx hb d_TS_put_28 rfl (lv_at hl 0 rfl) ?_
  refine lv_if_lt (tgt := 67) hx hb d_TS_put_29 (by decide) (fun _ => ?_) (fun h9 => absurd (by decide) h9)
  refine lv_iconst (v := 1) hx hb d_TS_put_67 (by decide) ?_
  refine W.widen (k := 0) (n := 0) (Nat.le_of_ble_eq_true rfl) (Nat.le_of_ble_eq_true rfl) ?_
  exact W.zret (v := 1) hx hb hr rfl (fun t ht hW => ⟨⟨1, (), rfl, rfl, trivial⟩, hS.F ht⟩) hS.2.2 d_TS_put_68
set_option maxHeartbeats 4000000 in
set_option maxRecDepth 100000 in
theorem m_TS_put3 (l : Launch) (dC : Nat → ClassId) (dI : Nat → Nat → Nat) (sz : Nat) (h0 : Nat) (q : Nat → Nat) (ci : Nat → ClassId) (p0 : Int32) : Met l y_TS_put w_TS_put ({ frames := 0, cells := 0, slots := 0, locals := 0 }) (va_Pc [.ref h0, .int p0, .int 3] (fun U => U.heap.size = sz ∧ va_P (dC, dI) gx_cl [(h0, .inr (8, [.ref (q 0), .ref (q 3), .ref (q 18), .ref (q 19), .ref (q 6), .ref (q 20), .ref (q 21), .ref (q 22), .ref (q 23), .ref (q 15), .ref (q 17), .int 0, .ref (q 24), .ref (q 25), .int 0])), ((q 17), .inl ((ci 4), 192, .inl (fun _ => 0)))] U.heap ∧ va_K (dC, dI) gx_cl (kTS ci) U ∧ va_D (fun _ => True) [(h0, .inr (8, [.ref (q 0), .ref (q 3), .ref (q 18), .ref (q 19), .ref (q 6), .ref (q 20), .ref (q 21), .ref (q 22), .ref (q 23), .ref (q 15), .ref (q 17), .int 0, .ref (q 24), .ref (q 25), .int 0])), ((q 17), .inl ((ci 4), 192, .inl (fun _ => 0)))])) (va_Qi (fun (r : Int32) (_ : Unit) => r = 1) (fun _ t => True) (va_A [(h0, .inr (8, [.ref (q 0), .ref (q 3), .ref (q 18), .ref (q 19), .ref (q 6), .ref (q 20), .ref (q 21), .ref (q 22), .ref (q 23), .ref (q 15), .ref (q 17), .int 0, .ref (q 24), .ref (q 25), .int 0])), ((q 17), .inl ((ci 4), 192, .inl (fun _ => 0)))] sz)) 0 0 (va_A [(h0, .inr (8, [.ref (q 0), .ref (q 3), .ref (q 18), .ref (q 19), .ref (q 6), .ref (q 20), .ref (q 21), .ref (q 22), .ref (q 23), .ref (q 15), .ref (q 17), .int 0, .ref (q 24), .ref (q 25), .int 0])), ((q 17), .inl ((ci 4), 192, .inl (fun _ => 0)))] sz) := by
  refine Met.ofW (cc := b_TS_put) (maxL := 4) (ret := (some .boolean)) (by decide) rfl ?_
  intro p e s m args below meth c s₁ B hml hv
  obtain ⟨rfl, hsz, hP, hK, hD0⟩ := hv
  have hx := B.exec
  have hb := B.bytes
  have hr := B.returns
  have hts := atoms_spec (ws := w_TS_put) B.pre
  have hB : ∀ w ∈ gx_B, w.before _ s = true := fun w h => hts w (List.mem_cons_of_mem _ h)
  have hown : s.vm.findClass "TapeSealer" = some m.cls := findClass_of_methodNamed B.named
  have hlocks := B.notSynchronized
  subst hsz
  have hD := hD0.self (sz := s.heap.size)
  generalize hAe : va_A [(h0, .inr (8, [.ref (q 0), .ref (q 3), .ref (q 18), .ref (q 19), .ref (q 6), .ref (q 20), .ref (q 21), .ref (q 22), .ref (q 23), .ref (q 15), .ref (q 17), .int 0, .ref (q 24), .ref (q 25), .int 0])), ((q 17), .inl ((ci 4), 192, .inl (fun _ => 0)))] s.heap.size = A at hD ⊢
  have hA : ∀ q : Nat, s.heap.size ≤ q → A q := fun q h => by rw [← hAe]; exact Or.inr h
  have hS : va_S A s.heap s.heap [] := va_S.rf
  have hl := lv_entry ([.ref h0, .int p0, .int 3]) (n := 4) (Nat.le_of_ble_eq_true rfl)
  rw [lg_entry_eq]
  generalize (lg_sl ([.ref h0, .int p0, .int 3]) ++ List.replicate (4 - (lg_sl ([.ref h0, .int p0, .int 3])).length) Slot.unset).toArray = ls at hl ⊢
  have hl : lv_has ls 4 [(0, .ref h0), (1, .int p0), (2, .int 3)] := hl
  refine lv_iload_n hx hb d_TS_put_0 rfl (lv_at hl 2 rfl) ?_
  refine lv_iconst (v := 1) hx hb d_TS_put_1 (by decide) ?_
  refine lv_icmp_lt (tgt := 22) hx hb d_TS_put_2 (by decide) (fun h9 => absurd h9 (by decide)) (fun _ => ?_)
  refine lv_iload_n hx hb d_TS_put_5 rfl (lv_at hl 2 rfl) ?_
  refine lv_iconst (v := 4) hx hb d_TS_put_6 (by decide) ?_
  refine lv_icmp_gt (tgt := 22) hx hb d_TS_put_7 (by decide) (fun h9 => absurd h9 (by decide)) (fun _ => ?_)
  refine lv_aload_n hx hb d_TS_put_10 rfl (lv_at hl 0 rfl) ?_
  refine va_get (D := (dC, dI)) (ci := 8) (v := .int 0) (C := RTS) (T := FTS) (N := 15) hx hb hB in_TS hown hK hP 0 rfl rfl 11 (by decide) (hB _ hw_318) (fun _ h9 => h9) rfl d_TS_put_11 ?_
  refine lv_iload_n hx hb d_TS_put_14 rfl (lv_at hl 2 rfl) ?_
  refine lv_iadd hx hb d_TS_put_15 ?_
  refine lv_topi (fun z1 z1_e => ?_)
  obtain rfl : z1 = 3 := z1_e.trans (by decide)
  refine lv_sipush (v := 192) hx hb d_TS_put_16 (by decide) ?_
  refine lv_icmp_le (tgt := 24) hx hb d_TS_put_19 (by decide) (fun _ => ?_) (fun h9 => absurd (by decide) h9)
  refine lv_iload_n hx hb d_TS_put_24 rfl (lv_at hl 2 rfl) ?_
  refine lv_iconst (v := 1) hx hb d_TS_put_25 (by decide) ?_
  refine lv_isub hx hb d_TS_put_26 ?_
  refine lv_topi (fun z2 z2_e => ?_)
  obtain rfl : z2 = 2 := z2_e.trans (by decide)
  refine lv_istore_n hx hb d_TS_put_27 rfl hl (by decide) rfl (fun ls hl => ?_)
  have hl : lv_has ls 4 [(3, .int 2), (0, .ref h0), (1, .int p0), (2, .int 3)] := hl
  refine lv_iload_n hx hb d_TS_put_28 rfl (lv_at hl 0 rfl) ?_
  refine lv_if_lt (tgt := 67) hx hb d_TS_put_29 (by decide) (fun h9 => absurd h9 (by decide)) (fun _ => ?_)
  refine lv_aload_n hx hb d_TS_put_32 rfl (lv_at hl 1 rfl) ?_
  refine va_get (D := (dC, dI)) (ci := 8) (v := .ref (q 17)) (C := RTS) (T := FTS) (N := 15) hx hb hB in_TS hown hK hP 0 rfl rfl 10 (by decide) (hB _ hw_317) (fun _ h9 => h9) rfl d_TS_put_33 ?_
  refine lv_aload_n hx hb d_TS_put_36 rfl (lv_at hl 1 rfl) ?_
  refine va_get (D := (dC, dI)) (ci := 8) (v := .int 0) (C := RTS) (T := FTS) (N := 15) hx hb hB in_TS hown hK hP 0 rfl rfl 11 (by decide) (hB _ hw_318) (fun _ h9 => h9) rfl d_TS_put_37 ?_
  refine lv_iload_n hx hb d_TS_put_40 rfl (lv_at hl 2 rfl) ?_
  refine lv_bipush (v := 8) hx hb d_TS_put_41 (by decide) ?_
  refine lv_iload_n hx hb d_TS_put_43 rfl (lv_at hl 0 rfl) ?_
  refine lv_imul hx hb d_TS_put_44 ?_
  refine lv_topi (fun z3 z3_e => ?_)
  obtain rfl : z3 = 16 := z3_e.trans (by decide)
  refine lv_iushr hx hb d_TS_put_45 rfl ?_
  refine lv_topi (fun z4 z4_e => ?_)
  refine lv_sipush (v := 255) hx hb d_TS_put_46 (by decide) ?_
  refine lv_iand hx hb d_TS_put_49 ?_
  refine lv_topi (fun z5 z5_e => ?_)
  refine va_iast (D := (dC, dI)) hx hb hK hP hD hS 1 4 rfl rfl (by unfold vp_in; decide) d_TS_put_50 (fun H locs hP hD hS => ?_)
  have hP : va_P (dC, dI) gx_cl [(h0, .inr (8, [.ref (q 0), .ref (q 3), .ref (q 18), .ref (q 19), .ref (q 6), .ref (q 20), .ref (q 21), .ref (q 22), .ref (q 23), .ref (q 15), .ref (q 17), .int 0, .ref (q 24), .ref (q 25), .int 0])), ((q 17), .inl ((ci 4), 192, .inl (upd (fun _ => 0) (Int32.toNatClampNeg 0) z5)))] H := hP
  have hD : va_D A [(h0, .inr (8, [.ref (q 0), .ref (q 3), .ref (q 18), .ref (q 19), .ref (q 6), .ref (q 20), .ref (q 21), .ref (q 22), .ref (q 23), .ref (q 15), .ref (q 17), .int 0, .ref (q 24), .ref (q 25), .int 0])), ((q 17), .inl ((ci 4), 192, .inl (upd (fun _ => 0) (Int32.toNatClampNeg 0) z5)))] := hD
  refine lv_aload_n hx hb d_TS_put_51 rfl (lv_at hl 1 rfl) ?_
  refine lv_dup hx hb d_TS_put_52 rfl ?_
  refine va_get (D := (dC, dI)) (ci := 8) (v := .int 0) (C := RTS) (T := FTS) (N := 15) hx hb hB in_TS hown hK hP 0 rfl rfl 11 (by decide) (hB _ hw_318) (fun _ h9 => h9) rfl d_TS_put_53 ?_
  refine lv_iconst (v := 1) hx hb d_TS_put_56 (by decide) ?_
  refine lv_iadd hx hb d_TS_put_57 ?_
  refine lv_topi (fun z6 z6_e => ?_)
  obtain rfl : z6 = 1 := z6_e.trans (by decide)
  refine va_put (D := (dC, dI)) (ci := 8) (v := .int 1) (ty := .int) (C := RTS) (T := FTS) (N := 15) hx hb hB in_TS tTS tTS_ok nTS hown hK hP hD hS 0 rfl rfl 11 (by decide) (hB _ hw_318) (fun _ h9 => h9) rfl (by decide +kernel) rfl rfl (Nat.le_of_ble_eq_true rfl) d_TS_put_58 (fun H locs hP hD hS => ?_)
  have hP : va_P (dC, dI) gx_cl [(h0, .inr (8, [.ref (q 0), .ref (q 3), .ref (q 18), .ref (q 19), .ref (q 6), .ref (q 20), .ref (q 21), .ref (q 22), .ref (q 23), .ref (q 15), .ref (q 17), .int 1, .ref (q 24), .ref (q 25), .int 0])), ((q 17), .inl ((ci 4), 192, .inl (upd (fun _ => 0) (Int32.toNatClampNeg 0) z5)))] H := hP
  have hD : va_D A [(h0, .inr (8, [.ref (q 0), .ref (q 3), .ref (q 18), .ref (q 19), .ref (q 6), .ref (q 20), .ref (q 21), .ref (q 22), .ref (q 23), .ref (q 15), .ref (q 17), .int 1, .ref (q 24), .ref (q 25), .int 0])), ((q 17), .inl ((ci 4), 192, .inl (upd (fun _ => 0) (Int32.toNatClampNeg 0) z5)))] := hD
  refine lv_iinc (k := 0) (v := 1) hx hb d_TS_put_61 hl rfl (by decide) (by decide) rfl (fun ls hl => ?_)
  have hl : lv_has ls 4 [(3, .int 1), (0, .ref h0), (1, .int p0), (2, .int 3)] := hl
  refine lv_goto (tgt := 28) hx hb d_TS_put_64 (by decide) ?_
  refine lv_iload_n hx hb d_TS_put_28 rfl (lv_at hl 0 rfl) ?_
  refine lv_if_lt (tgt := 67) hx hb d_TS_put_29 (by decide) (fun h9 => absurd h9 (by decide)) (fun _ => ?_)
  refine lv_aload_n hx hb d_TS_put_32 rfl (lv_at hl 1 rfl) ?_
  refine va_get (D := (dC, dI)) (ci := 8) (v := .ref (q 17)) (C := RTS) (T := FTS) (N := 15) hx hb hB in_TS hown hK hP 0 rfl rfl 10 (by decide) (hB _ hw_317) (fun _ h9 => h9) rfl d_TS_put_33 ?_
  refine lv_aload_n hx hb d_TS_put_36 rfl (lv_at hl 1 rfl) ?_
  refine va_get (D := (dC, dI)) (ci := 8) (v := .int 1) (C := RTS) (T := FTS) (N := 15) hx hb hB in_TS hown hK hP 0 rfl rfl 11 (by decide) (hB _ hw_318) (fun _ h9 => h9) rfl d_TS_put_37 ?_
  refine lv_iload_n hx hb d_TS_put_40 rfl (lv_at hl 2 rfl) ?_
  refine lv_bipush (v := 8) hx hb d_TS_put_41 (by decide) ?_
  refine lv_iload_n hx hb d_TS_put_43 rfl (lv_at hl 0 rfl) ?_
  refine lv_imul hx hb d_TS_put_44 ?_
  refine lv_topi (fun z7 z7_e => ?_)
  obtain rfl : z7 = 8 := z7_e.trans (by decide)
  refine lv_iushr hx hb d_TS_put_45 rfl ?_
  refine lv_topi (fun z8 z8_e => ?_)
  refine lv_sipush (v := 255) hx hb d_TS_put_46 (by decide) ?_
  refine lv_iand hx hb d_TS_put_49 ?_
  refine lv_topi (fun z9 z9_e => ?_)
  refine va_iast (D := (dC, dI)) hx hb hK hP hD hS 1 4 rfl rfl (by unfold vp_in; decide) d_TS_put_50 (fun H locs hP hD hS => ?_)
  have hP : va_P (dC, dI) gx_cl [(h0, .inr (8, [.ref (q 0), .ref (q 3), .ref (q 18), .ref (q 19), .ref (q 6), .ref (q 20), .ref (q 21), .ref (q 22), .ref (q 23), .ref (q 15), .ref (q 17), .int 1, .ref (q 24), .ref (q 25), .int 0])), ((q 17), .inl ((ci 4), 192, .inl (upd (upd (fun _ => 0) (Int32.toNatClampNeg 0) z5) (Int32.toNatClampNeg 1) z9)))] H := hP
  have hD : va_D A [(h0, .inr (8, [.ref (q 0), .ref (q 3), .ref (q 18), .ref (q 19), .ref (q 6), .ref (q 20), .ref (q 21), .ref (q 22), .ref (q 23), .ref (q 15), .ref (q 17), .int 1, .ref (q 24), .ref (q 25), .int 0])), ((q 17), .inl ((ci 4), 192, .inl (upd (upd (fun _ => 0) (Int32.toNatClampNeg 0) z5) (Int32.toNatClampNeg 1) z9)))] := hD
  refine lv_aload_n hx hb d_TS_put_51 rfl (lv_at hl 1 rfl) ?_
  refine lv_dup hx hb d_TS_put_52 rfl ?_
  refine va_get (D := (dC, dI)) (ci := 8) (v := .int 1) (C := RTS) (T := FTS) (N := 15) hx hb hB in_TS hown hK hP 0 rfl rfl 11 (by decide) (hB _ hw_318) (fun _ h9 => h9) rfl d_TS_put_53 ?_
  refine lv_iconst (v := 1) hx hb d_TS_put_56 (by decide) ?_
  refine lv_iadd hx hb d_TS_put_57 ?_
  refine lv_topi (fun z10 z10_e => ?_)
  obtain rfl : z10 = 2 := z10_e.trans (by decide)
  refine va_put (D := (dC, dI)) (ci := 8) (v := .int 2) (ty := .int) (C := RTS) (T := FTS) (N := 15) hx hb hB in_TS tTS tTS_ok nTS hown hK hP hD hS 0 rfl rfl 11 (by decide) (hB _ hw_318) (fun _ h9 => h9) rfl (by decide +kernel) rfl rfl (Nat.le_of_ble_eq_true rfl) d_TS_put_58 (fun H locs hP hD hS => ?_)
  have hP : va_P (dC, dI) gx_cl [(h0, .inr (8, [.ref (q 0), .ref (q 3), .ref (q 18), .ref (q 19), .ref (q 6), .ref (q 20), .ref (q 21), .ref (q 22), .ref (q 23), .ref (q 15), .ref (q 17), .int 2, .ref (q 24), .ref (q 25), .int 0])), ((q 17), .inl ((ci 4), 192, .inl (upd (upd (fun _ => 0) (Int32.toNatClampNeg 0) z5) (Int32.toNatClampNeg 1) z9)))] H := hP
  have hD : va_D A [(h0, .inr (8, [.ref (q 0), .ref (q 3), .ref (q 18), .ref (q 19), .ref (q 6), .ref (q 20), .ref (q 21), .ref (q 22), .ref (q 23), .ref (q 15), .ref (q 17), .int 2, .ref (q 24), .ref (q 25), .int 0])), ((q 17), .inl ((ci 4), 192, .inl (upd (upd (fun _ => 0) (Int32.toNatClampNeg 0) z5) (Int32.toNatClampNeg 1) z9)))] := hD
  refine lv_iinc (k := 0) (v := 0) hx hb d_TS_put_61 hl rfl (by decide) (by decide) rfl (fun ls hl => ?_)
  have hl : lv_has ls 4 [(3, .int 0), (0, .ref h0), (1, .int p0), (2, .int 3)] := hl
  refine lv_goto (tgt := 28) hx hb d_TS_put_64 (by decide) ?_
  refine lv_iload_n hx hb d_TS_put_28 rfl (lv_at hl 0 rfl) ?_
  refine lv_if_lt (tgt := 67) hx hb d_TS_put_29 (by decide) (fun h9 => absurd h9 (by decide)) (fun _ => ?_)
  refine lv_aload_n hx hb d_TS_put_32 rfl (lv_at hl 1 rfl) ?_
  refine va_get (D := (dC, dI)) (ci := 8) (v := .ref (q 17)) (C := RTS) (T := FTS) (N := 15) hx hb hB in_TS hown hK hP 0 rfl rfl 10 (by decide) (hB _ hw_317) (fun _ h9 => h9) rfl d_TS_put_33 ?_
  refine lv_aload_n hx hb d_TS_put_36 rfl (lv_at hl 1 rfl) ?_
  refine va_get (D := (dC, dI)) (ci := 8) (v := .int 2) (C := RTS) (T := FTS) (N := 15) hx hb hB in_TS hown hK hP 0 rfl rfl 11 (by decide) (hB _ hw_318) (fun _ h9 => h9) rfl d_TS_put_37 ?_
  refine lv_iload_n hx hb d_TS_put_40 rfl (lv_at hl 2 rfl) ?_
  refine lv_bipush (v := 8) hx hb d_TS_put_41 (by decide) ?_
  refine lv_iload_n hx hb d_TS_put_43 rfl (lv_at hl 0 rfl) ?_
  refine lv_imul hx hb d_TS_put_44 ?_
  refine lv_topi (fun z11 z11_e => ?_)
  obtain rfl : z11 = 0 := z11_e.trans (by decide)
  refine lv_iushr hx hb d_TS_put_45 rfl ?_
  refine lv_topi (fun z12 z12_e => ?_)
  refine lv_sipush (v := 255) hx hb d_TS_put_46 (by decide) ?_
  refine lv_iand hx hb d_TS_put_49 ?_
  refine lv_topi (fun z13 z13_e => ?_)
  refine va_iast (D := (dC, dI)) hx hb hK hP hD hS 1 4 rfl rfl (by unfold vp_in; decide) d_TS_put_50 (fun H locs hP hD hS => ?_)
  have hP : va_P (dC, dI) gx_cl [(h0, .inr (8, [.ref (q 0), .ref (q 3), .ref (q 18), .ref (q 19), .ref (q 6), .ref (q 20), .ref (q 21), .ref (q 22), .ref (q 23), .ref (q 15), .ref (q 17), .int 2, .ref (q 24), .ref (q 25), .int 0])), ((q 17), .inl ((ci 4), 192, .inl (upd (upd (upd (fun _ => 0) (Int32.toNatClampNeg 0) z5) (Int32.toNatClampNeg 1) z9) (Int32.toNatClampNeg 2) z13)))] H := hP
  have hD : va_D A [(h0, .inr (8, [.ref (q 0), .ref (q 3), .ref (q 18), .ref (q 19), .ref (q 6), .ref (q 20), .ref (q 21), .ref (q 22), .ref (q 23), .ref (q 15), .ref (q 17), .int 2, .ref (q 24), .ref (q 25), .int 0])), ((q 17), .inl ((ci 4), 192, .inl (upd (upd (upd (fun _ => 0) (Int32.toNatClampNeg 0) z5) (Int32.toNatClampNeg 1) z9) (Int32.toNatClampNeg 2) z13)))] := hD
  refine lv_aload_n hx hb d_TS_put_51 rfl (lv_at hl 1 rfl) ?_
  refine lv_dup hx hb d_TS_put_52 rfl ?_
  refine va_get (D := (dC, dI)) (ci := 8) (v := .int 2) (C := RTS) (T := FTS) (N := 15) hx hb hB in_TS hown hK hP 0 rfl rfl 11 (by decide) (hB _ hw_318) (fun _ h9 => h9) rfl d_TS_put_53 ?_
  refine lv_iconst (v := 1) hx hb d_TS_put_56 (by decide) ?_
  refine lv_iadd hx hb d_TS_put_57 ?_
  refine lv_topi (fun z14 z14_e => ?_)
  obtain rfl : z14 = 3 := z14_e.trans (by decide)
  refine va_put (D := (dC, dI)) (ci := 8) (v := .int 3) (ty := .int) (C := RTS) (T := FTS) (N := 15) hx hb hB in_TS tTS tTS_ok nTS hown hK hP hD hS 0 rfl rfl 11 (by decide) (hB _ hw_318) (fun _ h9 => h9) rfl (by decide +kernel) rfl rfl (Nat.le_of_ble_eq_true rfl) d_TS_put_58 (fun H locs hP hD hS => ?_)
  have hP : va_P (dC, dI) gx_cl [(h0, .inr (8, [.ref (q 0), .ref (q 3), .ref (q 18), .ref (q 19), .ref (q 6), .ref (q 20), .ref (q 21), .ref (q 22), .ref (q 23), .ref (q 15), .ref (q 17), .int 3, .ref (q 24), .ref (q 25), .int 0])), ((q 17), .inl ((ci 4), 192, .inl (upd (upd (upd (fun _ => 0) (Int32.toNatClampNeg 0) z5) (Int32.toNatClampNeg 1) z9) (Int32.toNatClampNeg 2) z13)))] H := hP
  have hD : va_D A [(h0, .inr (8, [.ref (q 0), .ref (q 3), .ref (q 18), .ref (q 19), .ref (q 6), .ref (q 20), .ref (q 21), .ref (q 22), .ref (q 23), .ref (q 15), .ref (q 17), .int 3, .ref (q 24), .ref (q 25), .int 0])), ((q 17), .inl ((ci 4), 192, .inl (upd (upd (upd (fun _ => 0) (Int32.toNatClampNeg 0) z5) (Int32.toNatClampNeg 1) z9) (Int32.toNatClampNeg 2) z13)))] := hD
  refine lv_iinc (k := 0) (v := (-1)) hx hb d_TS_put_61 hl rfl (by decide) (by decide) rfl (fun ls hl => ?_)
  have hl : lv_has ls 4 [(3, .int (-1)), (0, .ref h0), (1, .int p0), (2, .int 3)] := hl
  refine lv_goto (tgt := 28) hx hb d_TS_put_64 (by decide) ?_
  refine lv_iload_n hx hb d_TS_put_28 rfl (lv_at hl 0 rfl) ?_
  refine lv_if_lt (tgt := 67) hx hb d_TS_put_29 (by decide) (fun _ => ?_) (fun h9 => absurd (by decide) h9)
  refine lv_iconst (v := 1) hx hb d_TS_put_67 (by decide) ?_
  refine W.widen (k := 0) (n := 0) (Nat.le_of_ble_eq_true rfl) (Nat.le_of_ble_eq_true rfl) ?_
  exact W.zret (v := 1) hx hb hr rfl (fun t ht hW => ⟨⟨1, (), rfl, rfl, trivial⟩, hS.F ht⟩) hS.2.2 d_TS_put_68
set_option maxHeartbeats 4000000 in
set_option maxRecDepth 100000 in
theorem m_TS_put4 (l : Launch) (dC : Nat → ClassId) (dI : Nat → Nat → Nat) (sz : Nat) (h0 : Nat) (q : Nat → Nat) (ci : Nat → ClassId) (p0 : Int32) : Met l y_TS_put w_TS_put ({ frames := 0, cells := 0, slots := 0, locals := 0 }) (va_Pc [.ref h0, .int p0, .int 4] (fun U => U.heap.size = sz ∧ va_P (dC, dI) gx_cl [(h0, .inr (8, [.ref (q 0), .ref (q 3), .ref (q 18), .ref (q 19), .ref (q 6), .ref (q 20), .ref (q 21), .ref (q 22), .ref (q 23), .ref (q 15), .ref (q 17), .int 0, .ref (q 24), .ref (q 25), .int 0])), ((q 17), .inl ((ci 4), 192, .inl (fun _ => 0)))] U.heap ∧ va_K (dC, dI) gx_cl (kTS ci) U ∧ va_D (fun _ => True) [(h0, .inr (8, [.ref (q 0), .ref (q 3), .ref (q 18), .ref (q 19), .ref (q 6), .ref (q 20), .ref (q 21), .ref (q 22), .ref (q 23), .ref (q 15), .ref (q 17), .int 0, .ref (q 24), .ref (q 25), .int 0])), ((q 17), .inl ((ci 4), 192, .inl (fun _ => 0)))])) (va_Qi (fun (r : Int32) (_ : Unit) => r = 1) (fun _ t => True) (va_A [(h0, .inr (8, [.ref (q 0), .ref (q 3), .ref (q 18), .ref (q 19), .ref (q 6), .ref (q 20), .ref (q 21), .ref (q 22), .ref (q 23), .ref (q 15), .ref (q 17), .int 0, .ref (q 24), .ref (q 25), .int 0])), ((q 17), .inl ((ci 4), 192, .inl (fun _ => 0)))] sz)) 0 0 (va_A [(h0, .inr (8, [.ref (q 0), .ref (q 3), .ref (q 18), .ref (q 19), .ref (q 6), .ref (q 20), .ref (q 21), .ref (q 22), .ref (q 23), .ref (q 15), .ref (q 17), .int 0, .ref (q 24), .ref (q 25), .int 0])), ((q 17), .inl ((ci 4), 192, .inl (fun _ => 0)))] sz) := by
  refine Met.ofW (cc := b_TS_put) (maxL := 4) (ret := (some .boolean)) (by decide) rfl ?_
  intro p e s m args below meth c s₁ B hml hv
  obtain ⟨rfl, hsz, hP, hK, hD0⟩ := hv
  have hx := B.exec
  have hb := B.bytes
  have hr := B.returns
  have hts := atoms_spec (ws := w_TS_put) B.pre
  have hB : ∀ w ∈ gx_B, w.before _ s = true := fun w h => hts w (List.mem_cons_of_mem _ h)
  have hown : s.vm.findClass "TapeSealer" = some m.cls := findClass_of_methodNamed B.named
  have hlocks := B.notSynchronized
  subst hsz
  have hD := hD0.self (sz := s.heap.size)
  generalize hAe : va_A [(h0, .inr (8, [.ref (q 0), .ref (q 3), .ref (q 18), .ref (q 19), .ref (q 6), .ref (q 20), .ref (q 21), .ref (q 22), .ref (q 23), .ref (q 15), .ref (q 17), .int 0, .ref (q 24), .ref (q 25), .int 0])), ((q 17), .inl ((ci 4), 192, .inl (fun _ => 0)))] s.heap.size = A at hD ⊢
  have hA : ∀ q : Nat, s.heap.size ≤ q → A q := fun q h => by rw [← hAe]; exact Or.inr h
  have hS : va_S A s.heap s.heap [] := va_S.rf
  have hl := lv_entry ([.ref h0, .int p0, .int 4]) (n := 4) (Nat.le_of_ble_eq_true rfl)
  rw [lg_entry_eq]
  generalize (lg_sl ([.ref h0, .int p0, .int 4]) ++ List.replicate (4 - (lg_sl ([.ref h0, .int p0, .int 4])).length) Slot.unset).toArray = ls at hl ⊢
  have hl : lv_has ls 4 [(0, .ref h0), (1, .int p0), (2, .int 4)] := hl
  refine lv_iload_n hx hb d_TS_put_0 rfl (lv_at hl 2 rfl) ?_
  refine lv_iconst (v := 1) hx hb d_TS_put_1 (by decide) ?_
  refine lv_icmp_lt (tgt := 22) hx hb d_TS_put_2 (by decide) (fun h9 => absurd h9 (by decide)) (fun _ => ?_)
  refine lv_iload_n hx hb d_TS_put_5 rfl (lv_at hl 2 rfl) ?_
  refine lv_iconst (v := 4) hx hb d_TS_put_6 (by decide) ?_
  refine lv_icmp_gt (tgt := 22) hx hb d_TS_put_7 (by decide) (fun h9 => absurd h9 (by decide)) (fun _ => ?_)
  refine lv_aload_n hx hb d_TS_put_10 rfl (lv_at hl 0 rfl) ?_
  refine va_get (D := (dC, dI)) (ci := 8) (v := .int 0) (C := RTS) (T := FTS) (N := 15) hx hb hB in_TS hown hK hP 0 rfl rfl 11 (by decide) (hB _ hw_318) (fun _ h9 => h9) rfl d_TS_put_11 ?_
  refine lv_iload_n hx hb d_TS_put_14 rfl (lv_at hl 2 rfl) ?_
  refine lv_iadd hx hb d_TS_put_15 ?_
  refine lv_topi (fun z1 z1_e => ?_)
  obtain rfl : z1 = 4 := z1_e.trans (by decide)
  refine lv_sipush (v := 192) hx hb d_TS_put_16 (by decide) ?_
  refine lv_icmp_le (tgt := 24) hx hb d_TS_put_19 (by decide) (fun _ => ?_) (fun h9 => absurd (by decide) h9)
  refine lv_iload_n hx hb d_TS_put_24 rfl (lv_at hl 2 rfl) ?_
  refine lv_iconst (v := 1) hx hb d_TS_put_25 (by decide) ?_
  refine lv_isub hx hb d_TS_put_26 ?_
  refine lv_topi (fun z2 z2_e => ?_)
  obtain rfl : z2 = 3 := z2_e.trans (by decide)
  refine lv_istore_n hx hb d_TS_put_27 rfl hl (by decide) rfl (fun ls hl => ?_)
  have hl : lv_has ls 4 [(3, .int 3), (0, .ref h0), (1, .int p0), (2, .int 4)] := hl
  refine lv_iload_n hx hb d_TS_put_28 rfl (lv_at hl 0 rfl) ?_
  refine lv_if_lt (tgt := 67) hx hb d_TS_put_29 (by decide) (fun h9 => absurd h9 (by decide)) (fun _ => ?_)
  refine lv_aload_n hx hb d_TS_put_32 rfl (lv_at hl 1 rfl) ?_
  refine va_get (D := (dC, dI)) (ci := 8) (v := .ref (q 17)) (C := RTS) (T := FTS) (N := 15) hx hb hB in_TS hown hK hP 0 rfl rfl 10 (by decide) (hB _ hw_317) (fun _ h9 => h9) rfl d_TS_put_33 ?_
  refine lv_aload_n hx hb d_TS_put_36 rfl (lv_at hl 1 rfl) ?_
  refine va_get (D := (dC, dI)) (ci := 8) (v := .int 0) (C := RTS) (T := FTS) (N := 15) hx hb hB in_TS hown hK hP 0 rfl rfl 11 (by decide) (hB _ hw_318) (fun _ h9 => h9) rfl d_TS_put_37 ?_
  refine lv_iload_n hx hb d_TS_put_40 rfl (lv_at hl 2 rfl) ?_
  refine lv_bipush (v := 8) hx hb d_TS_put_41 (by decide) ?_
  refine lv_iload_n hx hb d_TS_put_43 rfl (lv_at hl 0 rfl) ?_
  refine lv_imul hx hb d_TS_put_44 ?_
  refine lv_topi (fun z3 z3_e => ?_)
  obtain rfl : z3 = 24 := z3_e.trans (by decide)
  refine lv_iushr hx hb d_TS_put_45 rfl ?_
  refine lv_topi (fun z4 z4_e => ?_)
  refine lv_sipush (v := 255) hx hb d_TS_put_46 (by decide) ?_
  refine lv_iand hx hb d_TS_put_49 ?_
  refine lv_topi (fun z5 z5_e => ?_)
  refine va_iast (D := (dC, dI)) hx hb hK hP hD hS 1 4 rfl rfl (by unfold vp_in; decide) d_TS_put_50 (fun H locs hP hD hS => ?_)
  have hP : va_P (dC, dI) gx_cl [(h0, .inr (8, [.ref (q 0), .ref (q 3), .ref (q 18), .ref (q 19), .ref (q 6), .ref (q 20), .ref (q 21), .ref (q 22), .ref (q 23), .ref (q 15), .ref (q 17), .int 0, .ref (q 24), .ref (q 25), .int 0])), ((q 17), .inl ((ci 4), 192, .inl (upd (fun _ => 0) (Int32.toNatClampNeg 0) z5)))] H := hP
  have hD : va_D A [(h0, .inr (8, [.ref (q 0), .ref (q 3), .ref (q 18), .ref (q 19), .ref (q 6), .ref (q 20), .ref (q 21), .ref (q 22), .ref (q 23), .ref (q 15), .ref (q 17), .int 0, .ref (q 24), .ref (q 25), .int 0])), ((q 17), .inl ((ci 4), 192, .inl (upd (fun _ => 0) (Int32.toNatClampNeg 0) z5)))] := hD
  refine lv_aload_n hx hb d_TS_put_51 rfl (lv_at hl 1 rfl) ?_
  refine lv_dup hx hb d_TS_put_52 rfl ?_
  refine va_get (D := (dC, dI)) (ci := 8) (v := .int 0) (C := RTS) (T := FTS) (N := 15) hx hb hB in_TS hown hK hP 0 rfl rfl 11 (by decide) (hB _ hw_318) (fun _ h9 => h9) rfl d_TS_put_53 ?_
  refine lv_iconst (v := 1) hx hb d_TS_put_56 (by decide) ?_
  refine lv_iadd hx hb d_TS_put_57 ?_
  refine lv_topi (fun z6 z6_e => ?_)
  obtain rfl : z6 = 1 := z6_e.trans (by decide)
  refine va_put (D := (dC, dI)) (ci := 8) (v := .int 1) (ty := .int) (C := RTS) (T := FTS) (N := 15) hx hb hB in_TS tTS tTS_ok nTS hown hK hP hD hS 0 rfl rfl 11 (by decide) (hB _ hw_318) (fun _ h9 => h9) rfl (by decide +kernel) rfl rfl (Nat.le_of_ble_eq_true rfl) d_TS_put_58 (fun H locs hP hD hS => ?_)
  have hP : va_P (dC, dI) gx_cl [(h0, .inr (8, [.ref (q 0), .ref (q 3), .ref (q 18), .ref (q 19), .ref (q 6), .ref (q 20), .ref (q 21), .ref (q 22), .ref (q 23), .ref (q 15), .ref (q 17), .int 1, .ref (q 24), .ref (q 25), .int 0])), ((q 17), .inl ((ci 4), 192, .inl (upd (fun _ => 0) (Int32.toNatClampNeg 0) z5)))] H := hP
  have hD : va_D A [(h0, .inr (8, [.ref (q 0), .ref (q 3), .ref (q 18), .ref (q 19), .ref (q 6), .ref (q 20), .ref (q 21), .ref (q 22), .ref (q 23), .ref (q 15), .ref (q 17), .int 1, .ref (q 24), .ref (q 25), .int 0])), ((q 17), .inl ((ci 4), 192, .inl (upd (fun _ => 0) (Int32.toNatClampNeg 0) z5)))] := hD
  refine lv_iinc (k := 0) (v := 2) hx hb d_TS_put_61 hl rfl (by decide) (by decide) rfl (fun ls hl => ?_)
  have hl : lv_has ls 4 [(3, .int 2), (0, .ref h0), (1, .int p0), (2, .int 4)] := hl
  refine lv_goto (tgt := 28) hx hb d_TS_put_64 (by decide) ?_
  refine lv_iload_n hx hb d_TS_put_28 rfl (lv_at hl 0 rfl) ?_
  refine lv_if_lt (tgt := 67) hx hb d_TS_put_29 (by decide) (fun h9 => absurd h9 (by decide)) (fun _ => ?_)
  refine lv_aload_n hx hb d_TS_put_32 rfl (lv_at hl 1 rfl) ?_
  refine va_get (D := (dC, dI)) (ci := 8) (v := .ref (q 17)) (C := RTS) (T := FTS) (N := 15) hx hb hB in_TS hown hK hP 0 rfl rfl 10 (by decide) (hB _ hw_317) (fun _ h9 => h9) rfl d_TS_put_33 ?_
  refine lv_aload_n hx hb d_TS_put_36 rfl (lv_at hl 1 rfl) ?_
  refine va_get (D := (dC, dI)) (ci := 8) (v := .int 1) (C := RTS) (T := FTS) (N := 15) hx hb hB in_TS hown hK hP 0 rfl rfl 11 (by decide) (hB _ hw_318) (fun _ h9 => h9) rfl d_TS_put_37 ?_
  refine lv_iload_n hx hb d_TS_put_40 rfl (lv_at hl 2 rfl) ?_
  refine lv_bipush (v := 8) hx hb d_TS_put_41 (by decide) ?_
  refine lv_iload_n hx hb d_TS_put_43 rfl (lv_at hl 0 rfl) ?_
  refine lv_imul hx hb d_TS_put_44 ?_
  refine lv_topi (fun z7 z7_e => ?_)
  obtain rfl : z7 = 16 := z7_e.trans (by decide)
  refine lv_iushr hx hb d_TS_put_45 rfl ?_
  refine lv_topi (fun z8 z8_e => ?_)
  refine lv_sipush (v := 255) hx hb d_TS_put_46 (by decide) ?_
  refine lv_iand hx hb d_TS_put_49 ?_
  refine lv_topi (fun z9 z9_e => ?_)
  refine va_iast (D := (dC, dI)) hx hb hK hP hD hS 1 4 rfl rfl (by unfold vp_in; decide) d_TS_put_50 (fun H locs hP hD hS => ?_)
  have hP : va_P (dC, dI) gx_cl [(h0, .inr (8, [.ref (q 0), .ref (q 3), .ref (q 18), .ref (q 19), .ref (q 6), .ref (q 20), .ref (q 21), .ref (q 22), .ref (q 23), .ref (q 15), .ref (q 17), .int 1, .ref (q 24), .ref (q 25), .int 0])), ((q 17), .inl ((ci 4), 192, .inl (upd (upd (fun _ => 0) (Int32.toNatClampNeg 0) z5) (Int32.toNatClampNeg 1) z9)))] H := hP
  have hD : va_D A [(h0, .inr (8, [.ref (q 0), .ref (q 3), .ref (q 18), .ref (q 19), .ref (q 6), .ref (q 20), .ref (q 21), .ref (q 22), .ref (q 23), .ref (q 15), .ref (q 17), .int 1, .ref (q 24), .ref (q 25), .int 0])), ((q 17), .inl ((ci 4), 192, .inl (upd (upd (fun _ => 0) (Int32.toNatClampNeg 0) z5) (Int32.toNatClampNeg 1) z9)))] := hD
  refine lv_aload_n hx hb d_TS_put_51 rfl (lv_at hl 1 rfl) ?_
  refine lv_dup hx hb d_TS_put_52 rfl ?_
  refine va_get (D := (dC, dI)) (ci := 8) (v := .int 1) (C := RTS) (T := FTS) (N := 15) hx hb hB in_TS hown hK hP 0 rfl rfl 11 (by decide) (hB _ hw_318) (fun _ h9 => h9) rfl d_TS_put_53 ?_
  refine lv_iconst (v := 1) hx hb d_TS_put_56 (by decide) ?_
  refine lv_iadd hx hb d_TS_put_57 ?_
  refine lv_topi (fun z10 z10_e => ?_)
  obtain rfl : z10 = 2 := z10_e.trans (by decide)
  refine va_put (D := (dC, dI)) (ci := 8) (v := .int 2) (ty := .int) (C := RTS) (T := FTS) (N := 15) hx hb hB in_TS tTS tTS_ok nTS hown hK hP hD hS 0 rfl rfl 11 (by decide) (hB _ hw_318) (fun _ h9 => h9) rfl (by decide +kernel) rfl rfl (Nat.le_of_ble_eq_true rfl) d_TS_put_58 (fun H locs hP hD hS => ?_)
  have hP : va_P (dC, dI) gx_cl [(h0, .inr (8, [.ref (q 0), .ref (q 3), .ref (q 18), .ref (q 19), .ref (q 6), .ref (q 20), .ref (q 21), .ref (q 22), .ref (q 23), .ref (q 15), .ref (q 17), .int 2, .ref (q 24), .ref (q 25), .int 0])), ((q 17), .inl ((ci 4), 192, .inl (upd (upd (fun _ => 0) (Int32.toNatClampNeg 0) z5) (Int32.toNatClampNeg 1) z9)))] H := hP
  have hD : va_D A [(h0, .inr (8, [.ref (q 0), .ref (q 3), .ref (q 18), .ref (q 19), .ref (q 6), .ref (q 20), .ref (q 21), .ref (q 22), .ref (q 23), .ref (q 15), .ref (q 17), .int 2, .ref (q 24), .ref (q 25), .int 0])), ((q 17), .inl ((ci 4), 192, .inl (upd (upd (fun _ => 0) (Int32.toNatClampNeg 0) z5) (Int32.toNatClampNeg 1) z9)))] := hD
  refine lv_iinc (k := 0) (v := 1) hx hb d_TS_put_61 hl rfl (by decide) (by decide) rfl (fun ls hl => ?_)
  have hl : lv_has ls 4 [(3, .int 1), (0, .ref h0), (1, .int p0), (2, .int 4)] := hl
  refine lv_goto (tgt := 28) hx hb d_TS_put_64 (by decide) ?_
  refine lv_iload_n hx hb d_TS_put_28 rfl (lv_at hl 0 rfl) ?_
  refine lv_if_lt (tgt := 67) hx hb d_TS_put_29 (by decide) (fun h9 => absurd h9 (by decide)) (fun _ => ?_)
  refine lv_aload_n hx hb d_TS_put_32 rfl (lv_at hl 1 rfl) ?_
  refine va_get (D := (dC, dI)) (ci := 8) (v := .ref (q 17)) (C := RTS) (T := FTS) (N := 15) hx hb hB in_TS hown hK hP 0 rfl rfl 10 (by decide) (hB _ hw_317) (fun _ h9 => h9) rfl d_TS_put_33 ?_
  refine lv_aload_n hx hb d_TS_put_36 rfl (lv_at hl 1 rfl) ?_
  refine va_get (D := (dC, dI)) (ci := 8) (v := .int 2) (C := RTS) (T := FTS) (N := 15) hx hb hB in_TS hown hK hP 0 rfl rfl 11 (by decide) (hB _ hw_318) (fun _ h9 => h9) rfl d_TS_put_37 ?_
  refine lv_iload_n hx hb d_TS_put_40 rfl (lv_at hl 2 rfl) ?_
  refine lv_bipush (v := 8) hx hb d_TS_put_41 (by decide) ?_
  refine lv_iload_n hx hb d_TS_put_43 rfl (lv_at hl 0 rfl) ?_
  refine lv_imul hx hb d_TS_put_44 ?_
  refine lv_topi (fun z11 z11_e => ?_)
  obtain rfl : z11 = 8 := z11_e.trans (by decide)
  refine lv_iushr hx hb d_TS_put_45 rfl ?_
  refine lv_topi (fun z12 z12_e => ?_)
  refine lv_sipush (v := 255) hx hb d_TS_put_46 (by decide) ?_
  refine lv_iand hx hb d_TS_put_49 ?_
  refine lv_topi (fun z13 z13_e => ?_)
  refine va_iast (D := (dC, dI)) hx hb hK hP hD hS 1 4 rfl rfl (by unfold vp_in; decide) d_TS_put_50 (fun H locs hP hD hS => ?_)
  have hP : va_P (dC, dI) gx_cl [(h0, .inr (8, [.ref (q 0), .ref (q 3), .ref (q 18), .ref (q 19), .ref (q 6), .ref (q 20), .ref (q 21), .ref (q 22), .ref (q 23), .ref (q 15), .ref (q 17), .int 2, .ref (q 24), .ref (q 25), .int 0])), ((q 17), .inl ((ci 4), 192, .inl (upd (upd (upd (fun _ => 0) (Int32.toNatClampNeg 0) z5) (Int32.toNatClampNeg 1) z9) (Int32.toNatClampNeg 2) z13)))] H := hP
  have hD : va_D A [(h0, .inr (8, [.ref (q 0), .ref (q 3), .ref (q 18), .ref (q 19), .ref (q 6), .ref (q 20), .ref (q 21), .ref (q 22), .ref (q 23), .ref (q 15), .ref (q 17), .int 2, .ref (q 24), .ref (q 25), .int 0])), ((q 17), .inl ((ci 4), 192, .inl (upd (upd (upd (fun _ => 0) (Int32.toNatClampNeg 0) z5) (Int32.toNatClampNeg 1) z9) (Int32.toNatClampNeg 2) z13)))] := hD
  refine lv_aload_n hx hb d_TS_put_51 rfl (lv_at hl 1 rfl) ?_
  refine lv_dup hx hb d_TS_put_52 rfl ?_
  refine va_get (D := (dC, dI)) (ci := 8) (v := .int 2) (C := RTS) (T := FTS) (N := 15) hx hb hB in_TS hown hK hP 0 rfl rfl 11 (by decide) (hB _ hw_318) (fun _ h9 => h9) rfl d_TS_put_53 ?_
  refine lv_iconst (v := 1) hx hb d_TS_put_56 (by decide) ?_
  refine lv_iadd hx hb d_TS_put_57 ?_
  refine lv_topi (fun z14 z14_e => ?_)
  obtain rfl : z14 = 3 := z14_e.trans (by decide)
  refine va_put (D := (dC, dI)) (ci := 8) (v := .int 3) (ty := .int) (C := RTS) (T := FTS) (N := 15) hx hb hB in_TS tTS tTS_ok nTS hown hK hP hD hS 0 rfl rfl 11 (by decide) (hB _ hw_318) (fun _ h9 => h9) rfl (by decide +kernel) rfl rfl (Nat.le_of_ble_eq_true rfl) d_TS_put_58 (fun H locs hP hD hS => ?_)
  have hP : va_P (dC, dI) gx_cl [(h0, .inr (8, [.ref (q 0), .ref (q 3), .ref (q 18), .ref (q 19), .ref (q 6), .ref (q 20), .ref (q 21), .ref (q 22), .ref (q 23), .ref (q 15), .ref (q 17), .int 3, .ref (q 24), .ref (q 25), .int 0])), ((q 17), .inl ((ci 4), 192, .inl (upd (upd (upd (fun _ => 0) (Int32.toNatClampNeg 0) z5) (Int32.toNatClampNeg 1) z9) (Int32.toNatClampNeg 2) z13)))] H := hP
  have hD : va_D A [(h0, .inr (8, [.ref (q 0), .ref (q 3), .ref (q 18), .ref (q 19), .ref (q 6), .ref (q 20), .ref (q 21), .ref (q 22), .ref (q 23), .ref (q 15), .ref (q 17), .int 3, .ref (q 24), .ref (q 25), .int 0])), ((q 17), .inl ((ci 4), 192, .inl (upd (upd (upd (fun _ => 0) (Int32.toNatClampNeg 0) z5) (Int32.toNatClampNeg 1) z9) (Int32.toNatClampNeg 2) z13)))] := hD
  refine lv_iinc (k := 0) (v := 0) hx hb d_TS_put_61 hl rfl (by decide) (by decide) rfl (fun ls hl => ?_)
  have hl : lv_has ls 4 [(3, .int 0), (0, .ref h0), (1, .int p0), (2, .int 4)] := hl
  refine lv_goto (tgt := 28) hx hb d_TS_put_64 (by decide) ?_
  refine lv_iload_n hx hb d_TS_put_28 rfl (lv_at hl 0 rfl) ?_
  refine lv_if_lt (tgt := 67) hx hb d_TS_put_29 (by decide) (fun h9 => absurd h9 (by decide)) (fun _ => ?_)
  refine lv_aload_n hx hb d_TS_put_32 rfl (lv_at hl 1 rfl) ?_
  refine va_get (D := (dC, dI)) (ci := 8) (v := .ref (q 17)) (C := RTS) (T := FTS) (N := 15) hx hb hB in_TS hown hK hP 0 rfl rfl 10 (by decide) (hB _ hw_317) (fun _ h9 => h9) rfl d_TS_put_33 ?_
  refine lv_aload_n hx hb d_TS_put_36 rfl (lv_at hl 1 rfl) ?_
  refine va_get (D := (dC, dI)) (ci := 8) (v := .int 3) (C := RTS) (T := FTS) (N := 15) hx hb hB in_TS hown hK hP 0 rfl rfl 11 (by decide) (hB _ hw_318) (fun _ h9 => h9) rfl d_TS_put_37 ?_
  refine lv_iload_n hx hb d_TS_put_40 rfl (lv_at hl 2 rfl) ?_
  refine lv_bipush (v := 8) hx hb d_TS_put_41 (by decide) ?_
  refine lv_iload_n hx hb d_TS_put_43 rfl (lv_at hl 0 rfl) ?_
  refine lv_imul hx hb d_TS_put_44 ?_
  refine lv_topi (fun z15 z15_e => ?_)
  obtain rfl : z15 = 0 := z15_e.trans (by decide)
  refine lv_iushr hx hb d_TS_put_45 rfl ?_
  refine lv_topi (fun z16 z16_e => ?_)
  refine lv_sipush (v := 255) hx hb d_TS_put_46 (by decide) ?_
  refine lv_iand hx hb d_TS_put_49 ?_
  refine lv_topi (fun z17 z17_e => ?_)
  refine va_iast (D := (dC, dI)) hx hb hK hP hD hS 1 4 rfl rfl (by unfold vp_in; decide) d_TS_put_50 (fun H locs hP hD hS => ?_)
  have hP : va_P (dC, dI) gx_cl [(h0, .inr (8, [.ref (q 0), .ref (q 3), .ref (q 18), .ref (q 19), .ref (q 6), .ref (q 20), .ref (q 21), .ref (q 22), .ref (q 23), .ref (q 15), .ref (q 17), .int 3, .ref (q 24), .ref (q 25), .int 0])), ((q 17), .inl ((ci 4), 192, .inl (upd (upd (upd (upd (fun _ => 0) (Int32.toNatClampNeg 0) z5) (Int32.toNatClampNeg 1) z9) (Int32.toNatClampNeg 2) z13) (Int32.toNatClampNeg 3) z17)))] H := hP
  have hD : va_D A [(h0, .inr (8, [.ref (q 0), .ref (q 3), .ref (q 18), .ref (q 19), .ref (q 6), .ref (q 20), .ref (q 21), .ref (q 22), .ref (q 23), .ref (q 15), .ref (q 17), .int 3, .ref (q 24), .ref (q 25), .int 0])), ((q 17), .inl ((ci 4), 192, .inl (upd (upd (upd (upd (fun _ => 0) (Int32.toNatClampNeg 0) z5) (Int32.toNatClampNeg 1) z9) (Int32.toNatClampNeg 2) z13) (Int32.toNatClampNeg 3) z17)))] := hD
  refine lv_aload_n hx hb d_TS_put_51 rfl (lv_at hl 1 rfl) ?_
  refine lv_dup hx hb d_TS_put_52 rfl ?_
  refine va_get (D := (dC, dI)) (ci := 8) (v := .int 3) (C := RTS) (T := FTS) (N := 15) hx hb hB in_TS hown hK hP 0 rfl rfl 11 (by decide) (hB _ hw_318) (fun _ h9 => h9) rfl d_TS_put_53 ?_
  refine lv_iconst (v := 1) hx hb d_TS_put_56 (by decide) ?_
  refine lv_iadd hx hb d_TS_put_57 ?_
  refine lv_topi (fun z18 z18_e => ?_)
  obtain rfl : z18 = 4 := z18_e.trans (by decide)
  refine va_put (D := (dC, dI)) (ci := 8) (v := .int 4) (ty := .int) (C := RTS) (T := FTS) (N := 15) hx hb hB in_TS tTS tTS_ok nTS hown hK hP hD hS 0 rfl rfl 11 (by decide) (hB _ hw_318) (fun _ h9 => h9) rfl (by decide +kernel) rfl rfl (Nat.le_of_ble_eq_true rfl) d_TS_put_58 (fun H locs hP hD hS => ?_)
  have hP : va_P (dC, dI) gx_cl [(h0, .inr (8, [.ref (q 0), .ref (q 3), .ref (q 18), .ref (q 19), .ref (q 6), .ref (q 20), .ref (q 21), .ref (q 22), .ref (q 23), .ref (q 15), .ref (q 17), .int 4, .ref (q 24), .ref (q 25), .int 0])), ((q 17), .inl ((ci 4), 192, .inl (upd (upd (upd (upd (fun _ => 0) (Int32.toNatClampNeg 0) z5) (Int32.toNatClampNeg 1) z9) (Int32.toNatClampNeg 2) z13) (Int32.toNatClampNeg 3) z17)))] H := hP
  have hD : va_D A [(h0, .inr (8, [.ref (q 0), .ref (q 3), .ref (q 18), .ref (q 19), .ref (q 6), .ref (q 20), .ref (q 21), .ref (q 22), .ref (q 23), .ref (q 15), .ref (q 17), .int 4, .ref (q 24), .ref (q 25), .int 0])), ((q 17), .inl ((ci 4), 192, .inl (upd (upd (upd (upd (fun _ => 0) (Int32.toNatClampNeg 0) z5) (Int32.toNatClampNeg 1) z9) (Int32.toNatClampNeg 2) z13) (Int32.toNatClampNeg 3) z17)))] := hD
  refine lv_iinc (k := 0) (v := (-1)) hx hb d_TS_put_61 hl rfl (by decide) (by decide) rfl (fun ls hl => ?_)
  have hl : lv_has ls 4 [(3, .int (-1)), (0, .ref h0), (1, .int p0), (2, .int 4)] := hl
  refine lv_goto (tgt := 28) hx hb d_TS_put_64 (by decide) ?_
  refine lv_iload_n hx hb d_TS_put_28 rfl (lv_at hl 0 rfl) ?_
  refine lv_if_lt (tgt := 67) hx hb d_TS_put_29 (by decide) (fun _ => ?_) (fun h9 => absurd (by decide) h9)
  refine lv_iconst (v := 1) hx hb d_TS_put_67 (by decide) ?_
  refine W.widen (k := 0) (n := 0) (Nat.le_of_ble_eq_true rfl) (Nat.le_of_ble_eq_true rfl) ?_
  exact W.zret (v := 1) hx hb hr rfl (fun t ht hW => ⟨⟨1, (), rfl, rfl, trivial⟩, hS.F ht⟩) hS.2.2 d_TS_put_68
set_option maxHeartbeats 4000000 in
set_option maxRecDepth 100000 in
theorem p_TS_put0 (l : Launch) (dC : Nat → ClassId) (dI : Nat → Nat → Nat) (h0 : Nat) (q : Nat → Nat) (ci : Nat → ClassId) (p0 p1 : Int32) (h : p1 < 1 ∨ 4 < p1) : Met l y_TS_put w_TS_put ({ frames := 0, cells := 0, slots := 0, locals := 0 }) (va_Pc [.ref h0, .int p0, .int p1] (fun U => va_P (dC, dI) gx_cl (wTS h0 q ci) U.heap ∧ va_K (dC, dI) gx_cl (kTS ci) U)) (px_Q (some (.int 0))) 0 0 (fun _ => False) := by
  refine Met.ofW (cc := b_TS_put) (maxL := 4) (ret := (some .boolean)) (by decide) rfl ?_
  intro p e s m args below meth c s₁ B hml hv
  obtain ⟨rfl, hP, hK⟩ := hv
  have hx := B.exec
  have hb := B.bytes
  have hr := B.returns
  have hts := atoms_spec (ws := w_TS_put) B.pre
  have hB : ∀ w ∈ gx_B, w.before _ s = true := fun w h => hts w (List.mem_cons_of_mem _ h)
  have hown : s.vm.findClass "TapeSealer" = some m.cls := findClass_of_methodNamed B.named
  have hlocks := B.notSynchronized
  have hl := lv_entry ([.ref h0, .int p0, .int p1]) (n := 4) (Nat.le_of_ble_eq_true rfl)
  rw [lg_entry_eq]
  generalize (lg_sl ([.ref h0, .int p0, .int p1]) ++ List.replicate (4 - (lg_sl ([.ref h0, .int p0, .int p1])).length) Slot.unset).toArray = ls at hl ⊢
  have hl : lv_has ls 4 [(0, .ref h0), (1, .int p0), (2, .int p1)] := hl
  rcases h with hi | hi
  · refine lv_iload_n hx hb d_TS_put_0 rfl (lv_at hl 2 rfl) ?_
    refine lv_iconst (v := 1) hx hb d_TS_put_1 (by decide) ?_
    refine lv_icmp_lt (tgt := 22) hx hb d_TS_put_2 (by decide) (fun _ => ?_) (fun h9 => absurd hi h9)
    refine lv_iconst (v := 0) hx hb d_TS_put_22 (by decide) ?_
    exact W.zret (v := 0) hx hb hr rfl (fun t ht _ => ⟨rfl, ht⟩) (fun _ h => nomatch h) d_TS_put_23
  · refine lv_iload_n hx hb d_TS_put_0 rfl (lv_at hl 2 rfl) ?_
    refine lv_iconst (v := 1) hx hb d_TS_put_1 (by decide) ?_
    refine lv_icmp_lt (tgt := 22) hx hb d_TS_put_2 (by decide) (fun h9 => absurd h9 (gx_p4 hi)) (fun _ => ?_)
    refine lv_iload_n hx hb d_TS_put_5 rfl (lv_at hl 2 rfl) ?_
    refine lv_iconst (v := 4) hx hb d_TS_put_6 (by decide) ?_
    refine lv_icmp_gt (tgt := 22) hx hb d_TS_put_7 (by decide) (fun _ => ?_) (fun h9 => absurd hi h9)
    refine lv_iconst (v := 0) hx hb d_TS_put_22 (by decide) ?_
    exact W.zret (v := 0) hx hb hr rfl (fun t ht _ => ⟨rfl, ht⟩) (fun _ h => nomatch h) d_TS_put_23
set_option maxHeartbeats 4000000 in
set_option maxRecDepth 100000 in
theorem m_TS_damage (l : Launch) (dC : Nat → ClassId) (dI : Nat → Nat → Nat) (sz : Nat) (h0 : Nat) (q : Nat → Nat) (ci : Nat → ClassId) (p0 p1 p2 : Int32) (h1 : ¬ p0 < 0) (h2 : ¬ 44 ≤ p0) (h3 : ¬ p1 < 0) (h4 : ¬ 64 ≤ p1) (h5 : ¬ p2 < 0) (h6 : p2 ≤ 255) : Met l y_TS_damage w_TS_damage ({ frames := 1, cells := 0, slots := 0, locals := 21 }) (va_Pc [.ref h0, .int p0, .int p1, .int p2] (fun U => U.heap.size = sz ∧ va_P (dC, dI) gx_cl [(h0, .inr (8, [.ref (q 0), .ref (q 3), .ref (q 18), .ref (q 19), .ref (q 6), .ref (q 20), .ref (q 21), .ref (q 22), .ref (q 23), .ref (q 15), .ref (q 17), .int 0, .ref (q 24), .ref (q 25), .int 0])), ((q 0), .inr (1, [.ref (q 1), .ref (q 2), .int 0, .int (-1), .int 0, .int 0])), ((q 1), .inl ((ci 0), 44, .inr (.inr (.inr (.inr (mx_g (q 1) 44)))))), ((q 1 + 1 + p0.toNatClampNeg), .inl ((ci 1), 64, .inl (fun _ => 0)))] U.heap ∧ va_K (dC, dI) gx_cl (kTS ci) U ∧ va_D (fun _ => True) [(h0, .inr (8, [.ref (q 0), .ref (q 3), .ref (q 18), .ref (q 19), .ref (q 6), .ref (q 20), .ref (q 21), .ref (q 22), .ref (q 23), .ref (q 15), .ref (q 17), .int 0, .ref (q 24), .ref (q 25), .int 0])), ((q 0), .inr (1, [.ref (q 1), .ref (q 2), .int 0, .int (-1), .int 0, .int 0])), ((q 1), .inl ((ci 0), 44, .inr (.inr (.inr (.inr (mx_g (q 1) 44)))))), ((q 1 + 1 + p0.toNatClampNeg), .inl ((ci 1), 64, .inl (fun _ => 0)))])) (va_Qv (fun _ : Unit => True) (fun _ t => True) (va_A [(h0, .inr (8, [.ref (q 0), .ref (q 3), .ref (q 18), .ref (q 19), .ref (q 6), .ref (q 20), .ref (q 21), .ref (q 22), .ref (q 23), .ref (q 15), .ref (q 17), .int 0, .ref (q 24), .ref (q 25), .int 0])), ((q 0), .inr (1, [.ref (q 1), .ref (q 2), .int 0, .int (-1), .int 0, .int 0])), ((q 1), .inl ((ci 0), 44, .inr (.inr (.inr (.inr (mx_g (q 1) 44)))))), ((q 1 + 1 + p0.toNatClampNeg), .inl ((ci 1), 64, .inl (fun _ => 0)))] sz)) 0 0 (va_A [(h0, .inr (8, [.ref (q 0), .ref (q 3), .ref (q 18), .ref (q 19), .ref (q 6), .ref (q 20), .ref (q 21), .ref (q 22), .ref (q 23), .ref (q 15), .ref (q 17), .int 0, .ref (q 24), .ref (q 25), .int 0])), ((q 0), .inr (1, [.ref (q 1), .ref (q 2), .int 0, .int (-1), .int 0, .int 0])), ((q 1), .inl ((ci 0), 44, .inr (.inr (.inr (.inr (mx_g (q 1) 44)))))), ((q 1 + 1 + p0.toNatClampNeg), .inl ((ci 1), 64, .inl (fun _ => 0)))] sz) := by
  refine Met.ofW (cc := b_TS_damage) (maxL := 4) (ret := none) (by decide) rfl ?_
  intro p e s m args below meth c s₁ B hml hv
  obtain ⟨rfl, hsz, hP, hK, hD0⟩ := hv
  have hx := B.exec
  have hb := B.bytes
  have hr := B.returns
  have hts := atoms_spec (ws := w_TS_damage) B.pre
  have hB : ∀ w ∈ gx_B, w.before _ s = true := fun w h => hts w (List.mem_cons_of_mem _ h)
  have hown : s.vm.findClass "TapeSealer" = some m.cls := findClass_of_methodNamed B.named
  have hlocks := B.notSynchronized
  subst hsz
  have hD := hD0.self (sz := s.heap.size)
  generalize hAe : va_A [(h0, .inr (8, [.ref (q 0), .ref (q 3), .ref (q 18), .ref (q 19), .ref (q 6), .ref (q 20), .ref (q 21), .ref (q 22), .ref (q 23), .ref (q 15), .ref (q 17), .int 0, .ref (q 24), .ref (q 25), .int 0])), ((q 0), .inr (1, [.ref (q 1), .ref (q 2), .int 0, .int (-1), .int 0, .int 0])), ((q 1), .inl ((ci 0), 44, .inr (.inr (.inr (.inr (mx_g (q 1) 44)))))), ((q 1 + 1 + p0.toNatClampNeg), .inl ((ci 1), 64, .inl (fun _ => 0)))] s.heap.size = A at hD ⊢
  have hA : ∀ q : Nat, s.heap.size ≤ q → A q := fun q h => by rw [← hAe]; exact Or.inr h
  have hS : va_S A s.heap s.heap [] := va_S.rf
  have hl := lv_entry ([.ref h0, .int p0, .int p1, .int p2]) (n := 4) (Nat.le_of_ble_eq_true rfl)
  rw [lg_entry_eq]
  generalize (lg_sl ([.ref h0, .int p0, .int p1, .int p2]) ++ List.replicate (4 - (lg_sl ([.ref h0, .int p0, .int p1, .int p2])).length) Slot.unset).toArray = ls at hl ⊢
  have hl : lv_has ls 4 [(0, .ref h0), (1, .int p0), (2, .int p1), (3, .int p2)] := hl
  refine lv_iload_n hx hb d_TS_damage_0 rfl (lv_at hl 1 rfl) ?_
  refine lv_iload_n hx hb d_TS_damage_1 rfl (lv_at hl 2 rfl) ?_
  refine px_go (va_runS (As := [.int p0, .int p1]) (rest := []) ⟨hx, hb, hml, hown, hts⟩ (p_TS_isByte1 l p0 p1 h1 h2 h3 h4) (cwS 2 hts (gx_goodS hw_841 hw_842 hw_66 k_TS_isByte) rfl rfl rfl (by decide +kernel) ⟨(Nat.le_of_ble_eq_true rfl), (Nat.le_of_ble_eq_true rfl)⟩) ⟨fun a U g mk q => q, fun U hU hW => ⟨rfl, trivial⟩⟩ rfl rfl hl.1 rfl (lv_room (Nat.le_of_ble_eq_true rfl)) d_TS_damage_2 ⟨(Nat.le_of_ble_eq_true rfl), (Nat.le_of_ble_eq_true rfl)⟩) ?_
  refine W.eq (g2 := F0 m 5 ls [.int 1]) rfl ?_
  refine lv_if_eq (tgt := 19) hx hb d_TS_damage_5 (by decide) (fun h9 => absurd h9 (by decide)) (fun _ => ?_)
  refine lv_iload_n hx hb d_TS_damage_8 rfl (lv_at hl 3 rfl) ?_
  refine lv_if_lt (tgt := 19) hx hb d_TS_damage_9 (by decide) (fun h9 => absurd h9 h5) (fun _ => ?_)
  refine lv_iload_n hx hb d_TS_damage_12 rfl (lv_at hl 3 rfl) ?_
  refine lv_sipush (v := 255) hx hb d_TS_damage_13 (by decide) ?_
  refine lv_icmp_le (tgt := 27) hx hb d_TS_damage_16 (by decide) (fun _ => ?_) (fun h9 => absurd h6 h9)
  refine lv_aload_n hx hb d_TS_damage_27 rfl (lv_at hl 0 rfl) ?_
  refine va_get (D := (dC, dI)) (ci := 8) (v := .ref (q 0)) (C := RTS) (T := FTS) (N := 15) hx hb hB in_TS hown hK hP 0 rfl rfl 0 (by decide) (hB _ hw_307) (fun _ h9 => h9) rfl d_TS_damage_28 ?_
  refine va_get (D := (dC, dI)) (ci := 1) (v := .ref (q 1)) (C := RCa) (T := FCa) (N := 6) hx hb hB in_Ca hown hK hP 1 rfl rfl 0 (by decide) (hB _ hw_106) (fun _ h9 => h9) rfl d_TS_damage_31 ?_
  refine lv_iload_n hx hb d_TS_damage_34 rfl (lv_at hl 1 rfl) ?_
  refine mx_ald (D := (dC, dI)) hx hb hK hP 2 0 rfl rfl (jn := p0.toNatClampNeg) rfl (gx_in44 h1 h2) d_TS_damage_35 ?_
  refine W.eq (g2 := F0 m 36 ls [.ref (q 1 + 1 + p0.toNatClampNeg)]) rfl ?_
  refine lv_iload_n hx hb d_TS_damage_36 rfl (lv_at hl 2 rfl) ?_
  refine lv_dup2_11 hx hb d_TS_damage_37 rfl rfl ?_
  refine va_iald (D := (dC, dI)) hx hb hK hP 3 1 rfl rfl (gx_in64 h3 h4) d_TS_damage_38 ?_
  refine W.eq (g2 := F0 m 39 ls [.int 0, .int p1, .ref (q 1 + 1 + p0.toNatClampNeg)]) rfl ?_
  refine lv_iload_n hx hb d_TS_damage_39 rfl (lv_at hl 3 rfl) ?_
  refine lv_ixor hx hb d_TS_damage_40 ?_
  refine lv_topi (fun z1 z1_e => ?_)
  refine va_iast (D := (dC, dI)) hx hb hK hP hD hS 3 1 rfl rfl (gx_in64 h3 h4) d_TS_damage_41 (fun H locs hP hD hS => ?_)
  have hP : va_P (dC, dI) gx_cl [(h0, .inr (8, [.ref (q 0), .ref (q 3), .ref (q 18), .ref (q 19), .ref (q 6), .ref (q 20), .ref (q 21), .ref (q 22), .ref (q 23), .ref (q 15), .ref (q 17), .int 0, .ref (q 24), .ref (q 25), .int 0])), ((q 0), .inr (1, [.ref (q 1), .ref (q 2), .int 0, .int (-1), .int 0, .int 0])), ((q 1), .inl ((ci 0), 44, .inr (.inr (.inr (.inr (mx_g (q 1) 44)))))), ((q 1 + 1 + p0.toNatClampNeg), .inl ((ci 1), 64, .inl (upd (fun _ => 0) (Int32.toNatClampNeg p1) z1)))] H := hP
  have hD : va_D A [(h0, .inr (8, [.ref (q 0), .ref (q 3), .ref (q 18), .ref (q 19), .ref (q 6), .ref (q 20), .ref (q 21), .ref (q 22), .ref (q 23), .ref (q 15), .ref (q 17), .int 0, .ref (q 24), .ref (q 25), .int 0])), ((q 0), .inr (1, [.ref (q 1), .ref (q 2), .int 0, .int (-1), .int 0, .int 0])), ((q 1), .inl ((ci 0), 44, .inr (.inr (.inr (.inr (mx_g (q 1) 44)))))), ((q 1 + 1 + p0.toNatClampNeg), .inl ((ci 1), 64, .inl (upd (fun _ => 0) (Int32.toNatClampNeg p1) z1)))] := hD
  refine lv_aload_n hx hb d_TS_damage_42 rfl (lv_at hl 0 rfl) ?_
  refine va_get (D := (dC, dI)) (ci := 8) (v := .ref (q 0)) (C := RTS) (T := FTS) (N := 15) hx hb hB in_TS hown hK hP 0 rfl rfl 0 (by decide) (hB _ hw_307) (fun _ h9 => h9) rfl d_TS_damage_43 ?_
  refine lv_iload_n hx hb d_TS_damage_46 rfl (lv_at hl 1 rfl) ?_
  have hPc := hP.sub (ws' := [((q 0), .inr (1, [.ref (q 1), .ref (q 2), .int 0, .int (-1), .int 0, .int 0]))]) [1] rfl
  have hDc := hD.sub (ws' := [((q 0), .inr (1, [.ref (q 1), .ref (q 2), .int 0, .int (-1), .int 0, .int 0]))]) [1] (by decide) rfl
  have hKc := hK.sub (tys' := []) [] rfl
  have hFc := va_free (wc := [((q 0), .inr (1, [.ref (q 1), .ref (q 2), .int 0, .int (-1), .int 0, .int 0]))]) hD hS hA [1] rfl
  refine va_callv (va_runV (C := "TapeSealer$Cartridge") (As := [.int p0]) (rest := []) ⟨hx, hb, hml, hown, hts⟩ (m_Ca_noteChange l dC dI H.size (q 0) (q 1) (q 2) 0 (-1) 0 0 p0) (cwV 1 hts (gx_goodV hw_844 hw_638 hw_639 hw_67 k_Ca_noteChange) rfl rfl rfl (by decide +kernel) ⟨(Nat.le_of_ble_eq_true rfl), (Nat.le_of_ble_eq_true rfl)⟩) ⟨fun a U g mk q => by obtain ⟨q0, q1, qP, qK, qD⟩ := q; exact ⟨q0, q1, qP, va_K.moved (u := U) (U := U.calling g mk a) (Vm.Alike.refl U.vm) qK, qD⟩, va_recv hK hP rfl (q0 := 1) rfl, fun U hU hW => ⟨rfl, by rw [hU], by rw [hU]; exact hPc, va_K.moved hW.alike hKc, hDc.weaken (fun _ _ _ _ => trivial)⟩⟩ rfl rfl hl.1 rfl (lv_room (Nat.le_of_ble_eq_true rfl)) d_TS_damage_47 ⟨(Nat.le_of_ble_eq_true rfl), (Nat.le_of_ble_eq_true rfl)⟩) hS (fun q _ h => hFc q h) hFc (fun u t H1 locs ht hvm hw hB1 hz1 hk1 hS => ?_)
  obtain ⟨hP, hD⟩ := va_join (wr := [(h0, .inr (8, [.ref (q 0), .ref (q 3), .ref (q 18), .ref (q 19), .ref (q 6), .ref (q 20), .ref (q 21), .ref (q 22), .ref (q 23), .ref (q 15), .ref (q 17), .int 0, .ref (q 24), .ref (q 25), .int 0])), ((q 1), .inl ((ci 0), 44, .inr (.inr (.inr (.inr (mx_g (q 1) 44)))))), ((q 1 + 1 + p0.toNatClampNeg), .inl ((ci 1), 64, .inl (upd (fun _ => 0) (Int32.toNatClampNeg p1) z1)))]) (w1 := []) hP hD [1] [0, 2, 3] rfl rfl (by decide) (by decide) hk1 hFc gx_P0 gx_D0
  generalize H1 = H at hP hS ⊢
  have hP : va_P (dC, dI) gx_cl [(h0, .inr (8, [.ref (q 0), .ref (q 3), .ref (q 18), .ref (q 19), .ref (q 6), .ref (q 20), .ref (q 21), .ref (q 22), .ref (q 23), .ref (q 15), .ref (q 17), .int 0, .ref (q 24), .ref (q 25), .int 0])), ((q 1), .inl ((ci 0), 44, .inr (.inr (.inr (.inr (mx_g (q 1) 44)))))), ((q 1 + 1 + p0.toNatClampNeg), .inl ((ci 1), 64, .inl (upd (fun _ => 0) (Int32.toNatClampNeg p1) z1)))] H := hP
  have hD : va_D A [(h0, .inr (8, [.ref (q 0), .ref (q 3), .ref (q 18), .ref (q 19), .ref (q 6), .ref (q 20), .ref (q 21), .ref (q 22), .ref (q 23), .ref (q 15), .ref (q 17), .int 0, .ref (q 24), .ref (q 25), .int 0])), ((q 1), .inl ((ci 0), 44, .inr (.inr (.inr (.inr (mx_g (q 1) 44)))))), ((q 1 + 1 + p0.toNatClampNeg), .inl ((ci 1), 64, .inl (upd (fun _ => 0) (Int32.toNatClampNeg p1) z1)))] := hD
  refine W.eq (g2 := F0 m 50 ls []) rfl ?_
  refine W.widen (k := 0) (n := 0) (Nat.le_of_ble_eq_true rfl) (Nat.le_of_ble_eq_true rfl) ?_
  exact W.vret hx hb hr (fun t ht hW => ⟨⟨(), rfl, trivial, trivial⟩, hS.F ht⟩) hS.2.2 d_TS_damage_50
set_option maxHeartbeats 4000000 in
set_option maxRecDepth 100000 in
theorem m_TS_spoil (l : Launch) (dC : Nat → ClassId) (dI : Nat → Nat → Nat) (sz : Nat) (h0 : Nat) (q : Nat → Nat) (ci : Nat → ClassId) (p0 : Int32) (h1 : ¬ p0 < 0) (h2 : ¬ 44 ≤ p0) : Met l y_TS_spoil w_TS_spoil ({ frames := 1, cells := 0, slots := 0, locals := 21 }) (va_Pc [.ref h0, .int p0] (fun U => U.heap.size = sz ∧ va_P (dC, dI) gx_cl [(h0, .inr (8, [.ref (q 0), .ref (q 3), .ref (q 18), .ref (q 19), .ref (q 6), .ref (q 20), .ref (q 21), .ref (q 22), .ref (q 23), .ref (q 15), .ref (q 17), .int 0, .ref (q 24), .ref (q 25), .int 0])), ((q 0), .inr (1, [.ref (q 1), .ref (q 2), .int 0, .int (-1), .int 0, .int 0])), ((q 2), .inl ((ci 2), 44, .inl (fun _ => 0)))] U.heap ∧ va_K (dC, dI) gx_cl (kTS ci) U ∧ va_D (fun _ => True) [(h0, .inr (8, [.ref (q 0), .ref (q 3), .ref (q 18), .ref (q 19), .ref (q 6), .ref (q 20), .ref (q 21), .ref (q 22), .ref (q 23), .ref (q 15), .ref (q 17), .int 0, .ref (q 24), .ref (q 25), .int 0])), ((q 0), .inr (1, [.ref (q 1), .ref (q 2), .int 0, .int (-1), .int 0, .int 0])), ((q 2), .inl ((ci 2), 44, .inl (fun _ => 0)))])) (va_Qv (fun _ : Unit => True) (fun _ t => True) (va_A [(h0, .inr (8, [.ref (q 0), .ref (q 3), .ref (q 18), .ref (q 19), .ref (q 6), .ref (q 20), .ref (q 21), .ref (q 22), .ref (q 23), .ref (q 15), .ref (q 17), .int 0, .ref (q 24), .ref (q 25), .int 0])), ((q 0), .inr (1, [.ref (q 1), .ref (q 2), .int 0, .int (-1), .int 0, .int 0])), ((q 2), .inl ((ci 2), 44, .inl (fun _ => 0)))] sz)) 0 0 (va_A [(h0, .inr (8, [.ref (q 0), .ref (q 3), .ref (q 18), .ref (q 19), .ref (q 6), .ref (q 20), .ref (q 21), .ref (q 22), .ref (q 23), .ref (q 15), .ref (q 17), .int 0, .ref (q 24), .ref (q 25), .int 0])), ((q 0), .inr (1, [.ref (q 1), .ref (q 2), .int 0, .int (-1), .int 0, .int 0])), ((q 2), .inl ((ci 2), 44, .inl (fun _ => 0)))] sz) := by
  refine Met.ofW (cc := b_TS_spoil) (maxL := 2) (ret := none) (by decide) rfl ?_
  intro p e s m args below meth c s₁ B hml hv
  obtain ⟨rfl, hsz, hP, hK, hD0⟩ := hv
  have hx := B.exec
  have hb := B.bytes
  have hr := B.returns
  have hts := atoms_spec (ws := w_TS_spoil) B.pre
  have hB : ∀ w ∈ gx_B, w.before _ s = true := fun w h => hts w (List.mem_cons_of_mem _ h)
  have hown : s.vm.findClass "TapeSealer" = some m.cls := findClass_of_methodNamed B.named
  have hlocks := B.notSynchronized
  subst hsz
  have hD := hD0.self (sz := s.heap.size)
  generalize hAe : va_A [(h0, .inr (8, [.ref (q 0), .ref (q 3), .ref (q 18), .ref (q 19), .ref (q 6), .ref (q 20), .ref (q 21), .ref (q 22), .ref (q 23), .ref (q 15), .ref (q 17), .int 0, .ref (q 24), .ref (q 25), .int 0])), ((q 0), .inr (1, [.ref (q 1), .ref (q 2), .int 0, .int (-1), .int 0, .int 0])), ((q 2), .inl ((ci 2), 44, .inl (fun _ => 0)))] s.heap.size = A at hD ⊢
  have hA : ∀ q : Nat, s.heap.size ≤ q → A q := fun q h => by rw [← hAe]; exact Or.inr h
  have hS : va_S A s.heap s.heap [] := va_S.rf
  have hl := lv_entry ([.ref h0, .int p0]) (n := 2) (Nat.le_of_ble_eq_true rfl)
  rw [lg_entry_eq]
  generalize (lg_sl ([.ref h0, .int p0]) ++ List.replicate (2 - (lg_sl ([.ref h0, .int p0])).length) Slot.unset).toArray = ls at hl ⊢
  have hl : lv_has ls 2 [(0, .ref h0), (1, .int p0)] := hl
  refine lv_iload_n hx hb d_TS_spoil_0 rfl (lv_at hl 1 rfl) ?_
  refine lv_iconst (v := 0) hx hb d_TS_spoil_1 (by decide) ?_
  refine px_go (va_runS (As := [.int p0, .int 0]) (rest := []) ⟨hx, hb, hml, hown, hts⟩ (p_TS_isByte1 l p0 0 h1 h2 (by decide) (by decide)) (cwS 2 hts (gx_goodS hw_841 hw_842 hw_66 k_TS_isByte) rfl rfl rfl (by decide +kernel) ⟨(Nat.le_of_ble_eq_true rfl), (Nat.le_of_ble_eq_true rfl)⟩) ⟨fun a U g mk q => q, fun U hU hW => ⟨rfl, trivial⟩⟩ rfl rfl hl.1 rfl (lv_room (Nat.le_of_ble_eq_true rfl)) d_TS_spoil_2 ⟨(Nat.le_of_ble_eq_true rfl), (Nat.le_of_ble_eq_true rfl)⟩) ?_
  refine W.eq (g2 := F0 m 5 ls [.int 1]) rfl ?_
  refine lv_if_ne (tgt := 16) hx hb d_TS_spoil_5 (by decide) (fun _ => ?_) (fun h9 => absurd h9 (by decide))
  refine lv_aload_n hx hb d_TS_spoil_16 rfl (lv_at hl 0 rfl) ?_
  refine va_get (D := (dC, dI)) (ci := 8) (v := .ref (q 0)) (C := RTS) (T := FTS) (N := 15) hx hb hB in_TS hown hK hP 0 rfl rfl 0 (by decide) (hB _ hw_307) (fun _ h9 => h9) rfl d_TS_spoil_17 ?_
  refine va_get (D := (dC, dI)) (ci := 1) (v := .ref (q 2)) (C := RCa) (T := FCa) (N := 6) hx hb hB in_Ca hown hK hP 1 rfl rfl 1 (by decide) (hB _ hw_109) (fun _ h9 => h9) rfl d_TS_spoil_20 ?_
  refine lv_iload_n hx hb d_TS_spoil_23 rfl (lv_at hl 1 rfl) ?_
  refine lv_iconst (v := 1) hx hb d_TS_spoil_24 (by decide) ?_
  refine va_zast (D := (dC, dI)) hx hb hK hP hD hS 2 2 rfl rfl (gx_in44 h1 h2) d_TS_spoil_25 (fun H locs hP hD hS => ?_)
  have hP : va_P (dC, dI) gx_cl [(h0, .inr (8, [.ref (q 0), .ref (q 3), .ref (q 18), .ref (q 19), .ref (q 6), .ref (q 20), .ref (q 21), .ref (q 22), .ref (q 23), .ref (q 15), .ref (q 17), .int 0, .ref (q 24), .ref (q 25), .int 0])), ((q 0), .inr (1, [.ref (q 1), .ref (q 2), .int 0, .int (-1), .int 0, .int 0])), ((q 2), .inl ((ci 2), 44, .inl (upd (fun _ => 0) (Int32.toNatClampNeg p0) (vp_nar .boolean 1))))] H := hP
  have hD : va_D A [(h0, .inr (8, [.ref (q 0), .ref (q 3), .ref (q 18), .ref (q 19), .ref (q 6), .ref (q 20), .ref (q 21), .ref (q 22), .ref (q 23), .ref (q 15), .ref (q 17), .int 0, .ref (q 24), .ref (q 25), .int 0])), ((q 0), .inr (1, [.ref (q 1), .ref (q 2), .int 0, .int (-1), .int 0, .int 0])), ((q 2), .inl ((ci 2), 44, .inl (upd (fun _ => 0) (Int32.toNatClampNeg p0) (vp_nar .boolean 1))))] := hD
  refine lv_aload_n hx hb d_TS_spoil_26 rfl (lv_at hl 0 rfl) ?_
  refine va_get (D := (dC, dI)) (ci := 8) (v := .ref (q 0)) (C := RTS) (T := FTS) (N := 15) hx hb hB in_TS hown hK hP 0 rfl rfl 0 (by decide) (hB _ hw_307) (fun _ h9 => h9) rfl d_TS_spoil_27 ?_
  refine lv_iload_n hx hb d_TS_spoil_30 rfl (lv_at hl 1 rfl) ?_
  have hPc := hP.sub (ws' := [((q 0), .inr (1, [.ref (q 1), .ref (q 2), .int 0, .int (-1), .int 0, .int 0]))]) [1] rfl
  have hDc := hD.sub (ws' := [((q 0), .inr (1, [.ref (q 1), .ref (q 2), .int 0, .int (-1), .int 0, .int 0]))]) [1] (by decide) rfl
  have hKc := hK.sub (tys' := []) [] rfl
  have hFc := va_free (wc := [((q 0), .inr (1, [.ref (q 1), .ref (q 2), .int 0, .int (-1), .int 0, .int 0]))]) hD hS hA [1] rfl
  refine va_callv (va_runV (C := "TapeSealer$Cartridge") (As := [.int p0]) (rest := []) ⟨hx, hb, hml, hown, hts⟩ (m_Ca_noteChange l dC dI H.size (q 0) (q 1) (q 2) 0 (-1) 0 0 p0) (cwV 1 hts (gx_goodV hw_844 hw_638 hw_639 hw_67 k_Ca_noteChange) rfl rfl rfl (by decide +kernel) ⟨(Nat.le_of_ble_eq_true rfl), (Nat.le_of_ble_eq_true rfl)⟩) ⟨fun a U g mk q => by obtain ⟨q0, q1, qP, qK, qD⟩ := q; exact ⟨q0, q1, qP, va_K.moved (u := U) (U := U.calling g mk a) (Vm.Alike.refl U.vm) qK, qD⟩, va_recv hK hP rfl (q0 := 1) rfl, fun U hU hW => ⟨rfl, by rw [hU], by rw [hU]; exact hPc, va_K.moved hW.alike hKc, hDc.weaken (fun _ _ _ _ => trivial)⟩⟩ rfl rfl hl.1 rfl (lv_room (Nat.le_of_ble_eq_true rfl)) d_TS_spoil_31 ⟨(Nat.le_of_ble_eq_true rfl), (Nat.le_of_ble_eq_true rfl)⟩) hS (fun q _ h => hFc q h) hFc (fun u t H1 locs ht hvm hw hB1 hz1 hk1 hS => ?_)
  obtain ⟨hP, hD⟩ := va_join (wr := [(h0, .inr (8, [.ref (q 0), .ref (q 3), .ref (q 18), .ref (q 19), .ref (q 6), .ref (q 20), .ref (q 21), .ref (q 22), .ref (q 23), .ref (q 15), .ref (q 17), .int 0, .ref (q 24), .ref (q 25), .int 0])), ((q 2), .inl ((ci 2), 44, .inl (upd (fun _ => 0) (Int32.toNatClampNeg p0) (vp_nar .boolean 1))))]) (w1 := []) hP hD [1] [0, 2] rfl rfl (by decide) (by decide) hk1 hFc gx_P0 gx_D0
  generalize H1 = H at hP hS ⊢
  have hP : va_P (dC, dI) gx_cl [(h0, .inr (8, [.ref (q 0), .ref (q 3), .ref (q 18), .ref (q 19), .ref (q 6), .ref (q 20), .ref (q 21), .ref (q 22), .ref (q 23), .ref (q 15), .ref (q 17), .int 0, .ref (q 24), .ref (q 25), .int 0])), ((q 2), .inl ((ci 2), 44, .inl (upd (fun _ => 0) (Int32.toNatClampNeg p0) (vp_nar .boolean 1))))] H := hP
  have hD : va_D A [(h0, .inr (8, [.ref (q 0), .ref (q 3), .ref (q 18), .ref (q 19), .ref (q 6), .ref (q 20), .ref (q 21), .ref (q 22), .ref (q 23), .ref (q 15), .ref (q 17), .int 0, .ref (q 24), .ref (q 25), .int 0])), ((q 2), .inl ((ci 2), 44, .inl (upd (fun _ => 0) (Int32.toNatClampNeg p0) (vp_nar .boolean 1))))] := hD
  refine W.eq (g2 := F0 m 34 ls []) rfl ?_
  refine W.widen (k := 0) (n := 0) (Nat.le_of_ble_eq_true rfl) (Nat.le_of_ble_eq_true rfl) ?_
  exact W.vret hx hb hr (fun t ht hW => ⟨⟨(), rfl, trivial, trivial⟩, hS.F ht⟩) hS.2.2 d_TS_spoil_34
set_option maxHeartbeats 4000000 in
set_option maxRecDepth 100000 in
theorem m_TS_stopAfter (l : Launch) (dC : Nat → ClassId) (dI : Nat → Nat → Nat) (sz : Nat) (h0 : Nat) (q : Nat → Nat) (ci : Nat → ClassId) (p0 : Int32) (h : p0 ≤ 100) : Met l y_TS_stopAfter w_TS_stopAfter ({ frames := 2, cells := 0, slots := 0, locals := 60 }) (va_Pc [.ref h0, .int p0] (fun U => U.heap.size = sz ∧ va_P (dC, dI) gx_cl [(h0, .inr (8, [.ref (q 0), .ref (q 3), .ref (q 18), .ref (q 19), .ref (q 6), .ref (q 20), .ref (q 21), .ref (q 22), .ref (q 23), .ref (q 15), .ref (q 17), .int 0, .ref (q 24), .ref (q 25), .int 0])), ((q 0), .inr (1, [.ref (q 1), .ref (q 2), .int 0, .int (-1), .int 0, .int 0]))] U.heap ∧ va_K (dC, dI) gx_cl (kTS ci) U ∧ va_D (fun _ => True) [(h0, .inr (8, [.ref (q 0), .ref (q 3), .ref (q 18), .ref (q 19), .ref (q 6), .ref (q 20), .ref (q 21), .ref (q 22), .ref (q 23), .ref (q 15), .ref (q 17), .int 0, .ref (q 24), .ref (q 25), .int 0])), ((q 0), .inr (1, [.ref (q 1), .ref (q 2), .int 0, .int (-1), .int 0, .int 0]))])) (va_Qv (fun _ : Unit => True) (fun _ t => True) (va_A [(h0, .inr (8, [.ref (q 0), .ref (q 3), .ref (q 18), .ref (q 19), .ref (q 6), .ref (q 20), .ref (q 21), .ref (q 22), .ref (q 23), .ref (q 15), .ref (q 17), .int 0, .ref (q 24), .ref (q 25), .int 0])), ((q 0), .inr (1, [.ref (q 1), .ref (q 2), .int 0, .int (-1), .int 0, .int 0]))] sz)) 0 0 (va_A [(h0, .inr (8, [.ref (q 0), .ref (q 3), .ref (q 18), .ref (q 19), .ref (q 6), .ref (q 20), .ref (q 21), .ref (q 22), .ref (q 23), .ref (q 15), .ref (q 17), .int 0, .ref (q 24), .ref (q 25), .int 0])), ((q 0), .inr (1, [.ref (q 1), .ref (q 2), .int 0, .int (-1), .int 0, .int 0]))] sz) := by
  refine Met.ofW (cc := b_TS_stopAfter) (maxL := 2) (ret := none) (by decide) rfl ?_
  intro p e s m args below meth c s₁ B hml hv
  obtain ⟨rfl, hsz, hP, hK, hD0⟩ := hv
  have hx := B.exec
  have hb := B.bytes
  have hr := B.returns
  have hts := atoms_spec (ws := w_TS_stopAfter) B.pre
  have hB : ∀ w ∈ gx_B, w.before _ s = true := fun w h => hts w (List.mem_cons_of_mem _ h)
  have hown : s.vm.findClass "TapeSealer" = some m.cls := findClass_of_methodNamed B.named
  have hlocks := B.notSynchronized
  subst hsz
  have hD := hD0.self (sz := s.heap.size)
  generalize hAe : va_A [(h0, .inr (8, [.ref (q 0), .ref (q 3), .ref (q 18), .ref (q 19), .ref (q 6), .ref (q 20), .ref (q 21), .ref (q 22), .ref (q 23), .ref (q 15), .ref (q 17), .int 0, .ref (q 24), .ref (q 25), .int 0])), ((q 0), .inr (1, [.ref (q 1), .ref (q 2), .int 0, .int (-1), .int 0, .int 0]))] s.heap.size = A at hD ⊢
  have hA : ∀ q : Nat, s.heap.size ≤ q → A q := fun q h => by rw [← hAe]; exact Or.inr h
  have hS : va_S A s.heap s.heap [] := va_S.rf
  have hl := lv_entry ([.ref h0, .int p0]) (n := 2) (Nat.le_of_ble_eq_true rfl)
  rw [lg_entry_eq]
  generalize (lg_sl ([.ref h0, .int p0]) ++ List.replicate (2 - (lg_sl ([.ref h0, .int p0])).length) Slot.unset).toArray = ls at hl ⊢
  have hl : lv_has ls 2 [(0, .ref h0), (1, .int p0)] := hl
  refine lv_iload_n hx hb d_TS_stopAfter_0 rfl (lv_at hl 1 rfl) ?_
  refine lv_bipush (v := 100) hx hb d_TS_stopAfter_1 (by decide) ?_
  refine lv_icmp_le (tgt := 14) hx hb d_TS_stopAfter_3 (by decide) (fun _ => ?_) (fun h9 => absurd h h9)
  refine lv_aload_n hx hb d_TS_stopAfter_14 rfl (lv_at hl 0 rfl) ?_
  refine va_get (D := (dC, dI)) (ci := 8) (v := .ref (q 0)) (C := RTS) (T := FTS) (N := 15) hx hb hB in_TS hown hK hP 0 rfl rfl 0 (by decide) (hB _ hw_307) (fun _ h9 => h9) rfl d_TS_stopAfter_15 ?_
  refine lv_iload_n hx hb d_TS_stopAfter_18 rfl (lv_at hl 1 rfl) ?_
  refine lv_iconst (v := (-1)) hx hb d_TS_stopAfter_19 (by decide) ?_
  refine va_mmax hx hb (hml.trans hl.1.symm) hown (hB _ hw_716) (hB _ hw_717) (hB _ hw_82) (hB _ hw_mm) (Nat.le_of_ble_eq_true rfl) (Nat.le_of_ble_eq_true rfl) (Nat.le_of_ble_eq_true rfl) (Nat.le_of_ble_eq_true rfl) d_TS_stopAfter_20 ?_
  refine lv_topi (fun z1 z1_e => ?_)
  refine va_put (D := (dC, dI)) (ci := 1) (v := .int z1) (ty := .int) (C := RCa) (T := FCa) (N := 6) hx hb hB in_Ca tCa tCa_ok nCa hown hK hP hD hS 1 rfl rfl 3 (by decide) (hB _ hw_113) (fun _ h9 => h9) rfl (by decide +kernel) rfl rfl (Nat.le_of_ble_eq_true rfl) d_TS_stopAfter_23 (fun H locs hP hD hS => ?_)
  have hP : va_P (dC, dI) gx_cl [(h0, .inr (8, [.ref (q 0), .ref (q 3), .ref (q 18), .ref (q 19), .ref (q 6), .ref (q 20), .ref (q 21), .ref (q 22), .ref (q 23), .ref (q 15), .ref (q 17), .int 0, .ref (q 24), .ref (q 25), .int 0])), ((q 0), .inr (1, [.ref (q 1), .ref (q 2), .int 0, .int z1, .int 0, .int 0]))] H := hP
  have hD : va_D A [(h0, .inr (8, [.ref (q 0), .ref (q 3), .ref (q 18), .ref (q 19), .ref (q 6), .ref (q 20), .ref (q 21), .ref (q 22), .ref (q 23), .ref (q 15), .ref (q 17), .int 0, .ref (q 24), .ref (q 25), .int 0])), ((q 0), .inr (1, [.ref (q 1), .ref (q 2), .int 0, .int z1, .int 0, .int 0]))] := hD
  refine W.widen (k := 0) (n := 0) (Nat.le_of_ble_eq_true rfl) (Nat.le_of_ble_eq_true rfl) ?_
  exact W.vret hx hb hr (fun t ht hW => ⟨⟨(), rfl, trivial, trivial⟩, hS.F ht⟩) hS.2.2 d_TS_stopAfter_26
set_option maxHeartbeats 4000000 in
set_option maxRecDepth 100000 in
theorem m_TS_block (l : Launch) (dC : Nat → ClassId) (dI : Nat → Nat → Nat) (sz : Nat) (h0 : Nat) (q : Nat → Nat) (ci : Nat → ClassId) (p0 p1 : Int32) (h1 : ¬ p0 < 0) (h2 : ¬ 44 ≤ p0) (h3 : ¬ p1 < 0) (h4 : ¬ 64 ≤ p1) : Met l y_TS_block w_TS_block ({ frames := 1, cells := 0, slots := 0, locals := 21 }) (va_Pc [.ref h0, .int p0, .int p1] (fun U => U.heap.size = sz ∧ va_P (dC, dI) gx_cl [(h0, .inr (8, [.ref (q 0), .ref (q 3), .ref (q 18), .ref (q 19), .ref (q 6), .ref (q 20), .ref (q 21), .ref (q 22), .ref (q 23), .ref (q 15), .ref (q 17), .int 0, .ref (q 24), .ref (q 25), .int 0])), ((q 0), .inr (1, [.ref (q 1), .ref (q 2), .int 0, .int (-1), .int 0, .int 0])), ((q 1), .inl ((ci 0), 44, .inr (.inr (.inr (.inr (mx_g (q 1) 44)))))), ((q 2), .inl ((ci 2), 44, .inl (fun _ => 0))), ((q 1 + 1 + p0.toNatClampNeg), .inl ((ci 1), 64, .inl (fun _ => 0)))] U.heap ∧ va_K (dC, dI) gx_cl (kTS ci) U ∧ va_D (fun _ => True) [(h0, .inr (8, [.ref (q 0), .ref (q 3), .ref (q 18), .ref (q 19), .ref (q 6), .ref (q 20), .ref (q 21), .ref (q 22), .ref (q 23), .ref (q 15), .ref (q 17), .int 0, .ref (q 24), .ref (q 25), .int 0])), ((q 0), .inr (1, [.ref (q 1), .ref (q 2), .int 0, .int (-1), .int 0, .int 0])), ((q 1), .inl ((ci 0), 44, .inr (.inr (.inr (.inr (mx_g (q 1) 44)))))), ((q 2), .inl ((ci 2), 44, .inl (fun _ => 0))), ((q 1 + 1 + p0.toNatClampNeg), .inl ((ci 1), 64, .inl (fun _ => 0)))])) (va_Qi (fun (r : Int32) (_ : Unit) => r = 0) (fun _ t => True) (va_A [(h0, .inr (8, [.ref (q 0), .ref (q 3), .ref (q 18), .ref (q 19), .ref (q 6), .ref (q 20), .ref (q 21), .ref (q 22), .ref (q 23), .ref (q 15), .ref (q 17), .int 0, .ref (q 24), .ref (q 25), .int 0])), ((q 0), .inr (1, [.ref (q 1), .ref (q 2), .int 0, .int (-1), .int 0, .int 0])), ((q 1), .inl ((ci 0), 44, .inr (.inr (.inr (.inr (mx_g (q 1) 44)))))), ((q 2), .inl ((ci 2), 44, .inl (fun _ => 0))), ((q 1 + 1 + p0.toNatClampNeg), .inl ((ci 1), 64, .inl (fun _ => 0)))] sz)) 0 0 (va_A [(h0, .inr (8, [.ref (q 0), .ref (q 3), .ref (q 18), .ref (q 19), .ref (q 6), .ref (q 20), .ref (q 21), .ref (q 22), .ref (q 23), .ref (q 15), .ref (q 17), .int 0, .ref (q 24), .ref (q 25), .int 0])), ((q 0), .inr (1, [.ref (q 1), .ref (q 2), .int 0, .int (-1), .int 0, .int 0])), ((q 1), .inl ((ci 0), 44, .inr (.inr (.inr (.inr (mx_g (q 1) 44)))))), ((q 2), .inl ((ci 2), 44, .inl (fun _ => 0))), ((q 1 + 1 + p0.toNatClampNeg), .inl ((ci 1), 64, .inl (fun _ => 0)))] sz) := by
  refine Met.ofW (cc := b_TS_block) (maxL := 3) (ret := (some .int)) (by decide) rfl ?_
  intro p e s m args below meth c s₁ B hml hv
  obtain ⟨rfl, hsz, hP, hK, hD0⟩ := hv
  have hx := B.exec
  have hb := B.bytes
  have hr := B.returns
  have hts := atoms_spec (ws := w_TS_block) B.pre
  have hB : ∀ w ∈ gx_B, w.before _ s = true := fun w h => hts w (List.mem_cons_of_mem _ h)
  have hown : s.vm.findClass "TapeSealer" = some m.cls := findClass_of_methodNamed B.named
  have hlocks := B.notSynchronized
  subst hsz
  have hD := hD0.self (sz := s.heap.size)
  generalize hAe : va_A [(h0, .inr (8, [.ref (q 0), .ref (q 3), .ref (q 18), .ref (q 19), .ref (q 6), .ref (q 20), .ref (q 21), .ref (q 22), .ref (q 23), .ref (q 15), .ref (q 17), .int 0, .ref (q 24), .ref (q 25), .int 0])), ((q 0), .inr (1, [.ref (q 1), .ref (q 2), .int 0, .int (-1), .int 0, .int 0])), ((q 1), .inl ((ci 0), 44, .inr (.inr (.inr (.inr (mx_g (q 1) 44)))))), ((q 2), .inl ((ci 2), 44, .inl (fun _ => 0))), ((q 1 + 1 + p0.toNatClampNeg), .inl ((ci 1), 64, .inl (fun _ => 0)))] s.heap.size = A at hD ⊢
  have hA : ∀ q : Nat, s.heap.size ≤ q → A q := fun q h => by rw [← hAe]; exact Or.inr h
  have hS : va_S A s.heap s.heap [] := va_S.rf
  have hl := lv_entry ([.ref h0, .int p0, .int p1]) (n := 3) (Nat.le_of_ble_eq_true rfl)
  rw [lg_entry_eq]
  generalize (lg_sl ([.ref h0, .int p0, .int p1]) ++ List.replicate (3 - (lg_sl ([.ref h0, .int p0, .int p1])).length) Slot.unset).toArray = ls at hl ⊢
  have hl : lv_has ls 3 [(0, .ref h0), (1, .int p0), (2, .int p1)] := hl
  refine lv_iload_n hx hb d_TS_block_0 rfl (lv_at hl 1 rfl) ?_
  refine lv_iload_n hx hb d_TS_block_1 rfl (lv_at hl 2 rfl) ?_
  refine px_go (va_runS (As := [.int p0, .int p1]) (rest := []) ⟨hx, hb, hml, hown, hts⟩ (p_TS_isByte1 l p0 p1 h1 h2 h3 h4) (cwS 2 hts (gx_goodS hw_841 hw_842 hw_66 k_TS_isByte) rfl rfl rfl (by decide +kernel) ⟨(Nat.le_of_ble_eq_true rfl), (Nat.le_of_ble_eq_true rfl)⟩) ⟨fun a U g mk q => q, fun U hU hW => ⟨rfl, trivial⟩⟩ rfl rfl hl.1 rfl (lv_room (Nat.le_of_ble_eq_true rfl)) d_TS_block_2 ⟨(Nat.le_of_ble_eq_true rfl), (Nat.le_of_ble_eq_true rfl)⟩) ?_
  refine W.eq (g2 := F0 m 5 ls [.int 1]) rfl ?_
  refine lv_if_ne (tgt := 16) hx hb d_TS_block_5 (by decide) (fun _ => ?_) (fun h9 => absurd h9 (by decide))
  refine lv_aload_n hx hb d_TS_block_16 rfl (lv_at hl 0 rfl) ?_
  refine va_get (D := (dC, dI)) (ci := 8) (v := .ref (q 0)) (C := RTS) (T := FTS) (N := 15) hx hb hB in_TS hown hK hP 0 rfl rfl 0 (by decide) (hB _ hw_307) (fun _ h9 => h9) rfl d_TS_block_17 ?_
  refine va_get (D := (dC, dI)) (ci := 1) (v := .ref (q 2)) (C := RCa) (T := FCa) (N := 6) hx hb hB in_Ca hown hK hP 1 rfl rfl 1 (by decide) (hB _ hw_109) (fun _ h9 => h9) rfl d_TS_block_20 ?_
  refine lv_iload_n hx hb d_TS_block_23 rfl (lv_at hl 1 rfl) ?_
  refine va_zald (D := (dC, dI)) hx hb hK hP 3 2 rfl rfl (gx_in44 h1 h2) d_TS_block_24 ?_
  refine W.eq (g2 := F0 m 25 ls [.int 0]) rfl ?_
  refine lv_if_eq (tgt := 32) hx hb d_TS_block_25 (by decide) (fun _ => ?_) (fun h9 => absurd (by decide) h9)
  refine lv_aload_n hx hb d_TS_block_32 rfl (lv_at hl 0 rfl) ?_
  refine va_get (D := (dC, dI)) (ci := 8) (v := .ref (q 0)) (C := RTS) (T := FTS) (N := 15) hx hb hB in_TS hown hK hP 0 rfl rfl 0 (by decide) (hB _ hw_307) (fun _ h9 => h9) rfl d_TS_block_33 ?_
  refine va_get (D := (dC, dI)) (ci := 1) (v := .ref (q 1)) (C := RCa) (T := FCa) (N := 6) hx hb hB in_Ca hown hK hP 1 rfl rfl 0 (by decide) (hB _ hw_106) (fun _ h9 => h9) rfl d_TS_block_36 ?_
  refine lv_iload_n hx hb d_TS_block_39 rfl (lv_at hl 1 rfl) ?_
  refine mx_ald (D := (dC, dI)) hx hb hK hP 2 0 rfl rfl (jn := p0.toNatClampNeg) rfl (gx_in44 h1 h2) d_TS_block_40 ?_
  refine W.eq (g2 := F0 m 41 ls [.ref (q 1 + 1 + p0.toNatClampNeg)]) rfl ?_
  refine lv_iload_n hx hb d_TS_block_41 rfl (lv_at hl 2 rfl) ?_
  refine va_iald (D := (dC, dI)) hx hb hK hP 4 1 rfl rfl (gx_in64 h3 h4) d_TS_block_42 ?_
  refine W.eq (g2 := F0 m 43 ls [.int 0]) rfl ?_
  refine W.widen (k := 0) (n := 0) (Nat.le_of_ble_eq_true rfl) (Nat.le_of_ble_eq_true rfl) ?_
  exact W.iret (v := 0) hx hb hr (fun t ht hW => ⟨⟨0, (), rfl, rfl, trivial⟩, hS.F ht⟩) hS.2.2 d_TS_block_43
set_option maxHeartbeats 4000000 in
set_option maxRecDepth 100000 in
theorem m_TS_mount (l : Launch) (dC : Nat → ClassId) (dI : Nat → Nat → Nat) (sz : Nat) (h0 : Nat) (q : Nat → Nat) (ci : Nat → ClassId)  : Met l y_TS_mount w_TS_mount ({ frames := 1, cells := 0, slots := 0, locals := 22 }) (va_Pc [.ref h0] (fun U => U.heap.size = sz ∧ va_P (dC, dI) gx_cl (wTS h0 q ci) U.heap ∧ va_K (dC, dI) gx_cl (kTS ci) U ∧ va_D (fun _ => True) (wTS h0 q ci))) (va_Qi (fun (r : Int32) (_ : Unit) => r = 0) (fun _ t => True) (va_A (wTS h0 q ci) sz)) 0 0 (va_A (wTS h0 q ci) sz) := by
  refine Met.ofW (cc := b_TS_mount) (maxL := 1) (ret := (some .int)) (by decide) rfl ?_
  intro p e s m args below meth c s₁ B hml hv
  obtain ⟨rfl, hsz, hP, hK, hD0⟩ := hv
  have hx := B.exec
  have hb := B.bytes
  have hr := B.returns
  have hts := atoms_spec (ws := w_TS_mount) B.pre
  have hB : ∀ w ∈ gx_B, w.before _ s = true := fun w h => hts w (List.mem_cons_of_mem _ h)
  have hown : s.vm.findClass "TapeSealer" = some m.cls := findClass_of_methodNamed B.named
  have hlocks := B.notSynchronized
  subst hsz
  have hD := hD0.self (sz := s.heap.size)
  generalize hAe : va_A (wTS h0 q ci) s.heap.size = A at hD ⊢
  have hA : ∀ q : Nat, s.heap.size ≤ q → A q := fun q h => by rw [← hAe]; exact Or.inr h
  have hS : va_S A s.heap s.heap [] := va_S.rf
  have hl := lv_entry ([.ref h0]) (n := 1) (Nat.le_of_ble_eq_true rfl)
  rw [lg_entry_eq]
  generalize (lg_sl ([.ref h0]) ++ List.replicate (1 - (lg_sl ([.ref h0])).length) Slot.unset).toArray = ls at hl ⊢
  have hl : lv_has ls 1 [(0, .ref h0)] := hl
  refine lv_aload_n hx hb d_TS_mount_0 rfl (lv_at hl 0 rfl) ?_
  refine va_get (D := (dC, dI)) (ci := 8) (v := .ref (q 0)) (C := RTS) (T := FTS) (N := 15) hx hb hB in_TS hown hK hP 0 rfl rfl 0 (by decide) (hB _ hw_307) (fun _ h9 => h9) rfl d_TS_mount_1 ?_
  refine lv_iconst (v := 0) hx hb d_TS_mount_4 (by decide) ?_
  refine va_put (D := (dC, dI)) (ci := 1) (v := .int 0) (ty := .boolean) (C := RCa) (T := FCa) (N := 6) hx hb hB in_Ca tCa tCa_ok nCa hown hK hP hD hS 1 rfl rfl 4 (by decide) (hB _ hw_115) (fun _ h9 => h9) rfl (by decide +kernel) rfl rfl (Nat.le_of_ble_eq_true rfl) d_TS_mount_5 (fun H locs hP hD hS => ?_)
  have hP : va_P (dC, dI) gx_cl (wTS h0 q ci) H := hP
  have hD : va_D A (wTS h0 q ci) := hD
  refine lv_aload_n hx hb d_TS_mount_8 rfl (lv_at hl 0 rfl) ?_
  refine va_get (D := (dC, dI)) (ci := 8) (v := .ref (q 0)) (C := RTS) (T := FTS) (N := 15) hx hb hB in_TS hown hK hP 0 rfl rfl 0 (by decide) (hB _ hw_307) (fun _ h9 => h9) rfl d_TS_mount_9 ?_
  refine lv_iconst (v := (-1)) hx hb d_TS_mount_12 (by decide) ?_
  refine va_put (D := (dC, dI)) (ci := 1) (v := .int (-1)) (ty := .int) (C := RCa) (T := FCa) (N := 6) hx hb hB in_Ca tCa tCa_ok nCa hown hK hP hD hS 1 rfl rfl 3 (by decide) (hB _ hw_113) (fun _ h9 => h9) rfl (by decide +kernel) rfl rfl (Nat.le_of_ble_eq_true rfl) d_TS_mount_13 (fun H locs hP hD hS => ?_)
  have hP : va_P (dC, dI) gx_cl (wTS h0 q ci) H := hP
  have hD : va_D A (wTS h0 q ci) := hD
  refine lv_aload_n hx hb d_TS_mount_16 rfl (lv_at hl 0 rfl) ?_
  refine va_get (D := (dC, dI)) (ci := 8) (v := .ref (q 15)) (C := RTS) (T := FTS) (N := 15) hx hb hB in_TS hown hK hP 0 rfl rfl 9 (by decide) (hB _ hw_316) (fun _ h9 => h9) rfl d_TS_mount_17 ?_
  refine lv_iconst (v := (-1)) hx hb d_TS_mount_20 (by decide) ?_
  refine va_put (D := (dC, dI)) (ci := 2) (v := .int (-1)) (ty := .int) (C := RDr) (T := FDr) (N := 4) hx hb hB in_Dr tDr tDr_ok nDr hown hK hP hD hS 10 rfl rfl 1 (by decide) (hB _ hw_295) (fun _ h9 => h9) rfl (by decide +kernel) rfl rfl (Nat.le_of_ble_eq_true rfl) d_TS_mount_21 (fun H locs hP hD hS => ?_)
  have hP : va_P (dC, dI) gx_cl (wTS h0 q ci) H := hP
  have hD : va_D A (wTS h0 q ci) := hD
  refine lv_aload_n hx hb d_TS_mount_24 rfl (lv_at hl 0 rfl) ?_
  refine px_go (va_runV (C := "TapeSealer") (As := []) (rest := []) ⟨hx, hb, hml, hown, hts⟩ (p_TS_lookAtHeaders l dC dI h0 q ci) (cwV 0 hts (gx_goodV hw_361 hw_363 hw_0 hw_66 k_TS_lookAtHeaders) rfl rfl rfl (by decide +kernel) ⟨(Nat.le_of_ble_eq_true rfl), (Nat.le_of_ble_eq_true rfl)⟩) ⟨fun a U g mk q => by obtain ⟨q0, qP, qK⟩ := q; exact ⟨q0, qP, va_K.moved (u := U) (U := U.calling g mk a) (Vm.Alike.refl U.vm) qK⟩, va_recv hK hP rfl (q0 := 0) rfl, fun U hU hW => ⟨rfl, by rw [hU]; exact hP, va_K.moved hW.alike (hK)⟩⟩ rfl rfl hl.1 rfl (lv_room (Nat.le_of_ble_eq_true rfl)) d_TS_mount_25 ⟨(Nat.le_of_ble_eq_true rfl), (Nat.le_of_ble_eq_true rfl)⟩) ?_
  refine W.eq (g2 := F0 m 28 ls []) rfl ?_
  refine lv_aload_n hx hb d_TS_mount_28 rfl (lv_at hl 0 rfl) ?_
  refine px_go (va_runV (C := "TapeSealer") (As := []) (rest := []) ⟨hx, hb, hml, hown, hts⟩ (p_TS_countFiles l dC dI h0 q ci) (cwV 0 hts (gx_goodV hw_458 hw_460 hw_10 hw_66 k_TS_countFiles) rfl rfl rfl (by decide +kernel) ⟨(Nat.le_of_ble_eq_true rfl), (Nat.le_of_ble_eq_true rfl)⟩) ⟨fun a U g mk q => by obtain ⟨q0, qP, qK⟩ := q; exact ⟨q0, qP, va_K.moved (u := U) (U := U.calling g mk a) (Vm.Alike.refl U.vm) qK⟩, va_recv hK hP rfl (q0 := 0) rfl, fun U hU hW => ⟨rfl, by rw [hU]; exact hP, va_K.moved hW.alike (hK)⟩⟩ rfl rfl hl.1 rfl (lv_room (Nat.le_of_ble_eq_true rfl)) d_TS_mount_29 ⟨(Nat.le_of_ble_eq_true rfl), (Nat.le_of_ble_eq_true rfl)⟩) ?_
  refine W.eq (g2 := F0 m 32 ls [.int 0]) rfl ?_
  refine W.widen (k := 0) (n := 0) (Nat.le_of_ble_eq_true rfl) (Nat.le_of_ble_eq_true rfl) ?_
  exact W.iret (v := 0) hx hb hr (fun t ht hW => ⟨⟨0, (), rfl, rfl, trivial⟩, hS.F ht⟩) hS.2.2 d_TS_mount_32
