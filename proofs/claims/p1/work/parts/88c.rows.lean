theorem gx_st {g : Int32} (h : g < 0 ∨ 5 < g) : g.toInt < 0 ∨ 5 < g.toInt := by
  rw [Int32.lt_iff_toInt_lt, Int32.lt_iff_toInt_lt] at h
  have h1 : (5 : Int32).toInt = 5 := by decide
  have h0 : (0 : Int32).toInt = 0 := by decide
  omega
abbrev wd3 (x0 : Nat) (q : Nat → Nat) (ci : Nat → ClassId) (j : Nat) : va_W := [(x0, .inr (8, [.ref (q 0), .ref (q 3), .ref (q 18), .ref (q 19), .ref (q 6), .ref (q 20), .ref (q 21), .ref (q 22), .ref (q 23), .ref (q 15), .ref (q 17), .int 0, .ref (q 24), .ref (q 25), .int 0])), ((q 0), .inr (1, [.ref (q 1), .ref (q 2), .int 0, .int (-1), .int 0, .int 0])), ((q 1), .inl ((ci 0), 44, .inr (.inr (.inr (.inr (mx_g (q 1) 44)))))), ((q 1 + 1 + j), .inl ((ci 1), 64, .inl (fun _ => 0)))]
set_option maxHeartbeats 4000000 in
set_option maxRecDepth 100000 in
theorem wd3_in {x0 : Nat} {q : Nat → Nat} {ci : Nat → ClassId} {j : Nat} (hj : j < 44) : ∀ (i : Nat) (p : Nat × va_E), (wd3 x0 q ci j)[i]? = some p → (wTS x0 q ci)[if i < 3 then i else 12 + j]? = some p := by
  intro i p hi
  have hlt : i < 4 := (List.getElem?_eq_some_iff.mp hi).1
  rcases (show i = 0 ∨ i = 1 ∨ i = 2 ∨ i = 3 by omega) with rfl | rfl | rfl | rfl
  · exact hi
  · exact hi
  · exact hi
  · cases hi; exact wj_row (D := (fun _ => 0, fun _ _ => 0)) (cl := []) (A := fun _ => True) hj
theorem wd3_P {D : va_G} {cl : List vw_C} {H : Heap} {x0 : Nat} {q : Nat → Nat} {ci : Nat → ClassId} {j : Nat} (hj : j < 44) (h : va_P D cl (wTS x0 q ci) H) : va_P D cl (wd3 x0 q ci j) H := fun k x hk => h _ x (wd3_in hj k x hk)
theorem wd3_D {A : Nat → Prop} {x0 : Nat} {q : Nat → Nat} {ci : Nat → ClassId} {j : Nat} (hj : j < 44) (h : va_D A (wTS x0 q ci)) : va_D A (wd3 x0 q ci j) := by
  refine ⟨fun i k p r hi hk e => ?_, fun k x hk => h.2 _ x (wd3_in hj k x hk)⟩
  have h1 := h.1 _ _ p r (wd3_in hj i p hi) (wd3_in hj k r hk) e
  have h2 : i < 4 := (List.getElem?_eq_some_iff.mp hi).1
  have h3 : k < 4 := (List.getElem?_eq_some_iff.mp hk).1
  by_cases c1 : i < 3 <;> by_cases c2 : k < 3 <;> simp only [c1, c2, if_true, if_false] at h1 <;> omega
abbrev wd4 (x0 : Nat) (q : Nat → Nat) (ci : Nat → ClassId) (j : Nat) : va_W := [(x0, .inr (8, [.ref (q 0), .ref (q 3), .ref (q 18), .ref (q 19), .ref (q 6), .ref (q 20), .ref (q 21), .ref (q 22), .ref (q 23), .ref (q 15), .ref (q 17), .int 0, .ref (q 24), .ref (q 25), .int 0])), ((q 0), .inr (1, [.ref (q 1), .ref (q 2), .int 0, .int (-1), .int 0, .int 0])), ((q 1), .inl ((ci 0), 44, .inr (.inr (.inr (.inr (mx_g (q 1) 44)))))), ((q 2), .inl ((ci 2), 44, .inl (fun _ => 0))), ((q 1 + 1 + j), .inl ((ci 1), 64, .inl (fun _ => 0)))]
set_option maxHeartbeats 4000000 in
set_option maxRecDepth 100000 in
theorem wd4_in {x0 : Nat} {q : Nat → Nat} {ci : Nat → ClassId} {j : Nat} (hj : j < 44) : ∀ (i : Nat) (p : Nat × va_E), (wd4 x0 q ci j)[i]? = some p → (wTS x0 q ci)[if i < 4 then i else 12 + j]? = some p := by
  intro i p hi
  have hlt : i < 5 := (List.getElem?_eq_some_iff.mp hi).1
  rcases (show i = 0 ∨ i = 1 ∨ i = 2 ∨ i = 3 ∨ i = 4 by omega) with rfl | rfl | rfl | rfl | rfl
  · exact hi
  · exact hi
  · exact hi
  · exact hi
  · cases hi; exact wj_row (D := (fun _ => 0, fun _ _ => 0)) (cl := []) (A := fun _ => True) hj
theorem wd4_P {D : va_G} {cl : List vw_C} {H : Heap} {x0 : Nat} {q : Nat → Nat} {ci : Nat → ClassId} {j : Nat} (hj : j < 44) (h : va_P D cl (wTS x0 q ci) H) : va_P D cl (wd4 x0 q ci j) H := fun k x hk => h _ x (wd4_in hj k x hk)
theorem wd4_D {A : Nat → Prop} {x0 : Nat} {q : Nat → Nat} {ci : Nat → ClassId} {j : Nat} (hj : j < 44) (h : va_D A (wTS x0 q ci)) : va_D A (wd4 x0 q ci j) := by
  refine ⟨fun i k p r hi hk e => ?_, fun k x hk => h.2 _ x (wd4_in hj k x hk)⟩
  have h1 := h.1 _ _ p r (wd4_in hj i p hi) (wd4_in hj k r hk) e
  have h2 : i < 5 := (List.getElem?_eq_some_iff.mp hi).1
  have h3 : k < 5 := (List.getElem?_eq_some_iff.mp hk).1
  by_cases c1 : i < 4 <;> by_cases c2 : k < 4 <;> simp only [c1, c2, if_true, if_false] at h1 <;> omega
set_option maxHeartbeats 4000000 in
set_option maxRecDepth 100000 in
theorem lq_epoch {p : Program} {e : Env} {s : State} {m : MethodId} {below : List Frame} {meth : Method} {c : Code} (l : Launch) (hl0 : l.stackTraces = false) {b : Nat} {xs : Nat → Int32} (C0 : lw_At p s m meth c b 4 xs) (dC : Nat → ClassId) (dI : Nat → Nat → Nat) (aS aT : Nat) (cS cT : Cell) (hJ : jx aS aT cS cT s) {x0 m0 o0 : Nat} {q r : Nat → Nat} {ci cj : Nat → ClassId} {cO : ClassId} {ls : Array Slot} {H : Heap} {locs : List Loc} (hl : lv_has ls 7 [(4, .int 0), (3, .ref o0), (2, .ref m0), (1, .ref x0), (0, .ref b)]) (hP : va_P (dC, dI) gx_cl (wJ x0 m0 o0 q r ci cj cO) H) (hD : va_D (lA s) (wJ x0 m0 o0 q r ci cj cO)) (hK : va_K (dC, dI) gx_cl (kJ ci cj cO) s) (hS : va_S (lA s) s.heap H locs) : W p l e room_1 s m #[Value.ref b] below meth c H locs 129 14034 (lw_Z below #[Value.ref b] s) (F0 m 165 ls []) := by
  have C1 := C0
  obtain ⟨hx, hb, hr, hml, hown0, hts, hX, hbl, hlocks, -⟩ := C0
  have hown : s.vm.findClass "TapeSealerLaw" = some m.cls := hown0
  have hB := law_B hts
  have hbA : ¬ lA s b := Nat.not_le.mpr hbl
  have haS := (Array.getElem?_eq_some_iff.mp hJ.2.2.2.2.2.1).1
  have haT := (Array.getElem?_eq_some_iff.mp hJ.2.2.2.2.2.2).1
  have hA : ∀ q : Nat, s.heap.size ≤ q → lA s q := fun q h => h
  have hPx : va_P (dC, dI) gx_cl (wTS x0 q ci) H := wj_l (wj_l hP)
  have hPm : va_P (dC, dI) gx_cl (wMo m0 r cj) H := wj_r (wj_l hP)
  have hPo : va_P (dC, dI) gx_cl (wO o0 cO) H := wj_r hP
  have hDx : va_D (lA s) (wTS x0 q ci) := wj_Dl (wj_Dl hD)
  have hDm : va_D (lA s) (wMo m0 r cj) := wj_Dr (wj_Dl hD)
  have hDo : va_D (lA s) (wO o0 cO) := wj_Dr hD
  have hxm := wj_ne (a := wTS x0 q ci) (b := wMo m0 r cj) (wj_Dl hD)
  have hmo := wj_bc (a := wTS x0 q ci) (b := wMo m0 r cj) (c := wO o0 cO) hD
  have hKx := hK.sub (tys' := kTS ci) [0, 1, 2, 3, 4] rfl
  have hKm := hK.sub (tys' := kMo cj) [5, 6, 7, 8] rfl
  have hKo := hK.sub (tys' := [(cO, .long)]) [9] rfl
  have hK0 := hK.sub (tys' := []) [] rfl
  have hmo2 := hmo
  refine lv_aload_n hx hb d_Lw_law_165 rfl (lv_at hl 3 rfl) ?_
  refine lv_aload_n hx hb d_Lw_law_166 rfl (lv_at hl 1 rfl) ?_
  refine W.eq (g2 := F0 m 167 ls [.ref o0, .ref x0]) rfl ?_
  refine hx_go (hx_runS (n := 2) (hh := [(0, 8, 11, 13)]) (As := [.ref x0, .ref o0]) (rest := []) ⟨hx, hb, hml, hown, hB⟩ (x_epoch l hl0 dC dI aS aT cS cT x0 q ci o0) (gy_good k_Lw_epoch) rfl rfl rfl ⟨(Nat.le_of_ble_eq_true rfl), (Nat.le_of_ble_eq_true rfl)⟩ (hB _ hw_65) (hB _ hw_463) (hB _ hw_462) (by decide +kernel) ⟨fun a U g mk q => by obtain ⟨q0, qP, qK, qJ⟩ := q; exact ⟨q0, qP, va_K.moved (u := U) (U := U.calling g mk a) (Vm.Alike.refl U.vm) qK, qJ.call g mk a⟩, fun U hU hW => ⟨rfl, by rw [hU]; exact hPx, va_K.moved hW.alike hKx, hJ.move hW (by rw [hU]; exact hS.2.1 aS haS (Nat.not_le.mpr haS)) (by rw [hU]; exact hS.2.1 aT haT (Nat.not_le.mpr haT))⟩⟩ rfl rfl hl.1 rfl (lv_room (Nat.le_of_ble_eq_true rfl)) d_Lw_law_167 ⟨(Nat.le_of_ble_eq_true rfl), (Nat.le_of_ble_eq_true rfl)⟩) (fun H1 hz hk => ?_)
  have hPm := wj_all hPm hk
  have hPo := wj_all hPo hk
  have hS := mx_S hS hz (wj_old hk)
  generalize H1 = H at hPm hPo hS ⊢
  refine W.widen (k := 130) (n := 14040) (Nat.le_of_ble_eq_true rfl) (Nat.le_of_ble_eq_true rfl) ?_
  refine W.eq (g2 := F0 m 170 ls [.int 1]) rfl ?_
  refine lv_istore hx hb d_Lw_law_170 hl (by decide) rfl (fun ls hl => ?_)
  have hl : lv_has ls 7 [(5, .int 1), (4, .int 0), (3, .ref o0), (2, .ref m0), (1, .ref x0), (0, .ref b)] := hl
  refine lv_aload_n hx hb d_Lw_law_172 rfl (lv_at hl 3 rfl) ?_
  refine W.eq (g2 := F0 m 173 ls [.ref m0]) rfl ?_
  have hFm := va_free (wc := wMo m0 r cj) hDm hS hA [0, 1, 2, 3, 4] rfl
  refine va_calli (va_runV (C := "TapeSealerModel") (As := []) (rest := []) ⟨hx, hb, hml, hown, hB⟩ (m_Mo_epoch l dC dI H.size m0 r cj) (cwV 0 hB (gy_goodV hw_1034 hw_1035 hw_1036 hw_75 k_Mo_epoch) rfl rfl rfl (by decide +kernel) ⟨(Nat.le_of_ble_eq_true rfl), (Nat.le_of_ble_eq_true rfl)⟩) ⟨fun a U g mk q => by obtain ⟨q0, q1, qP, qK, qD⟩ := q; exact ⟨q0, q1, qP, va_K.moved (u := U) (U := U.calling g mk a) (Vm.Alike.refl U.vm) qK, qD⟩, va_recv hKm hPm rfl (q0 := 0) rfl, fun U hU hW => ⟨rfl, by rw [hU], by rw [hU]; exact hPm, va_K.moved hW.alike hKm, hDm.weaken (fun _ _ _ _ => trivial)⟩⟩ rfl rfl hl.1 rfl (lv_room (Nat.le_of_ble_eq_true rfl)) d_Lw_law_173 ⟨(Nat.le_of_ble_eq_true rfl), (Nat.le_of_ble_eq_true rfl)⟩) hS (fun q _ h => hFm q h) hFm (fun r9 u t H1 locs ht hvm hw hB1 hz1 hk1 hS => ?_)
  have hw : r9 = 0 := hw
  subst hw
  obtain ⟨fs, hPt, hDt⟩ := hB1
  rw [ht] at hPt
  have hPo := wj_keep (wc := wMo m0 r cj) hPo hmo2 hk1
  generalize H1 = H at hPt hPo hS ⊢
  refine W.widen (k := 130) (n := 14040) (Nat.le_of_ble_eq_true rfl) (Nat.le_of_ble_eq_true rfl) ?_
  refine W.eq (g2 := F0 m 176 ls [.int 0]) rfl ?_
  refine lv_istore hx hb d_Lw_law_176 hl (by decide) rfl (fun ls hl => ?_)
  have hl : lv_has ls 7 [(6, .int 0), (5, .int 1), (4, .int 0), (3, .ref o0), (2, .ref m0), (1, .ref x0), (0, .ref b)] := hl
  refine lv_aload_n hx hb d_Lw_law_178 rfl (lv_at hl 4 rfl) ?_
  refine W.eq (g2 := F0 m 179 ls [.ref m0]) rfl ?_
  refine px_go (va_runV (C := "TapeSealerModel") (As := []) (rest := []) ⟨hx, hb, hml, hown, hB⟩ (p_Mo_thrown l dC dI m0 1 fs) (cwV 0 hB (gy_goodV hw_1026 hw_1027 hw_1028 hw_75 k_Mo_thrown) rfl rfl rfl (by decide +kernel) ⟨(Nat.le_of_ble_eq_true rfl), (Nat.le_of_ble_eq_true rfl)⟩) ⟨fun a U g mk q => by obtain ⟨q0, qP, qK⟩ := q; exact ⟨q0, qP, va_K.moved (u := U) (U := U.calling g mk a) (Vm.Alike.refl U.vm) qK⟩, va_recv hK0 hPt rfl (q0 := 0) rfl, fun U hU hW => ⟨rfl, by rw [hU]; exact hPt, va_K.moved hW.alike hK0⟩⟩ rfl rfl hl.1 rfl (lv_room (Nat.le_of_ble_eq_true rfl)) d_Lw_law_179 ⟨(Nat.le_of_ble_eq_true rfl), (Nat.le_of_ble_eq_true rfl)⟩) ?_
  refine W.eq (g2 := F0 m 182 ls [.int 1]) rfl ?_
  refine lv_iload hx hb d_Lw_law_182 (lv_at hl 1 rfl) ?_
  refine lv_icmp_eq (tgt := 189) hx hb d_Lw_law_184 (by decide) (fun _ => ?_) (fun h9 => absurd (by decide) h9)
  refine lv_iload hx hb d_Lw_law_189 (lv_at hl 1 rfl) ?_
  refine lv_if_ne (tgt := 206) hx hb d_Lw_law_191 (by decide) (fun _ => ?_) (fun h9 => absurd h9 (by decide))
  refine lv_goto (tgt := 1073) hx hb d_Lw_law_206 (by decide) ?_
  exact law_exit l C1 (Nat.le_of_ble_eq_true rfl) (Nat.le_of_ble_eq_true rfl) (lv_sub hl [2, 6] rfl) hS
set_option maxHeartbeats 4000000 in
set_option maxRecDepth 100000 in
theorem lq_create {p : Program} {e : Env} {s : State} {m : MethodId} {below : List Frame} {meth : Method} {c : Code} (l : Launch) (hl0 : l.stackTraces = false) {b : Nat} {xs : Nat → Int32} (C0 : lw_At p s m meth c b 4 xs) (dC : Nat → ClassId) (dI : Nat → Nat → Nat) (aS aT : Nat) (cS cT : Cell) (hJ : jx aS aT cS cT s) {x0 m0 o0 : Nat} {q r : Nat → Nat} {ci cj : Nat → ClassId} {cO : ClassId} {ls : Array Slot} {H : Heap} {locs : List Loc} (hl : lv_has ls 7 [(4, .int 0), (3, .ref o0), (2, .ref m0), (1, .ref x0), (0, .ref b)]) (hP : va_P (dC, dI) gx_cl (wJ x0 m0 o0 q r ci cj cO) H) (hD : va_D (lA s) (wJ x0 m0 o0 q r ci cj cO)) (hK : va_K (dC, dI) gx_cl (kJ ci cj cO) s) (hS : va_S (lA s) s.heap H locs) : W p l e room_1 s m #[Value.ref b] below meth c H locs 129 14034 (lw_Z below #[Value.ref b] s) (F0 m 209 ls []) := by
  have C1 := C0
  obtain ⟨hx, hb, hr, hml, hown0, hts, hX, hbl, hlocks, -⟩ := C0
  have hown : s.vm.findClass "TapeSealerLaw" = some m.cls := hown0
  have hB := law_B hts
  have hbA : ¬ lA s b := Nat.not_le.mpr hbl
  have haS := (Array.getElem?_eq_some_iff.mp hJ.2.2.2.2.2.1).1
  have haT := (Array.getElem?_eq_some_iff.mp hJ.2.2.2.2.2.2).1
  have hA : ∀ q : Nat, s.heap.size ≤ q → lA s q := fun q h => h
  have hPx : va_P (dC, dI) gx_cl (wTS x0 q ci) H := wj_l (wj_l hP)
  have hPm : va_P (dC, dI) gx_cl (wMo m0 r cj) H := wj_r (wj_l hP)
  have hPo : va_P (dC, dI) gx_cl (wO o0 cO) H := wj_r hP
  have hDx : va_D (lA s) (wTS x0 q ci) := wj_Dl (wj_Dl hD)
  have hDm : va_D (lA s) (wMo m0 r cj) := wj_Dr (wj_Dl hD)
  have hDo : va_D (lA s) (wO o0 cO) := wj_Dr hD
  have hxm := wj_ne (a := wTS x0 q ci) (b := wMo m0 r cj) (wj_Dl hD)
  have hmo := wj_bc (a := wTS x0 q ci) (b := wMo m0 r cj) (c := wO o0 cO) hD
  have hKx := hK.sub (tys' := kTS ci) [0, 1, 2, 3, 4] rfl
  have hKm := hK.sub (tys' := kMo cj) [5, 6, 7, 8] rfl
  have hKo := hK.sub (tys' := [(cO, .long)]) [9] rfl
  have hK0 := hK.sub (tys' := []) [] rfl
  have hmo2 := hmo
  refine lv_aload_n hx hb d_Lw_law_209 rfl (lv_at hl 3 rfl) ?_
  refine lv_aload_n hx hb d_Lw_law_210 rfl (lv_at hl 4 rfl) ?_
  refine lv_iload hx hb d_Lw_law_211 (lv_at hl 0 rfl) ?_
  refine lv_iconst (v := 1) hx hb d_Lw_law_213 (by decide) ?_
  refine lv_iadd hx hb d_Lw_law_214 ?_
  refine lv_topi (fun z1 z1_e => ?_)
  obtain rfl : z1 = 1 := z1_e.trans (by decide)
  refine va_sld hx hb hX hbl hbA hS (by unfold vp_in; decide) d_Lw_law_215 ?_
  refine W.eq (g2 := F0 m 216 ls [.int (xs 1), .ref x0]) rfl ?_
  refine lv_aload_n hx hb d_Lw_law_216 rfl (lv_at hl 1 rfl) ?_
  refine W.eq (g2 := F0 m 217 ls [.ref o0, .int (xs 1), .ref x0]) rfl ?_
  refine hx_go (hx_runS (n := 3) (hh := [(0, 9, 12, 13)]) (As := [.ref x0, .int (xs 1), .ref o0]) (rest := []) ⟨hx, hb, hml, hown, hB⟩ (x_create l hl0 dC dI aS aT cS cT x0 q ci o0 (xs 1)) (gy_good k_Lw_create) rfl rfl rfl ⟨(Nat.le_of_ble_eq_true rfl), (Nat.le_of_ble_eq_true rfl)⟩ (hB _ hw_65) (hB _ hw_541) (hB _ hw_540) (by decide +kernel) ⟨fun a U g mk q => by obtain ⟨q0, qP, qK, qJ⟩ := q; exact ⟨q0, qP, va_K.moved (u := U) (U := U.calling g mk a) (Vm.Alike.refl U.vm) qK, qJ.call g mk a⟩, fun U hU hW => ⟨rfl, by rw [hU]; exact hPx, va_K.moved hW.alike hKx, hJ.move hW (by rw [hU]; exact hS.2.1 aS haS (Nat.not_le.mpr haS)) (by rw [hU]; exact hS.2.1 aT haT (Nat.not_le.mpr haT))⟩⟩ rfl rfl hl.1 rfl (lv_room (Nat.le_of_ble_eq_true rfl)) d_Lw_law_217 ⟨(Nat.le_of_ble_eq_true rfl), (Nat.le_of_ble_eq_true rfl)⟩) (fun H1 hz hk => ?_)
  have hPm := wj_all hPm hk
  have hPo := wj_all hPo hk
  have hS := mx_S hS hz (wj_old hk)
  generalize H1 = H at hPm hPo hS ⊢
  refine W.widen (k := 130) (n := 14040) (Nat.le_of_ble_eq_true rfl) (Nat.le_of_ble_eq_true rfl) ?_
  refine W.eq (g2 := F0 m 220 ls [.int 1]) rfl ?_
  refine lv_istore hx hb d_Lw_law_220 hl (by decide) rfl (fun ls hl => ?_)
  have hl : lv_has ls 7 [(5, .int 1), (4, .int 0), (3, .ref o0), (2, .ref m0), (1, .ref x0), (0, .ref b)] := hl
  refine lv_aload_n hx hb d_Lw_law_222 rfl (lv_at hl 3 rfl) ?_
  refine lv_aload_n hx hb d_Lw_law_223 rfl (lv_at hl 5 rfl) ?_
  refine lv_iload hx hb d_Lw_law_224 (lv_at hl 1 rfl) ?_
  refine lv_iconst (v := 1) hx hb d_Lw_law_226 (by decide) ?_
  refine lv_iadd hx hb d_Lw_law_227 ?_
  refine lv_topi (fun z2 z2_e => ?_)
  obtain rfl : z2 = 1 := z2_e.trans (by decide)
  refine va_sld hx hb hX hbl hbA hS (by unfold vp_in; decide) d_Lw_law_228 ?_
  refine W.eq (g2 := F0 m 229 ls [.int (xs 1), .ref m0]) rfl ?_
  refine W.eq (g2 := F0 m 229 ls [.int (xs 1), .ref m0]) rfl ?_
  have hFm := va_free (wc := wMo m0 r cj) hDm hS hA [0, 1, 2, 3, 4] rfl
  refine va_calli (va_runV (C := "TapeSealerModel") (As := [.int (xs 1)]) (rest := []) ⟨hx, hb, hml, hown, hB⟩ (m_Mo_create l dC dI H.size m0 r cj (xs 1)) (cwV 1 hB (gy_goodV hw_1038 hw_1039 hw_1040 hw_75 k_Mo_create) rfl rfl rfl (by decide +kernel) ⟨(Nat.le_of_ble_eq_true rfl), (Nat.le_of_ble_eq_true rfl)⟩) ⟨fun a U g mk q => by obtain ⟨q0, q1, qP, qK, qD⟩ := q; exact ⟨q0, q1, qP, va_K.moved (u := U) (U := U.calling g mk a) (Vm.Alike.refl U.vm) qK, qD⟩, va_recv hKm hPm rfl (q0 := 0) rfl, fun U hU hW => ⟨rfl, by rw [hU], by rw [hU]; exact hPm, va_K.moved hW.alike hKm, hDm.weaken (fun _ _ _ _ => trivial)⟩⟩ rfl rfl hl.1 rfl (lv_room (Nat.le_of_ble_eq_true rfl)) d_Lw_law_229 ⟨(Nat.le_of_ble_eq_true rfl), (Nat.le_of_ble_eq_true rfl)⟩) hS (fun q _ h => hFm q h) hFm (fun r9 u t H1 locs ht hvm hw hB1 hz1 hk1 hS => ?_)
  have hw : r9 = 0 := hw
  subst hw
  obtain ⟨fs, hPt, hDt⟩ := hB1
  rw [ht] at hPt
  have hPo := wj_keep (wc := wMo m0 r cj) hPo hmo2 hk1
  generalize H1 = H at hPt hPo hS ⊢
  refine W.widen (k := 130) (n := 14040) (Nat.le_of_ble_eq_true rfl) (Nat.le_of_ble_eq_true rfl) ?_
  refine W.eq (g2 := F0 m 232 ls [.int 0]) rfl ?_
  refine lv_istore hx hb d_Lw_law_232 hl (by decide) rfl (fun ls hl => ?_)
  have hl : lv_has ls 7 [(6, .int 0), (5, .int 1), (4, .int 0), (3, .ref o0), (2, .ref m0), (1, .ref x0), (0, .ref b)] := hl
  refine lv_aload_n hx hb d_Lw_law_234 rfl (lv_at hl 4 rfl) ?_
  refine W.eq (g2 := F0 m 235 ls [.ref m0]) rfl ?_
  refine px_go (va_runV (C := "TapeSealerModel") (As := []) (rest := []) ⟨hx, hb, hml, hown, hB⟩ (p_Mo_thrown l dC dI m0 1 fs) (cwV 0 hB (gy_goodV hw_1026 hw_1027 hw_1028 hw_75 k_Mo_thrown) rfl rfl rfl (by decide +kernel) ⟨(Nat.le_of_ble_eq_true rfl), (Nat.le_of_ble_eq_true rfl)⟩) ⟨fun a U g mk q => by obtain ⟨q0, qP, qK⟩ := q; exact ⟨q0, qP, va_K.moved (u := U) (U := U.calling g mk a) (Vm.Alike.refl U.vm) qK⟩, va_recv hK0 hPt rfl (q0 := 0) rfl, fun U hU hW => ⟨rfl, by rw [hU]; exact hPt, va_K.moved hW.alike hK0⟩⟩ rfl rfl hl.1 rfl (lv_room (Nat.le_of_ble_eq_true rfl)) d_Lw_law_235 ⟨(Nat.le_of_ble_eq_true rfl), (Nat.le_of_ble_eq_true rfl)⟩) ?_
  refine W.eq (g2 := F0 m 238 ls [.int 1]) rfl ?_
  refine lv_iload hx hb d_Lw_law_238 (lv_at hl 1 rfl) ?_
  refine lv_icmp_eq (tgt := 245) hx hb d_Lw_law_240 (by decide) (fun _ => ?_) (fun h9 => absurd (by decide) h9)
  refine lv_iload hx hb d_Lw_law_245 (lv_at hl 1 rfl) ?_
  refine lv_if_ne (tgt := 262) hx hb d_Lw_law_247 (by decide) (fun _ => ?_) (fun h9 => absurd h9 (by decide))
  refine lv_goto (tgt := 1073) hx hb d_Lw_law_262 (by decide) ?_
  exact law_exit l C1 (Nat.le_of_ble_eq_true rfl) (Nat.le_of_ble_eq_true rfl) (lv_sub hl [2, 6] rfl) hS
set_option maxHeartbeats 4000000 in
set_option maxRecDepth 100000 in
theorem lq_append {p : Program} {e : Env} {s : State} {m : MethodId} {below : List Frame} {meth : Method} {c : Code} (l : Launch) (hl0 : l.stackTraces = false) {b : Nat} {xs : Nat → Int32} (C0 : lw_At p s m meth c b 4 xs) (dC : Nat → ClassId) (dI : Nat → Nat → Nat) (aS aT : Nat) (cS cT : Cell) (hJ : jx aS aT cS cT s) {x0 m0 o0 : Nat} {q r : Nat → Nat} {ci cj : Nat → ClassId} {cO : ClassId} {ls : Array Slot} {H : Heap} {locs : List Loc} (hl : lv_has ls 7 [(4, .int 0), (3, .ref o0), (2, .ref m0), (1, .ref x0), (0, .ref b)]) (hP : va_P (dC, dI) gx_cl (wJ x0 m0 o0 q r ci cj cO) H) (hD : va_D (lA s) (wJ x0 m0 o0 q r ci cj cO)) (hK : va_K (dC, dI) gx_cl (kJ ci cj cO) s) (hS : va_S (lA s) s.heap H locs) : W p l e room_1 s m #[Value.ref b] below meth c H locs 129 14034 (lw_Z below #[Value.ref b] s) (F0 m 265 ls []) := by
  have C1 := C0
  obtain ⟨hx, hb, hr, hml, hown0, hts, hX, hbl, hlocks, -⟩ := C0
  have hown : s.vm.findClass "TapeSealerLaw" = some m.cls := hown0
  have hB := law_B hts
  have hbA : ¬ lA s b := Nat.not_le.mpr hbl
  have haS := (Array.getElem?_eq_some_iff.mp hJ.2.2.2.2.2.1).1
  have haT := (Array.getElem?_eq_some_iff.mp hJ.2.2.2.2.2.2).1
  have hA : ∀ q : Nat, s.heap.size ≤ q → lA s q := fun q h => h
  have hPx : va_P (dC, dI) gx_cl (wTS x0 q ci) H := wj_l (wj_l hP)
  have hPm : va_P (dC, dI) gx_cl (wMo m0 r cj) H := wj_r (wj_l hP)
  have hPo : va_P (dC, dI) gx_cl (wO o0 cO) H := wj_r hP
  have hDx : va_D (lA s) (wTS x0 q ci) := wj_Dl (wj_Dl hD)
  have hDm : va_D (lA s) (wMo m0 r cj) := wj_Dr (wj_Dl hD)
  have hDo : va_D (lA s) (wO o0 cO) := wj_Dr hD
  have hxm := wj_ne (a := wTS x0 q ci) (b := wMo m0 r cj) (wj_Dl hD)
  have hmo := wj_bc (a := wTS x0 q ci) (b := wMo m0 r cj) (c := wO o0 cO) hD
  have hKx := hK.sub (tys' := kTS ci) [0, 1, 2, 3, 4] rfl
  have hKm := hK.sub (tys' := kMo cj) [5, 6, 7, 8] rfl
  have hKo := hK.sub (tys' := [(cO, .long)]) [9] rfl
  have hK0 := hK.sub (tys' := []) [] rfl
  have hmo2 := hmo
  refine lv_aload_n hx hb d_Lw_law_265 rfl (lv_at hl 3 rfl) ?_
  refine lv_aload_n hx hb d_Lw_law_266 rfl (lv_at hl 1 rfl) ?_
  refine W.eq (g2 := F0 m 267 ls [.ref o0, .ref x0]) rfl ?_
  refine hx_go (hx_runS (n := 2) (hh := [(0, 8, 11, 13)]) (As := [.ref x0, .ref o0]) (rest := []) ⟨hx, hb, hml, hown, hB⟩ (x_append l hl0 dC dI aS aT cS cT x0 q ci o0) (gy_good k_Lw_append) rfl rfl rfl ⟨(Nat.le_of_ble_eq_true rfl), (Nat.le_of_ble_eq_true rfl)⟩ (hB _ hw_65) (hB _ hw_552) (hB _ hw_551) (by decide +kernel) ⟨fun a U g mk q => by obtain ⟨q0, qP, qK, qJ⟩ := q; exact ⟨q0, qP, va_K.moved (u := U) (U := U.calling g mk a) (Vm.Alike.refl U.vm) qK, qJ.call g mk a⟩, fun U hU hW => ⟨rfl, by rw [hU]; exact hPx, va_K.moved hW.alike hKx, hJ.move hW (by rw [hU]; exact hS.2.1 aS haS (Nat.not_le.mpr haS)) (by rw [hU]; exact hS.2.1 aT haT (Nat.not_le.mpr haT))⟩⟩ rfl rfl hl.1 rfl (lv_room (Nat.le_of_ble_eq_true rfl)) d_Lw_law_267 ⟨(Nat.le_of_ble_eq_true rfl), (Nat.le_of_ble_eq_true rfl)⟩) (fun H1 hz hk => ?_)
  have hPm := wj_all hPm hk
  have hPo := wj_all hPo hk
  have hS := mx_S hS hz (wj_old hk)
  generalize H1 = H at hPm hPo hS ⊢
  refine W.widen (k := 130) (n := 14040) (Nat.le_of_ble_eq_true rfl) (Nat.le_of_ble_eq_true rfl) ?_
  refine W.eq (g2 := F0 m 270 ls [.int 1]) rfl ?_
  refine lv_istore hx hb d_Lw_law_270 hl (by decide) rfl (fun ls hl => ?_)
  have hl : lv_has ls 7 [(5, .int 1), (4, .int 0), (3, .ref o0), (2, .ref m0), (1, .ref x0), (0, .ref b)] := hl
  refine lv_aload_n hx hb d_Lw_law_272 rfl (lv_at hl 3 rfl) ?_
  refine W.eq (g2 := F0 m 273 ls [.ref m0]) rfl ?_
  have hFm := va_free (wc := wMo m0 r cj) hDm hS hA [0, 1, 2, 3, 4] rfl
  refine va_calli (va_runV (C := "TapeSealerModel") (As := []) (rest := []) ⟨hx, hb, hml, hown, hB⟩ (m_Mo_append l dC dI H.size m0 r cj) (cwV 0 hB (gy_goodV hw_1108 hw_1109 hw_1110 hw_75 k_Mo_append) rfl rfl rfl (by decide +kernel) ⟨(Nat.le_of_ble_eq_true rfl), (Nat.le_of_ble_eq_true rfl)⟩) ⟨fun a U g mk q => by obtain ⟨q0, q1, qP, qK, qD⟩ := q; exact ⟨q0, q1, qP, va_K.moved (u := U) (U := U.calling g mk a) (Vm.Alike.refl U.vm) qK, qD⟩, va_recv hKm hPm rfl (q0 := 0) rfl, fun U hU hW => ⟨rfl, by rw [hU], by rw [hU]; exact hPm, va_K.moved hW.alike hKm, hDm.weaken (fun _ _ _ _ => trivial)⟩⟩ rfl rfl hl.1 rfl (lv_room (Nat.le_of_ble_eq_true rfl)) d_Lw_law_273 ⟨(Nat.le_of_ble_eq_true rfl), (Nat.le_of_ble_eq_true rfl)⟩) hS (fun q _ h => hFm q h) hFm (fun r9 u t H1 locs ht hvm hw hB1 hz1 hk1 hS => ?_)
  have hw : r9 = 0 := hw
  subst hw
  obtain ⟨fs, hPt, hDt⟩ := hB1
  rw [ht] at hPt
  have hPo := wj_keep (wc := wMo m0 r cj) hPo hmo2 hk1
  generalize H1 = H at hPt hPo hS ⊢
  refine W.widen (k := 130) (n := 14040) (Nat.le_of_ble_eq_true rfl) (Nat.le_of_ble_eq_true rfl) ?_
  refine W.eq (g2 := F0 m 276 ls [.int 0]) rfl ?_
  refine lv_istore hx hb d_Lw_law_276 hl (by decide) rfl (fun ls hl => ?_)
  have hl : lv_has ls 7 [(6, .int 0), (5, .int 1), (4, .int 0), (3, .ref o0), (2, .ref m0), (1, .ref x0), (0, .ref b)] := hl
  refine lv_aload_n hx hb d_Lw_law_278 rfl (lv_at hl 4 rfl) ?_
  refine W.eq (g2 := F0 m 279 ls [.ref m0]) rfl ?_
  refine px_go (va_runV (C := "TapeSealerModel") (As := []) (rest := []) ⟨hx, hb, hml, hown, hB⟩ (p_Mo_thrown l dC dI m0 1 fs) (cwV 0 hB (gy_goodV hw_1026 hw_1027 hw_1028 hw_75 k_Mo_thrown) rfl rfl rfl (by decide +kernel) ⟨(Nat.le_of_ble_eq_true rfl), (Nat.le_of_ble_eq_true rfl)⟩) ⟨fun a U g mk q => by obtain ⟨q0, qP, qK⟩ := q; exact ⟨q0, qP, va_K.moved (u := U) (U := U.calling g mk a) (Vm.Alike.refl U.vm) qK⟩, va_recv hK0 hPt rfl (q0 := 0) rfl, fun U hU hW => ⟨rfl, by rw [hU]; exact hPt, va_K.moved hW.alike hK0⟩⟩ rfl rfl hl.1 rfl (lv_room (Nat.le_of_ble_eq_true rfl)) d_Lw_law_279 ⟨(Nat.le_of_ble_eq_true rfl), (Nat.le_of_ble_eq_true rfl)⟩) ?_
  refine W.eq (g2 := F0 m 282 ls [.int 1]) rfl ?_
  refine lv_iload hx hb d_Lw_law_282 (lv_at hl 1 rfl) ?_
  refine lv_icmp_eq (tgt := 289) hx hb d_Lw_law_284 (by decide) (fun _ => ?_) (fun h9 => absurd (by decide) h9)
  refine lv_iload hx hb d_Lw_law_289 (lv_at hl 1 rfl) ?_
  refine lv_if_ne (tgt := 306) hx hb d_Lw_law_291 (by decide) (fun _ => ?_) (fun h9 => absurd h9 (by decide))
  refine lv_goto (tgt := 1073) hx hb d_Lw_law_306 (by decide) ?_
  exact law_exit l C1 (Nat.le_of_ble_eq_true rfl) (Nat.le_of_ble_eq_true rfl) (lv_sub hl [2, 6] rfl) hS
set_option maxHeartbeats 4000000 in
set_option maxRecDepth 100000 in
theorem lq_finish {p : Program} {e : Env} {s : State} {m : MethodId} {below : List Frame} {meth : Method} {c : Code} (l : Launch) (hl0 : l.stackTraces = false) {b : Nat} {xs : Nat → Int32} (C0 : lw_At p s m meth c b 4 xs) (dC : Nat → ClassId) (dI : Nat → Nat → Nat) (aS aT : Nat) (cS cT : Cell) (hJ : jx aS aT cS cT s) {x0 m0 o0 : Nat} {q r : Nat → Nat} {ci cj : Nat → ClassId} {cO : ClassId} {ls : Array Slot} {H : Heap} {locs : List Loc} (hl : lv_has ls 7 [(4, .int 0), (3, .ref o0), (2, .ref m0), (1, .ref x0), (0, .ref b)]) (hP : va_P (dC, dI) gx_cl (wJ x0 m0 o0 q r ci cj cO) H) (hD : va_D (lA s) (wJ x0 m0 o0 q r ci cj cO)) (hK : va_K (dC, dI) gx_cl (kJ ci cj cO) s) (hS : va_S (lA s) s.heap H locs) : W p l e room_1 s m #[Value.ref b] below meth c H locs 129 14034 (lw_Z below #[Value.ref b] s) (F0 m 309 ls []) := by
  have C1 := C0
  obtain ⟨hx, hb, hr, hml, hown0, hts, hX, hbl, hlocks, -⟩ := C0
  have hown : s.vm.findClass "TapeSealerLaw" = some m.cls := hown0
  have hB := law_B hts
  have hbA : ¬ lA s b := Nat.not_le.mpr hbl
  have haS := (Array.getElem?_eq_some_iff.mp hJ.2.2.2.2.2.1).1
  have haT := (Array.getElem?_eq_some_iff.mp hJ.2.2.2.2.2.2).1
  have hA : ∀ q : Nat, s.heap.size ≤ q → lA s q := fun q h => h
  have hPx : va_P (dC, dI) gx_cl (wTS x0 q ci) H := wj_l (wj_l hP)
  have hPm : va_P (dC, dI) gx_cl (wMo m0 r cj) H := wj_r (wj_l hP)
  have hPo : va_P (dC, dI) gx_cl (wO o0 cO) H := wj_r hP
  have hDx : va_D (lA s) (wTS x0 q ci) := wj_Dl (wj_Dl hD)
  have hDm : va_D (lA s) (wMo m0 r cj) := wj_Dr (wj_Dl hD)
  have hDo : va_D (lA s) (wO o0 cO) := wj_Dr hD
  have hxm := wj_ne (a := wTS x0 q ci) (b := wMo m0 r cj) (wj_Dl hD)
  have hmo := wj_bc (a := wTS x0 q ci) (b := wMo m0 r cj) (c := wO o0 cO) hD
  have hKx := hK.sub (tys' := kTS ci) [0, 1, 2, 3, 4] rfl
  have hKm := hK.sub (tys' := kMo cj) [5, 6, 7, 8] rfl
  have hKo := hK.sub (tys' := [(cO, .long)]) [9] rfl
  have hK0 := hK.sub (tys' := []) [] rfl
  have hmo2 := hmo
  refine lv_aload_n hx hb d_Lw_law_309 rfl (lv_at hl 3 rfl) ?_
  refine lv_aload_n hx hb d_Lw_law_310 rfl (lv_at hl 1 rfl) ?_
  refine W.eq (g2 := F0 m 311 ls [.ref o0, .ref x0]) rfl ?_
  refine hx_go (hx_runS (n := 2) (hh := [(0, 8, 11, 13)]) (As := [.ref x0, .ref o0]) (rest := []) ⟨hx, hb, hml, hown, hB⟩ (x_finish l hl0 dC dI aS aT cS cT x0 q ci o0) (gy_good k_Lw_finish) rfl rfl rfl ⟨(Nat.le_of_ble_eq_true rfl), (Nat.le_of_ble_eq_true rfl)⟩ (hB _ hw_65) (hB _ hw_575) (hB _ hw_574) (by decide +kernel) ⟨fun a U g mk q => by obtain ⟨q0, qP, qK, qJ⟩ := q; exact ⟨q0, qP, va_K.moved (u := U) (U := U.calling g mk a) (Vm.Alike.refl U.vm) qK, qJ.call g mk a⟩, fun U hU hW => ⟨rfl, by rw [hU]; exact hPx, va_K.moved hW.alike hKx, hJ.move hW (by rw [hU]; exact hS.2.1 aS haS (Nat.not_le.mpr haS)) (by rw [hU]; exact hS.2.1 aT haT (Nat.not_le.mpr haT))⟩⟩ rfl rfl hl.1 rfl (lv_room (Nat.le_of_ble_eq_true rfl)) d_Lw_law_311 ⟨(Nat.le_of_ble_eq_true rfl), (Nat.le_of_ble_eq_true rfl)⟩) (fun H1 hz hk => ?_)
  have hPm := wj_all hPm hk
  have hPo := wj_all hPo hk
  have hS := mx_S hS hz (wj_old hk)
  generalize H1 = H at hPm hPo hS ⊢
  refine W.widen (k := 130) (n := 14040) (Nat.le_of_ble_eq_true rfl) (Nat.le_of_ble_eq_true rfl) ?_
  refine W.eq (g2 := F0 m 314 ls [.int 1]) rfl ?_
  refine lv_istore hx hb d_Lw_law_314 hl (by decide) rfl (fun ls hl => ?_)
  have hl : lv_has ls 7 [(5, .int 1), (4, .int 0), (3, .ref o0), (2, .ref m0), (1, .ref x0), (0, .ref b)] := hl
  refine lv_aload_n hx hb d_Lw_law_316 rfl (lv_at hl 3 rfl) ?_
  refine W.eq (g2 := F0 m 317 ls [.ref m0]) rfl ?_
  have hFm := va_free (wc := wMo m0 r cj) hDm hS hA [0, 1, 2, 3, 4] rfl
  refine va_calli (va_runV (C := "TapeSealerModel") (As := []) (rest := []) ⟨hx, hb, hml, hown, hB⟩ (m_Mo_finish l dC dI H.size m0 r cj) (cwV 0 hB (gy_goodV hw_1123 hw_1124 hw_1125 hw_75 k_Mo_finish) rfl rfl rfl (by decide +kernel) ⟨(Nat.le_of_ble_eq_true rfl), (Nat.le_of_ble_eq_true rfl)⟩) ⟨fun a U g mk q => by obtain ⟨q0, q1, qP, qK, qD⟩ := q; exact ⟨q0, q1, qP, va_K.moved (u := U) (U := U.calling g mk a) (Vm.Alike.refl U.vm) qK, qD⟩, va_recv hKm hPm rfl (q0 := 0) rfl, fun U hU hW => ⟨rfl, by rw [hU], by rw [hU]; exact hPm, va_K.moved hW.alike hKm, hDm.weaken (fun _ _ _ _ => trivial)⟩⟩ rfl rfl hl.1 rfl (lv_room (Nat.le_of_ble_eq_true rfl)) d_Lw_law_317 ⟨(Nat.le_of_ble_eq_true rfl), (Nat.le_of_ble_eq_true rfl)⟩) hS (fun q _ h => hFm q h) hFm (fun r9 u t H1 locs ht hvm hw hB1 hz1 hk1 hS => ?_)
  have hw : r9 = 0 := hw
  subst hw
  obtain ⟨fs, hPt, hDt⟩ := hB1
  rw [ht] at hPt
  have hPo := wj_keep (wc := wMo m0 r cj) hPo hmo2 hk1
  generalize H1 = H at hPt hPo hS ⊢
  refine W.widen (k := 130) (n := 14040) (Nat.le_of_ble_eq_true rfl) (Nat.le_of_ble_eq_true rfl) ?_
  refine W.eq (g2 := F0 m 320 ls [.int 0]) rfl ?_
  refine lv_istore hx hb d_Lw_law_320 hl (by decide) rfl (fun ls hl => ?_)
  have hl : lv_has ls 7 [(6, .int 0), (5, .int 1), (4, .int 0), (3, .ref o0), (2, .ref m0), (1, .ref x0), (0, .ref b)] := hl
  refine lv_aload_n hx hb d_Lw_law_322 rfl (lv_at hl 4 rfl) ?_
  refine W.eq (g2 := F0 m 323 ls [.ref m0]) rfl ?_
  refine px_go (va_runV (C := "TapeSealerModel") (As := []) (rest := []) ⟨hx, hb, hml, hown, hB⟩ (p_Mo_thrown l dC dI m0 1 fs) (cwV 0 hB (gy_goodV hw_1026 hw_1027 hw_1028 hw_75 k_Mo_thrown) rfl rfl rfl (by decide +kernel) ⟨(Nat.le_of_ble_eq_true rfl), (Nat.le_of_ble_eq_true rfl)⟩) ⟨fun a U g mk q => by obtain ⟨q0, qP, qK⟩ := q; exact ⟨q0, qP, va_K.moved (u := U) (U := U.calling g mk a) (Vm.Alike.refl U.vm) qK⟩, va_recv hK0 hPt rfl (q0 := 0) rfl, fun U hU hW => ⟨rfl, by rw [hU]; exact hPt, va_K.moved hW.alike hK0⟩⟩ rfl rfl hl.1 rfl (lv_room (Nat.le_of_ble_eq_true rfl)) d_Lw_law_323 ⟨(Nat.le_of_ble_eq_true rfl), (Nat.le_of_ble_eq_true rfl)⟩) ?_
  refine W.eq (g2 := F0 m 326 ls [.int 1]) rfl ?_
  refine lv_iload hx hb d_Lw_law_326 (lv_at hl 1 rfl) ?_
  refine lv_icmp_eq (tgt := 333) hx hb d_Lw_law_328 (by decide) (fun _ => ?_) (fun h9 => absurd (by decide) h9)
  refine lv_iload hx hb d_Lw_law_333 (lv_at hl 1 rfl) ?_
  refine lv_if_ne (tgt := 350) hx hb d_Lw_law_335 (by decide) (fun _ => ?_) (fun h9 => absurd h9 (by decide))
  refine lv_goto (tgt := 1073) hx hb d_Lw_law_350 (by decide) ?_
  exact law_exit l C1 (Nat.le_of_ble_eq_true rfl) (Nat.le_of_ble_eq_true rfl) (lv_sub hl [2, 6] rfl) hS
set_option maxHeartbeats 4000000 in
set_option maxRecDepth 100000 in
theorem lq_read {p : Program} {e : Env} {s : State} {m : MethodId} {below : List Frame} {meth : Method} {c : Code} (l : Launch) (hl0 : l.stackTraces = false) {b : Nat} {xs : Nat → Int32} (C0 : lw_At p s m meth c b 4 xs) (dC : Nat → ClassId) (dI : Nat → Nat → Nat) (aS aT : Nat) (cS cT : Cell) (hJ : jx aS aT cS cT s) {x0 m0 o0 : Nat} {q r : Nat → Nat} {ci cj : Nat → ClassId} {cO : ClassId} {ls : Array Slot} {H : Heap} {locs : List Loc} (hl : lv_has ls 7 [(4, .int 0), (3, .ref o0), (2, .ref m0), (1, .ref x0), (0, .ref b)]) (hP : va_P (dC, dI) gx_cl (wJ x0 m0 o0 q r ci cj cO) H) (hD : va_D (lA s) (wJ x0 m0 o0 q r ci cj cO)) (hK : va_K (dC, dI) gx_cl (kJ ci cj cO) s) (hS : va_S (lA s) s.heap H locs) : W p l e room_1 s m #[Value.ref b] below meth c H locs 129 14034 (lw_Z below #[Value.ref b] s) (F0 m 353 ls []) := by
  have C1 := C0
  obtain ⟨hx, hb, hr, hml, hown0, hts, hX, hbl, hlocks, -⟩ := C0
  have hown : s.vm.findClass "TapeSealerLaw" = some m.cls := hown0
  have hB := law_B hts
  have hbA : ¬ lA s b := Nat.not_le.mpr hbl
  have haS := (Array.getElem?_eq_some_iff.mp hJ.2.2.2.2.2.1).1
  have haT := (Array.getElem?_eq_some_iff.mp hJ.2.2.2.2.2.2).1
  have hA : ∀ q : Nat, s.heap.size ≤ q → lA s q := fun q h => h
  have hPx : va_P (dC, dI) gx_cl (wTS x0 q ci) H := wj_l (wj_l hP)
  have hPm : va_P (dC, dI) gx_cl (wMo m0 r cj) H := wj_r (wj_l hP)
  have hPo : va_P (dC, dI) gx_cl (wO o0 cO) H := wj_r hP
  have hDx : va_D (lA s) (wTS x0 q ci) := wj_Dl (wj_Dl hD)
  have hDm : va_D (lA s) (wMo m0 r cj) := wj_Dr (wj_Dl hD)
  have hDo : va_D (lA s) (wO o0 cO) := wj_Dr hD
  have hxm := wj_ne (a := wTS x0 q ci) (b := wMo m0 r cj) (wj_Dl hD)
  have hmo := wj_bc (a := wTS x0 q ci) (b := wMo m0 r cj) (c := wO o0 cO) hD
  have hKx := hK.sub (tys' := kTS ci) [0, 1, 2, 3, 4] rfl
  have hKm := hK.sub (tys' := kMo cj) [5, 6, 7, 8] rfl
  have hKo := hK.sub (tys' := [(cO, .long)]) [9] rfl
  have hK0 := hK.sub (tys' := []) [] rfl
  have hmo2 := hmo
  refine lv_aload_n hx hb d_Lw_law_353 rfl (lv_at hl 3 rfl) ?_
  refine lv_aload_n hx hb d_Lw_law_354 rfl (lv_at hl 4 rfl) ?_
  refine lv_iload hx hb d_Lw_law_355 (lv_at hl 0 rfl) ?_
  refine lv_iconst (v := 1) hx hb d_Lw_law_357 (by decide) ?_
  refine lv_iadd hx hb d_Lw_law_358 ?_
  refine lv_topi (fun z1 z1_e => ?_)
  obtain rfl : z1 = 1 := z1_e.trans (by decide)
  refine va_sld hx hb hX hbl hbA hS (by unfold vp_in; decide) d_Lw_law_359 ?_
  refine W.eq (g2 := F0 m 360 ls [.int (xs 1), .ref x0]) rfl ?_
  refine lv_aload_n hx hb d_Lw_law_360 rfl (lv_at hl 4 rfl) ?_
  refine lv_iload hx hb d_Lw_law_361 (lv_at hl 0 rfl) ?_
  refine lv_iconst (v := 2) hx hb d_Lw_law_363 (by decide) ?_
  refine lv_iadd hx hb d_Lw_law_364 ?_
  refine lv_topi (fun z2 z2_e => ?_)
  obtain rfl : z2 = 2 := z2_e.trans (by decide)
  refine va_sld hx hb hX hbl hbA hS (by unfold vp_in; decide) d_Lw_law_365 ?_
  refine W.eq (g2 := F0 m 366 ls [.int (xs 2), .int (xs 1), .ref x0]) rfl ?_
  refine lv_aload_n hx hb d_Lw_law_366 rfl (lv_at hl 4 rfl) ?_
  refine lv_iload hx hb d_Lw_law_367 (lv_at hl 0 rfl) ?_
  refine lv_iconst (v := 3) hx hb d_Lw_law_369 (by decide) ?_
  refine lv_iadd hx hb d_Lw_law_370 ?_
  refine lv_topi (fun z3 z3_e => ?_)
  obtain rfl : z3 = 3 := z3_e.trans (by decide)
  refine va_sld hx hb hX hbl hbA hS (by unfold vp_in; decide) d_Lw_law_371 ?_
  refine W.eq (g2 := F0 m 372 ls [.int (xs 3), .int (xs 2), .int (xs 1), .ref x0]) rfl ?_
  refine lv_aload_n hx hb d_Lw_law_372 rfl (lv_at hl 1 rfl) ?_
  refine W.eq (g2 := F0 m 373 ls [.ref o0, .int (xs 3), .int (xs 2), .int (xs 1), .ref x0]) rfl ?_
  refine hx_go (hx_runS (n := 5) (hh := [(0, 12, 15, 29), (0, 12, 19, 31), (0, 12, 23, 13), (0, 12, 27, 33)]) (As := [.ref x0, .int (xs 1), .int (xs 2), .int (xs 3), .ref o0]) (rest := []) ⟨hx, hb, hml, hown, hB⟩ (x_read l hl0 dC dI aS aT cS cT x0 q ci o0 (xs 1) (xs 2) (xs 3)) (gy_good k_Lw_read) rfl rfl rfl ⟨(Nat.le_of_ble_eq_true rfl), (Nat.le_of_ble_eq_true rfl)⟩ (hB _ hw_65) (hB _ hw_655) (hB _ hw_654) (by decide +kernel) ⟨fun a U g mk q => by obtain ⟨q0, qP, qK, qJ⟩ := q; exact ⟨q0, qP, va_K.moved (u := U) (U := U.calling g mk a) (Vm.Alike.refl U.vm) qK, qJ.call g mk a⟩, fun U hU hW => ⟨rfl, by rw [hU]; exact hPx, va_K.moved hW.alike hKx, hJ.move hW (by rw [hU]; exact hS.2.1 aS haS (Nat.not_le.mpr haS)) (by rw [hU]; exact hS.2.1 aT haT (Nat.not_le.mpr haT))⟩⟩ rfl rfl hl.1 rfl (lv_room (Nat.le_of_ble_eq_true rfl)) d_Lw_law_373 ⟨(Nat.le_of_ble_eq_true rfl), (Nat.le_of_ble_eq_true rfl)⟩) (fun H1 hz hk => ?_)
  have hPm := wj_all hPm hk
  have hPo := wj_all hPo hk
  have hS := mx_S hS hz (wj_old hk)
  generalize H1 = H at hPm hPo hS ⊢
  refine W.widen (k := 130) (n := 14040) (Nat.le_of_ble_eq_true rfl) (Nat.le_of_ble_eq_true rfl) ?_
  refine W.eq (g2 := F0 m 376 ls [.int 1]) rfl ?_
  refine lv_istore hx hb d_Lw_law_376 hl (by decide) rfl (fun ls hl => ?_)
  have hl : lv_has ls 7 [(5, .int 1), (4, .int 0), (3, .ref o0), (2, .ref m0), (1, .ref x0), (0, .ref b)] := hl
  refine lv_aload_n hx hb d_Lw_law_378 rfl (lv_at hl 3 rfl) ?_
  refine lv_aload_n hx hb d_Lw_law_379 rfl (lv_at hl 5 rfl) ?_
  refine lv_iload hx hb d_Lw_law_380 (lv_at hl 1 rfl) ?_
  refine lv_iconst (v := 1) hx hb d_Lw_law_382 (by decide) ?_
  refine lv_iadd hx hb d_Lw_law_383 ?_
  refine lv_topi (fun z4 z4_e => ?_)
  obtain rfl : z4 = 1 := z4_e.trans (by decide)
  refine va_sld hx hb hX hbl hbA hS (by unfold vp_in; decide) d_Lw_law_384 ?_
  refine W.eq (g2 := F0 m 385 ls [.int (xs 1), .ref m0]) rfl ?_
  refine lv_aload_n hx hb d_Lw_law_385 rfl (lv_at hl 5 rfl) ?_
  refine lv_iload hx hb d_Lw_law_386 (lv_at hl 1 rfl) ?_
  refine lv_iconst (v := 2) hx hb d_Lw_law_388 (by decide) ?_
  refine lv_iadd hx hb d_Lw_law_389 ?_
  refine lv_topi (fun z5 z5_e => ?_)
  obtain rfl : z5 = 2 := z5_e.trans (by decide)
  refine va_sld hx hb hX hbl hbA hS (by unfold vp_in; decide) d_Lw_law_390 ?_
  refine W.eq (g2 := F0 m 391 ls [.int (xs 2), .int (xs 1), .ref m0]) rfl ?_
  refine lv_aload_n hx hb d_Lw_law_391 rfl (lv_at hl 5 rfl) ?_
  refine lv_iload hx hb d_Lw_law_392 (lv_at hl 1 rfl) ?_
  refine lv_iconst (v := 3) hx hb d_Lw_law_394 (by decide) ?_
  refine lv_iadd hx hb d_Lw_law_395 ?_
  refine lv_topi (fun z6 z6_e => ?_)
  obtain rfl : z6 = 3 := z6_e.trans (by decide)
  refine va_sld hx hb hX hbl hbA hS (by unfold vp_in; decide) d_Lw_law_396 ?_
  refine W.eq (g2 := F0 m 397 ls [.int (xs 3), .int (xs 2), .int (xs 1), .ref m0]) rfl ?_
  refine W.eq (g2 := F0 m 397 ls [.int (xs 3), .int (xs 2), .int (xs 1), .ref m0]) rfl ?_
  have hFm := va_free (wc := wMo m0 r cj) hDm hS hA [0, 1, 2, 3, 4] rfl
  refine va_calli (va_runV (C := "TapeSealerModel") (As := [.int (xs 1), .int (xs 2), .int (xs 3)]) (rest := []) ⟨hx, hb, hml, hown, hB⟩ (m_Mo_read l dC dI H.size m0 r cj (xs 1) (xs 2) (xs 3)) (cwV 3 hB (gy_goodV hw_1179 hw_1180 hw_1181 hw_75 k_Mo_read) rfl rfl rfl (by decide +kernel) ⟨(Nat.le_of_ble_eq_true rfl), (Nat.le_of_ble_eq_true rfl)⟩) ⟨fun a U g mk q => by obtain ⟨q0, q1, qP, qK, qD⟩ := q; exact ⟨q0, q1, qP, va_K.moved (u := U) (U := U.calling g mk a) (Vm.Alike.refl U.vm) qK, qD⟩, va_recv hKm hPm rfl (q0 := 0) rfl, fun U hU hW => ⟨rfl, by rw [hU], by rw [hU]; exact hPm, va_K.moved hW.alike hKm, hDm.weaken (fun _ _ _ _ => trivial)⟩⟩ rfl rfl hl.1 rfl (lv_room (Nat.le_of_ble_eq_true rfl)) d_Lw_law_397 ⟨(Nat.le_of_ble_eq_true rfl), (Nat.le_of_ble_eq_true rfl)⟩) hS (fun q _ h => hFm q h) hFm (fun r9 u t H1 locs ht hvm hw hB1 hz1 hk1 hS => ?_)
  have hw : r9 = 0 := hw
  subst hw
  obtain ⟨fs, hPt, hDt⟩ := hB1
  rw [ht] at hPt
  have hPo := wj_keep (wc := wMo m0 r cj) hPo hmo2 hk1
  generalize H1 = H at hPt hPo hS ⊢
  refine W.widen (k := 130) (n := 14040) (Nat.le_of_ble_eq_true rfl) (Nat.le_of_ble_eq_true rfl) ?_
  refine W.eq (g2 := F0 m 400 ls [.int 0]) rfl ?_
  refine lv_istore hx hb d_Lw_law_400 hl (by decide) rfl (fun ls hl => ?_)
  have hl : lv_has ls 7 [(6, .int 0), (5, .int 1), (4, .int 0), (3, .ref o0), (2, .ref m0), (1, .ref x0), (0, .ref b)] := hl
  refine lv_aload_n hx hb d_Lw_law_402 rfl (lv_at hl 4 rfl) ?_
  refine W.eq (g2 := F0 m 403 ls [.ref m0]) rfl ?_
  refine px_go (va_runV (C := "TapeSealerModel") (As := []) (rest := []) ⟨hx, hb, hml, hown, hB⟩ (p_Mo_thrown l dC dI m0 1 fs) (cwV 0 hB (gy_goodV hw_1026 hw_1027 hw_1028 hw_75 k_Mo_thrown) rfl rfl rfl (by decide +kernel) ⟨(Nat.le_of_ble_eq_true rfl), (Nat.le_of_ble_eq_true rfl)⟩) ⟨fun a U g mk q => by obtain ⟨q0, qP, qK⟩ := q; exact ⟨q0, qP, va_K.moved (u := U) (U := U.calling g mk a) (Vm.Alike.refl U.vm) qK⟩, va_recv hK0 hPt rfl (q0 := 0) rfl, fun U hU hW => ⟨rfl, by rw [hU]; exact hPt, va_K.moved hW.alike hK0⟩⟩ rfl rfl hl.1 rfl (lv_room (Nat.le_of_ble_eq_true rfl)) d_Lw_law_403 ⟨(Nat.le_of_ble_eq_true rfl), (Nat.le_of_ble_eq_true rfl)⟩) ?_
  refine W.eq (g2 := F0 m 406 ls [.int 1]) rfl ?_
  refine lv_iload hx hb d_Lw_law_406 (lv_at hl 1 rfl) ?_
  refine lv_icmp_eq (tgt := 413) hx hb d_Lw_law_408 (by decide) (fun _ => ?_) (fun h9 => absurd (by decide) h9)
  refine lv_iload hx hb d_Lw_law_413 (lv_at hl 1 rfl) ?_
  refine lv_if_ne (tgt := 430) hx hb d_Lw_law_415 (by decide) (fun _ => ?_) (fun h9 => absurd h9 (by decide))
  refine lv_goto (tgt := 1073) hx hb d_Lw_law_430 (by decide) ?_
  exact law_exit l C1 (Nat.le_of_ble_eq_true rfl) (Nat.le_of_ble_eq_true rfl) (lv_sub hl [2, 6] rfl) hS
set_option maxHeartbeats 4000000 in
set_option maxRecDepth 100000 in
theorem lq_output {p : Program} {e : Env} {s : State} {m : MethodId} {below : List Frame} {meth : Method} {c : Code} (l : Launch) (hl0 : l.stackTraces = false) {b : Nat} {xs : Nat → Int32} (C0 : lw_At p s m meth c b 4 xs) (dC : Nat → ClassId) (dI : Nat → Nat → Nat) (aS aT : Nat) (cS cT : Cell) (hJ : jx aS aT cS cT s) {x0 m0 o0 : Nat} {q r : Nat → Nat} {ci cj : Nat → ClassId} {cO : ClassId} {ls : Array Slot} {H : Heap} {locs : List Loc} (hl : lv_has ls 7 [(4, .int 0), (3, .ref o0), (2, .ref m0), (1, .ref x0), (0, .ref b)]) (hP : va_P (dC, dI) gx_cl (wJ x0 m0 o0 q r ci cj cO) H) (hD : va_D (lA s) (wJ x0 m0 o0 q r ci cj cO)) (hK : va_K (dC, dI) gx_cl (kJ ci cj cO) s) (hS : va_S (lA s) s.heap H locs) : W p l e room_1 s m #[Value.ref b] below meth c H locs 129 14034 (lw_Z below #[Value.ref b] s) (F0 m 433 ls []) := by
  have C1 := C0
  obtain ⟨hx, hb, hr, hml, hown0, hts, hX, hbl, hlocks, -⟩ := C0
  have hown : s.vm.findClass "TapeSealerLaw" = some m.cls := hown0
  have hB := law_B hts
  have hbA : ¬ lA s b := Nat.not_le.mpr hbl
  have haS := (Array.getElem?_eq_some_iff.mp hJ.2.2.2.2.2.1).1
  have haT := (Array.getElem?_eq_some_iff.mp hJ.2.2.2.2.2.2).1
  have hA : ∀ q : Nat, s.heap.size ≤ q → lA s q := fun q h => h
  have hPx : va_P (dC, dI) gx_cl (wTS x0 q ci) H := wj_l (wj_l hP)
  have hPm : va_P (dC, dI) gx_cl (wMo m0 r cj) H := wj_r (wj_l hP)
  have hPo : va_P (dC, dI) gx_cl (wO o0 cO) H := wj_r hP
  have hDx : va_D (lA s) (wTS x0 q ci) := wj_Dl (wj_Dl hD)
  have hDm : va_D (lA s) (wMo m0 r cj) := wj_Dr (wj_Dl hD)
  have hDo : va_D (lA s) (wO o0 cO) := wj_Dr hD
  have hxm := wj_ne (a := wTS x0 q ci) (b := wMo m0 r cj) (wj_Dl hD)
  have hmo := wj_bc (a := wTS x0 q ci) (b := wMo m0 r cj) (c := wO o0 cO) hD
  have hKx := hK.sub (tys' := kTS ci) [0, 1, 2, 3, 4] rfl
  have hKm := hK.sub (tys' := kMo cj) [5, 6, 7, 8] rfl
  have hKo := hK.sub (tys' := [(cO, .long)]) [9] rfl
  have hK0 := hK.sub (tys' := []) [] rfl
  have hmo2 := hmo
  refine lv_aload_n hx hb d_Lw_law_433 rfl (lv_at hl 3 rfl) ?_
  refine lv_aload_n hx hb d_Lw_law_434 rfl (lv_at hl 4 rfl) ?_
  refine lv_iload hx hb d_Lw_law_435 (lv_at hl 0 rfl) ?_
  refine lv_iconst (v := 1) hx hb d_Lw_law_437 (by decide) ?_
  refine lv_iadd hx hb d_Lw_law_438 ?_
  refine lv_topi (fun z1 z1_e => ?_)
  obtain rfl : z1 = 1 := z1_e.trans (by decide)
  refine va_sld hx hb hX hbl hbA hS (by unfold vp_in; decide) d_Lw_law_439 ?_
  refine W.eq (g2 := F0 m 440 ls [.int (xs 1), .ref x0]) rfl ?_
  refine lv_aload_n hx hb d_Lw_law_440 rfl (lv_at hl 1 rfl) ?_
  refine W.eq (g2 := F0 m 441 ls [.ref o0, .int (xs 1), .ref x0]) rfl ?_
  refine hx_go (hx_runS (n := 3) (hh := [(0, 9, 12, 38)]) (As := [.ref x0, .int (xs 1), .ref o0]) (rest := []) ⟨hx, hb, hml, hown, hB⟩ (x_output l hl0 dC dI aS aT cS cT x0 q ci o0 (xs 1)) (gy_good k_Lw_output) rfl rfl rfl ⟨(Nat.le_of_ble_eq_true rfl), (Nat.le_of_ble_eq_true rfl)⟩ (hB _ hw_65) (hB _ hw_759) (hB _ hw_758) (by decide +kernel) ⟨fun a U g mk q => by obtain ⟨q0, qP, qK, qJ⟩ := q; exact ⟨q0, qP, va_K.moved (u := U) (U := U.calling g mk a) (Vm.Alike.refl U.vm) qK, qJ.call g mk a⟩, fun U hU hW => ⟨rfl, by rw [hU]; exact hPx, va_K.moved hW.alike hKx, hJ.move hW (by rw [hU]; exact hS.2.1 aS haS (Nat.not_le.mpr haS)) (by rw [hU]; exact hS.2.1 aT haT (Nat.not_le.mpr haT))⟩⟩ rfl rfl hl.1 rfl (lv_room (Nat.le_of_ble_eq_true rfl)) d_Lw_law_441 ⟨(Nat.le_of_ble_eq_true rfl), (Nat.le_of_ble_eq_true rfl)⟩) (fun H1 hz hk => ?_)
  have hPm := wj_all hPm hk
  have hPo := wj_all hPo hk
  have hS := mx_S hS hz (wj_old hk)
  generalize H1 = H at hPm hPo hS ⊢
  refine W.widen (k := 130) (n := 14040) (Nat.le_of_ble_eq_true rfl) (Nat.le_of_ble_eq_true rfl) ?_
  refine W.eq (g2 := F0 m 444 ls [.int 1]) rfl ?_
  refine lv_istore hx hb d_Lw_law_444 hl (by decide) rfl (fun ls hl => ?_)
  have hl : lv_has ls 7 [(5, .int 1), (4, .int 0), (3, .ref o0), (2, .ref m0), (1, .ref x0), (0, .ref b)] := hl
  refine lv_aload_n hx hb d_Lw_law_446 rfl (lv_at hl 3 rfl) ?_
  refine lv_aload_n hx hb d_Lw_law_447 rfl (lv_at hl 5 rfl) ?_
  refine lv_iload hx hb d_Lw_law_448 (lv_at hl 1 rfl) ?_
  refine lv_iconst (v := 1) hx hb d_Lw_law_450 (by decide) ?_
  refine lv_iadd hx hb d_Lw_law_451 ?_
  refine lv_topi (fun z2 z2_e => ?_)
  obtain rfl : z2 = 1 := z2_e.trans (by decide)
  refine va_sld hx hb hX hbl hbA hS (by unfold vp_in; decide) d_Lw_law_452 ?_
  refine W.eq (g2 := F0 m 453 ls [.int (xs 1), .ref m0]) rfl ?_
  refine W.eq (g2 := F0 m 453 ls [.int (xs 1), .ref m0]) rfl ?_
  have hFm := va_free (wc := wMo m0 r cj) hDm hS hA [0, 1, 2, 3, 4] rfl
  refine va_calli (va_runV (C := "TapeSealerModel") (As := [.int (xs 1)]) (rest := []) ⟨hx, hb, hml, hown, hB⟩ (m_Mo_output l dC dI H.size m0 r cj (xs 1)) (cwV 1 hB (gy_goodV hw_1207 hw_1208 hw_1209 hw_75 k_Mo_output) rfl rfl rfl (by decide +kernel) ⟨(Nat.le_of_ble_eq_true rfl), (Nat.le_of_ble_eq_true rfl)⟩) ⟨fun a U g mk q => by obtain ⟨q0, q1, qP, qK, qD⟩ := q; exact ⟨q0, q1, qP, va_K.moved (u := U) (U := U.calling g mk a) (Vm.Alike.refl U.vm) qK, qD⟩, va_recv hKm hPm rfl (q0 := 0) rfl, fun U hU hW => ⟨rfl, by rw [hU], by rw [hU]; exact hPm, va_K.moved hW.alike hKm, hDm.weaken (fun _ _ _ _ => trivial)⟩⟩ rfl rfl hl.1 rfl (lv_room (Nat.le_of_ble_eq_true rfl)) d_Lw_law_453 ⟨(Nat.le_of_ble_eq_true rfl), (Nat.le_of_ble_eq_true rfl)⟩) hS (fun q _ h => hFm q h) hFm (fun r9 u t H1 locs ht hvm hw hB1 hz1 hk1 hS => ?_)
  have hw : r9 = 0 := hw
  subst hw
  obtain ⟨fs, hPt, hDt⟩ := hB1
  rw [ht] at hPt
  have hPo := wj_keep (wc := wMo m0 r cj) hPo hmo2 hk1
  generalize H1 = H at hPt hPo hS ⊢
  refine W.widen (k := 130) (n := 14040) (Nat.le_of_ble_eq_true rfl) (Nat.le_of_ble_eq_true rfl) ?_
  refine W.eq (g2 := F0 m 456 ls [.int 0]) rfl ?_
  refine lv_istore hx hb d_Lw_law_456 hl (by decide) rfl (fun ls hl => ?_)
  have hl : lv_has ls 7 [(6, .int 0), (5, .int 1), (4, .int 0), (3, .ref o0), (2, .ref m0), (1, .ref x0), (0, .ref b)] := hl
  refine lv_aload_n hx hb d_Lw_law_458 rfl (lv_at hl 4 rfl) ?_
  refine W.eq (g2 := F0 m 459 ls [.ref m0]) rfl ?_
  refine px_go (va_runV (C := "TapeSealerModel") (As := []) (rest := []) ⟨hx, hb, hml, hown, hB⟩ (p_Mo_thrown l dC dI m0 1 fs) (cwV 0 hB (gy_goodV hw_1026 hw_1027 hw_1028 hw_75 k_Mo_thrown) rfl rfl rfl (by decide +kernel) ⟨(Nat.le_of_ble_eq_true rfl), (Nat.le_of_ble_eq_true rfl)⟩) ⟨fun a U g mk q => by obtain ⟨q0, qP, qK⟩ := q; exact ⟨q0, qP, va_K.moved (u := U) (U := U.calling g mk a) (Vm.Alike.refl U.vm) qK⟩, va_recv hK0 hPt rfl (q0 := 0) rfl, fun U hU hW => ⟨rfl, by rw [hU]; exact hPt, va_K.moved hW.alike hK0⟩⟩ rfl rfl hl.1 rfl (lv_room (Nat.le_of_ble_eq_true rfl)) d_Lw_law_459 ⟨(Nat.le_of_ble_eq_true rfl), (Nat.le_of_ble_eq_true rfl)⟩) ?_
  refine W.eq (g2 := F0 m 462 ls [.int 1]) rfl ?_
  refine lv_iload hx hb d_Lw_law_462 (lv_at hl 1 rfl) ?_
  refine lv_icmp_eq (tgt := 469) hx hb d_Lw_law_464 (by decide) (fun _ => ?_) (fun h9 => absurd (by decide) h9)
  refine lv_iload hx hb d_Lw_law_469 (lv_at hl 1 rfl) ?_
  refine lv_if_ne (tgt := 486) hx hb d_Lw_law_471 (by decide) (fun _ => ?_) (fun h9 => absurd h9 (by decide))
  refine lv_goto (tgt := 1073) hx hb d_Lw_law_486 (by decide) ?_
  exact law_exit l C1 (Nat.le_of_ble_eq_true rfl) (Nat.le_of_ble_eq_true rfl) (lv_sub hl [2, 6] rfl) hS
set_option maxHeartbeats 4000000 in
set_option maxRecDepth 100000 in
theorem lq_verify {p : Program} {e : Env} {s : State} {m : MethodId} {below : List Frame} {meth : Method} {c : Code} (l : Launch) (hl0 : l.stackTraces = false) {b : Nat} {xs : Nat → Int32} (C0 : lw_At p s m meth c b 4 xs) (dC : Nat → ClassId) (dI : Nat → Nat → Nat) (aS aT : Nat) (cS cT : Cell) (hJ : jx aS aT cS cT s) {x0 m0 o0 : Nat} {q r : Nat → Nat} {ci cj : Nat → ClassId} {cO : ClassId} {ls : Array Slot} {H : Heap} {locs : List Loc} (hl : lv_has ls 7 [(4, .int 0), (3, .ref o0), (2, .ref m0), (1, .ref x0), (0, .ref b)]) (hP : va_P (dC, dI) gx_cl (wJ x0 m0 o0 q r ci cj cO) H) (hD : va_D (lA s) (wJ x0 m0 o0 q r ci cj cO)) (hK : va_K (dC, dI) gx_cl (kJ ci cj cO) s) (hS : va_S (lA s) s.heap H locs) : W p l e room_1 s m #[Value.ref b] below meth c H locs 129 14034 (lw_Z below #[Value.ref b] s) (F0 m 489 ls []) := by
  have C1 := C0
  obtain ⟨hx, hb, hr, hml, hown0, hts, hX, hbl, hlocks, -⟩ := C0
  have hown : s.vm.findClass "TapeSealerLaw" = some m.cls := hown0
  have hB := law_B hts
  have hbA : ¬ lA s b := Nat.not_le.mpr hbl
  have haS := (Array.getElem?_eq_some_iff.mp hJ.2.2.2.2.2.1).1
  have haT := (Array.getElem?_eq_some_iff.mp hJ.2.2.2.2.2.2).1
  have hA : ∀ q : Nat, s.heap.size ≤ q → lA s q := fun q h => h
  have hPx : va_P (dC, dI) gx_cl (wTS x0 q ci) H := wj_l (wj_l hP)
  have hPm : va_P (dC, dI) gx_cl (wMo m0 r cj) H := wj_r (wj_l hP)
  have hPo : va_P (dC, dI) gx_cl (wO o0 cO) H := wj_r hP
  have hDx : va_D (lA s) (wTS x0 q ci) := wj_Dl (wj_Dl hD)
  have hDm : va_D (lA s) (wMo m0 r cj) := wj_Dr (wj_Dl hD)
  have hDo : va_D (lA s) (wO o0 cO) := wj_Dr hD
  have hxm := wj_ne (a := wTS x0 q ci) (b := wMo m0 r cj) (wj_Dl hD)
  have hmo := wj_bc (a := wTS x0 q ci) (b := wMo m0 r cj) (c := wO o0 cO) hD
  have hKx := hK.sub (tys' := kTS ci) [0, 1, 2, 3, 4] rfl
  have hKm := hK.sub (tys' := kMo cj) [5, 6, 7, 8] rfl
  have hKo := hK.sub (tys' := [(cO, .long)]) [9] rfl
  have hK0 := hK.sub (tys' := []) [] rfl
  have hmo2 := hmo
  refine lv_aload_n hx hb d_Lw_law_489 rfl (lv_at hl 3 rfl) ?_
  refine lv_aload_n hx hb d_Lw_law_490 rfl (lv_at hl 4 rfl) ?_
  refine lv_iload hx hb d_Lw_law_491 (lv_at hl 0 rfl) ?_
  refine lv_iconst (v := 1) hx hb d_Lw_law_493 (by decide) ?_
  refine lv_iadd hx hb d_Lw_law_494 ?_
  refine lv_topi (fun z1 z1_e => ?_)
  obtain rfl : z1 = 1 := z1_e.trans (by decide)
  refine va_sld hx hb hX hbl hbA hS (by unfold vp_in; decide) d_Lw_law_495 ?_
  refine W.eq (g2 := F0 m 496 ls [.int (xs 1), .ref x0]) rfl ?_
  refine lv_aload_n hx hb d_Lw_law_496 rfl (lv_at hl 1 rfl) ?_
  refine W.eq (g2 := F0 m 497 ls [.ref o0, .int (xs 1), .ref x0]) rfl ?_
  refine hx_go (hx_runS (n := 3) (hh := [(0, 9, 12, 29)]) (As := [.ref x0, .int (xs 1), .ref o0]) (rest := []) ⟨hx, hb, hml, hown, hB⟩ (x_verify l hl0 dC dI aS aT cS cT x0 q ci o0 (xs 1)) (gy_good k_Lw_verify) rfl rfl rfl ⟨(Nat.le_of_ble_eq_true rfl), (Nat.le_of_ble_eq_true rfl)⟩ (hB _ hw_65) (hB _ hw_782) (hB _ hw_781) (by decide +kernel) ⟨fun a U g mk q => by obtain ⟨q0, qP, qK, qJ⟩ := q; exact ⟨q0, qP, va_K.moved (u := U) (U := U.calling g mk a) (Vm.Alike.refl U.vm) qK, qJ.call g mk a⟩, fun U hU hW => ⟨rfl, by rw [hU]; exact hPx, va_K.moved hW.alike hKx, hJ.move hW (by rw [hU]; exact hS.2.1 aS haS (Nat.not_le.mpr haS)) (by rw [hU]; exact hS.2.1 aT haT (Nat.not_le.mpr haT))⟩⟩ rfl rfl hl.1 rfl (lv_room (Nat.le_of_ble_eq_true rfl)) d_Lw_law_497 ⟨(Nat.le_of_ble_eq_true rfl), (Nat.le_of_ble_eq_true rfl)⟩) (fun H1 hz hk => ?_)
  have hPm := wj_all hPm hk
  have hPo := wj_all hPo hk
  have hS := mx_S hS hz (wj_old hk)
  generalize H1 = H at hPm hPo hS ⊢
  refine W.widen (k := 130) (n := 14040) (Nat.le_of_ble_eq_true rfl) (Nat.le_of_ble_eq_true rfl) ?_
  refine W.eq (g2 := F0 m 500 ls [.int 1]) rfl ?_
  refine lv_istore hx hb d_Lw_law_500 hl (by decide) rfl (fun ls hl => ?_)
  have hl : lv_has ls 7 [(5, .int 1), (4, .int 0), (3, .ref o0), (2, .ref m0), (1, .ref x0), (0, .ref b)] := hl
  refine lv_aload_n hx hb d_Lw_law_502 rfl (lv_at hl 3 rfl) ?_
  refine lv_aload_n hx hb d_Lw_law_503 rfl (lv_at hl 5 rfl) ?_
  refine lv_iload hx hb d_Lw_law_504 (lv_at hl 1 rfl) ?_
  refine lv_iconst (v := 1) hx hb d_Lw_law_506 (by decide) ?_
  refine lv_iadd hx hb d_Lw_law_507 ?_
  refine lv_topi (fun z2 z2_e => ?_)
  obtain rfl : z2 = 1 := z2_e.trans (by decide)
  refine va_sld hx hb hX hbl hbA hS (by unfold vp_in; decide) d_Lw_law_508 ?_
  refine W.eq (g2 := F0 m 509 ls [.int (xs 1), .ref m0]) rfl ?_
  refine W.eq (g2 := F0 m 509 ls [.int (xs 1), .ref m0]) rfl ?_
  have hFm := va_free (wc := wMo m0 r cj) hDm hS hA [0, 1, 2, 3, 4] rfl
  refine va_calli (va_runV (C := "TapeSealerModel") (As := [.int (xs 1)]) (rest := []) ⟨hx, hb, hml, hown, hB⟩ (m_Mo_verify l dC dI H.size m0 r cj (xs 1)) (cwV 1 hB (gy_goodV hw_1211 hw_1212 hw_1213 hw_75 k_Mo_verify) rfl rfl rfl (by decide +kernel) ⟨(Nat.le_of_ble_eq_true rfl), (Nat.le_of_ble_eq_true rfl)⟩) ⟨fun a U g mk q => by obtain ⟨q0, q1, qP, qK, qD⟩ := q; exact ⟨q0, q1, qP, va_K.moved (u := U) (U := U.calling g mk a) (Vm.Alike.refl U.vm) qK, qD⟩, va_recv hKm hPm rfl (q0 := 0) rfl, fun U hU hW => ⟨rfl, by rw [hU], by rw [hU]; exact hPm, va_K.moved hW.alike hKm, hDm.weaken (fun _ _ _ _ => trivial)⟩⟩ rfl rfl hl.1 rfl (lv_room (Nat.le_of_ble_eq_true rfl)) d_Lw_law_509 ⟨(Nat.le_of_ble_eq_true rfl), (Nat.le_of_ble_eq_true rfl)⟩) hS (fun q _ h => hFm q h) hFm (fun r9 u t H1 locs ht hvm hw hB1 hz1 hk1 hS => ?_)
  have hw : r9 = 0 := hw
  subst hw
  obtain ⟨fs, hPt, hDt⟩ := hB1
  rw [ht] at hPt
  have hPo := wj_keep (wc := wMo m0 r cj) hPo hmo2 hk1
  generalize H1 = H at hPt hPo hS ⊢
  refine W.widen (k := 130) (n := 14040) (Nat.le_of_ble_eq_true rfl) (Nat.le_of_ble_eq_true rfl) ?_
  refine W.eq (g2 := F0 m 512 ls [.int 0]) rfl ?_
  refine lv_istore hx hb d_Lw_law_512 hl (by decide) rfl (fun ls hl => ?_)
  have hl : lv_has ls 7 [(6, .int 0), (5, .int 1), (4, .int 0), (3, .ref o0), (2, .ref m0), (1, .ref x0), (0, .ref b)] := hl
  refine lv_aload_n hx hb d_Lw_law_514 rfl (lv_at hl 4 rfl) ?_
  refine W.eq (g2 := F0 m 515 ls [.ref m0]) rfl ?_
  refine px_go (va_runV (C := "TapeSealerModel") (As := []) (rest := []) ⟨hx, hb, hml, hown, hB⟩ (p_Mo_thrown l dC dI m0 1 fs) (cwV 0 hB (gy_goodV hw_1026 hw_1027 hw_1028 hw_75 k_Mo_thrown) rfl rfl rfl (by decide +kernel) ⟨(Nat.le_of_ble_eq_true rfl), (Nat.le_of_ble_eq_true rfl)⟩) ⟨fun a U g mk q => by obtain ⟨q0, qP, qK⟩ := q; exact ⟨q0, qP, va_K.moved (u := U) (U := U.calling g mk a) (Vm.Alike.refl U.vm) qK⟩, va_recv hK0 hPt rfl (q0 := 0) rfl, fun U hU hW => ⟨rfl, by rw [hU]; exact hPt, va_K.moved hW.alike hK0⟩⟩ rfl rfl hl.1 rfl (lv_room (Nat.le_of_ble_eq_true rfl)) d_Lw_law_515 ⟨(Nat.le_of_ble_eq_true rfl), (Nat.le_of_ble_eq_true rfl)⟩) ?_
  refine W.eq (g2 := F0 m 518 ls [.int 1]) rfl ?_
  refine lv_iload hx hb d_Lw_law_518 (lv_at hl 1 rfl) ?_
  refine lv_icmp_eq (tgt := 525) hx hb d_Lw_law_520 (by decide) (fun _ => ?_) (fun h9 => absurd (by decide) h9)
  refine lv_iload hx hb d_Lw_law_525 (lv_at hl 1 rfl) ?_
  refine lv_if_ne (tgt := 542) hx hb d_Lw_law_527 (by decide) (fun _ => ?_) (fun h9 => absurd h9 (by decide))
  refine lv_goto (tgt := 1073) hx hb d_Lw_law_542 (by decide) ?_
  exact law_exit l C1 (Nat.le_of_ble_eq_true rfl) (Nat.le_of_ble_eq_true rfl) (lv_sub hl [2, 6] rfl) hS
set_option maxHeartbeats 4000000 in
set_option maxRecDepth 100000 in
theorem lq_rewrap {p : Program} {e : Env} {s : State} {m : MethodId} {below : List Frame} {meth : Method} {c : Code} (l : Launch) (hl0 : l.stackTraces = false) {b : Nat} {xs : Nat → Int32} (C0 : lw_At p s m meth c b 4 xs) (dC : Nat → ClassId) (dI : Nat → Nat → Nat) (aS aT : Nat) (cS cT : Cell) (hJ : jx aS aT cS cT s) {x0 m0 o0 : Nat} {q r : Nat → Nat} {ci cj : Nat → ClassId} {cO : ClassId} {ls : Array Slot} {H : Heap} {locs : List Loc} (hl : lv_has ls 7 [(4, .int 0), (3, .ref o0), (2, .ref m0), (1, .ref x0), (0, .ref b)]) (hP : va_P (dC, dI) gx_cl (wJ x0 m0 o0 q r ci cj cO) H) (hD : va_D (lA s) (wJ x0 m0 o0 q r ci cj cO)) (hK : va_K (dC, dI) gx_cl (kJ ci cj cO) s) (hS : va_S (lA s) s.heap H locs) : W p l e room_1 s m #[Value.ref b] below meth c H locs 129 14034 (lw_Z below #[Value.ref b] s) (F0 m 545 ls []) := by
  have C1 := C0
  obtain ⟨hx, hb, hr, hml, hown0, hts, hX, hbl, hlocks, -⟩ := C0
  have hown : s.vm.findClass "TapeSealerLaw" = some m.cls := hown0
  have hB := law_B hts
  have hbA : ¬ lA s b := Nat.not_le.mpr hbl
  have haS := (Array.getElem?_eq_some_iff.mp hJ.2.2.2.2.2.1).1
  have haT := (Array.getElem?_eq_some_iff.mp hJ.2.2.2.2.2.2).1
  have hA : ∀ q : Nat, s.heap.size ≤ q → lA s q := fun q h => h
  have hPx : va_P (dC, dI) gx_cl (wTS x0 q ci) H := wj_l (wj_l hP)
  have hPm : va_P (dC, dI) gx_cl (wMo m0 r cj) H := wj_r (wj_l hP)
  have hPo : va_P (dC, dI) gx_cl (wO o0 cO) H := wj_r hP
  have hDx : va_D (lA s) (wTS x0 q ci) := wj_Dl (wj_Dl hD)
  have hDm : va_D (lA s) (wMo m0 r cj) := wj_Dr (wj_Dl hD)
  have hDo : va_D (lA s) (wO o0 cO) := wj_Dr hD
  have hxm := wj_ne (a := wTS x0 q ci) (b := wMo m0 r cj) (wj_Dl hD)
  have hmo := wj_bc (a := wTS x0 q ci) (b := wMo m0 r cj) (c := wO o0 cO) hD
  have hKx := hK.sub (tys' := kTS ci) [0, 1, 2, 3, 4] rfl
  have hKm := hK.sub (tys' := kMo cj) [5, 6, 7, 8] rfl
  have hKo := hK.sub (tys' := [(cO, .long)]) [9] rfl
  have hK0 := hK.sub (tys' := []) [] rfl
  have hmo2 := hmo
  refine lv_aload_n hx hb d_Lw_law_545 rfl (lv_at hl 3 rfl) ?_
  refine lv_aload_n hx hb d_Lw_law_546 rfl (lv_at hl 4 rfl) ?_
  refine lv_iload hx hb d_Lw_law_547 (lv_at hl 0 rfl) ?_
  refine lv_iconst (v := 1) hx hb d_Lw_law_549 (by decide) ?_
  refine lv_iadd hx hb d_Lw_law_550 ?_
  refine lv_topi (fun z1 z1_e => ?_)
  obtain rfl : z1 = 1 := z1_e.trans (by decide)
  refine va_sld hx hb hX hbl hbA hS (by unfold vp_in; decide) d_Lw_law_551 ?_
  refine W.eq (g2 := F0 m 552 ls [.int (xs 1), .ref x0]) rfl ?_
  refine lv_aload_n hx hb d_Lw_law_552 rfl (lv_at hl 1 rfl) ?_
  refine W.eq (g2 := F0 m 553 ls [.ref o0, .int (xs 1), .ref x0]) rfl ?_
  refine hx_go (hx_runS (n := 3) (hh := [(0, 16, 19, 29), (0, 16, 22, 13)]) (As := [.ref x0, .int (xs 1), .ref o0]) (rest := []) ⟨hx, hb, hml, hown, hB⟩ (x_rewrap l hl0 dC dI aS aT cS cT x0 q ci o0 (xs 1)) (gy_good k_Lw_rewrap) rfl rfl rfl ⟨(Nat.le_of_ble_eq_true rfl), (Nat.le_of_ble_eq_true rfl)⟩ (hB _ hw_65) (hB _ hw_789) (hB _ hw_788) (by decide +kernel) ⟨fun a U g mk q => by obtain ⟨q0, qP, qK, qJ⟩ := q; exact ⟨q0, qP, va_K.moved (u := U) (U := U.calling g mk a) (Vm.Alike.refl U.vm) qK, qJ.call g mk a⟩, fun U hU hW => ⟨rfl, by rw [hU]; exact hPx, va_K.moved hW.alike hKx, hJ.move hW (by rw [hU]; exact hS.2.1 aS haS (Nat.not_le.mpr haS)) (by rw [hU]; exact hS.2.1 aT haT (Nat.not_le.mpr haT))⟩⟩ rfl rfl hl.1 rfl (lv_room (Nat.le_of_ble_eq_true rfl)) d_Lw_law_553 ⟨(Nat.le_of_ble_eq_true rfl), (Nat.le_of_ble_eq_true rfl)⟩) (fun H1 hz hk => ?_)
  have hPm := wj_all hPm hk
  have hPo := wj_all hPo hk
  have hS := mx_S hS hz (wj_old hk)
  generalize H1 = H at hPm hPo hS ⊢
  refine W.widen (k := 130) (n := 14040) (Nat.le_of_ble_eq_true rfl) (Nat.le_of_ble_eq_true rfl) ?_
  refine W.eq (g2 := F0 m 556 ls [.int 1]) rfl ?_
  refine lv_istore hx hb d_Lw_law_556 hl (by decide) rfl (fun ls hl => ?_)
  have hl : lv_has ls 7 [(5, .int 1), (4, .int 0), (3, .ref o0), (2, .ref m0), (1, .ref x0), (0, .ref b)] := hl
  refine lv_aload_n hx hb d_Lw_law_558 rfl (lv_at hl 3 rfl) ?_
  refine lv_aload_n hx hb d_Lw_law_559 rfl (lv_at hl 5 rfl) ?_
  refine lv_iload hx hb d_Lw_law_560 (lv_at hl 1 rfl) ?_
  refine lv_iconst (v := 1) hx hb d_Lw_law_562 (by decide) ?_
  refine lv_iadd hx hb d_Lw_law_563 ?_
  refine lv_topi (fun z2 z2_e => ?_)
  obtain rfl : z2 = 1 := z2_e.trans (by decide)
  refine va_sld hx hb hX hbl hbA hS (by unfold vp_in; decide) d_Lw_law_564 ?_
  refine W.eq (g2 := F0 m 565 ls [.int (xs 1), .ref m0]) rfl ?_
  refine W.eq (g2 := F0 m 565 ls [.int (xs 1), .ref m0]) rfl ?_
  have hFm := va_free (wc := wMo m0 r cj) hDm hS hA [0, 1, 2, 3, 4] rfl
  refine va_calli (va_runV (C := "TapeSealerModel") (As := [.int (xs 1)]) (rest := []) ⟨hx, hb, hml, hown, hB⟩ (m_Mo_rewrap l dC dI H.size m0 r cj (xs 1)) (cwV 1 hB (gy_goodV hw_1215 hw_1216 hw_1217 hw_75 k_Mo_rewrap) rfl rfl rfl (by decide +kernel) ⟨(Nat.le_of_ble_eq_true rfl), (Nat.le_of_ble_eq_true rfl)⟩) ⟨fun a U g mk q => by obtain ⟨q0, q1, qP, qK, qD⟩ := q; exact ⟨q0, q1, qP, va_K.moved (u := U) (U := U.calling g mk a) (Vm.Alike.refl U.vm) qK, qD⟩, va_recv hKm hPm rfl (q0 := 0) rfl, fun U hU hW => ⟨rfl, by rw [hU], by rw [hU]; exact hPm, va_K.moved hW.alike hKm, hDm.weaken (fun _ _ _ _ => trivial)⟩⟩ rfl rfl hl.1 rfl (lv_room (Nat.le_of_ble_eq_true rfl)) d_Lw_law_565 ⟨(Nat.le_of_ble_eq_true rfl), (Nat.le_of_ble_eq_true rfl)⟩) hS (fun q _ h => hFm q h) hFm (fun r9 u t H1 locs ht hvm hw hB1 hz1 hk1 hS => ?_)
  have hw : r9 = 0 := hw
  subst hw
  obtain ⟨fs, hPt, hDt⟩ := hB1
  rw [ht] at hPt
  have hPo := wj_keep (wc := wMo m0 r cj) hPo hmo2 hk1
  generalize H1 = H at hPt hPo hS ⊢
  refine W.widen (k := 130) (n := 14040) (Nat.le_of_ble_eq_true rfl) (Nat.le_of_ble_eq_true rfl) ?_
  refine W.eq (g2 := F0 m 568 ls [.int 0]) rfl ?_
  refine lv_istore hx hb d_Lw_law_568 hl (by decide) rfl (fun ls hl => ?_)
  have hl : lv_has ls 7 [(6, .int 0), (5, .int 1), (4, .int 0), (3, .ref o0), (2, .ref m0), (1, .ref x0), (0, .ref b)] := hl
  refine lv_aload_n hx hb d_Lw_law_570 rfl (lv_at hl 4 rfl) ?_
  refine W.eq (g2 := F0 m 571 ls [.ref m0]) rfl ?_
  refine px_go (va_runV (C := "TapeSealerModel") (As := []) (rest := []) ⟨hx, hb, hml, hown, hB⟩ (p_Mo_thrown l dC dI m0 1 fs) (cwV 0 hB (gy_goodV hw_1026 hw_1027 hw_1028 hw_75 k_Mo_thrown) rfl rfl rfl (by decide +kernel) ⟨(Nat.le_of_ble_eq_true rfl), (Nat.le_of_ble_eq_true rfl)⟩) ⟨fun a U g mk q => by obtain ⟨q0, qP, qK⟩ := q; exact ⟨q0, qP, va_K.moved (u := U) (U := U.calling g mk a) (Vm.Alike.refl U.vm) qK⟩, va_recv hK0 hPt rfl (q0 := 0) rfl, fun U hU hW => ⟨rfl, by rw [hU]; exact hPt, va_K.moved hW.alike hK0⟩⟩ rfl rfl hl.1 rfl (lv_room (Nat.le_of_ble_eq_true rfl)) d_Lw_law_571 ⟨(Nat.le_of_ble_eq_true rfl), (Nat.le_of_ble_eq_true rfl)⟩) ?_
  refine W.eq (g2 := F0 m 574 ls [.int 1]) rfl ?_
  refine lv_iload hx hb d_Lw_law_574 (lv_at hl 1 rfl) ?_
  refine lv_icmp_eq (tgt := 581) hx hb d_Lw_law_576 (by decide) (fun _ => ?_) (fun h9 => absurd (by decide) h9)
  refine lv_iload hx hb d_Lw_law_581 (lv_at hl 1 rfl) ?_
  refine lv_if_ne (tgt := 605) hx hb d_Lw_law_583 (by decide) (fun _ => ?_) (fun h9 => absurd h9 (by decide))
  refine lv_goto (tgt := 1073) hx hb d_Lw_law_605 (by decide) ?_
  exact law_exit l C1 (Nat.le_of_ble_eq_true rfl) (Nat.le_of_ble_eq_true rfl) (lv_sub hl [2, 6] rfl) hS
set_option maxHeartbeats 4000000 in
set_option maxRecDepth 100000 in
theorem lq_dropEpoch {p : Program} {e : Env} {s : State} {m : MethodId} {below : List Frame} {meth : Method} {c : Code} (l : Launch) (hl0 : l.stackTraces = false) {b : Nat} {xs : Nat → Int32} (C0 : lw_At p s m meth c b 4 xs) (dC : Nat → ClassId) (dI : Nat → Nat → Nat) (aS aT : Nat) (cS cT : Cell) (hJ : jx aS aT cS cT s) {x0 m0 o0 : Nat} {q r : Nat → Nat} {ci cj : Nat → ClassId} {cO : ClassId} {ls : Array Slot} {H : Heap} {locs : List Loc} (hl : lv_has ls 7 [(4, .int 0), (3, .ref o0), (2, .ref m0), (1, .ref x0), (0, .ref b)]) (hP : va_P (dC, dI) gx_cl (wJ x0 m0 o0 q r ci cj cO) H) (hD : va_D (lA s) (wJ x0 m0 o0 q r ci cj cO)) (hK : va_K (dC, dI) gx_cl (kJ ci cj cO) s) (hS : va_S (lA s) s.heap H locs) : W p l e room_1 s m #[Value.ref b] below meth c H locs 129 14034 (lw_Z below #[Value.ref b] s) (F0 m 608 ls []) := by
  have C1 := C0
  obtain ⟨hx, hb, hr, hml, hown0, hts, hX, hbl, hlocks, -⟩ := C0
  have hown : s.vm.findClass "TapeSealerLaw" = some m.cls := hown0
  have hB := law_B hts
  have hbA : ¬ lA s b := Nat.not_le.mpr hbl
  have haS := (Array.getElem?_eq_some_iff.mp hJ.2.2.2.2.2.1).1
  have haT := (Array.getElem?_eq_some_iff.mp hJ.2.2.2.2.2.2).1
  have hA : ∀ q : Nat, s.heap.size ≤ q → lA s q := fun q h => h
  have hPx : va_P (dC, dI) gx_cl (wTS x0 q ci) H := wj_l (wj_l hP)
  have hPm : va_P (dC, dI) gx_cl (wMo m0 r cj) H := wj_r (wj_l hP)
  have hPo : va_P (dC, dI) gx_cl (wO o0 cO) H := wj_r hP
  have hDx : va_D (lA s) (wTS x0 q ci) := wj_Dl (wj_Dl hD)
  have hDm : va_D (lA s) (wMo m0 r cj) := wj_Dr (wj_Dl hD)
  have hDo : va_D (lA s) (wO o0 cO) := wj_Dr hD
  have hxm := wj_ne (a := wTS x0 q ci) (b := wMo m0 r cj) (wj_Dl hD)
  have hmo := wj_bc (a := wTS x0 q ci) (b := wMo m0 r cj) (c := wO o0 cO) hD
  have hKx := hK.sub (tys' := kTS ci) [0, 1, 2, 3, 4] rfl
  have hKm := hK.sub (tys' := kMo cj) [5, 6, 7, 8] rfl
  have hKo := hK.sub (tys' := [(cO, .long)]) [9] rfl
  have hK0 := hK.sub (tys' := []) [] rfl
  have hmo2 := hmo
  refine lv_aload_n hx hb d_Lw_law_608 rfl (lv_at hl 3 rfl) ?_
  refine lv_aload_n hx hb d_Lw_law_609 rfl (lv_at hl 4 rfl) ?_
  refine lv_iload hx hb d_Lw_law_610 (lv_at hl 0 rfl) ?_
  refine lv_iconst (v := 1) hx hb d_Lw_law_612 (by decide) ?_
  refine lv_iadd hx hb d_Lw_law_613 ?_
  refine lv_topi (fun z1 z1_e => ?_)
  obtain rfl : z1 = 1 := z1_e.trans (by decide)
  refine va_sld hx hb hX hbl hbA hS (by unfold vp_in; decide) d_Lw_law_614 ?_
  refine W.eq (g2 := F0 m 615 ls [.int (xs 1), .ref x0]) rfl ?_
  refine W.eq (g2 := F0 m 615 ls [.int (xs 1), .ref x0]) rfl ?_
  refine hx_go (hx_runS (n := 2) (hh := [(0, 5, 8, 31), (0, 5, 11, 13)]) (As := [.ref x0, .int (xs 1)]) (rest := []) ⟨hx, hb, hml, hown, hB⟩ (x_dropEpoch l hl0 dC dI aS aT cS cT x0 q ci (xs 1)) (gy_good k_Lw_dropEpoch) rfl rfl rfl ⟨(Nat.le_of_ble_eq_true rfl), (Nat.le_of_ble_eq_true rfl)⟩ (hB _ hw_65) (hB _ hw_796) (hB _ hw_795) (by decide +kernel) ⟨fun a U g mk q => by obtain ⟨q0, qP, qK, qJ⟩ := q; exact ⟨q0, qP, va_K.moved (u := U) (U := U.calling g mk a) (Vm.Alike.refl U.vm) qK, qJ.call g mk a⟩, fun U hU hW => ⟨rfl, by rw [hU]; exact hPx, va_K.moved hW.alike hKx, hJ.move hW (by rw [hU]; exact hS.2.1 aS haS (Nat.not_le.mpr haS)) (by rw [hU]; exact hS.2.1 aT haT (Nat.not_le.mpr haT))⟩⟩ rfl rfl hl.1 rfl (lv_room (Nat.le_of_ble_eq_true rfl)) d_Lw_law_615 ⟨(Nat.le_of_ble_eq_true rfl), (Nat.le_of_ble_eq_true rfl)⟩) (fun H1 hz hk => ?_)
  have hPm := wj_all hPm hk
  have hPo := wj_all hPo hk
  have hS := mx_S hS hz (wj_old hk)
  generalize H1 = H at hPm hPo hS ⊢
  refine W.widen (k := 130) (n := 14040) (Nat.le_of_ble_eq_true rfl) (Nat.le_of_ble_eq_true rfl) ?_
  refine W.eq (g2 := F0 m 618 ls [.int 1]) rfl ?_
  refine lv_istore hx hb d_Lw_law_618 hl (by decide) rfl (fun ls hl => ?_)
  have hl : lv_has ls 7 [(5, .int 1), (4, .int 0), (3, .ref o0), (2, .ref m0), (1, .ref x0), (0, .ref b)] := hl
  refine lv_aload_n hx hb d_Lw_law_620 rfl (lv_at hl 3 rfl) ?_
  refine lv_aload_n hx hb d_Lw_law_621 rfl (lv_at hl 5 rfl) ?_
  refine lv_iload hx hb d_Lw_law_622 (lv_at hl 1 rfl) ?_
  refine lv_iconst (v := 1) hx hb d_Lw_law_624 (by decide) ?_
  refine lv_iadd hx hb d_Lw_law_625 ?_
  refine lv_topi (fun z2 z2_e => ?_)
  obtain rfl : z2 = 1 := z2_e.trans (by decide)
  refine va_sld hx hb hX hbl hbA hS (by unfold vp_in; decide) d_Lw_law_626 ?_
  refine W.eq (g2 := F0 m 627 ls [.int (xs 1), .ref m0]) rfl ?_
  refine W.eq (g2 := F0 m 627 ls [.int (xs 1), .ref m0]) rfl ?_
  have hFm := va_free (wc := wMo m0 r cj) hDm hS hA [0, 1, 2, 3, 4] rfl
  refine va_callv (va_runV (C := "TapeSealerModel") (As := [.int (xs 1)]) (rest := []) ⟨hx, hb, hml, hown, hB⟩ (m_Mo_dropEpoch l dC dI H.size m0 r cj (xs 1)) (cwV 1 hB (gy_goodV hw_1219 hw_1220 hw_1221 hw_75 k_Mo_dropEpoch) rfl rfl rfl (by decide +kernel) ⟨(Nat.le_of_ble_eq_true rfl), (Nat.le_of_ble_eq_true rfl)⟩) ⟨fun a U g mk q => by obtain ⟨q0, q1, qP, qK, qD⟩ := q; exact ⟨q0, q1, qP, va_K.moved (u := U) (U := U.calling g mk a) (Vm.Alike.refl U.vm) qK, qD⟩, va_recv hKm hPm rfl (q0 := 0) rfl, fun U hU hW => ⟨rfl, by rw [hU], by rw [hU]; exact hPm, va_K.moved hW.alike hKm, hDm.weaken (fun _ _ _ _ => trivial)⟩⟩ rfl rfl hl.1 rfl (lv_room (Nat.le_of_ble_eq_true rfl)) d_Lw_law_627 ⟨(Nat.le_of_ble_eq_true rfl), (Nat.le_of_ble_eq_true rfl)⟩) hS (fun q _ h => hFm q h) hFm (fun u t H1 locs ht hvm hw hB1 hz1 hk1 hS => ?_)
  obtain ⟨fs, hPt, hDt⟩ := hB1
  rw [ht] at hPt
  have hPo := wj_keep (wc := wMo m0 r cj) hPo hmo2 hk1
  generalize H1 = H at hPt hPo hS ⊢
  refine W.widen (k := 130) (n := 14040) (Nat.le_of_ble_eq_true rfl) (Nat.le_of_ble_eq_true rfl) ?_
  refine W.eq (g2 := F0 m 630 ls []) rfl ?_
  refine lv_aload_n hx hb d_Lw_law_630 rfl (lv_at hl 3 rfl) ?_
  refine W.eq (g2 := F0 m 631 ls [.ref m0]) rfl ?_
  refine px_go (va_runV (C := "TapeSealerModel") (As := []) (rest := []) ⟨hx, hb, hml, hown, hB⟩ (p_Mo_thrown l dC dI m0 1 fs) (cwV 0 hB (gy_goodV hw_1026 hw_1027 hw_1028 hw_75 k_Mo_thrown) rfl rfl rfl (by decide +kernel) ⟨(Nat.le_of_ble_eq_true rfl), (Nat.le_of_ble_eq_true rfl)⟩) ⟨fun a U g mk q => by obtain ⟨q0, qP, qK⟩ := q; exact ⟨q0, qP, va_K.moved (u := U) (U := U.calling g mk a) (Vm.Alike.refl U.vm) qK⟩, va_recv hK0 hPt rfl (q0 := 0) rfl, fun U hU hW => ⟨rfl, by rw [hU]; exact hPt, va_K.moved hW.alike hK0⟩⟩ rfl rfl hl.1 rfl (lv_room (Nat.le_of_ble_eq_true rfl)) d_Lw_law_631 ⟨(Nat.le_of_ble_eq_true rfl), (Nat.le_of_ble_eq_true rfl)⟩) ?_
  refine W.eq (g2 := F0 m 634 ls [.int 1]) rfl ?_
  refine lv_iload hx hb d_Lw_law_634 (lv_at hl 0 rfl) ?_
  refine lv_icmp_eq (tgt := 641) hx hb d_Lw_law_636 (by decide) (fun _ => ?_) (fun h9 => absurd (by decide) h9)
  refine lv_goto (tgt := 1073) hx hb d_Lw_law_641 (by decide) ?_
  exact law_exit l C1 (Nat.le_of_ble_eq_true rfl) (Nat.le_of_ble_eq_true rfl) (lv_sub hl [1, 5] rfl) hS
set_option maxHeartbeats 4000000 in
set_option maxRecDepth 100000 in
theorem lq_delete {p : Program} {e : Env} {s : State} {m : MethodId} {below : List Frame} {meth : Method} {c : Code} (l : Launch) (hl0 : l.stackTraces = false) {b : Nat} {xs : Nat → Int32} (C0 : lw_At p s m meth c b 4 xs) (dC : Nat → ClassId) (dI : Nat → Nat → Nat) (aS aT : Nat) (cS cT : Cell) (hJ : jx aS aT cS cT s) {x0 m0 o0 : Nat} {q r : Nat → Nat} {ci cj : Nat → ClassId} {cO : ClassId} {ls : Array Slot} {H : Heap} {locs : List Loc} (hl : lv_has ls 7 [(4, .int 0), (3, .ref o0), (2, .ref m0), (1, .ref x0), (0, .ref b)]) (hP : va_P (dC, dI) gx_cl (wJ x0 m0 o0 q r ci cj cO) H) (hD : va_D (lA s) (wJ x0 m0 o0 q r ci cj cO)) (hK : va_K (dC, dI) gx_cl (kJ ci cj cO) s) (hS : va_S (lA s) s.heap H locs) : W p l e room_1 s m #[Value.ref b] below meth c H locs 129 14034 (lw_Z below #[Value.ref b] s) (F0 m 644 ls []) := by
  have C1 := C0
  obtain ⟨hx, hb, hr, hml, hown0, hts, hX, hbl, hlocks, -⟩ := C0
  have hown : s.vm.findClass "TapeSealerLaw" = some m.cls := hown0
  have hB := law_B hts
  have hbA : ¬ lA s b := Nat.not_le.mpr hbl
  have haS := (Array.getElem?_eq_some_iff.mp hJ.2.2.2.2.2.1).1
  have haT := (Array.getElem?_eq_some_iff.mp hJ.2.2.2.2.2.2).1
  have hA : ∀ q : Nat, s.heap.size ≤ q → lA s q := fun q h => h
  have hPx : va_P (dC, dI) gx_cl (wTS x0 q ci) H := wj_l (wj_l hP)
  have hPm : va_P (dC, dI) gx_cl (wMo m0 r cj) H := wj_r (wj_l hP)
  have hPo : va_P (dC, dI) gx_cl (wO o0 cO) H := wj_r hP
  have hDx : va_D (lA s) (wTS x0 q ci) := wj_Dl (wj_Dl hD)
  have hDm : va_D (lA s) (wMo m0 r cj) := wj_Dr (wj_Dl hD)
  have hDo : va_D (lA s) (wO o0 cO) := wj_Dr hD
  have hxm := wj_ne (a := wTS x0 q ci) (b := wMo m0 r cj) (wj_Dl hD)
  have hmo := wj_bc (a := wTS x0 q ci) (b := wMo m0 r cj) (c := wO o0 cO) hD
  have hKx := hK.sub (tys' := kTS ci) [0, 1, 2, 3, 4] rfl
  have hKm := hK.sub (tys' := kMo cj) [5, 6, 7, 8] rfl
  have hKo := hK.sub (tys' := [(cO, .long)]) [9] rfl
  have hK0 := hK.sub (tys' := []) [] rfl
  have hmo2 := hmo
  refine lv_aload_n hx hb d_Lw_law_644 rfl (lv_at hl 3 rfl) ?_
  refine lv_aload_n hx hb d_Lw_law_645 rfl (lv_at hl 4 rfl) ?_
  refine lv_iload hx hb d_Lw_law_646 (lv_at hl 0 rfl) ?_
  refine lv_iconst (v := 1) hx hb d_Lw_law_648 (by decide) ?_
  refine lv_iadd hx hb d_Lw_law_649 ?_
  refine lv_topi (fun z1 z1_e => ?_)
  obtain rfl : z1 = 1 := z1_e.trans (by decide)
  refine va_sld hx hb hX hbl hbA hS (by unfold vp_in; decide) d_Lw_law_650 ?_
  refine W.eq (g2 := F0 m 651 ls [.int (xs 1), .ref x0]) rfl ?_
  refine W.eq (g2 := F0 m 651 ls [.int (xs 1), .ref x0]) rfl ?_
  refine hx_go (hx_runS (n := 2) (hh := [(0, 5, 8, 29), (0, 5, 11, 13)]) (As := [.ref x0, .int (xs 1)]) (rest := []) ⟨hx, hb, hml, hown, hB⟩ (x_delete l hl0 dC dI aS aT cS cT x0 q ci (xs 1)) (gy_good k_Lw_delete) rfl rfl rfl ⟨(Nat.le_of_ble_eq_true rfl), (Nat.le_of_ble_eq_true rfl)⟩ (hB _ hw_65) (hB _ hw_812) (hB _ hw_811) (by decide +kernel) ⟨fun a U g mk q => by obtain ⟨q0, qP, qK, qJ⟩ := q; exact ⟨q0, qP, va_K.moved (u := U) (U := U.calling g mk a) (Vm.Alike.refl U.vm) qK, qJ.call g mk a⟩, fun U hU hW => ⟨rfl, by rw [hU]; exact hPx, va_K.moved hW.alike hKx, hJ.move hW (by rw [hU]; exact hS.2.1 aS haS (Nat.not_le.mpr haS)) (by rw [hU]; exact hS.2.1 aT haT (Nat.not_le.mpr haT))⟩⟩ rfl rfl hl.1 rfl (lv_room (Nat.le_of_ble_eq_true rfl)) d_Lw_law_651 ⟨(Nat.le_of_ble_eq_true rfl), (Nat.le_of_ble_eq_true rfl)⟩) (fun H1 hz hk => ?_)
  have hPm := wj_all hPm hk
  have hPo := wj_all hPo hk
  have hS := mx_S hS hz (wj_old hk)
  generalize H1 = H at hPm hPo hS ⊢
  refine W.widen (k := 130) (n := 14040) (Nat.le_of_ble_eq_true rfl) (Nat.le_of_ble_eq_true rfl) ?_
  refine W.eq (g2 := F0 m 654 ls [.int 1]) rfl ?_
  refine lv_istore hx hb d_Lw_law_654 hl (by decide) rfl (fun ls hl => ?_)
  have hl : lv_has ls 7 [(5, .int 1), (4, .int 0), (3, .ref o0), (2, .ref m0), (1, .ref x0), (0, .ref b)] := hl
  refine lv_aload_n hx hb d_Lw_law_656 rfl (lv_at hl 3 rfl) ?_
  refine lv_aload_n hx hb d_Lw_law_657 rfl (lv_at hl 5 rfl) ?_
  refine lv_iload hx hb d_Lw_law_658 (lv_at hl 1 rfl) ?_
  refine lv_iconst (v := 1) hx hb d_Lw_law_660 (by decide) ?_
  refine lv_iadd hx hb d_Lw_law_661 ?_
  refine lv_topi (fun z2 z2_e => ?_)
  obtain rfl : z2 = 1 := z2_e.trans (by decide)
  refine va_sld hx hb hX hbl hbA hS (by unfold vp_in; decide) d_Lw_law_662 ?_
  refine W.eq (g2 := F0 m 663 ls [.int (xs 1), .ref m0]) rfl ?_
  refine W.eq (g2 := F0 m 663 ls [.int (xs 1), .ref m0]) rfl ?_
  have hFm := va_free (wc := wMo m0 r cj) hDm hS hA [0, 1, 2, 3, 4] rfl
  refine va_callv (va_runV (C := "TapeSealerModel") (As := [.int (xs 1)]) (rest := []) ⟨hx, hb, hml, hown, hB⟩ (m_Mo_delete l dC dI H.size m0 r cj (xs 1)) (cwV 1 hB (gy_goodV hw_1223 hw_1224 hw_1225 hw_75 k_Mo_delete) rfl rfl rfl (by decide +kernel) ⟨(Nat.le_of_ble_eq_true rfl), (Nat.le_of_ble_eq_true rfl)⟩) ⟨fun a U g mk q => by obtain ⟨q0, q1, qP, qK, qD⟩ := q; exact ⟨q0, q1, qP, va_K.moved (u := U) (U := U.calling g mk a) (Vm.Alike.refl U.vm) qK, qD⟩, va_recv hKm hPm rfl (q0 := 0) rfl, fun U hU hW => ⟨rfl, by rw [hU], by rw [hU]; exact hPm, va_K.moved hW.alike hKm, hDm.weaken (fun _ _ _ _ => trivial)⟩⟩ rfl rfl hl.1 rfl (lv_room (Nat.le_of_ble_eq_true rfl)) d_Lw_law_663 ⟨(Nat.le_of_ble_eq_true rfl), (Nat.le_of_ble_eq_true rfl)⟩) hS (fun q _ h => hFm q h) hFm (fun u t H1 locs ht hvm hw hB1 hz1 hk1 hS => ?_)
  obtain ⟨fs, hPt, hDt⟩ := hB1
  rw [ht] at hPt
  have hPo := wj_keep (wc := wMo m0 r cj) hPo hmo2 hk1
  generalize H1 = H at hPt hPo hS ⊢
  refine W.widen (k := 130) (n := 14040) (Nat.le_of_ble_eq_true rfl) (Nat.le_of_ble_eq_true rfl) ?_
  refine W.eq (g2 := F0 m 666 ls []) rfl ?_
  refine lv_aload_n hx hb d_Lw_law_666 rfl (lv_at hl 3 rfl) ?_
  refine W.eq (g2 := F0 m 667 ls [.ref m0]) rfl ?_
  refine px_go (va_runV (C := "TapeSealerModel") (As := []) (rest := []) ⟨hx, hb, hml, hown, hB⟩ (p_Mo_thrown l dC dI m0 1 fs) (cwV 0 hB (gy_goodV hw_1026 hw_1027 hw_1028 hw_75 k_Mo_thrown) rfl rfl rfl (by decide +kernel) ⟨(Nat.le_of_ble_eq_true rfl), (Nat.le_of_ble_eq_true rfl)⟩) ⟨fun a U g mk q => by obtain ⟨q0, qP, qK⟩ := q; exact ⟨q0, qP, va_K.moved (u := U) (U := U.calling g mk a) (Vm.Alike.refl U.vm) qK⟩, va_recv hK0 hPt rfl (q0 := 0) rfl, fun U hU hW => ⟨rfl, by rw [hU]; exact hPt, va_K.moved hW.alike hK0⟩⟩ rfl rfl hl.1 rfl (lv_room (Nat.le_of_ble_eq_true rfl)) d_Lw_law_667 ⟨(Nat.le_of_ble_eq_true rfl), (Nat.le_of_ble_eq_true rfl)⟩) ?_
  refine W.eq (g2 := F0 m 670 ls [.int 1]) rfl ?_
  refine lv_iload hx hb d_Lw_law_670 (lv_at hl 0 rfl) ?_
  refine lv_icmp_eq (tgt := 677) hx hb d_Lw_law_672 (by decide) (fun _ => ?_) (fun h9 => absurd (by decide) h9)
  refine lv_goto (tgt := 1073) hx hb d_Lw_law_677 (by decide) ?_
  exact law_exit l C1 (Nat.le_of_ble_eq_true rfl) (Nat.le_of_ble_eq_true rfl) (lv_sub hl [1, 5] rfl) hS
set_option maxHeartbeats 4000000 in
set_option maxRecDepth 100000 in
theorem lq_file {p : Program} {e : Env} {s : State} {m : MethodId} {below : List Frame} {meth : Method} {c : Code} (l : Launch) (hl0 : l.stackTraces = false) {b : Nat} {xs : Nat → Int32} (C0 : lw_At p s m meth c b 4 xs) (dC : Nat → ClassId) (dI : Nat → Nat → Nat) (aS aT : Nat) (cS cT : Cell) (hJ : jx aS aT cS cT s) {x0 m0 o0 : Nat} {q r : Nat → Nat} {ci cj : Nat → ClassId} {cO : ClassId} {ls : Array Slot} {H : Heap} {locs : List Loc} (hl : lv_has ls 7 [(4, .int 0), (3, .ref o0), (2, .ref m0), (1, .ref x0), (0, .ref b)]) (hP : va_P (dC, dI) gx_cl (wJ x0 m0 o0 q r ci cj cO) H) (hD : va_D (lA s) (wJ x0 m0 o0 q r ci cj cO)) (hK : va_K (dC, dI) gx_cl (kJ ci cj cO) s) (hS : va_S (lA s) s.heap H locs) : W p l e room_1 s m #[Value.ref b] below meth c H locs 129 14034 (lw_Z below #[Value.ref b] s) (F0 m 881 ls []) := by
  have C1 := C0
  obtain ⟨hx, hb, hr, hml, hown0, hts, hX, hbl, hlocks, -⟩ := C0
  have hown : s.vm.findClass "TapeSealerLaw" = some m.cls := hown0
  have hB := law_B hts
  have hbA : ¬ lA s b := Nat.not_le.mpr hbl
  have haS := (Array.getElem?_eq_some_iff.mp hJ.2.2.2.2.2.1).1
  have haT := (Array.getElem?_eq_some_iff.mp hJ.2.2.2.2.2.2).1
  have hA : ∀ q : Nat, s.heap.size ≤ q → lA s q := fun q h => h
  have hPx : va_P (dC, dI) gx_cl (wTS x0 q ci) H := wj_l (wj_l hP)
  have hPm : va_P (dC, dI) gx_cl (wMo m0 r cj) H := wj_r (wj_l hP)
  have hPo : va_P (dC, dI) gx_cl (wO o0 cO) H := wj_r hP
  have hDx : va_D (lA s) (wTS x0 q ci) := wj_Dl (wj_Dl hD)
  have hDm : va_D (lA s) (wMo m0 r cj) := wj_Dr (wj_Dl hD)
  have hDo : va_D (lA s) (wO o0 cO) := wj_Dr hD
  have hxm := wj_ne (a := wTS x0 q ci) (b := wMo m0 r cj) (wj_Dl hD)
  have hmo := wj_bc (a := wTS x0 q ci) (b := wMo m0 r cj) (c := wO o0 cO) hD
  have hKx := hK.sub (tys' := kTS ci) [0, 1, 2, 3, 4] rfl
  have hKm := hK.sub (tys' := kMo cj) [5, 6, 7, 8] rfl
  have hKo := hK.sub (tys' := [(cO, .long)]) [9] rfl
  have hK0 := hK.sub (tys' := []) [] rfl
  have hmo2 := hmo
  refine lv_aload_n hx hb d_Lw_law_881 rfl (lv_at hl 3 rfl) ?_
  refine lv_aload_n hx hb d_Lw_law_882 rfl (lv_at hl 4 rfl) ?_
  refine lv_iload hx hb d_Lw_law_883 (lv_at hl 0 rfl) ?_
  refine lv_iconst (v := 1) hx hb d_Lw_law_885 (by decide) ?_
  refine lv_iadd hx hb d_Lw_law_886 ?_
  refine lv_topi (fun z1 z1_e => ?_)
  obtain rfl : z1 = 1 := z1_e.trans (by decide)
  refine va_sld hx hb hX hbl hbA hS (by unfold vp_in; decide) d_Lw_law_887 ?_
  refine W.eq (g2 := F0 m 888 ls [.int (xs 1), .ref x0]) rfl ?_
  refine lv_aload_n hx hb d_Lw_law_888 rfl (lv_at hl 4 rfl) ?_
  refine lv_iload hx hb d_Lw_law_889 (lv_at hl 0 rfl) ?_
  refine lv_iconst (v := 2) hx hb d_Lw_law_891 (by decide) ?_
  refine lv_iadd hx hb d_Lw_law_892 ?_
  refine lv_topi (fun z2 z2_e => ?_)
  obtain rfl : z2 = 2 := z2_e.trans (by decide)
  refine va_sld hx hb hX hbl hbA hS (by unfold vp_in; decide) d_Lw_law_893 ?_
  refine W.eq (g2 := F0 m 894 ls [.int (xs 2), .int (xs 1), .ref x0]) rfl ?_
  refine lv_aload_n hx hb d_Lw_law_894 rfl (lv_at hl 1 rfl) ?_
  refine W.eq (g2 := F0 m 895 ls [.ref o0, .int (xs 2), .int (xs 1), .ref x0]) rfl ?_
  refine hx_go (hx_runS (n := 4) (hh := [(0, 10, 13, 29), (0, 10, 17, 31)]) (As := [.ref x0, .int (xs 1), .int (xs 2), .ref o0]) (rest := []) ⟨hx, hb, hml, hown, hB⟩ (x_file l hl0 dC dI aS aT cS cT x0 q ci o0 (xs 1) (xs 2)) (gy_good k_Lw_file) rfl rfl rfl ⟨(Nat.le_of_ble_eq_true rfl), (Nat.le_of_ble_eq_true rfl)⟩ (hB _ hw_65) (hB _ hw_860) (hB _ hw_859) (by decide +kernel) ⟨fun a U g mk q => by obtain ⟨q0, qP, qK, qJ⟩ := q; exact ⟨q0, qP, va_K.moved (u := U) (U := U.calling g mk a) (Vm.Alike.refl U.vm) qK, qJ.call g mk a⟩, fun U hU hW => ⟨rfl, by rw [hU]; exact hPx, va_K.moved hW.alike hKx, hJ.move hW (by rw [hU]; exact hS.2.1 aS haS (Nat.not_le.mpr haS)) (by rw [hU]; exact hS.2.1 aT haT (Nat.not_le.mpr haT))⟩⟩ rfl rfl hl.1 rfl (lv_room (Nat.le_of_ble_eq_true rfl)) d_Lw_law_895 ⟨(Nat.le_of_ble_eq_true rfl), (Nat.le_of_ble_eq_true rfl)⟩) (fun H1 hz hk => ?_)
  have hPm := wj_all hPm hk
  have hPo := wj_all hPo hk
  have hS := mx_S hS hz (wj_old hk)
  generalize H1 = H at hPm hPo hS ⊢
  refine W.widen (k := 130) (n := 14040) (Nat.le_of_ble_eq_true rfl) (Nat.le_of_ble_eq_true rfl) ?_
  refine W.eq (g2 := F0 m 898 ls [.int 1]) rfl ?_
  refine lv_istore hx hb d_Lw_law_898 hl (by decide) rfl (fun ls hl => ?_)
  have hl : lv_has ls 7 [(5, .int 1), (4, .int 0), (3, .ref o0), (2, .ref m0), (1, .ref x0), (0, .ref b)] := hl
  refine lv_aload_n hx hb d_Lw_law_900 rfl (lv_at hl 3 rfl) ?_
  refine lv_aload_n hx hb d_Lw_law_901 rfl (lv_at hl 5 rfl) ?_
  refine lv_iload hx hb d_Lw_law_902 (lv_at hl 1 rfl) ?_
  refine lv_iconst (v := 1) hx hb d_Lw_law_904 (by decide) ?_
  refine lv_iadd hx hb d_Lw_law_905 ?_
  refine lv_topi (fun z3 z3_e => ?_)
  obtain rfl : z3 = 1 := z3_e.trans (by decide)
  refine va_sld hx hb hX hbl hbA hS (by unfold vp_in; decide) d_Lw_law_906 ?_
  refine W.eq (g2 := F0 m 907 ls [.int (xs 1), .ref m0]) rfl ?_
  refine lv_aload_n hx hb d_Lw_law_907 rfl (lv_at hl 5 rfl) ?_
  refine lv_iload hx hb d_Lw_law_908 (lv_at hl 1 rfl) ?_
  refine lv_iconst (v := 2) hx hb d_Lw_law_910 (by decide) ?_
  refine lv_iadd hx hb d_Lw_law_911 ?_
  refine lv_topi (fun z4 z4_e => ?_)
  obtain rfl : z4 = 2 := z4_e.trans (by decide)
  refine va_sld hx hb hX hbl hbA hS (by unfold vp_in; decide) d_Lw_law_912 ?_
  refine W.eq (g2 := F0 m 913 ls [.int (xs 2), .int (xs 1), .ref m0]) rfl ?_
  refine W.eq (g2 := F0 m 913 ls [.int (xs 2), .int (xs 1), .ref m0]) rfl ?_
  have hFm := va_free (wc := wMo m0 r cj) hDm hS hA [0, 1, 2, 3, 4] rfl
  refine va_calli (va_runV (C := "TapeSealerModel") (As := [.int (xs 1), .int (xs 2)]) (rest := []) ⟨hx, hb, hml, hown, hB⟩ (m_Mo_file l dC dI H.size m0 r cj (xs 1) (xs 2)) (cwV 2 hB (gy_goodV hw_1258 hw_1259 hw_1260 hw_75 k_Mo_file) rfl rfl rfl (by decide +kernel) ⟨(Nat.le_of_ble_eq_true rfl), (Nat.le_of_ble_eq_true rfl)⟩) ⟨fun a U g mk q => by obtain ⟨q0, q1, qP, qK, qD⟩ := q; exact ⟨q0, q1, qP, va_K.moved (u := U) (U := U.calling g mk a) (Vm.Alike.refl U.vm) qK, qD⟩, va_recv hKm hPm rfl (q0 := 0) rfl, fun U hU hW => ⟨rfl, by rw [hU], by rw [hU]; exact hPm, va_K.moved hW.alike hKm, hDm.weaken (fun _ _ _ _ => trivial)⟩⟩ rfl rfl hl.1 rfl (lv_room (Nat.le_of_ble_eq_true rfl)) d_Lw_law_913 ⟨(Nat.le_of_ble_eq_true rfl), (Nat.le_of_ble_eq_true rfl)⟩) hS (fun q _ h => hFm q h) hFm (fun r9 u t H1 locs ht hvm hw hB1 hz1 hk1 hS => ?_)
  have hw : r9 = 0 := hw
  subst hw
  obtain ⟨fs, hPt, hDt⟩ := hB1
  rw [ht] at hPt
  have hPo := wj_keep (wc := wMo m0 r cj) hPo hmo2 hk1
  generalize H1 = H at hPt hPo hS ⊢
  refine W.widen (k := 130) (n := 14040) (Nat.le_of_ble_eq_true rfl) (Nat.le_of_ble_eq_true rfl) ?_
  refine W.eq (g2 := F0 m 916 ls [.int 0]) rfl ?_
  refine lv_istore hx hb d_Lw_law_916 hl (by decide) rfl (fun ls hl => ?_)
  have hl : lv_has ls 7 [(6, .int 0), (5, .int 1), (4, .int 0), (3, .ref o0), (2, .ref m0), (1, .ref x0), (0, .ref b)] := hl
  refine lv_aload_n hx hb d_Lw_law_918 rfl (lv_at hl 4 rfl) ?_
  refine W.eq (g2 := F0 m 919 ls [.ref m0]) rfl ?_
  refine px_go (va_runV (C := "TapeSealerModel") (As := []) (rest := []) ⟨hx, hb, hml, hown, hB⟩ (p_Mo_thrown l dC dI m0 1 fs) (cwV 0 hB (gy_goodV hw_1026 hw_1027 hw_1028 hw_75 k_Mo_thrown) rfl rfl rfl (by decide +kernel) ⟨(Nat.le_of_ble_eq_true rfl), (Nat.le_of_ble_eq_true rfl)⟩) ⟨fun a U g mk q => by obtain ⟨q0, qP, qK⟩ := q; exact ⟨q0, qP, va_K.moved (u := U) (U := U.calling g mk a) (Vm.Alike.refl U.vm) qK⟩, va_recv hK0 hPt rfl (q0 := 0) rfl, fun U hU hW => ⟨rfl, by rw [hU]; exact hPt, va_K.moved hW.alike hK0⟩⟩ rfl rfl hl.1 rfl (lv_room (Nat.le_of_ble_eq_true rfl)) d_Lw_law_919 ⟨(Nat.le_of_ble_eq_true rfl), (Nat.le_of_ble_eq_true rfl)⟩) ?_
  refine W.eq (g2 := F0 m 922 ls [.int 1]) rfl ?_
  refine lv_iload hx hb d_Lw_law_922 (lv_at hl 1 rfl) ?_
  refine lv_icmp_eq (tgt := 929) hx hb d_Lw_law_924 (by decide) (fun _ => ?_) (fun h9 => absurd (by decide) h9)
  refine lv_iload hx hb d_Lw_law_929 (lv_at hl 1 rfl) ?_
  refine lv_if_ne (tgt := 946) hx hb d_Lw_law_931 (by decide) (fun _ => ?_) (fun h9 => absurd h9 (by decide))
  refine lv_goto (tgt := 1073) hx hb d_Lw_law_946 (by decide) ?_
  exact law_exit l C1 (Nat.le_of_ble_eq_true rfl) (Nat.le_of_ble_eq_true rfl) (lv_sub hl [2, 6] rfl) hS
set_option maxHeartbeats 4000000 in
set_option maxRecDepth 100000 in
theorem lq_scrub0 {p : Program} {e : Env} {s : State} {m : MethodId} {below : List Frame} {meth : Method} {c : Code} (l : Launch) (hl0 : l.stackTraces = false) {b : Nat} {xs : Nat → Int32} (C0 : lw_At p s m meth c b 4 xs) (dC : Nat → ClassId) (dI : Nat → Nat → Nat) (aS aT : Nat) (cS cT : Cell) (hJ : jx aS aT cS cT s) {x0 m0 o0 : Nat} {q r : Nat → Nat} {ci cj : Nat → ClassId} {cO : ClassId} {ls : Array Slot} {H : Heap} {locs : List Loc} (hl : lv_has ls 7 [(4, .int 0), (3, .ref o0), (2, .ref m0), (1, .ref x0), (0, .ref b)]) (hP : va_P (dC, dI) gx_cl (wJ x0 m0 o0 q r ci cj cO) H) (hD : va_D (lA s) (wJ x0 m0 o0 q r ci cj cO)) (hK : va_K (dC, dI) gx_cl (kJ ci cj cO) s) (hS : va_S (lA s) s.heap H locs) (h : (xs 1) < 0 ∨ 6 ≤ (xs 1)) : W p l e room_1 s m #[Value.ref b] below meth c H locs 129 14034 (lw_Z below #[Value.ref b] s) (F0 m 680 ls []) := by
  have C1 := C0
  obtain ⟨hx, hb, hr, hml, hown0, hts, hX, hbl, hlocks, -⟩ := C0
  have hown : s.vm.findClass "TapeSealerLaw" = some m.cls := hown0
  have hB := law_B hts
  have hbA : ¬ lA s b := Nat.not_le.mpr hbl
  have haS := (Array.getElem?_eq_some_iff.mp hJ.2.2.2.2.2.1).1
  have haT := (Array.getElem?_eq_some_iff.mp hJ.2.2.2.2.2.2).1
  have hA : ∀ q : Nat, s.heap.size ≤ q → lA s q := fun q h => h
  have hPx : va_P (dC, dI) gx_cl (wTS x0 q ci) H := wj_l (wj_l hP)
  have hPm : va_P (dC, dI) gx_cl (wMo m0 r cj) H := wj_r (wj_l hP)
  have hPo : va_P (dC, dI) gx_cl (wO o0 cO) H := wj_r hP
  have hDx : va_D (lA s) (wTS x0 q ci) := wj_Dl (wj_Dl hD)
  have hDm : va_D (lA s) (wMo m0 r cj) := wj_Dr (wj_Dl hD)
  have hDo : va_D (lA s) (wO o0 cO) := wj_Dr hD
  have hxm := wj_ne (a := wTS x0 q ci) (b := wMo m0 r cj) (wj_Dl hD)
  have hmo := wj_bc (a := wTS x0 q ci) (b := wMo m0 r cj) (c := wO o0 cO) hD
  have hKx := hK.sub (tys' := kTS ci) [0, 1, 2, 3, 4] rfl
  have hKm := hK.sub (tys' := kMo cj) [5, 6, 7, 8] rfl
  have hKo := hK.sub (tys' := [(cO, .long)]) [9] rfl
  have hK0 := hK.sub (tys' := []) [] rfl
  have hmo2 := hmo
  refine lv_aload_n hx hb d_Lw_law_680 rfl (lv_at hl 3 rfl) ?_
  refine lv_aload_n hx hb d_Lw_law_681 rfl (lv_at hl 4 rfl) ?_
  refine lv_iload hx hb d_Lw_law_682 (lv_at hl 0 rfl) ?_
  refine lv_iconst (v := 1) hx hb d_Lw_law_684 (by decide) ?_
  refine lv_iadd hx hb d_Lw_law_685 ?_
  refine lv_topi (fun z1 z1_e => ?_)
  obtain rfl : z1 = 1 := z1_e.trans (by decide)
  refine va_sld hx hb hX hbl hbA hS (by unfold vp_in; decide) d_Lw_law_686 ?_
  refine W.eq (g2 := F0 m 687 ls [.int (xs 1), .ref x0]) rfl ?_
  refine lv_aload_n hx hb d_Lw_law_687 rfl (lv_at hl 1 rfl) ?_
  refine W.eq (g2 := F0 m 688 ls [.ref o0, .int (xs 1), .ref x0]) rfl ?_
  refine hx_go (hx_runS (n := 3) (hh := [(0, 9, 12, 31), (0, 9, 15, 13)]) (As := [.ref x0, .int (xs 1), .ref o0]) (rest := []) ⟨hx, hb, hml, hown, hB⟩ (x_scrub l hl0 dC dI aS aT cS cT x0 q ci o0 (xs 1) h) (gy_good k_Lw_scrub) rfl rfl rfl ⟨(Nat.le_of_ble_eq_true rfl), (Nat.le_of_ble_eq_true rfl)⟩ (hB _ hw_65) (hB _ hw_819) (hB _ hw_818) (by decide +kernel) ⟨fun a U g mk q => by obtain ⟨q0, qP, qK, qJ⟩ := q; exact ⟨q0, qP, va_K.moved (u := U) (U := U.calling g mk a) (Vm.Alike.refl U.vm) qK, qJ.call g mk a⟩, fun U hU hW => ⟨rfl, by rw [hU]; exact hPx, va_K.moved hW.alike hKx, hJ.move hW (by rw [hU]; exact hS.2.1 aS haS (Nat.not_le.mpr haS)) (by rw [hU]; exact hS.2.1 aT haT (Nat.not_le.mpr haT))⟩⟩ rfl rfl hl.1 rfl (lv_room (Nat.le_of_ble_eq_true rfl)) d_Lw_law_688 ⟨(Nat.le_of_ble_eq_true rfl), (Nat.le_of_ble_eq_true rfl)⟩) (fun H1 hz hk => ?_)
  have hPm := wj_all hPm hk
  have hPo := wj_all hPo hk
  have hS := mx_S hS hz (wj_old hk)
  generalize H1 = H at hPm hPo hS ⊢
  refine W.widen (k := 130) (n := 14040) (Nat.le_of_ble_eq_true rfl) (Nat.le_of_ble_eq_true rfl) ?_
  refine W.eq (g2 := F0 m 691 ls [.int 1]) rfl ?_
  refine lv_istore hx hb d_Lw_law_691 hl (by decide) rfl (fun ls hl => ?_)
  have hl : lv_has ls 7 [(5, .int 1), (4, .int 0), (3, .ref o0), (2, .ref m0), (1, .ref x0), (0, .ref b)] := hl
  refine lv_aload_n hx hb d_Lw_law_693 rfl (lv_at hl 3 rfl) ?_
  refine lv_aload_n hx hb d_Lw_law_694 rfl (lv_at hl 5 rfl) ?_
  refine lv_iload hx hb d_Lw_law_695 (lv_at hl 1 rfl) ?_
  refine lv_iconst (v := 1) hx hb d_Lw_law_697 (by decide) ?_
  refine lv_iadd hx hb d_Lw_law_698 ?_
  refine lv_topi (fun z2 z2_e => ?_)
  obtain rfl : z2 = 1 := z2_e.trans (by decide)
  refine va_sld hx hb hX hbl hbA hS (by unfold vp_in; decide) d_Lw_law_699 ?_
  refine W.eq (g2 := F0 m 700 ls [.int (xs 1), .ref m0]) rfl ?_
  refine W.eq (g2 := F0 m 700 ls [.int (xs 1), .ref m0]) rfl ?_
  have hFm := va_free (wc := wMo m0 r cj) hDm hS hA [0, 1, 2, 3, 4] rfl
  refine va_calli (va_runV (C := "TapeSealerModel") (As := [.int (xs 1)]) (rest := []) ⟨hx, hb, hml, hown, hB⟩ (m_Mo_scrub0 l dC dI H.size m0 r cj (xs 1) h) (cwV 1 hB (gy_goodV hw_1227 hw_1228 hw_1229 hw_75 k_Mo_scrub) rfl rfl rfl (by decide +kernel) ⟨(Nat.le_of_ble_eq_true rfl), (Nat.le_of_ble_eq_true rfl)⟩) ⟨fun a U g mk q => by obtain ⟨q0, q1, qP, qK, qD⟩ := q; exact ⟨q0, q1, qP, va_K.moved (u := U) (U := U.calling g mk a) (Vm.Alike.refl U.vm) qK, qD⟩, va_recv hKm hPm rfl (q0 := 0) rfl, fun U hU hW => ⟨rfl, by rw [hU], by rw [hU]; exact hPm, va_K.moved hW.alike hKm, hDm.weaken (fun _ _ _ _ => trivial)⟩⟩ rfl rfl hl.1 rfl (lv_room (Nat.le_of_ble_eq_true rfl)) d_Lw_law_700 ⟨(Nat.le_of_ble_eq_true rfl), (Nat.le_of_ble_eq_true rfl)⟩) hS (fun q _ h => hFm q h) hFm (fun r9 u t H1 locs ht hvm hw hB1 hz1 hk1 hS => ?_)
  have hw : r9 = 0 := hw
  subst hw
  obtain ⟨fs, hPt, hDt⟩ := hB1
  rw [ht] at hPt
  have hPo := wj_keep (wc := wMo m0 r cj) hPo hmo2 hk1
  generalize H1 = H at hPt hPo hS ⊢
  refine W.widen (k := 130) (n := 14040) (Nat.le_of_ble_eq_true rfl) (Nat.le_of_ble_eq_true rfl) ?_
  refine W.eq (g2 := F0 m 703 ls [.int 0]) rfl ?_
  refine lv_istore hx hb d_Lw_law_703 hl (by decide) rfl (fun ls hl => ?_)
  have hl : lv_has ls 7 [(6, .int 0), (5, .int 1), (4, .int 0), (3, .ref o0), (2, .ref m0), (1, .ref x0), (0, .ref b)] := hl
  refine lv_aload_n hx hb d_Lw_law_705 rfl (lv_at hl 4 rfl) ?_
  refine W.eq (g2 := F0 m 706 ls [.ref m0]) rfl ?_
  refine px_go (va_runV (C := "TapeSealerModel") (As := []) (rest := []) ⟨hx, hb, hml, hown, hB⟩ (p_Mo_thrown l dC dI m0 1 fs) (cwV 0 hB (gy_goodV hw_1026 hw_1027 hw_1028 hw_75 k_Mo_thrown) rfl rfl rfl (by decide +kernel) ⟨(Nat.le_of_ble_eq_true rfl), (Nat.le_of_ble_eq_true rfl)⟩) ⟨fun a U g mk q => by obtain ⟨q0, qP, qK⟩ := q; exact ⟨q0, qP, va_K.moved (u := U) (U := U.calling g mk a) (Vm.Alike.refl U.vm) qK⟩, va_recv hK0 hPt rfl (q0 := 0) rfl, fun U hU hW => ⟨rfl, by rw [hU]; exact hPt, va_K.moved hW.alike hK0⟩⟩ rfl rfl hl.1 rfl (lv_room (Nat.le_of_ble_eq_true rfl)) d_Lw_law_706 ⟨(Nat.le_of_ble_eq_true rfl), (Nat.le_of_ble_eq_true rfl)⟩) ?_
  refine W.eq (g2 := F0 m 709 ls [.int 1]) rfl ?_
  refine lv_iload hx hb d_Lw_law_709 (lv_at hl 1 rfl) ?_
  refine lv_icmp_eq (tgt := 716) hx hb d_Lw_law_711 (by decide) (fun _ => ?_) (fun h9 => absurd (by decide) h9)
  refine lv_iload hx hb d_Lw_law_716 (lv_at hl 1 rfl) ?_
  refine lv_if_ne (tgt := 733) hx hb d_Lw_law_718 (by decide) (fun _ => ?_) (fun h9 => absurd h9 (by decide))
  refine lv_goto (tgt := 1073) hx hb d_Lw_law_733 (by decide) ?_
  exact law_exit l C1 (Nat.le_of_ble_eq_true rfl) (Nat.le_of_ble_eq_true rfl) (lv_sub hl [2, 6] rfl) hS
set_option maxHeartbeats 4000000 in
set_option maxRecDepth 100000 in
theorem lq_scrub1 {p : Program} {e : Env} {s : State} {m : MethodId} {below : List Frame} {meth : Method} {c : Code} (l : Launch) (hl0 : l.stackTraces = false) {b : Nat} {xs : Nat → Int32} (C0 : lw_At p s m meth c b 4 xs) (dC : Nat → ClassId) (dI : Nat → Nat → Nat) (aS aT : Nat) (cS cT : Cell) (hJ : jx aS aT cS cT s) {x0 m0 o0 : Nat} {q r : Nat → Nat} {ci cj : Nat → ClassId} {cO : ClassId} {ls : Array Slot} {H : Heap} {locs : List Loc} (hl : lv_has ls 7 [(4, .int 0), (3, .ref o0), (2, .ref m0), (1, .ref x0), (0, .ref b)]) (hP : va_P (dC, dI) gx_cl (wJ x0 m0 o0 q r ci cj cO) H) (hD : va_D (lA s) (wJ x0 m0 o0 q r ci cj cO)) (hK : va_K (dC, dI) gx_cl (kJ ci cj cO) s) (hS : va_S (lA s) s.heap H locs) (h1 : ¬ (xs 1) < 0) (h2 : (xs 1) < 6) : W p l e room_1 s m #[Value.ref b] below meth c H locs 129 14034 (lw_Z below #[Value.ref b] s) (F0 m 680 ls []) := by
  have C1 := C0
  obtain ⟨hx, hb, hr, hml, hown0, hts, hX, hbl, hlocks, -⟩ := C0
  have hown : s.vm.findClass "TapeSealerLaw" = some m.cls := hown0
  have hB := law_B hts
  have hbA : ¬ lA s b := Nat.not_le.mpr hbl
  have haS := (Array.getElem?_eq_some_iff.mp hJ.2.2.2.2.2.1).1
  have haT := (Array.getElem?_eq_some_iff.mp hJ.2.2.2.2.2.2).1
  have hA : ∀ q : Nat, s.heap.size ≤ q → lA s q := fun q h => h
  have hPx : va_P (dC, dI) gx_cl (wTS x0 q ci) H := wj_l (wj_l hP)
  have hPm : va_P (dC, dI) gx_cl (wMo m0 r cj) H := wj_r (wj_l hP)
  have hPo : va_P (dC, dI) gx_cl (wO o0 cO) H := wj_r hP
  have hDx : va_D (lA s) (wTS x0 q ci) := wj_Dl (wj_Dl hD)
  have hDm : va_D (lA s) (wMo m0 r cj) := wj_Dr (wj_Dl hD)
  have hDo : va_D (lA s) (wO o0 cO) := wj_Dr hD
  have hxm := wj_ne (a := wTS x0 q ci) (b := wMo m0 r cj) (wj_Dl hD)
  have hmo := wj_bc (a := wTS x0 q ci) (b := wMo m0 r cj) (c := wO o0 cO) hD
  have hKx := hK.sub (tys' := kTS ci) [0, 1, 2, 3, 4] rfl
  have hKm := hK.sub (tys' := kMo cj) [5, 6, 7, 8] rfl
  have hKo := hK.sub (tys' := [(cO, .long)]) [9] rfl
  have hK0 := hK.sub (tys' := []) [] rfl
  have hmo2 := hmo
  refine lv_aload_n hx hb d_Lw_law_680 rfl (lv_at hl 3 rfl) ?_
  refine lv_aload_n hx hb d_Lw_law_681 rfl (lv_at hl 4 rfl) ?_
  refine lv_iload hx hb d_Lw_law_682 (lv_at hl 0 rfl) ?_
  refine lv_iconst (v := 1) hx hb d_Lw_law_684 (by decide) ?_
  refine lv_iadd hx hb d_Lw_law_685 ?_
  refine lv_topi (fun z1 z1_e => ?_)
  obtain rfl : z1 = 1 := z1_e.trans (by decide)
  refine va_sld hx hb hX hbl hbA hS (by unfold vp_in; decide) d_Lw_law_686 ?_
  refine W.eq (g2 := F0 m 687 ls [.int (xs 1), .ref x0]) rfl ?_
  refine lv_aload_n hx hb d_Lw_law_687 rfl (lv_at hl 1 rfl) ?_
  refine W.eq (g2 := F0 m 688 ls [.ref o0, .int (xs 1), .ref x0]) rfl ?_
  have hFo := va_free (wc := wO o0 cO) hDo hS hA [0] rfl
  refine va_calli (hx_runS (n := 3) (hh := [(0, 9, 12, 31), (0, 9, 15, 13)]) (As := [.ref x0, .int (xs 1), .ref o0]) (rest := []) ⟨hx, hb, hml, hown, hB⟩ (x_scrub1 l dC dI H.size x0 q ci o0 cO (xs 1) h1 h2) (gy_good k_Lw_scrub) rfl rfl rfl ⟨(Nat.le_of_ble_eq_true rfl), (Nat.le_of_ble_eq_true rfl)⟩ (hB _ hw_65) (hB _ hw_819) (hB _ hw_818) (by decide +kernel) ⟨fun a U g mk q => by obtain ⟨q0, q1, qP, qK, qPx, qKx⟩ := q; exact ⟨q0, q1, qP, va_K.moved (u := U) (U := U.calling g mk a) (Vm.Alike.refl U.vm) qK, qPx, va_K.moved (u := U) (U := U.calling g mk a) (Vm.Alike.refl U.vm) qKx⟩, fun U hU hW => ⟨rfl, by rw [hU], by rw [hU]; exact hPo, va_K.moved hW.alike hKo, by rw [hU]; exact hPx, va_K.moved hW.alike hKx⟩⟩ rfl rfl hl.1 rfl (lv_room (Nat.le_of_ble_eq_true rfl)) d_Lw_law_688 ⟨(Nat.le_of_ble_eq_true rfl), (Nat.le_of_ble_eq_true rfl)⟩) hS (fun q _ h => hFo q h) hFo (fun r9 u t H1 locs ht hvm hw hB1 hz1 hk1 hS => ?_)
  have hw : r9 = 0 := hw
  subst hw
  have hPo : va_P (dC, dI) gx_cl [(o0, .inl (cO, 1, .inr (.inl (vp_updL (fun _ => 0) 0 (-1)))))] H1 := by rw [← ht]; exact hB1
  have hPm := wj_keep (wc := wO o0 cO) hPm (wj_sym hmo) hk1
  have hmo2 : ∀ (i j : Nat) (p q : Nat × va_E), (wMo m0 r cj)[i]? = some p → ([(o0, .inl (cO, 1, .inr (.inl (vp_updL (fun _ => 0) 0 (-1)))))] : va_W)[j]? = some q → p.1 ≠ q.1 := wj_one hmo
  generalize H1 = H at hPm hPo hS ⊢
  refine W.widen (k := 129) (n := 14034) (Nat.le_of_ble_eq_true rfl) (Nat.le_of_ble_eq_true rfl) ?_
  refine W.eq (g2 := F0 m 691 ls [.int 0]) rfl ?_
  refine lv_istore hx hb d_Lw_law_691 hl (by decide) rfl (fun ls hl => ?_)
  have hl : lv_has ls 7 [(5, .int 0), (4, .int 0), (3, .ref o0), (2, .ref m0), (1, .ref x0), (0, .ref b)] := hl
  refine lv_aload_n hx hb d_Lw_law_693 rfl (lv_at hl 3 rfl) ?_
  refine lv_aload_n hx hb d_Lw_law_694 rfl (lv_at hl 5 rfl) ?_
  refine lv_iload hx hb d_Lw_law_695 (lv_at hl 1 rfl) ?_
  refine lv_iconst (v := 1) hx hb d_Lw_law_697 (by decide) ?_
  refine lv_iadd hx hb d_Lw_law_698 ?_
  refine lv_topi (fun z2 z2_e => ?_)
  obtain rfl : z2 = 1 := z2_e.trans (by decide)
  refine va_sld hx hb hX hbl hbA hS (by unfold vp_in; decide) d_Lw_law_699 ?_
  refine W.eq (g2 := F0 m 700 ls [.int (xs 1), .ref m0]) rfl ?_
  refine W.eq (g2 := F0 m 700 ls [.int (xs 1), .ref m0]) rfl ?_
  have hFm := va_free (wc := wMo m0 r cj) hDm hS hA [0, 1, 2, 3, 4] rfl
  refine va_calli (va_runV (C := "TapeSealerModel") (As := [.int (xs 1)]) (rest := []) ⟨hx, hb, hml, hown, hB⟩ (m_Mo_scrub1 l dC dI H.size m0 r cj (xs 1) h1 h2) (cwV 1 hB (gy_goodV hw_1227 hw_1228 hw_1229 hw_75 k_Mo_scrub) rfl rfl rfl (by decide +kernel) ⟨(Nat.le_of_ble_eq_true rfl), (Nat.le_of_ble_eq_true rfl)⟩) ⟨fun a U g mk q => by obtain ⟨q0, q1, qP, qK, qD⟩ := q; exact ⟨q0, q1, qP, va_K.moved (u := U) (U := U.calling g mk a) (Vm.Alike.refl U.vm) qK, qD⟩, va_recv hKm hPm rfl (q0 := 0) rfl, fun U hU hW => ⟨rfl, by rw [hU], by rw [hU]; exact hPm, va_K.moved hW.alike hKm, hDm.weaken (fun _ _ _ _ => trivial)⟩⟩ rfl rfl hl.1 rfl (lv_room (Nat.le_of_ble_eq_true rfl)) d_Lw_law_700 ⟨(Nat.le_of_ble_eq_true rfl), (Nat.le_of_ble_eq_true rfl)⟩) hS (fun q _ h => hFm q h) hFm (fun r9 u t H1 locs ht hvm hw hB1 hz1 hk1 hS => ?_)
  have hw : r9 = (-1) := hw
  subst hw
  obtain ⟨fs, hPt, hDt⟩ := hB1
  rw [ht] at hPt
  have hPo := wj_keep (wc := wMo m0 r cj) hPo hmo2 hk1
  generalize H1 = H at hPt hPo hS ⊢
  refine W.widen (k := 129) (n := 14034) (Nat.le_of_ble_eq_true rfl) (Nat.le_of_ble_eq_true rfl) ?_
  refine W.eq (g2 := F0 m 703 ls [.int (-1)]) rfl ?_
  refine lv_istore hx hb d_Lw_law_703 hl (by decide) rfl (fun ls hl => ?_)
  have hl : lv_has ls 7 [(6, .int (-1)), (5, .int 0), (4, .int 0), (3, .ref o0), (2, .ref m0), (1, .ref x0), (0, .ref b)] := hl
  refine lv_aload_n hx hb d_Lw_law_705 rfl (lv_at hl 4 rfl) ?_
  refine W.eq (g2 := F0 m 706 ls [.ref m0]) rfl ?_
  refine px_go (va_runV (C := "TapeSealerModel") (As := []) (rest := []) ⟨hx, hb, hml, hown, hB⟩ (p_Mo_thrown l dC dI m0 0 fs) (cwV 0 hB (gy_goodV hw_1026 hw_1027 hw_1028 hw_75 k_Mo_thrown) rfl rfl rfl (by decide +kernel) ⟨(Nat.le_of_ble_eq_true rfl), (Nat.le_of_ble_eq_true rfl)⟩) ⟨fun a U g mk q => by obtain ⟨q0, qP, qK⟩ := q; exact ⟨q0, qP, va_K.moved (u := U) (U := U.calling g mk a) (Vm.Alike.refl U.vm) qK⟩, va_recv hK0 hPt rfl (q0 := 0) rfl, fun U hU hW => ⟨rfl, by rw [hU]; exact hPt, va_K.moved hW.alike hK0⟩⟩ rfl rfl hl.1 rfl (lv_room (Nat.le_of_ble_eq_true rfl)) d_Lw_law_706 ⟨(Nat.le_of_ble_eq_true rfl), (Nat.le_of_ble_eq_true rfl)⟩) ?_
  refine W.eq (g2 := F0 m 709 ls [.int 0]) rfl ?_
  refine lv_iload hx hb d_Lw_law_709 (lv_at hl 1 rfl) ?_
  refine lv_icmp_eq (tgt := 716) hx hb d_Lw_law_711 (by decide) (fun _ => ?_) (fun h9 => absurd (by decide) h9)
  refine lv_iload hx hb d_Lw_law_716 (lv_at hl 1 rfl) ?_
  refine lv_if_ne (tgt := 733) hx hb d_Lw_law_718 (by decide) (fun h9 => absurd (by decide) h9) (fun _ => ?_)
  refine lv_aload_n hx hb d_Lw_law_721 rfl (lv_at hl 3 rfl) ?_
  refine lv_iconst (v := 0) hx hb d_Lw_law_722 (by decide) ?_
  refine va_lald (D := (dC, dI)) hx hb hKo hPo 0 0 rfl rfl (by unfold vp_in; decide) d_Lw_law_723 ?_
  refine W.eq (g2 := F0 m 724 ls [.long (-1)]) rfl ?_
  refine lv_iload hx hb d_Lw_law_724 (lv_at hl 0 rfl) ?_
  refine lv_i2l (v := (-1)) hx hb d_Lw_law_726 (by decide) ?_
  refine W.lcmp hx hb d_Lw_law_727 ?_
  refine lv_topi (fun zc zc_e => ?_)
  obtain rfl : zc = 0 := zc_e.trans (by decide)
  refine lv_if_eq (tgt := 733) hx hb d_Lw_law_728 (by decide) (fun _ => ?_) (fun h9 => absurd (by decide) h9)
  refine lv_goto (tgt := 1073) hx hb d_Lw_law_733 (by decide) ?_
  exact law_exit l C1 (Nat.le_of_ble_eq_true rfl) (Nat.le_of_ble_eq_true rfl) (lv_sub hl [2, 6] rfl) hS
set_option maxHeartbeats 4000000 in
set_option maxRecDepth 100000 in
theorem lq_damage_b {p : Program} {e : Env} {s : State} {m : MethodId} {below : List Frame} {meth : Method} {c : Code} (l : Launch) (hl0 : l.stackTraces = false) {b : Nat} {xs : Nat → Int32} (C0 : lw_At p s m meth c b 4 xs) (dC : Nat → ClassId) (dI : Nat → Nat → Nat) (aS aT : Nat) (cS cT : Cell) (hJ : jx aS aT cS cT s) {x0 m0 o0 : Nat} {q r : Nat → Nat} {ci cj : Nat → ClassId} {cO : ClassId} {ls : Array Slot} {H : Heap} {locs : List Loc} (hl : lv_has ls 7 [(4, .int 0), (3, .ref o0), (2, .ref m0), (1, .ref x0), (0, .ref b)]) (hP : va_P (dC, dI) gx_cl (wJ x0 m0 o0 q r ci cj cO) H) (hD : va_D (lA s) (wJ x0 m0 o0 q r ci cj cO)) (hK : va_K (dC, dI) gx_cl (kJ ci cj cO) s) (hS : va_S (lA s) s.heap H locs) (h : (xs 1) < 0 ∨ 44 ≤ (xs 1) ∨ (xs 2) < 0 ∨ 64 ≤ (xs 2)) : W p l e room_1 s m #[Value.ref b] below meth c H locs 129 14034 (lw_Z below #[Value.ref b] s) (F0 m 736 ls []) := by
  have C1 := C0
  obtain ⟨hx, hb, hr, hml, hown0, hts, hX, hbl, hlocks, -⟩ := C0
  have hown : s.vm.findClass "TapeSealerLaw" = some m.cls := hown0
  have hB := law_B hts
  have hbA : ¬ lA s b := Nat.not_le.mpr hbl
  have haS := (Array.getElem?_eq_some_iff.mp hJ.2.2.2.2.2.1).1
  have haT := (Array.getElem?_eq_some_iff.mp hJ.2.2.2.2.2.2).1
  have hA : ∀ q : Nat, s.heap.size ≤ q → lA s q := fun q h => h
  have hPx : va_P (dC, dI) gx_cl (wTS x0 q ci) H := wj_l (wj_l hP)
  have hPm : va_P (dC, dI) gx_cl (wMo m0 r cj) H := wj_r (wj_l hP)
  have hPo : va_P (dC, dI) gx_cl (wO o0 cO) H := wj_r hP
  have hDx : va_D (lA s) (wTS x0 q ci) := wj_Dl (wj_Dl hD)
  have hDm : va_D (lA s) (wMo m0 r cj) := wj_Dr (wj_Dl hD)
  have hDo : va_D (lA s) (wO o0 cO) := wj_Dr hD
  have hxm := wj_ne (a := wTS x0 q ci) (b := wMo m0 r cj) (wj_Dl hD)
  have hmo := wj_bc (a := wTS x0 q ci) (b := wMo m0 r cj) (c := wO o0 cO) hD
  have hKx := hK.sub (tys' := kTS ci) [0, 1, 2, 3, 4] rfl
  have hKm := hK.sub (tys' := kMo cj) [5, 6, 7, 8] rfl
  have hKo := hK.sub (tys' := [(cO, .long)]) [9] rfl
  have hK0 := hK.sub (tys' := []) [] rfl
  have hmo2 := hmo
  refine lv_aload_n hx hb d_Lw_law_736 rfl (lv_at hl 3 rfl) ?_
  refine lv_aload_n hx hb d_Lw_law_737 rfl (lv_at hl 4 rfl) ?_
  refine lv_iload hx hb d_Lw_law_738 (lv_at hl 0 rfl) ?_
  refine lv_iconst (v := 1) hx hb d_Lw_law_740 (by decide) ?_
  refine lv_iadd hx hb d_Lw_law_741 ?_
  refine lv_topi (fun z1 z1_e => ?_)
  obtain rfl : z1 = 1 := z1_e.trans (by decide)
  refine va_sld hx hb hX hbl hbA hS (by unfold vp_in; decide) d_Lw_law_742 ?_
  refine W.eq (g2 := F0 m 743 ls [.int (xs 1), .ref x0]) rfl ?_
  refine lv_aload_n hx hb d_Lw_law_743 rfl (lv_at hl 4 rfl) ?_
  refine lv_iload hx hb d_Lw_law_744 (lv_at hl 0 rfl) ?_
  refine lv_iconst (v := 2) hx hb d_Lw_law_746 (by decide) ?_
  refine lv_iadd hx hb d_Lw_law_747 ?_
  refine lv_topi (fun z2 z2_e => ?_)
  obtain rfl : z2 = 2 := z2_e.trans (by decide)
  refine va_sld hx hb hX hbl hbA hS (by unfold vp_in; decide) d_Lw_law_748 ?_
  refine W.eq (g2 := F0 m 749 ls [.int (xs 2), .int (xs 1), .ref x0]) rfl ?_
  refine lv_aload_n hx hb d_Lw_law_749 rfl (lv_at hl 4 rfl) ?_
  refine lv_iload hx hb d_Lw_law_750 (lv_at hl 0 rfl) ?_
  refine lv_iconst (v := 3) hx hb d_Lw_law_752 (by decide) ?_
  refine lv_iadd hx hb d_Lw_law_753 ?_
  refine lv_topi (fun z3 z3_e => ?_)
  obtain rfl : z3 = 3 := z3_e.trans (by decide)
  refine va_sld hx hb hX hbl hbA hS (by unfold vp_in; decide) d_Lw_law_754 ?_
  refine W.eq (g2 := F0 m 755 ls [.int (xs 3), .int (xs 2), .int (xs 1), .ref x0]) rfl ?_
  refine W.eq (g2 := F0 m 755 ls [.int (xs 3), .int (xs 2), .int (xs 1), .ref x0]) rfl ?_
  refine hx_go (hx_runS (n := 4) (hh := [(0, 7, 10, 31)]) (As := [.ref x0, .int (xs 1), .int (xs 2), .int (xs 3)]) (rest := []) ⟨hx, hb, hml, hown, hB⟩ (x_damage_b l hl0 dC dI aS aT cS cT x0 q ci (xs 1) (xs 2) (xs 3) h) (gy_good k_Lw_damage) rfl rfl rfl ⟨(Nat.le_of_ble_eq_true rfl), (Nat.le_of_ble_eq_true rfl)⟩ (hB _ hw_65) (hB _ hw_835) (hB _ hw_834) (by decide +kernel) ⟨fun a U g mk q => by obtain ⟨q0, qP, qK, qJ⟩ := q; exact ⟨q0, qP, va_K.moved (u := U) (U := U.calling g mk a) (Vm.Alike.refl U.vm) qK, qJ.call g mk a⟩, fun U hU hW => ⟨rfl, by rw [hU]; exact hPx, va_K.moved hW.alike hKx, hJ.move hW (by rw [hU]; exact hS.2.1 aS haS (Nat.not_le.mpr haS)) (by rw [hU]; exact hS.2.1 aT haT (Nat.not_le.mpr haT))⟩⟩ rfl rfl hl.1 rfl (lv_room (Nat.le_of_ble_eq_true rfl)) d_Lw_law_755 ⟨(Nat.le_of_ble_eq_true rfl), (Nat.le_of_ble_eq_true rfl)⟩) (fun H1 hz hk => ?_)
  have hPm := wj_all hPm hk
  have hPo := wj_all hPo hk
  have hS := mx_S hS hz (wj_old hk)
  generalize H1 = H at hPm hPo hS ⊢
  refine W.widen (k := 130) (n := 14040) (Nat.le_of_ble_eq_true rfl) (Nat.le_of_ble_eq_true rfl) ?_
  refine W.eq (g2 := F0 m 758 ls [.int 1]) rfl ?_
  refine lv_istore hx hb d_Lw_law_758 hl (by decide) rfl (fun ls hl => ?_)
  have hl : lv_has ls 7 [(5, .int 1), (4, .int 0), (3, .ref o0), (2, .ref m0), (1, .ref x0), (0, .ref b)] := hl
  refine lv_aload_n hx hb d_Lw_law_760 rfl (lv_at hl 3 rfl) ?_
  refine lv_aload_n hx hb d_Lw_law_761 rfl (lv_at hl 5 rfl) ?_
  refine lv_iload hx hb d_Lw_law_762 (lv_at hl 1 rfl) ?_
  refine lv_iconst (v := 1) hx hb d_Lw_law_764 (by decide) ?_
  refine lv_iadd hx hb d_Lw_law_765 ?_
  refine lv_topi (fun z4 z4_e => ?_)
  obtain rfl : z4 = 1 := z4_e.trans (by decide)
  refine va_sld hx hb hX hbl hbA hS (by unfold vp_in; decide) d_Lw_law_766 ?_
  refine W.eq (g2 := F0 m 767 ls [.int (xs 1), .ref m0]) rfl ?_
  refine lv_aload_n hx hb d_Lw_law_767 rfl (lv_at hl 5 rfl) ?_
  refine lv_iload hx hb d_Lw_law_768 (lv_at hl 1 rfl) ?_
  refine lv_iconst (v := 2) hx hb d_Lw_law_770 (by decide) ?_
  refine lv_iadd hx hb d_Lw_law_771 ?_
  refine lv_topi (fun z5 z5_e => ?_)
  obtain rfl : z5 = 2 := z5_e.trans (by decide)
  refine va_sld hx hb hX hbl hbA hS (by unfold vp_in; decide) d_Lw_law_772 ?_
  refine W.eq (g2 := F0 m 773 ls [.int (xs 2), .int (xs 1), .ref m0]) rfl ?_
  refine lv_aload_n hx hb d_Lw_law_773 rfl (lv_at hl 5 rfl) ?_
  refine lv_iload hx hb d_Lw_law_774 (lv_at hl 1 rfl) ?_
  refine lv_iconst (v := 3) hx hb d_Lw_law_776 (by decide) ?_
  refine lv_iadd hx hb d_Lw_law_777 ?_
  refine lv_topi (fun z6 z6_e => ?_)
  obtain rfl : z6 = 3 := z6_e.trans (by decide)
  refine va_sld hx hb hX hbl hbA hS (by unfold vp_in; decide) d_Lw_law_778 ?_
  refine W.eq (g2 := F0 m 779 ls [.int (xs 3), .int (xs 2), .int (xs 1), .ref m0]) rfl ?_
  refine W.eq (g2 := F0 m 779 ls [.int (xs 3), .int (xs 2), .int (xs 1), .ref m0]) rfl ?_
  have hFm := va_free (wc := wMo m0 r cj) hDm hS hA [0, 1, 2, 3, 4] rfl
  refine va_callv (va_runV (C := "TapeSealerModel") (As := [.int (xs 1), .int (xs 2), .int (xs 3)]) (rest := []) ⟨hx, hb, hml, hown, hB⟩ (m_Mo_damage_b l dC dI H.size m0 r cj (xs 1) (xs 2) (xs 3) h) (cwV 3 hB (gy_goodV hw_1239 hw_1240 hw_1241 hw_75 k_Mo_damage) rfl rfl rfl (by decide +kernel) ⟨(Nat.le_of_ble_eq_true rfl), (Nat.le_of_ble_eq_true rfl)⟩) ⟨fun a U g mk q => by obtain ⟨q0, q1, qP, qK, qD⟩ := q; exact ⟨q0, q1, qP, va_K.moved (u := U) (U := U.calling g mk a) (Vm.Alike.refl U.vm) qK, qD⟩, va_recv hKm hPm rfl (q0 := 0) rfl, fun U hU hW => ⟨rfl, by rw [hU], by rw [hU]; exact hPm, va_K.moved hW.alike hKm, hDm.weaken (fun _ _ _ _ => trivial)⟩⟩ rfl rfl hl.1 rfl (lv_room (Nat.le_of_ble_eq_true rfl)) d_Lw_law_779 ⟨(Nat.le_of_ble_eq_true rfl), (Nat.le_of_ble_eq_true rfl)⟩) hS (fun q _ h => hFm q h) hFm (fun u t H1 locs ht hvm hw hB1 hz1 hk1 hS => ?_)
  obtain ⟨fs, hPt, hDt⟩ := hB1
  rw [ht] at hPt
  have hPo := wj_keep (wc := wMo m0 r cj) hPo hmo2 hk1
  generalize H1 = H at hPt hPo hS ⊢
  refine W.widen (k := 130) (n := 14040) (Nat.le_of_ble_eq_true rfl) (Nat.le_of_ble_eq_true rfl) ?_
  refine W.eq (g2 := F0 m 782 ls []) rfl ?_
  refine lv_aload_n hx hb d_Lw_law_782 rfl (lv_at hl 3 rfl) ?_
  refine W.eq (g2 := F0 m 783 ls [.ref m0]) rfl ?_
  refine px_go (va_runV (C := "TapeSealerModel") (As := []) (rest := []) ⟨hx, hb, hml, hown, hB⟩ (p_Mo_thrown l dC dI m0 1 fs) (cwV 0 hB (gy_goodV hw_1026 hw_1027 hw_1028 hw_75 k_Mo_thrown) rfl rfl rfl (by decide +kernel) ⟨(Nat.le_of_ble_eq_true rfl), (Nat.le_of_ble_eq_true rfl)⟩) ⟨fun a U g mk q => by obtain ⟨q0, qP, qK⟩ := q; exact ⟨q0, qP, va_K.moved (u := U) (U := U.calling g mk a) (Vm.Alike.refl U.vm) qK⟩, va_recv hK0 hPt rfl (q0 := 0) rfl, fun U hU hW => ⟨rfl, by rw [hU]; exact hPt, va_K.moved hW.alike hK0⟩⟩ rfl rfl hl.1 rfl (lv_room (Nat.le_of_ble_eq_true rfl)) d_Lw_law_783 ⟨(Nat.le_of_ble_eq_true rfl), (Nat.le_of_ble_eq_true rfl)⟩) ?_
  refine W.eq (g2 := F0 m 786 ls [.int 1]) rfl ?_
  refine lv_iload hx hb d_Lw_law_786 (lv_at hl 0 rfl) ?_
  refine lv_icmp_eq (tgt := 793) hx hb d_Lw_law_788 (by decide) (fun _ => ?_) (fun h9 => absurd (by decide) h9)
  refine lv_goto (tgt := 1073) hx hb d_Lw_law_793 (by decide) ?_
  exact law_exit l C1 (Nat.le_of_ble_eq_true rfl) (Nat.le_of_ble_eq_true rfl) (lv_sub hl [1, 5] rfl) hS
set_option maxHeartbeats 4000000 in
set_option maxRecDepth 100000 in
theorem lq_damage_m {p : Program} {e : Env} {s : State} {m : MethodId} {below : List Frame} {meth : Method} {c : Code} (l : Launch) (hl0 : l.stackTraces = false) {b : Nat} {xs : Nat → Int32} (C0 : lw_At p s m meth c b 4 xs) (dC : Nat → ClassId) (dI : Nat → Nat → Nat) (aS aT : Nat) (cS cT : Cell) (hJ : jx aS aT cS cT s) {x0 m0 o0 : Nat} {q r : Nat → Nat} {ci cj : Nat → ClassId} {cO : ClassId} {ls : Array Slot} {H : Heap} {locs : List Loc} (hl : lv_has ls 7 [(4, .int 0), (3, .ref o0), (2, .ref m0), (1, .ref x0), (0, .ref b)]) (hP : va_P (dC, dI) gx_cl (wJ x0 m0 o0 q r ci cj cO) H) (hD : va_D (lA s) (wJ x0 m0 o0 q r ci cj cO)) (hK : va_K (dC, dI) gx_cl (kJ ci cj cO) s) (hS : va_S (lA s) s.heap H locs) (h1 : ¬ (xs 1) < 0) (h2 : ¬ 44 ≤ (xs 1)) (h3 : ¬ (xs 2) < 0) (h4 : ¬ 64 ≤ (xs 2)) (h : (xs 3) < 0 ∨ 255 < (xs 3)) : W p l e room_1 s m #[Value.ref b] below meth c H locs 129 14034 (lw_Z below #[Value.ref b] s) (F0 m 736 ls []) := by
  have C1 := C0
  obtain ⟨hx, hb, hr, hml, hown0, hts, hX, hbl, hlocks, -⟩ := C0
  have hown : s.vm.findClass "TapeSealerLaw" = some m.cls := hown0
  have hB := law_B hts
  have hbA : ¬ lA s b := Nat.not_le.mpr hbl
  have haS := (Array.getElem?_eq_some_iff.mp hJ.2.2.2.2.2.1).1
  have haT := (Array.getElem?_eq_some_iff.mp hJ.2.2.2.2.2.2).1
  have hA : ∀ q : Nat, s.heap.size ≤ q → lA s q := fun q h => h
  have hPx : va_P (dC, dI) gx_cl (wTS x0 q ci) H := wj_l (wj_l hP)
  have hPm : va_P (dC, dI) gx_cl (wMo m0 r cj) H := wj_r (wj_l hP)
  have hPo : va_P (dC, dI) gx_cl (wO o0 cO) H := wj_r hP
  have hDx : va_D (lA s) (wTS x0 q ci) := wj_Dl (wj_Dl hD)
  have hDm : va_D (lA s) (wMo m0 r cj) := wj_Dr (wj_Dl hD)
  have hDo : va_D (lA s) (wO o0 cO) := wj_Dr hD
  have hxm := wj_ne (a := wTS x0 q ci) (b := wMo m0 r cj) (wj_Dl hD)
  have hmo := wj_bc (a := wTS x0 q ci) (b := wMo m0 r cj) (c := wO o0 cO) hD
  have hKx := hK.sub (tys' := kTS ci) [0, 1, 2, 3, 4] rfl
  have hKm := hK.sub (tys' := kMo cj) [5, 6, 7, 8] rfl
  have hKo := hK.sub (tys' := [(cO, .long)]) [9] rfl
  have hK0 := hK.sub (tys' := []) [] rfl
  have hmo2 := hmo
  refine lv_aload_n hx hb d_Lw_law_736 rfl (lv_at hl 3 rfl) ?_
  refine lv_aload_n hx hb d_Lw_law_737 rfl (lv_at hl 4 rfl) ?_
  refine lv_iload hx hb d_Lw_law_738 (lv_at hl 0 rfl) ?_
  refine lv_iconst (v := 1) hx hb d_Lw_law_740 (by decide) ?_
  refine lv_iadd hx hb d_Lw_law_741 ?_
  refine lv_topi (fun z1 z1_e => ?_)
  obtain rfl : z1 = 1 := z1_e.trans (by decide)
  refine va_sld hx hb hX hbl hbA hS (by unfold vp_in; decide) d_Lw_law_742 ?_
  refine W.eq (g2 := F0 m 743 ls [.int (xs 1), .ref x0]) rfl ?_
  refine lv_aload_n hx hb d_Lw_law_743 rfl (lv_at hl 4 rfl) ?_
  refine lv_iload hx hb d_Lw_law_744 (lv_at hl 0 rfl) ?_
  refine lv_iconst (v := 2) hx hb d_Lw_law_746 (by decide) ?_
  refine lv_iadd hx hb d_Lw_law_747 ?_
  refine lv_topi (fun z2 z2_e => ?_)
  obtain rfl : z2 = 2 := z2_e.trans (by decide)
  refine va_sld hx hb hX hbl hbA hS (by unfold vp_in; decide) d_Lw_law_748 ?_
  refine W.eq (g2 := F0 m 749 ls [.int (xs 2), .int (xs 1), .ref x0]) rfl ?_
  refine lv_aload_n hx hb d_Lw_law_749 rfl (lv_at hl 4 rfl) ?_
  refine lv_iload hx hb d_Lw_law_750 (lv_at hl 0 rfl) ?_
  refine lv_iconst (v := 3) hx hb d_Lw_law_752 (by decide) ?_
  refine lv_iadd hx hb d_Lw_law_753 ?_
  refine lv_topi (fun z3 z3_e => ?_)
  obtain rfl : z3 = 3 := z3_e.trans (by decide)
  refine va_sld hx hb hX hbl hbA hS (by unfold vp_in; decide) d_Lw_law_754 ?_
  refine W.eq (g2 := F0 m 755 ls [.int (xs 3), .int (xs 2), .int (xs 1), .ref x0]) rfl ?_
  refine W.eq (g2 := F0 m 755 ls [.int (xs 3), .int (xs 2), .int (xs 1), .ref x0]) rfl ?_
  refine hx_go (hx_runS (n := 4) (hh := [(0, 7, 10, 31)]) (As := [.ref x0, .int (xs 1), .int (xs 2), .int (xs 3)]) (rest := []) ⟨hx, hb, hml, hown, hB⟩ (x_damage_m l hl0 dC dI aS aT cS cT x0 q ci (xs 1) (xs 2) (xs 3) h1 h2 h3 h4 h) (gy_good k_Lw_damage) rfl rfl rfl ⟨(Nat.le_of_ble_eq_true rfl), (Nat.le_of_ble_eq_true rfl)⟩ (hB _ hw_65) (hB _ hw_835) (hB _ hw_834) (by decide +kernel) ⟨fun a U g mk q => by obtain ⟨q0, qP, qK, qJ⟩ := q; exact ⟨q0, qP, va_K.moved (u := U) (U := U.calling g mk a) (Vm.Alike.refl U.vm) qK, qJ.call g mk a⟩, fun U hU hW => ⟨rfl, by rw [hU]; exact hPx, va_K.moved hW.alike hKx, hJ.move hW (by rw [hU]; exact hS.2.1 aS haS (Nat.not_le.mpr haS)) (by rw [hU]; exact hS.2.1 aT haT (Nat.not_le.mpr haT))⟩⟩ rfl rfl hl.1 rfl (lv_room (Nat.le_of_ble_eq_true rfl)) d_Lw_law_755 ⟨(Nat.le_of_ble_eq_true rfl), (Nat.le_of_ble_eq_true rfl)⟩) (fun H1 hz hk => ?_)
  have hPm := wj_all hPm hk
  have hPo := wj_all hPo hk
  have hS := mx_S hS hz (wj_old hk)
  generalize H1 = H at hPm hPo hS ⊢
  refine W.widen (k := 130) (n := 14040) (Nat.le_of_ble_eq_true rfl) (Nat.le_of_ble_eq_true rfl) ?_
  refine W.eq (g2 := F0 m 758 ls [.int 1]) rfl ?_
  refine lv_istore hx hb d_Lw_law_758 hl (by decide) rfl (fun ls hl => ?_)
  have hl : lv_has ls 7 [(5, .int 1), (4, .int 0), (3, .ref o0), (2, .ref m0), (1, .ref x0), (0, .ref b)] := hl
  refine lv_aload_n hx hb d_Lw_law_760 rfl (lv_at hl 3 rfl) ?_
  refine lv_aload_n hx hb d_Lw_law_761 rfl (lv_at hl 5 rfl) ?_
  refine lv_iload hx hb d_Lw_law_762 (lv_at hl 1 rfl) ?_
  refine lv_iconst (v := 1) hx hb d_Lw_law_764 (by decide) ?_
  refine lv_iadd hx hb d_Lw_law_765 ?_
  refine lv_topi (fun z4 z4_e => ?_)
  obtain rfl : z4 = 1 := z4_e.trans (by decide)
  refine va_sld hx hb hX hbl hbA hS (by unfold vp_in; decide) d_Lw_law_766 ?_
  refine W.eq (g2 := F0 m 767 ls [.int (xs 1), .ref m0]) rfl ?_
  refine lv_aload_n hx hb d_Lw_law_767 rfl (lv_at hl 5 rfl) ?_
  refine lv_iload hx hb d_Lw_law_768 (lv_at hl 1 rfl) ?_
  refine lv_iconst (v := 2) hx hb d_Lw_law_770 (by decide) ?_
  refine lv_iadd hx hb d_Lw_law_771 ?_
  refine lv_topi (fun z5 z5_e => ?_)
  obtain rfl : z5 = 2 := z5_e.trans (by decide)
  refine va_sld hx hb hX hbl hbA hS (by unfold vp_in; decide) d_Lw_law_772 ?_
  refine W.eq (g2 := F0 m 773 ls [.int (xs 2), .int (xs 1), .ref m0]) rfl ?_
  refine lv_aload_n hx hb d_Lw_law_773 rfl (lv_at hl 5 rfl) ?_
  refine lv_iload hx hb d_Lw_law_774 (lv_at hl 1 rfl) ?_
  refine lv_iconst (v := 3) hx hb d_Lw_law_776 (by decide) ?_
  refine lv_iadd hx hb d_Lw_law_777 ?_
  refine lv_topi (fun z6 z6_e => ?_)
  obtain rfl : z6 = 3 := z6_e.trans (by decide)
  refine va_sld hx hb hX hbl hbA hS (by unfold vp_in; decide) d_Lw_law_778 ?_
  refine W.eq (g2 := F0 m 779 ls [.int (xs 3), .int (xs 2), .int (xs 1), .ref m0]) rfl ?_
  refine W.eq (g2 := F0 m 779 ls [.int (xs 3), .int (xs 2), .int (xs 1), .ref m0]) rfl ?_
  have hFm := va_free (wc := wMo m0 r cj) hDm hS hA [0, 1, 2, 3, 4] rfl
  refine va_callv (va_runV (C := "TapeSealerModel") (As := [.int (xs 1), .int (xs 2), .int (xs 3)]) (rest := []) ⟨hx, hb, hml, hown, hB⟩ (m_Mo_damage_m l dC dI H.size m0 r cj (xs 1) (xs 2) (xs 3) h1 h2 h3 h4 h) (cwV 3 hB (gy_goodV hw_1239 hw_1240 hw_1241 hw_75 k_Mo_damage) rfl rfl rfl (by decide +kernel) ⟨(Nat.le_of_ble_eq_true rfl), (Nat.le_of_ble_eq_true rfl)⟩) ⟨fun a U g mk q => by obtain ⟨q0, q1, qP, qK, qD⟩ := q; exact ⟨q0, q1, qP, va_K.moved (u := U) (U := U.calling g mk a) (Vm.Alike.refl U.vm) qK, qD⟩, va_recv hKm hPm rfl (q0 := 0) rfl, fun U hU hW => ⟨rfl, by rw [hU], by rw [hU]; exact hPm, va_K.moved hW.alike hKm, hDm.weaken (fun _ _ _ _ => trivial)⟩⟩ rfl rfl hl.1 rfl (lv_room (Nat.le_of_ble_eq_true rfl)) d_Lw_law_779 ⟨(Nat.le_of_ble_eq_true rfl), (Nat.le_of_ble_eq_true rfl)⟩) hS (fun q _ h => hFm q h) hFm (fun u t H1 locs ht hvm hw hB1 hz1 hk1 hS => ?_)
  obtain ⟨fs, hPt, hDt⟩ := hB1
  rw [ht] at hPt
  have hPo := wj_keep (wc := wMo m0 r cj) hPo hmo2 hk1
  generalize H1 = H at hPt hPo hS ⊢
  refine W.widen (k := 130) (n := 14040) (Nat.le_of_ble_eq_true rfl) (Nat.le_of_ble_eq_true rfl) ?_
  refine W.eq (g2 := F0 m 782 ls []) rfl ?_
  refine lv_aload_n hx hb d_Lw_law_782 rfl (lv_at hl 3 rfl) ?_
  refine W.eq (g2 := F0 m 783 ls [.ref m0]) rfl ?_
  refine px_go (va_runV (C := "TapeSealerModel") (As := []) (rest := []) ⟨hx, hb, hml, hown, hB⟩ (p_Mo_thrown l dC dI m0 1 fs) (cwV 0 hB (gy_goodV hw_1026 hw_1027 hw_1028 hw_75 k_Mo_thrown) rfl rfl rfl (by decide +kernel) ⟨(Nat.le_of_ble_eq_true rfl), (Nat.le_of_ble_eq_true rfl)⟩) ⟨fun a U g mk q => by obtain ⟨q0, qP, qK⟩ := q; exact ⟨q0, qP, va_K.moved (u := U) (U := U.calling g mk a) (Vm.Alike.refl U.vm) qK⟩, va_recv hK0 hPt rfl (q0 := 0) rfl, fun U hU hW => ⟨rfl, by rw [hU]; exact hPt, va_K.moved hW.alike hK0⟩⟩ rfl rfl hl.1 rfl (lv_room (Nat.le_of_ble_eq_true rfl)) d_Lw_law_783 ⟨(Nat.le_of_ble_eq_true rfl), (Nat.le_of_ble_eq_true rfl)⟩) ?_
  refine W.eq (g2 := F0 m 786 ls [.int 1]) rfl ?_
  refine lv_iload hx hb d_Lw_law_786 (lv_at hl 0 rfl) ?_
  refine lv_icmp_eq (tgt := 793) hx hb d_Lw_law_788 (by decide) (fun _ => ?_) (fun h9 => absurd (by decide) h9)
  refine lv_goto (tgt := 1073) hx hb d_Lw_law_793 (by decide) ?_
  exact law_exit l C1 (Nat.le_of_ble_eq_true rfl) (Nat.le_of_ble_eq_true rfl) (lv_sub hl [1, 5] rfl) hS
set_option maxHeartbeats 4000000 in
set_option maxRecDepth 100000 in
theorem lq_damage1 {p : Program} {e : Env} {s : State} {m : MethodId} {below : List Frame} {meth : Method} {c : Code} (l : Launch) (hl0 : l.stackTraces = false) {b : Nat} {xs : Nat → Int32} (C0 : lw_At p s m meth c b 4 xs) (dC : Nat → ClassId) (dI : Nat → Nat → Nat) (aS aT : Nat) (cS cT : Cell) (hJ : jx aS aT cS cT s) {x0 m0 o0 : Nat} {q r : Nat → Nat} {ci cj : Nat → ClassId} {cO : ClassId} {ls : Array Slot} {H : Heap} {locs : List Loc} (hl : lv_has ls 7 [(4, .int 0), (3, .ref o0), (2, .ref m0), (1, .ref x0), (0, .ref b)]) (hP : va_P (dC, dI) gx_cl (wJ x0 m0 o0 q r ci cj cO) H) (hD : va_D (lA s) (wJ x0 m0 o0 q r ci cj cO)) (hK : va_K (dC, dI) gx_cl (kJ ci cj cO) s) (hS : va_S (lA s) s.heap H locs) (h1 : ¬ (xs 1) < 0) (h2 : ¬ 44 ≤ (xs 1)) (h3 : ¬ (xs 2) < 0) (h4 : ¬ 64 ≤ (xs 2)) (h5 : ¬ (xs 3) < 0) (h6 : (xs 3) ≤ 255) : W p l e room_1 s m #[Value.ref b] below meth c H locs 129 14034 (lw_Z below #[Value.ref b] s) (F0 m 736 ls []) := by
  have C1 := C0
  obtain ⟨hx, hb, hr, hml, hown0, hts, hX, hbl, hlocks, -⟩ := C0
  have hown : s.vm.findClass "TapeSealerLaw" = some m.cls := hown0
  have hB := law_B hts
  have hbA : ¬ lA s b := Nat.not_le.mpr hbl
  have haS := (Array.getElem?_eq_some_iff.mp hJ.2.2.2.2.2.1).1
  have haT := (Array.getElem?_eq_some_iff.mp hJ.2.2.2.2.2.2).1
  have hA : ∀ q : Nat, s.heap.size ≤ q → lA s q := fun q h => h
  have hPx : va_P (dC, dI) gx_cl (wTS x0 q ci) H := wj_l (wj_l hP)
  have hPm : va_P (dC, dI) gx_cl (wMo m0 r cj) H := wj_r (wj_l hP)
  have hPo : va_P (dC, dI) gx_cl (wO o0 cO) H := wj_r hP
  have hDx : va_D (lA s) (wTS x0 q ci) := wj_Dl (wj_Dl hD)
  have hDm : va_D (lA s) (wMo m0 r cj) := wj_Dr (wj_Dl hD)
  have hDo : va_D (lA s) (wO o0 cO) := wj_Dr hD
  have hxm := wj_ne (a := wTS x0 q ci) (b := wMo m0 r cj) (wj_Dl hD)
  have hmo := wj_bc (a := wTS x0 q ci) (b := wMo m0 r cj) (c := wO o0 cO) hD
  have hKx := hK.sub (tys' := kTS ci) [0, 1, 2, 3, 4] rfl
  have hKm := hK.sub (tys' := kMo cj) [5, 6, 7, 8] rfl
  have hKo := hK.sub (tys' := [(cO, .long)]) [9] rfl
  have hK0 := hK.sub (tys' := []) [] rfl
  have hmo2 := hmo
  refine lv_aload_n hx hb d_Lw_law_736 rfl (lv_at hl 3 rfl) ?_
  refine lv_aload_n hx hb d_Lw_law_737 rfl (lv_at hl 4 rfl) ?_
  refine lv_iload hx hb d_Lw_law_738 (lv_at hl 0 rfl) ?_
  refine lv_iconst (v := 1) hx hb d_Lw_law_740 (by decide) ?_
  refine lv_iadd hx hb d_Lw_law_741 ?_
  refine lv_topi (fun z1 z1_e => ?_)
  obtain rfl : z1 = 1 := z1_e.trans (by decide)
  refine va_sld hx hb hX hbl hbA hS (by unfold vp_in; decide) d_Lw_law_742 ?_
  refine W.eq (g2 := F0 m 743 ls [.int (xs 1), .ref x0]) rfl ?_
  refine lv_aload_n hx hb d_Lw_law_743 rfl (lv_at hl 4 rfl) ?_
  refine lv_iload hx hb d_Lw_law_744 (lv_at hl 0 rfl) ?_
  refine lv_iconst (v := 2) hx hb d_Lw_law_746 (by decide) ?_
  refine lv_iadd hx hb d_Lw_law_747 ?_
  refine lv_topi (fun z2 z2_e => ?_)
  obtain rfl : z2 = 2 := z2_e.trans (by decide)
  refine va_sld hx hb hX hbl hbA hS (by unfold vp_in; decide) d_Lw_law_748 ?_
  refine W.eq (g2 := F0 m 749 ls [.int (xs 2), .int (xs 1), .ref x0]) rfl ?_
  refine lv_aload_n hx hb d_Lw_law_749 rfl (lv_at hl 4 rfl) ?_
  refine lv_iload hx hb d_Lw_law_750 (lv_at hl 0 rfl) ?_
  refine lv_iconst (v := 3) hx hb d_Lw_law_752 (by decide) ?_
  refine lv_iadd hx hb d_Lw_law_753 ?_
  refine lv_topi (fun z3 z3_e => ?_)
  obtain rfl : z3 = 3 := z3_e.trans (by decide)
  refine va_sld hx hb hX hbl hbA hS (by unfold vp_in; decide) d_Lw_law_754 ?_
  refine W.eq (g2 := F0 m 755 ls [.int (xs 3), .int (xs 2), .int (xs 1), .ref x0]) rfl ?_
  refine W.eq (g2 := F0 m 755 ls [.int (xs 3), .int (xs 2), .int (xs 1), .ref x0]) rfl ?_
  have hPd : va_P (dC, dI) gx_cl (wd3 x0 q ci (Int32.toNatClampNeg (xs 1))) H := wd3_P (gx_lt44 h1 h2) hPx
  have hDd : va_D (lA s) (wd3 x0 q ci (Int32.toNatClampNeg (xs 1))) := wd3_D (gx_lt44 h1 h2) hDx
  have hFd := va_free (wc := (wd3 x0 q ci (Int32.toNatClampNeg (xs 1)))) hDd hS hA [0, 1, 2, 3] rfl
  refine va_calli (hx_runS (n := 4) (hh := [(0, 7, 10, 31)]) (As := [.ref x0, .int (xs 1), .int (xs 2), .int (xs 3)]) (rest := []) ⟨hx, hb, hml, hown, hB⟩ (x_damage1 l dC dI H.size x0 q ci (xs 1) (xs 2) (xs 3) h1 h2 h3 h4 h5 h6) (gy_good k_Lw_damage) rfl rfl rfl ⟨(Nat.le_of_ble_eq_true rfl), (Nat.le_of_ble_eq_true rfl)⟩ (hB _ hw_65) (hB _ hw_835) (hB _ hw_834) (by decide +kernel) ⟨fun a U g mk q => by obtain ⟨q0, q1, qP, qK, qD⟩ := q; exact ⟨q0, q1, qP, va_K.moved (u := U) (U := U.calling g mk a) (Vm.Alike.refl U.vm) qK, qD⟩, fun U hU hW => ⟨rfl, by rw [hU], by rw [hU]; exact hPd, va_K.moved hW.alike hKx, hDd.weaken (fun _ _ _ _ => trivial)⟩⟩ rfl rfl hl.1 rfl (lv_room (Nat.le_of_ble_eq_true rfl)) d_Lw_law_755 ⟨(Nat.le_of_ble_eq_true rfl), (Nat.le_of_ble_eq_true rfl)⟩) hS (fun q _ h => hFd q h) hFd (fun r9 u t H1 locs ht hvm hw hB1 hz1 hk1 hS => ?_)
  have hw : r9 = 0 := hw
  subst hw
  have hPm := wj_keep (wc := (wd3 x0 q ci (Int32.toNatClampNeg (xs 1)))) hPm (wj_sub hxm _ (wd3_in (gx_lt44 h1 h2))) hk1
  have hS9 := hS
  generalize H1 = H at hPm hS ⊢
  clear hPo hS9
  have hPo : va_P (dC, dI) gx_cl [] H := gx_P0
  have hmo2 : ∀ (i j : Nat) (p q : Nat × va_E), (wMo m0 r cj)[i]? = some p → ([] : va_W)[j]? = some q → p.1 ≠ q.1 := fun _ _ _ _ _ h => by cases h
  refine W.widen (k := 129) (n := 14034) (Nat.le_of_ble_eq_true rfl) (Nat.le_of_ble_eq_true rfl) ?_
  refine W.eq (g2 := F0 m 758 ls [.int 0]) rfl ?_
  refine lv_istore hx hb d_Lw_law_758 hl (by decide) rfl (fun ls hl => ?_)
  have hl : lv_has ls 7 [(5, .int 0), (4, .int 0), (3, .ref o0), (2, .ref m0), (1, .ref x0), (0, .ref b)] := hl
  refine lv_aload_n hx hb d_Lw_law_760 rfl (lv_at hl 3 rfl) ?_
  refine lv_aload_n hx hb d_Lw_law_761 rfl (lv_at hl 5 rfl) ?_
  refine lv_iload hx hb d_Lw_law_762 (lv_at hl 1 rfl) ?_
  refine lv_iconst (v := 1) hx hb d_Lw_law_764 (by decide) ?_
  refine lv_iadd hx hb d_Lw_law_765 ?_
  refine lv_topi (fun z4 z4_e => ?_)
  obtain rfl : z4 = 1 := z4_e.trans (by decide)
  refine va_sld hx hb hX hbl hbA hS (by unfold vp_in; decide) d_Lw_law_766 ?_
  refine W.eq (g2 := F0 m 767 ls [.int (xs 1), .ref m0]) rfl ?_
  refine lv_aload_n hx hb d_Lw_law_767 rfl (lv_at hl 5 rfl) ?_
  refine lv_iload hx hb d_Lw_law_768 (lv_at hl 1 rfl) ?_
  refine lv_iconst (v := 2) hx hb d_Lw_law_770 (by decide) ?_
  refine lv_iadd hx hb d_Lw_law_771 ?_
  refine lv_topi (fun z5 z5_e => ?_)
  obtain rfl : z5 = 2 := z5_e.trans (by decide)
  refine va_sld hx hb hX hbl hbA hS (by unfold vp_in; decide) d_Lw_law_772 ?_
  refine W.eq (g2 := F0 m 773 ls [.int (xs 2), .int (xs 1), .ref m0]) rfl ?_
  refine lv_aload_n hx hb d_Lw_law_773 rfl (lv_at hl 5 rfl) ?_
  refine lv_iload hx hb d_Lw_law_774 (lv_at hl 1 rfl) ?_
  refine lv_iconst (v := 3) hx hb d_Lw_law_776 (by decide) ?_
  refine lv_iadd hx hb d_Lw_law_777 ?_
  refine lv_topi (fun z6 z6_e => ?_)
  obtain rfl : z6 = 3 := z6_e.trans (by decide)
  refine va_sld hx hb hX hbl hbA hS (by unfold vp_in; decide) d_Lw_law_778 ?_
  refine W.eq (g2 := F0 m 779 ls [.int (xs 3), .int (xs 2), .int (xs 1), .ref m0]) rfl ?_
  refine W.eq (g2 := F0 m 779 ls [.int (xs 3), .int (xs 2), .int (xs 1), .ref m0]) rfl ?_
  have hFm := va_free (wc := wMo m0 r cj) hDm hS hA [0, 1, 2, 3, 4] rfl
  refine va_callv (va_runV (C := "TapeSealerModel") (As := [.int (xs 1), .int (xs 2), .int (xs 3)]) (rest := []) ⟨hx, hb, hml, hown, hB⟩ (m_Mo_damage1 l dC dI H.size m0 r cj (xs 1) (xs 2) (xs 3) h1 h2 h3 h4 h5 h6) (cwV 3 hB (gy_goodV hw_1239 hw_1240 hw_1241 hw_75 k_Mo_damage) rfl rfl rfl (by decide +kernel) ⟨(Nat.le_of_ble_eq_true rfl), (Nat.le_of_ble_eq_true rfl)⟩) ⟨fun a U g mk q => by obtain ⟨q0, q1, qP, qK, qD⟩ := q; exact ⟨q0, q1, qP, va_K.moved (u := U) (U := U.calling g mk a) (Vm.Alike.refl U.vm) qK, qD⟩, va_recv hKm hPm rfl (q0 := 0) rfl, fun U hU hW => ⟨rfl, by rw [hU], by rw [hU]; exact hPm, va_K.moved hW.alike hKm, hDm.weaken (fun _ _ _ _ => trivial)⟩⟩ rfl rfl hl.1 rfl (lv_room (Nat.le_of_ble_eq_true rfl)) d_Lw_law_779 ⟨(Nat.le_of_ble_eq_true rfl), (Nat.le_of_ble_eq_true rfl)⟩) hS (fun q _ h => hFm q h) hFm (fun u t H1 locs ht hvm hw hB1 hz1 hk1 hS => ?_)
  obtain ⟨fs, hPt, hDt⟩ := hB1
  rw [ht] at hPt
  have hPo := wj_keep (wc := wMo m0 r cj) hPo hmo2 hk1
  generalize H1 = H at hPt hPo hS ⊢
  refine W.widen (k := 129) (n := 14034) (Nat.le_of_ble_eq_true rfl) (Nat.le_of_ble_eq_true rfl) ?_
  refine W.eq (g2 := F0 m 782 ls []) rfl ?_
  refine lv_aload_n hx hb d_Lw_law_782 rfl (lv_at hl 3 rfl) ?_
  refine W.eq (g2 := F0 m 783 ls [.ref m0]) rfl ?_
  refine px_go (va_runV (C := "TapeSealerModel") (As := []) (rest := []) ⟨hx, hb, hml, hown, hB⟩ (p_Mo_thrown l dC dI m0 0 fs) (cwV 0 hB (gy_goodV hw_1026 hw_1027 hw_1028 hw_75 k_Mo_thrown) rfl rfl rfl (by decide +kernel) ⟨(Nat.le_of_ble_eq_true rfl), (Nat.le_of_ble_eq_true rfl)⟩) ⟨fun a U g mk q => by obtain ⟨q0, qP, qK⟩ := q; exact ⟨q0, qP, va_K.moved (u := U) (U := U.calling g mk a) (Vm.Alike.refl U.vm) qK⟩, va_recv hK0 hPt rfl (q0 := 0) rfl, fun U hU hW => ⟨rfl, by rw [hU]; exact hPt, va_K.moved hW.alike hK0⟩⟩ rfl rfl hl.1 rfl (lv_room (Nat.le_of_ble_eq_true rfl)) d_Lw_law_783 ⟨(Nat.le_of_ble_eq_true rfl), (Nat.le_of_ble_eq_true rfl)⟩) ?_
  refine W.eq (g2 := F0 m 786 ls [.int 0]) rfl ?_
  refine lv_iload hx hb d_Lw_law_786 (lv_at hl 0 rfl) ?_
  refine lv_icmp_eq (tgt := 793) hx hb d_Lw_law_788 (by decide) (fun _ => ?_) (fun h9 => absurd (by decide) h9)
  refine lv_goto (tgt := 1073) hx hb d_Lw_law_793 (by decide) ?_
  exact law_exit l C1 (Nat.le_of_ble_eq_true rfl) (Nat.le_of_ble_eq_true rfl) (lv_sub hl [1, 5] rfl) hS
set_option maxHeartbeats 4000000 in
set_option maxRecDepth 100000 in
theorem lq_spoil0 {p : Program} {e : Env} {s : State} {m : MethodId} {below : List Frame} {meth : Method} {c : Code} (l : Launch) (hl0 : l.stackTraces = false) {b : Nat} {xs : Nat → Int32} (C0 : lw_At p s m meth c b 4 xs) (dC : Nat → ClassId) (dI : Nat → Nat → Nat) (aS aT : Nat) (cS cT : Cell) (hJ : jx aS aT cS cT s) {x0 m0 o0 : Nat} {q r : Nat → Nat} {ci cj : Nat → ClassId} {cO : ClassId} {ls : Array Slot} {H : Heap} {locs : List Loc} (hl : lv_has ls 7 [(4, .int 0), (3, .ref o0), (2, .ref m0), (1, .ref x0), (0, .ref b)]) (hP : va_P (dC, dI) gx_cl (wJ x0 m0 o0 q r ci cj cO) H) (hD : va_D (lA s) (wJ x0 m0 o0 q r ci cj cO)) (hK : va_K (dC, dI) gx_cl (kJ ci cj cO) s) (hS : va_S (lA s) s.heap H locs) (h : (xs 1) < 0 ∨ 44 ≤ (xs 1)) : W p l e room_1 s m #[Value.ref b] below meth c H locs 129 14034 (lw_Z below #[Value.ref b] s) (F0 m 796 ls []) := by
  have C1 := C0
  obtain ⟨hx, hb, hr, hml, hown0, hts, hX, hbl, hlocks, -⟩ := C0
  have hown : s.vm.findClass "TapeSealerLaw" = some m.cls := hown0
  have hB := law_B hts
  have hbA : ¬ lA s b := Nat.not_le.mpr hbl
  have haS := (Array.getElem?_eq_some_iff.mp hJ.2.2.2.2.2.1).1
  have haT := (Array.getElem?_eq_some_iff.mp hJ.2.2.2.2.2.2).1
  have hA : ∀ q : Nat, s.heap.size ≤ q → lA s q := fun q h => h
  have hPx : va_P (dC, dI) gx_cl (wTS x0 q ci) H := wj_l (wj_l hP)
  have hPm : va_P (dC, dI) gx_cl (wMo m0 r cj) H := wj_r (wj_l hP)
  have hPo : va_P (dC, dI) gx_cl (wO o0 cO) H := wj_r hP
  have hDx : va_D (lA s) (wTS x0 q ci) := wj_Dl (wj_Dl hD)
  have hDm : va_D (lA s) (wMo m0 r cj) := wj_Dr (wj_Dl hD)
  have hDo : va_D (lA s) (wO o0 cO) := wj_Dr hD
  have hxm := wj_ne (a := wTS x0 q ci) (b := wMo m0 r cj) (wj_Dl hD)
  have hmo := wj_bc (a := wTS x0 q ci) (b := wMo m0 r cj) (c := wO o0 cO) hD
  have hKx := hK.sub (tys' := kTS ci) [0, 1, 2, 3, 4] rfl
  have hKm := hK.sub (tys' := kMo cj) [5, 6, 7, 8] rfl
  have hKo := hK.sub (tys' := [(cO, .long)]) [9] rfl
  have hK0 := hK.sub (tys' := []) [] rfl
  have hmo2 := hmo
  refine lv_aload_n hx hb d_Lw_law_796 rfl (lv_at hl 3 rfl) ?_
  refine lv_aload_n hx hb d_Lw_law_797 rfl (lv_at hl 4 rfl) ?_
  refine lv_iload hx hb d_Lw_law_798 (lv_at hl 0 rfl) ?_
  refine lv_iconst (v := 1) hx hb d_Lw_law_800 (by decide) ?_
  refine lv_iadd hx hb d_Lw_law_801 ?_
  refine lv_topi (fun z1 z1_e => ?_)
  obtain rfl : z1 = 1 := z1_e.trans (by decide)
  refine va_sld hx hb hX hbl hbA hS (by unfold vp_in; decide) d_Lw_law_802 ?_
  refine W.eq (g2 := F0 m 803 ls [.int (xs 1), .ref x0]) rfl ?_
  refine W.eq (g2 := F0 m 803 ls [.int (xs 1), .ref x0]) rfl ?_
  refine hx_go (hx_runS (n := 2) (hh := [(0, 5, 8, 31)]) (As := [.ref x0, .int (xs 1)]) (rest := []) ⟨hx, hb, hml, hown, hB⟩ (x_spoil l hl0 dC dI aS aT cS cT x0 q ci (xs 1) h) (gy_good k_Lw_spoil) rfl rfl rfl ⟨(Nat.le_of_ble_eq_true rfl), (Nat.le_of_ble_eq_true rfl)⟩ (hB _ hw_65) (hB _ hw_846) (hB _ hw_845) (by decide +kernel) ⟨fun a U g mk q => by obtain ⟨q0, qP, qK, qJ⟩ := q; exact ⟨q0, qP, va_K.moved (u := U) (U := U.calling g mk a) (Vm.Alike.refl U.vm) qK, qJ.call g mk a⟩, fun U hU hW => ⟨rfl, by rw [hU]; exact hPx, va_K.moved hW.alike hKx, hJ.move hW (by rw [hU]; exact hS.2.1 aS haS (Nat.not_le.mpr haS)) (by rw [hU]; exact hS.2.1 aT haT (Nat.not_le.mpr haT))⟩⟩ rfl rfl hl.1 rfl (lv_room (Nat.le_of_ble_eq_true rfl)) d_Lw_law_803 ⟨(Nat.le_of_ble_eq_true rfl), (Nat.le_of_ble_eq_true rfl)⟩) (fun H1 hz hk => ?_)
  have hPm := wj_all hPm hk
  have hPo := wj_all hPo hk
  have hS := mx_S hS hz (wj_old hk)
  generalize H1 = H at hPm hPo hS ⊢
  refine W.widen (k := 130) (n := 14040) (Nat.le_of_ble_eq_true rfl) (Nat.le_of_ble_eq_true rfl) ?_
  refine W.eq (g2 := F0 m 806 ls [.int 1]) rfl ?_
  refine lv_istore hx hb d_Lw_law_806 hl (by decide) rfl (fun ls hl => ?_)
  have hl : lv_has ls 7 [(5, .int 1), (4, .int 0), (3, .ref o0), (2, .ref m0), (1, .ref x0), (0, .ref b)] := hl
  refine lv_aload_n hx hb d_Lw_law_808 rfl (lv_at hl 3 rfl) ?_
  refine lv_aload_n hx hb d_Lw_law_809 rfl (lv_at hl 5 rfl) ?_
  refine lv_iload hx hb d_Lw_law_810 (lv_at hl 1 rfl) ?_
  refine lv_iconst (v := 1) hx hb d_Lw_law_812 (by decide) ?_
  refine lv_iadd hx hb d_Lw_law_813 ?_
  refine lv_topi (fun z2 z2_e => ?_)
  obtain rfl : z2 = 1 := z2_e.trans (by decide)
  refine va_sld hx hb hX hbl hbA hS (by unfold vp_in; decide) d_Lw_law_814 ?_
  refine W.eq (g2 := F0 m 815 ls [.int (xs 1), .ref m0]) rfl ?_
  refine W.eq (g2 := F0 m 815 ls [.int (xs 1), .ref m0]) rfl ?_
  have hFm := va_free (wc := wMo m0 r cj) hDm hS hA [0, 1, 2, 3, 4] rfl
  refine va_callv (va_runV (C := "TapeSealerModel") (As := [.int (xs 1)]) (rest := []) ⟨hx, hb, hml, hown, hB⟩ (m_Mo_spoil0 l dC dI H.size m0 r cj (xs 1) h) (cwV 1 hB (gy_goodV hw_1246 hw_1247 hw_1248 hw_75 k_Mo_spoil) rfl rfl rfl (by decide +kernel) ⟨(Nat.le_of_ble_eq_true rfl), (Nat.le_of_ble_eq_true rfl)⟩) ⟨fun a U g mk q => by obtain ⟨q0, q1, qP, qK, qD⟩ := q; exact ⟨q0, q1, qP, va_K.moved (u := U) (U := U.calling g mk a) (Vm.Alike.refl U.vm) qK, qD⟩, va_recv hKm hPm rfl (q0 := 0) rfl, fun U hU hW => ⟨rfl, by rw [hU], by rw [hU]; exact hPm, va_K.moved hW.alike hKm, hDm.weaken (fun _ _ _ _ => trivial)⟩⟩ rfl rfl hl.1 rfl (lv_room (Nat.le_of_ble_eq_true rfl)) d_Lw_law_815 ⟨(Nat.le_of_ble_eq_true rfl), (Nat.le_of_ble_eq_true rfl)⟩) hS (fun q _ h => hFm q h) hFm (fun u t H1 locs ht hvm hw hB1 hz1 hk1 hS => ?_)
  obtain ⟨fs, hPt, hDt⟩ := hB1
  rw [ht] at hPt
  have hPo := wj_keep (wc := wMo m0 r cj) hPo hmo2 hk1
  generalize H1 = H at hPt hPo hS ⊢
  refine W.widen (k := 130) (n := 14040) (Nat.le_of_ble_eq_true rfl) (Nat.le_of_ble_eq_true rfl) ?_
  refine W.eq (g2 := F0 m 818 ls []) rfl ?_
  refine lv_aload_n hx hb d_Lw_law_818 rfl (lv_at hl 3 rfl) ?_
  refine W.eq (g2 := F0 m 819 ls [.ref m0]) rfl ?_
  refine px_go (va_runV (C := "TapeSealerModel") (As := []) (rest := []) ⟨hx, hb, hml, hown, hB⟩ (p_Mo_thrown l dC dI m0 1 fs) (cwV 0 hB (gy_goodV hw_1026 hw_1027 hw_1028 hw_75 k_Mo_thrown) rfl rfl rfl (by decide +kernel) ⟨(Nat.le_of_ble_eq_true rfl), (Nat.le_of_ble_eq_true rfl)⟩) ⟨fun a U g mk q => by obtain ⟨q0, qP, qK⟩ := q; exact ⟨q0, qP, va_K.moved (u := U) (U := U.calling g mk a) (Vm.Alike.refl U.vm) qK⟩, va_recv hK0 hPt rfl (q0 := 0) rfl, fun U hU hW => ⟨rfl, by rw [hU]; exact hPt, va_K.moved hW.alike hK0⟩⟩ rfl rfl hl.1 rfl (lv_room (Nat.le_of_ble_eq_true rfl)) d_Lw_law_819 ⟨(Nat.le_of_ble_eq_true rfl), (Nat.le_of_ble_eq_true rfl)⟩) ?_
  refine W.eq (g2 := F0 m 822 ls [.int 1]) rfl ?_
  refine lv_iload hx hb d_Lw_law_822 (lv_at hl 0 rfl) ?_
  refine lv_icmp_eq (tgt := 829) hx hb d_Lw_law_824 (by decide) (fun _ => ?_) (fun h9 => absurd (by decide) h9)
  refine lv_goto (tgt := 1073) hx hb d_Lw_law_829 (by decide) ?_
  exact law_exit l C1 (Nat.le_of_ble_eq_true rfl) (Nat.le_of_ble_eq_true rfl) (lv_sub hl [1, 5] rfl) hS
set_option maxHeartbeats 4000000 in
set_option maxRecDepth 100000 in
theorem lq_spoil1 {p : Program} {e : Env} {s : State} {m : MethodId} {below : List Frame} {meth : Method} {c : Code} (l : Launch) (hl0 : l.stackTraces = false) {b : Nat} {xs : Nat → Int32} (C0 : lw_At p s m meth c b 4 xs) (dC : Nat → ClassId) (dI : Nat → Nat → Nat) (aS aT : Nat) (cS cT : Cell) (hJ : jx aS aT cS cT s) {x0 m0 o0 : Nat} {q r : Nat → Nat} {ci cj : Nat → ClassId} {cO : ClassId} {ls : Array Slot} {H : Heap} {locs : List Loc} (hl : lv_has ls 7 [(4, .int 0), (3, .ref o0), (2, .ref m0), (1, .ref x0), (0, .ref b)]) (hP : va_P (dC, dI) gx_cl (wJ x0 m0 o0 q r ci cj cO) H) (hD : va_D (lA s) (wJ x0 m0 o0 q r ci cj cO)) (hK : va_K (dC, dI) gx_cl (kJ ci cj cO) s) (hS : va_S (lA s) s.heap H locs) (h1 : ¬ (xs 1) < 0) (h2 : ¬ 44 ≤ (xs 1)) : W p l e room_1 s m #[Value.ref b] below meth c H locs 129 14034 (lw_Z below #[Value.ref b] s) (F0 m 796 ls []) := by
  have C1 := C0
  obtain ⟨hx, hb, hr, hml, hown0, hts, hX, hbl, hlocks, -⟩ := C0
  have hown : s.vm.findClass "TapeSealerLaw" = some m.cls := hown0
  have hB := law_B hts
  have hbA : ¬ lA s b := Nat.not_le.mpr hbl
  have haS := (Array.getElem?_eq_some_iff.mp hJ.2.2.2.2.2.1).1
  have haT := (Array.getElem?_eq_some_iff.mp hJ.2.2.2.2.2.2).1
  have hA : ∀ q : Nat, s.heap.size ≤ q → lA s q := fun q h => h
  have hPx : va_P (dC, dI) gx_cl (wTS x0 q ci) H := wj_l (wj_l hP)
  have hPm : va_P (dC, dI) gx_cl (wMo m0 r cj) H := wj_r (wj_l hP)
  have hPo : va_P (dC, dI) gx_cl (wO o0 cO) H := wj_r hP
  have hDx : va_D (lA s) (wTS x0 q ci) := wj_Dl (wj_Dl hD)
  have hDm : va_D (lA s) (wMo m0 r cj) := wj_Dr (wj_Dl hD)
  have hDo : va_D (lA s) (wO o0 cO) := wj_Dr hD
  have hxm := wj_ne (a := wTS x0 q ci) (b := wMo m0 r cj) (wj_Dl hD)
  have hmo := wj_bc (a := wTS x0 q ci) (b := wMo m0 r cj) (c := wO o0 cO) hD
  have hKx := hK.sub (tys' := kTS ci) [0, 1, 2, 3, 4] rfl
  have hKm := hK.sub (tys' := kMo cj) [5, 6, 7, 8] rfl
  have hKo := hK.sub (tys' := [(cO, .long)]) [9] rfl
  have hK0 := hK.sub (tys' := []) [] rfl
  have hmo2 := hmo
  refine lv_aload_n hx hb d_Lw_law_796 rfl (lv_at hl 3 rfl) ?_
  refine lv_aload_n hx hb d_Lw_law_797 rfl (lv_at hl 4 rfl) ?_
  refine lv_iload hx hb d_Lw_law_798 (lv_at hl 0 rfl) ?_
  refine lv_iconst (v := 1) hx hb d_Lw_law_800 (by decide) ?_
  refine lv_iadd hx hb d_Lw_law_801 ?_
  refine lv_topi (fun z1 z1_e => ?_)
  obtain rfl : z1 = 1 := z1_e.trans (by decide)
  refine va_sld hx hb hX hbl hbA hS (by unfold vp_in; decide) d_Lw_law_802 ?_
  refine W.eq (g2 := F0 m 803 ls [.int (xs 1), .ref x0]) rfl ?_
  refine W.eq (g2 := F0 m 803 ls [.int (xs 1), .ref x0]) rfl ?_
  have hPd : va_P (dC, dI) gx_cl [(x0, .inr (8, [.ref (q 0), .ref (q 3), .ref (q 18), .ref (q 19), .ref (q 6), .ref (q 20), .ref (q 21), .ref (q 22), .ref (q 23), .ref (q 15), .ref (q 17), .int 0, .ref (q 24), .ref (q 25), .int 0])), ((q 0), .inr (1, [.ref (q 1), .ref (q 2), .int 0, .int (-1), .int 0, .int 0])), ((q 2), .inl ((ci 2), 44, .inl (fun _ => 0)))] H := hPx.sub [0, 1, 3] rfl
  have hDd : va_D (lA s) [(x0, .inr (8, [.ref (q 0), .ref (q 3), .ref (q 18), .ref (q 19), .ref (q 6), .ref (q 20), .ref (q 21), .ref (q 22), .ref (q 23), .ref (q 15), .ref (q 17), .int 0, .ref (q 24), .ref (q 25), .int 0])), ((q 0), .inr (1, [.ref (q 1), .ref (q 2), .int 0, .int (-1), .int 0, .int 0])), ((q 2), .inl ((ci 2), 44, .inl (fun _ => 0)))] := hDx.sub [0, 1, 3] (by decide) rfl
  have hFd := va_free (wc := [(x0, .inr (8, [.ref (q 0), .ref (q 3), .ref (q 18), .ref (q 19), .ref (q 6), .ref (q 20), .ref (q 21), .ref (q 22), .ref (q 23), .ref (q 15), .ref (q 17), .int 0, .ref (q 24), .ref (q 25), .int 0])), ((q 0), .inr (1, [.ref (q 1), .ref (q 2), .int 0, .int (-1), .int 0, .int 0])), ((q 2), .inl ((ci 2), 44, .inl (fun _ => 0)))]) hDd hS hA [0, 1, 2] rfl
  refine va_calli (hx_runS (n := 2) (hh := [(0, 5, 8, 31)]) (As := [.ref x0, .int (xs 1)]) (rest := []) ⟨hx, hb, hml, hown, hB⟩ (x_spoil1 l dC dI H.size x0 q ci (xs 1) h1 h2) (gy_good k_Lw_spoil) rfl rfl rfl ⟨(Nat.le_of_ble_eq_true rfl), (Nat.le_of_ble_eq_true rfl)⟩ (hB _ hw_65) (hB _ hw_846) (hB _ hw_845) (by decide +kernel) ⟨fun a U g mk q => by obtain ⟨q0, q1, qP, qK, qD⟩ := q; exact ⟨q0, q1, qP, va_K.moved (u := U) (U := U.calling g mk a) (Vm.Alike.refl U.vm) qK, qD⟩, fun U hU hW => ⟨rfl, by rw [hU], by rw [hU]; exact hPd, va_K.moved hW.alike hKx, hDd.weaken (fun _ _ _ _ => trivial)⟩⟩ rfl rfl hl.1 rfl (lv_room (Nat.le_of_ble_eq_true rfl)) d_Lw_law_803 ⟨(Nat.le_of_ble_eq_true rfl), (Nat.le_of_ble_eq_true rfl)⟩) hS (fun q _ h => hFd q h) hFd (fun r9 u t H1 locs ht hvm hw hB1 hz1 hk1 hS => ?_)
  have hw : r9 = 0 := hw
  subst hw
  have hPm := wj_keep (wc := [(x0, .inr (8, [.ref (q 0), .ref (q 3), .ref (q 18), .ref (q 19), .ref (q 6), .ref (q 20), .ref (q 21), .ref (q 22), .ref (q 23), .ref (q 15), .ref (q 17), .int 0, .ref (q 24), .ref (q 25), .int 0])), ((q 0), .inr (1, [.ref (q 1), .ref (q 2), .int 0, .int (-1), .int 0, .int 0])), ((q 2), .inl ((ci 2), 44, .inl (fun _ => 0)))]) hPm (wj_sub hxm (fun i => match i with | 0 => 0 | 1 => 1 | 2 => 3 | _ => 0) (by intro i p hi; have hlt : i < 3 := (List.getElem?_eq_some_iff.mp hi).1; rcases (show i = 0 ∨ i = 1 ∨ i = 2 by omega) with rfl | rfl | rfl <;> exact hi)) hk1
  have hS9 := hS
  generalize H1 = H at hPm hS ⊢
  clear hPo hS9
  have hPo : va_P (dC, dI) gx_cl [] H := gx_P0
  have hmo2 : ∀ (i j : Nat) (p q : Nat × va_E), (wMo m0 r cj)[i]? = some p → ([] : va_W)[j]? = some q → p.1 ≠ q.1 := fun _ _ _ _ _ h => by cases h
  refine W.widen (k := 129) (n := 14034) (Nat.le_of_ble_eq_true rfl) (Nat.le_of_ble_eq_true rfl) ?_
  refine W.eq (g2 := F0 m 806 ls [.int 0]) rfl ?_
  refine lv_istore hx hb d_Lw_law_806 hl (by decide) rfl (fun ls hl => ?_)
  have hl : lv_has ls 7 [(5, .int 0), (4, .int 0), (3, .ref o0), (2, .ref m0), (1, .ref x0), (0, .ref b)] := hl
  refine lv_aload_n hx hb d_Lw_law_808 rfl (lv_at hl 3 rfl) ?_
  refine lv_aload_n hx hb d_Lw_law_809 rfl (lv_at hl 5 rfl) ?_
  refine lv_iload hx hb d_Lw_law_810 (lv_at hl 1 rfl) ?_
  refine lv_iconst (v := 1) hx hb d_Lw_law_812 (by decide) ?_
  refine lv_iadd hx hb d_Lw_law_813 ?_
  refine lv_topi (fun z2 z2_e => ?_)
  obtain rfl : z2 = 1 := z2_e.trans (by decide)
  refine va_sld hx hb hX hbl hbA hS (by unfold vp_in; decide) d_Lw_law_814 ?_
  refine W.eq (g2 := F0 m 815 ls [.int (xs 1), .ref m0]) rfl ?_
  refine W.eq (g2 := F0 m 815 ls [.int (xs 1), .ref m0]) rfl ?_
  have hFm := va_free (wc := wMo m0 r cj) hDm hS hA [0, 1, 2, 3, 4] rfl
  refine va_callv (va_runV (C := "TapeSealerModel") (As := [.int (xs 1)]) (rest := []) ⟨hx, hb, hml, hown, hB⟩ (m_Mo_spoil1 l dC dI H.size m0 r cj (xs 1) h1 h2) (cwV 1 hB (gy_goodV hw_1246 hw_1247 hw_1248 hw_75 k_Mo_spoil) rfl rfl rfl (by decide +kernel) ⟨(Nat.le_of_ble_eq_true rfl), (Nat.le_of_ble_eq_true rfl)⟩) ⟨fun a U g mk q => by obtain ⟨q0, q1, qP, qK, qD⟩ := q; exact ⟨q0, q1, qP, va_K.moved (u := U) (U := U.calling g mk a) (Vm.Alike.refl U.vm) qK, qD⟩, va_recv hKm hPm rfl (q0 := 0) rfl, fun U hU hW => ⟨rfl, by rw [hU], by rw [hU]; exact hPm, va_K.moved hW.alike hKm, hDm.weaken (fun _ _ _ _ => trivial)⟩⟩ rfl rfl hl.1 rfl (lv_room (Nat.le_of_ble_eq_true rfl)) d_Lw_law_815 ⟨(Nat.le_of_ble_eq_true rfl), (Nat.le_of_ble_eq_true rfl)⟩) hS (fun q _ h => hFm q h) hFm (fun u t H1 locs ht hvm hw hB1 hz1 hk1 hS => ?_)
  obtain ⟨fs, hPt, hDt⟩ := hB1
  rw [ht] at hPt
  have hPo := wj_keep (wc := wMo m0 r cj) hPo hmo2 hk1
  generalize H1 = H at hPt hPo hS ⊢
  refine W.widen (k := 129) (n := 14034) (Nat.le_of_ble_eq_true rfl) (Nat.le_of_ble_eq_true rfl) ?_
  refine W.eq (g2 := F0 m 818 ls []) rfl ?_
  refine lv_aload_n hx hb d_Lw_law_818 rfl (lv_at hl 3 rfl) ?_
  refine W.eq (g2 := F0 m 819 ls [.ref m0]) rfl ?_
  refine px_go (va_runV (C := "TapeSealerModel") (As := []) (rest := []) ⟨hx, hb, hml, hown, hB⟩ (p_Mo_thrown l dC dI m0 0 fs) (cwV 0 hB (gy_goodV hw_1026 hw_1027 hw_1028 hw_75 k_Mo_thrown) rfl rfl rfl (by decide +kernel) ⟨(Nat.le_of_ble_eq_true rfl), (Nat.le_of_ble_eq_true rfl)⟩) ⟨fun a U g mk q => by obtain ⟨q0, qP, qK⟩ := q; exact ⟨q0, qP, va_K.moved (u := U) (U := U.calling g mk a) (Vm.Alike.refl U.vm) qK⟩, va_recv hK0 hPt rfl (q0 := 0) rfl, fun U hU hW => ⟨rfl, by rw [hU]; exact hPt, va_K.moved hW.alike hK0⟩⟩ rfl rfl hl.1 rfl (lv_room (Nat.le_of_ble_eq_true rfl)) d_Lw_law_819 ⟨(Nat.le_of_ble_eq_true rfl), (Nat.le_of_ble_eq_true rfl)⟩) ?_
  refine W.eq (g2 := F0 m 822 ls [.int 0]) rfl ?_
  refine lv_iload hx hb d_Lw_law_822 (lv_at hl 0 rfl) ?_
  refine lv_icmp_eq (tgt := 829) hx hb d_Lw_law_824 (by decide) (fun _ => ?_) (fun h9 => absurd (by decide) h9)
  refine lv_goto (tgt := 1073) hx hb d_Lw_law_829 (by decide) ?_
  exact law_exit l C1 (Nat.le_of_ble_eq_true rfl) (Nat.le_of_ble_eq_true rfl) (lv_sub hl [1, 5] rfl) hS
set_option maxHeartbeats 4000000 in
set_option maxRecDepth 100000 in
theorem lq_stopAfter0 {p : Program} {e : Env} {s : State} {m : MethodId} {below : List Frame} {meth : Method} {c : Code} (l : Launch) (hl0 : l.stackTraces = false) {b : Nat} {xs : Nat → Int32} (C0 : lw_At p s m meth c b 4 xs) (dC : Nat → ClassId) (dI : Nat → Nat → Nat) (aS aT : Nat) (cS cT : Cell) (hJ : jx aS aT cS cT s) {x0 m0 o0 : Nat} {q r : Nat → Nat} {ci cj : Nat → ClassId} {cO : ClassId} {ls : Array Slot} {H : Heap} {locs : List Loc} (hl : lv_has ls 7 [(4, .int 0), (3, .ref o0), (2, .ref m0), (1, .ref x0), (0, .ref b)]) (hP : va_P (dC, dI) gx_cl (wJ x0 m0 o0 q r ci cj cO) H) (hD : va_D (lA s) (wJ x0 m0 o0 q r ci cj cO)) (hK : va_K (dC, dI) gx_cl (kJ ci cj cO) s) (hS : va_S (lA s) s.heap H locs) (h : ¬ (xs 1) ≤ 100) : W p l e room_1 s m #[Value.ref b] below meth c H locs 129 14034 (lw_Z below #[Value.ref b] s) (F0 m 832 ls []) := by
  have C1 := C0
  obtain ⟨hx, hb, hr, hml, hown0, hts, hX, hbl, hlocks, -⟩ := C0
  have hown : s.vm.findClass "TapeSealerLaw" = some m.cls := hown0
  have hB := law_B hts
  have hbA : ¬ lA s b := Nat.not_le.mpr hbl
  have haS := (Array.getElem?_eq_some_iff.mp hJ.2.2.2.2.2.1).1
  have haT := (Array.getElem?_eq_some_iff.mp hJ.2.2.2.2.2.2).1
  have hA : ∀ q : Nat, s.heap.size ≤ q → lA s q := fun q h => h
  have hPx : va_P (dC, dI) gx_cl (wTS x0 q ci) H := wj_l (wj_l hP)
  have hPm : va_P (dC, dI) gx_cl (wMo m0 r cj) H := wj_r (wj_l hP)
  have hPo : va_P (dC, dI) gx_cl (wO o0 cO) H := wj_r hP
  have hDx : va_D (lA s) (wTS x0 q ci) := wj_Dl (wj_Dl hD)
  have hDm : va_D (lA s) (wMo m0 r cj) := wj_Dr (wj_Dl hD)
  have hDo : va_D (lA s) (wO o0 cO) := wj_Dr hD
  have hxm := wj_ne (a := wTS x0 q ci) (b := wMo m0 r cj) (wj_Dl hD)
  have hmo := wj_bc (a := wTS x0 q ci) (b := wMo m0 r cj) (c := wO o0 cO) hD
  have hKx := hK.sub (tys' := kTS ci) [0, 1, 2, 3, 4] rfl
  have hKm := hK.sub (tys' := kMo cj) [5, 6, 7, 8] rfl
  have hKo := hK.sub (tys' := [(cO, .long)]) [9] rfl
  have hK0 := hK.sub (tys' := []) [] rfl
  have hmo2 := hmo
  refine lv_aload_n hx hb d_Lw_law_832 rfl (lv_at hl 3 rfl) ?_
  refine lv_aload_n hx hb d_Lw_law_833 rfl (lv_at hl 4 rfl) ?_
  refine lv_iload hx hb d_Lw_law_834 (lv_at hl 0 rfl) ?_
  refine lv_iconst (v := 1) hx hb d_Lw_law_836 (by decide) ?_
  refine lv_iadd hx hb d_Lw_law_837 ?_
  refine lv_topi (fun z1 z1_e => ?_)
  obtain rfl : z1 = 1 := z1_e.trans (by decide)
  refine va_sld hx hb hX hbl hbA hS (by unfold vp_in; decide) d_Lw_law_838 ?_
  refine W.eq (g2 := F0 m 839 ls [.int (xs 1), .ref x0]) rfl ?_
  refine W.eq (g2 := F0 m 839 ls [.int (xs 1), .ref x0]) rfl ?_
  refine hx_go (hx_runS (n := 2) (hh := [(0, 5, 8, 31)]) (As := [.ref x0, .int (xs 1)]) (rest := []) ⟨hx, hb, hml, hown, hB⟩ (x_stopAfter l hl0 dC dI aS aT cS cT x0 q ci (xs 1) h) (gy_good k_Lw_stopAfter) rfl rfl rfl ⟨(Nat.le_of_ble_eq_true rfl), (Nat.le_of_ble_eq_true rfl)⟩ (hB _ hw_65) (hB _ hw_853) (hB _ hw_852) (by decide +kernel) ⟨fun a U g mk q => by obtain ⟨q0, qP, qK, qJ⟩ := q; exact ⟨q0, qP, va_K.moved (u := U) (U := U.calling g mk a) (Vm.Alike.refl U.vm) qK, qJ.call g mk a⟩, fun U hU hW => ⟨rfl, by rw [hU]; exact hPx, va_K.moved hW.alike hKx, hJ.move hW (by rw [hU]; exact hS.2.1 aS haS (Nat.not_le.mpr haS)) (by rw [hU]; exact hS.2.1 aT haT (Nat.not_le.mpr haT))⟩⟩ rfl rfl hl.1 rfl (lv_room (Nat.le_of_ble_eq_true rfl)) d_Lw_law_839 ⟨(Nat.le_of_ble_eq_true rfl), (Nat.le_of_ble_eq_true rfl)⟩) (fun H1 hz hk => ?_)
  have hPm := wj_all hPm hk
  have hPo := wj_all hPo hk
  have hS := mx_S hS hz (wj_old hk)
  generalize H1 = H at hPm hPo hS ⊢
  refine W.widen (k := 130) (n := 14040) (Nat.le_of_ble_eq_true rfl) (Nat.le_of_ble_eq_true rfl) ?_
  refine W.eq (g2 := F0 m 842 ls [.int 1]) rfl ?_
  refine lv_istore hx hb d_Lw_law_842 hl (by decide) rfl (fun ls hl => ?_)
  have hl : lv_has ls 7 [(5, .int 1), (4, .int 0), (3, .ref o0), (2, .ref m0), (1, .ref x0), (0, .ref b)] := hl
  refine lv_aload_n hx hb d_Lw_law_844 rfl (lv_at hl 3 rfl) ?_
  refine lv_aload_n hx hb d_Lw_law_845 rfl (lv_at hl 5 rfl) ?_
  refine lv_iload hx hb d_Lw_law_846 (lv_at hl 1 rfl) ?_
  refine lv_iconst (v := 1) hx hb d_Lw_law_848 (by decide) ?_
  refine lv_iadd hx hb d_Lw_law_849 ?_
  refine lv_topi (fun z2 z2_e => ?_)
  obtain rfl : z2 = 1 := z2_e.trans (by decide)
  refine va_sld hx hb hX hbl hbA hS (by unfold vp_in; decide) d_Lw_law_850 ?_
  refine W.eq (g2 := F0 m 851 ls [.int (xs 1), .ref m0]) rfl ?_
  refine W.eq (g2 := F0 m 851 ls [.int (xs 1), .ref m0]) rfl ?_
  have hFm := va_free (wc := wMo m0 r cj) hDm hS hA [0, 1, 2, 3, 4] rfl
  refine va_callv (va_runV (C := "TapeSealerModel") (As := [.int (xs 1)]) (rest := []) ⟨hx, hb, hml, hown, hB⟩ (m_Mo_stopAfter0 l dC dI H.size m0 r cj (xs 1) h) (cwV 1 hB (gy_goodV hw_1250 hw_1251 hw_1252 hw_75 k_Mo_stopAfter) rfl rfl rfl (by decide +kernel) ⟨(Nat.le_of_ble_eq_true rfl), (Nat.le_of_ble_eq_true rfl)⟩) ⟨fun a U g mk q => by obtain ⟨q0, q1, qP, qK, qD⟩ := q; exact ⟨q0, q1, qP, va_K.moved (u := U) (U := U.calling g mk a) (Vm.Alike.refl U.vm) qK, qD⟩, va_recv hKm hPm rfl (q0 := 0) rfl, fun U hU hW => ⟨rfl, by rw [hU], by rw [hU]; exact hPm, va_K.moved hW.alike hKm, hDm.weaken (fun _ _ _ _ => trivial)⟩⟩ rfl rfl hl.1 rfl (lv_room (Nat.le_of_ble_eq_true rfl)) d_Lw_law_851 ⟨(Nat.le_of_ble_eq_true rfl), (Nat.le_of_ble_eq_true rfl)⟩) hS (fun q _ h => hFm q h) hFm (fun u t H1 locs ht hvm hw hB1 hz1 hk1 hS => ?_)
  obtain ⟨fs, hPt, hDt⟩ := hB1
  rw [ht] at hPt
  have hPo := wj_keep (wc := wMo m0 r cj) hPo hmo2 hk1
  generalize H1 = H at hPt hPo hS ⊢
  refine W.widen (k := 130) (n := 14040) (Nat.le_of_ble_eq_true rfl) (Nat.le_of_ble_eq_true rfl) ?_
  refine W.eq (g2 := F0 m 854 ls []) rfl ?_
  refine lv_aload_n hx hb d_Lw_law_854 rfl (lv_at hl 3 rfl) ?_
  refine W.eq (g2 := F0 m 855 ls [.ref m0]) rfl ?_
  refine px_go (va_runV (C := "TapeSealerModel") (As := []) (rest := []) ⟨hx, hb, hml, hown, hB⟩ (p_Mo_thrown l dC dI m0 1 fs) (cwV 0 hB (gy_goodV hw_1026 hw_1027 hw_1028 hw_75 k_Mo_thrown) rfl rfl rfl (by decide +kernel) ⟨(Nat.le_of_ble_eq_true rfl), (Nat.le_of_ble_eq_true rfl)⟩) ⟨fun a U g mk q => by obtain ⟨q0, qP, qK⟩ := q; exact ⟨q0, qP, va_K.moved (u := U) (U := U.calling g mk a) (Vm.Alike.refl U.vm) qK⟩, va_recv hK0 hPt rfl (q0 := 0) rfl, fun U hU hW => ⟨rfl, by rw [hU]; exact hPt, va_K.moved hW.alike hK0⟩⟩ rfl rfl hl.1 rfl (lv_room (Nat.le_of_ble_eq_true rfl)) d_Lw_law_855 ⟨(Nat.le_of_ble_eq_true rfl), (Nat.le_of_ble_eq_true rfl)⟩) ?_
  refine W.eq (g2 := F0 m 858 ls [.int 1]) rfl ?_
  refine lv_iload hx hb d_Lw_law_858 (lv_at hl 0 rfl) ?_
  refine lv_icmp_eq (tgt := 865) hx hb d_Lw_law_860 (by decide) (fun _ => ?_) (fun h9 => absurd (by decide) h9)
  refine lv_goto (tgt := 1073) hx hb d_Lw_law_865 (by decide) ?_
  exact law_exit l C1 (Nat.le_of_ble_eq_true rfl) (Nat.le_of_ble_eq_true rfl) (lv_sub hl [1, 5] rfl) hS
set_option maxHeartbeats 4000000 in
set_option maxRecDepth 100000 in
theorem lq_stopAfter1 {p : Program} {e : Env} {s : State} {m : MethodId} {below : List Frame} {meth : Method} {c : Code} (l : Launch) (hl0 : l.stackTraces = false) {b : Nat} {xs : Nat → Int32} (C0 : lw_At p s m meth c b 4 xs) (dC : Nat → ClassId) (dI : Nat → Nat → Nat) (aS aT : Nat) (cS cT : Cell) (hJ : jx aS aT cS cT s) {x0 m0 o0 : Nat} {q r : Nat → Nat} {ci cj : Nat → ClassId} {cO : ClassId} {ls : Array Slot} {H : Heap} {locs : List Loc} (hl : lv_has ls 7 [(4, .int 0), (3, .ref o0), (2, .ref m0), (1, .ref x0), (0, .ref b)]) (hP : va_P (dC, dI) gx_cl (wJ x0 m0 o0 q r ci cj cO) H) (hD : va_D (lA s) (wJ x0 m0 o0 q r ci cj cO)) (hK : va_K (dC, dI) gx_cl (kJ ci cj cO) s) (hS : va_S (lA s) s.heap H locs) (h : (xs 1) ≤ 100) : W p l e room_1 s m #[Value.ref b] below meth c H locs 129 14034 (lw_Z below #[Value.ref b] s) (F0 m 832 ls []) := by
  have C1 := C0
  obtain ⟨hx, hb, hr, hml, hown0, hts, hX, hbl, hlocks, -⟩ := C0
  have hown : s.vm.findClass "TapeSealerLaw" = some m.cls := hown0
  have hB := law_B hts
  have hbA : ¬ lA s b := Nat.not_le.mpr hbl
  have haS := (Array.getElem?_eq_some_iff.mp hJ.2.2.2.2.2.1).1
  have haT := (Array.getElem?_eq_some_iff.mp hJ.2.2.2.2.2.2).1
  have hA : ∀ q : Nat, s.heap.size ≤ q → lA s q := fun q h => h
  have hPx : va_P (dC, dI) gx_cl (wTS x0 q ci) H := wj_l (wj_l hP)
  have hPm : va_P (dC, dI) gx_cl (wMo m0 r cj) H := wj_r (wj_l hP)
  have hPo : va_P (dC, dI) gx_cl (wO o0 cO) H := wj_r hP
  have hDx : va_D (lA s) (wTS x0 q ci) := wj_Dl (wj_Dl hD)
  have hDm : va_D (lA s) (wMo m0 r cj) := wj_Dr (wj_Dl hD)
  have hDo : va_D (lA s) (wO o0 cO) := wj_Dr hD
  have hxm := wj_ne (a := wTS x0 q ci) (b := wMo m0 r cj) (wj_Dl hD)
  have hmo := wj_bc (a := wTS x0 q ci) (b := wMo m0 r cj) (c := wO o0 cO) hD
  have hKx := hK.sub (tys' := kTS ci) [0, 1, 2, 3, 4] rfl
  have hKm := hK.sub (tys' := kMo cj) [5, 6, 7, 8] rfl
  have hKo := hK.sub (tys' := [(cO, .long)]) [9] rfl
  have hK0 := hK.sub (tys' := []) [] rfl
  have hmo2 := hmo
  refine lv_aload_n hx hb d_Lw_law_832 rfl (lv_at hl 3 rfl) ?_
  refine lv_aload_n hx hb d_Lw_law_833 rfl (lv_at hl 4 rfl) ?_
  refine lv_iload hx hb d_Lw_law_834 (lv_at hl 0 rfl) ?_
  refine lv_iconst (v := 1) hx hb d_Lw_law_836 (by decide) ?_
  refine lv_iadd hx hb d_Lw_law_837 ?_
  refine lv_topi (fun z1 z1_e => ?_)
  obtain rfl : z1 = 1 := z1_e.trans (by decide)
  refine va_sld hx hb hX hbl hbA hS (by unfold vp_in; decide) d_Lw_law_838 ?_
  refine W.eq (g2 := F0 m 839 ls [.int (xs 1), .ref x0]) rfl ?_
  refine W.eq (g2 := F0 m 839 ls [.int (xs 1), .ref x0]) rfl ?_
  have hPd : va_P (dC, dI) gx_cl [(x0, .inr (8, [.ref (q 0), .ref (q 3), .ref (q 18), .ref (q 19), .ref (q 6), .ref (q 20), .ref (q 21), .ref (q 22), .ref (q 23), .ref (q 15), .ref (q 17), .int 0, .ref (q 24), .ref (q 25), .int 0])), ((q 0), .inr (1, [.ref (q 1), .ref (q 2), .int 0, .int (-1), .int 0, .int 0]))] H := hPx.sub [0, 1] rfl
  have hDd : va_D (lA s) [(x0, .inr (8, [.ref (q 0), .ref (q 3), .ref (q 18), .ref (q 19), .ref (q 6), .ref (q 20), .ref (q 21), .ref (q 22), .ref (q 23), .ref (q 15), .ref (q 17), .int 0, .ref (q 24), .ref (q 25), .int 0])), ((q 0), .inr (1, [.ref (q 1), .ref (q 2), .int 0, .int (-1), .int 0, .int 0]))] := hDx.sub [0, 1] (by decide) rfl
  have hFd := va_free (wc := [(x0, .inr (8, [.ref (q 0), .ref (q 3), .ref (q 18), .ref (q 19), .ref (q 6), .ref (q 20), .ref (q 21), .ref (q 22), .ref (q 23), .ref (q 15), .ref (q 17), .int 0, .ref (q 24), .ref (q 25), .int 0])), ((q 0), .inr (1, [.ref (q 1), .ref (q 2), .int 0, .int (-1), .int 0, .int 0]))]) hDd hS hA [0, 1] rfl
  refine va_calli (hx_runS (n := 2) (hh := [(0, 5, 8, 31)]) (As := [.ref x0, .int (xs 1)]) (rest := []) ⟨hx, hb, hml, hown, hB⟩ (x_stopAfter1 l dC dI H.size x0 q ci (xs 1) h) (gy_good k_Lw_stopAfter) rfl rfl rfl ⟨(Nat.le_of_ble_eq_true rfl), (Nat.le_of_ble_eq_true rfl)⟩ (hB _ hw_65) (hB _ hw_853) (hB _ hw_852) (by decide +kernel) ⟨fun a U g mk q => by obtain ⟨q0, q1, qP, qK, qD⟩ := q; exact ⟨q0, q1, qP, va_K.moved (u := U) (U := U.calling g mk a) (Vm.Alike.refl U.vm) qK, qD⟩, fun U hU hW => ⟨rfl, by rw [hU], by rw [hU]; exact hPd, va_K.moved hW.alike hKx, hDd.weaken (fun _ _ _ _ => trivial)⟩⟩ rfl rfl hl.1 rfl (lv_room (Nat.le_of_ble_eq_true rfl)) d_Lw_law_839 ⟨(Nat.le_of_ble_eq_true rfl), (Nat.le_of_ble_eq_true rfl)⟩) hS (fun q _ h => hFd q h) hFd (fun r9 u t H1 locs ht hvm hw hB1 hz1 hk1 hS => ?_)
  have hw : r9 = 0 := hw
  subst hw
  have hPm := wj_keep (wc := [(x0, .inr (8, [.ref (q 0), .ref (q 3), .ref (q 18), .ref (q 19), .ref (q 6), .ref (q 20), .ref (q 21), .ref (q 22), .ref (q 23), .ref (q 15), .ref (q 17), .int 0, .ref (q 24), .ref (q 25), .int 0])), ((q 0), .inr (1, [.ref (q 1), .ref (q 2), .int 0, .int (-1), .int 0, .int 0]))]) hPm (wj_sub hxm (fun i => match i with | 0 => 0 | 1 => 1 | _ => 0) (by intro i p hi; have hlt : i < 2 := (List.getElem?_eq_some_iff.mp hi).1; rcases (show i = 0 ∨ i = 1 by omega) with rfl | rfl <;> exact hi)) hk1
  have hS9 := hS
  generalize H1 = H at hPm hS ⊢
  clear hPo hS9
  have hPo : va_P (dC, dI) gx_cl [] H := gx_P0
  have hmo2 : ∀ (i j : Nat) (p q : Nat × va_E), (wMo m0 r cj)[i]? = some p → ([] : va_W)[j]? = some q → p.1 ≠ q.1 := fun _ _ _ _ _ h => by cases h
  refine W.widen (k := 129) (n := 14034) (Nat.le_of_ble_eq_true rfl) (Nat.le_of_ble_eq_true rfl) ?_
  refine W.eq (g2 := F0 m 842 ls [.int 0]) rfl ?_
  refine lv_istore hx hb d_Lw_law_842 hl (by decide) rfl (fun ls hl => ?_)
  have hl : lv_has ls 7 [(5, .int 0), (4, .int 0), (3, .ref o0), (2, .ref m0), (1, .ref x0), (0, .ref b)] := hl
  refine lv_aload_n hx hb d_Lw_law_844 rfl (lv_at hl 3 rfl) ?_
  refine lv_aload_n hx hb d_Lw_law_845 rfl (lv_at hl 5 rfl) ?_
  refine lv_iload hx hb d_Lw_law_846 (lv_at hl 1 rfl) ?_
  refine lv_iconst (v := 1) hx hb d_Lw_law_848 (by decide) ?_
  refine lv_iadd hx hb d_Lw_law_849 ?_
  refine lv_topi (fun z2 z2_e => ?_)
  obtain rfl : z2 = 1 := z2_e.trans (by decide)
  refine va_sld hx hb hX hbl hbA hS (by unfold vp_in; decide) d_Lw_law_850 ?_
  refine W.eq (g2 := F0 m 851 ls [.int (xs 1), .ref m0]) rfl ?_
  refine W.eq (g2 := F0 m 851 ls [.int (xs 1), .ref m0]) rfl ?_
  have hFm := va_free (wc := wMo m0 r cj) hDm hS hA [0, 1, 2, 3, 4] rfl
  refine va_callv (va_runV (C := "TapeSealerModel") (As := [.int (xs 1)]) (rest := []) ⟨hx, hb, hml, hown, hB⟩ (m_Mo_stopAfter1 l dC dI H.size m0 r cj (xs 1) h) (cwV 1 hB (gy_goodV hw_1250 hw_1251 hw_1252 hw_75 k_Mo_stopAfter) rfl rfl rfl (by decide +kernel) ⟨(Nat.le_of_ble_eq_true rfl), (Nat.le_of_ble_eq_true rfl)⟩) ⟨fun a U g mk q => by obtain ⟨q0, q1, qP, qK, qD⟩ := q; exact ⟨q0, q1, qP, va_K.moved (u := U) (U := U.calling g mk a) (Vm.Alike.refl U.vm) qK, qD⟩, va_recv hKm hPm rfl (q0 := 0) rfl, fun U hU hW => ⟨rfl, by rw [hU], by rw [hU]; exact hPm, va_K.moved hW.alike hKm, hDm.weaken (fun _ _ _ _ => trivial)⟩⟩ rfl rfl hl.1 rfl (lv_room (Nat.le_of_ble_eq_true rfl)) d_Lw_law_851 ⟨(Nat.le_of_ble_eq_true rfl), (Nat.le_of_ble_eq_true rfl)⟩) hS (fun q _ h => hFm q h) hFm (fun u t H1 locs ht hvm hw hB1 hz1 hk1 hS => ?_)
  obtain ⟨fs, hPt, hDt⟩ := hB1
  rw [ht] at hPt
  have hPo := wj_keep (wc := wMo m0 r cj) hPo hmo2 hk1
  generalize H1 = H at hPt hPo hS ⊢
  refine W.widen (k := 129) (n := 14034) (Nat.le_of_ble_eq_true rfl) (Nat.le_of_ble_eq_true rfl) ?_
  refine W.eq (g2 := F0 m 854 ls []) rfl ?_
  refine lv_aload_n hx hb d_Lw_law_854 rfl (lv_at hl 3 rfl) ?_
  refine W.eq (g2 := F0 m 855 ls [.ref m0]) rfl ?_
  refine px_go (va_runV (C := "TapeSealerModel") (As := []) (rest := []) ⟨hx, hb, hml, hown, hB⟩ (p_Mo_thrown l dC dI m0 0 fs) (cwV 0 hB (gy_goodV hw_1026 hw_1027 hw_1028 hw_75 k_Mo_thrown) rfl rfl rfl (by decide +kernel) ⟨(Nat.le_of_ble_eq_true rfl), (Nat.le_of_ble_eq_true rfl)⟩) ⟨fun a U g mk q => by obtain ⟨q0, qP, qK⟩ := q; exact ⟨q0, qP, va_K.moved (u := U) (U := U.calling g mk a) (Vm.Alike.refl U.vm) qK⟩, va_recv hK0 hPt rfl (q0 := 0) rfl, fun U hU hW => ⟨rfl, by rw [hU]; exact hPt, va_K.moved hW.alike hK0⟩⟩ rfl rfl hl.1 rfl (lv_room (Nat.le_of_ble_eq_true rfl)) d_Lw_law_855 ⟨(Nat.le_of_ble_eq_true rfl), (Nat.le_of_ble_eq_true rfl)⟩) ?_
  refine W.eq (g2 := F0 m 858 ls [.int 0]) rfl ?_
  refine lv_iload hx hb d_Lw_law_858 (lv_at hl 0 rfl) ?_
  refine lv_icmp_eq (tgt := 865) hx hb d_Lw_law_860 (by decide) (fun _ => ?_) (fun h9 => absurd (by decide) h9)
  refine lv_goto (tgt := 1073) hx hb d_Lw_law_865 (by decide) ?_
  exact law_exit l C1 (Nat.le_of_ble_eq_true rfl) (Nat.le_of_ble_eq_true rfl) (lv_sub hl [1, 5] rfl) hS
set_option maxHeartbeats 4000000 in
set_option maxRecDepth 100000 in
theorem lq_block0 {p : Program} {e : Env} {s : State} {m : MethodId} {below : List Frame} {meth : Method} {c : Code} (l : Launch) (hl0 : l.stackTraces = false) {b : Nat} {xs : Nat → Int32} (C0 : lw_At p s m meth c b 4 xs) (dC : Nat → ClassId) (dI : Nat → Nat → Nat) (aS aT : Nat) (cS cT : Cell) (hJ : jx aS aT cS cT s) {x0 m0 o0 : Nat} {q r : Nat → Nat} {ci cj : Nat → ClassId} {cO : ClassId} {ls : Array Slot} {H : Heap} {locs : List Loc} (hl : lv_has ls 7 [(4, .int 0), (3, .ref o0), (2, .ref m0), (1, .ref x0), (0, .ref b)]) (hP : va_P (dC, dI) gx_cl (wJ x0 m0 o0 q r ci cj cO) H) (hD : va_D (lA s) (wJ x0 m0 o0 q r ci cj cO)) (hK : va_K (dC, dI) gx_cl (kJ ci cj cO) s) (hS : va_S (lA s) s.heap H locs) (h : (xs 1) < 0 ∨ 44 ≤ (xs 1) ∨ (xs 2) < 0 ∨ 64 ≤ (xs 2)) : W p l e room_1 s m #[Value.ref b] below meth c H locs 129 14034 (lw_Z below #[Value.ref b] s) (F0 m 949 ls []) := by
  have C1 := C0
  obtain ⟨hx, hb, hr, hml, hown0, hts, hX, hbl, hlocks, -⟩ := C0
  have hown : s.vm.findClass "TapeSealerLaw" = some m.cls := hown0
  have hB := law_B hts
  have hbA : ¬ lA s b := Nat.not_le.mpr hbl
  have haS := (Array.getElem?_eq_some_iff.mp hJ.2.2.2.2.2.1).1
  have haT := (Array.getElem?_eq_some_iff.mp hJ.2.2.2.2.2.2).1
  have hA : ∀ q : Nat, s.heap.size ≤ q → lA s q := fun q h => h
  have hPx : va_P (dC, dI) gx_cl (wTS x0 q ci) H := wj_l (wj_l hP)
  have hPm : va_P (dC, dI) gx_cl (wMo m0 r cj) H := wj_r (wj_l hP)
  have hPo : va_P (dC, dI) gx_cl (wO o0 cO) H := wj_r hP
  have hDx : va_D (lA s) (wTS x0 q ci) := wj_Dl (wj_Dl hD)
  have hDm : va_D (lA s) (wMo m0 r cj) := wj_Dr (wj_Dl hD)
  have hDo : va_D (lA s) (wO o0 cO) := wj_Dr hD
  have hxm := wj_ne (a := wTS x0 q ci) (b := wMo m0 r cj) (wj_Dl hD)
  have hmo := wj_bc (a := wTS x0 q ci) (b := wMo m0 r cj) (c := wO o0 cO) hD
  have hKx := hK.sub (tys' := kTS ci) [0, 1, 2, 3, 4] rfl
  have hKm := hK.sub (tys' := kMo cj) [5, 6, 7, 8] rfl
  have hKo := hK.sub (tys' := [(cO, .long)]) [9] rfl
  have hK0 := hK.sub (tys' := []) [] rfl
  have hmo2 := hmo
  refine lv_aload_n hx hb d_Lw_law_949 rfl (lv_at hl 3 rfl) ?_
  refine lv_aload_n hx hb d_Lw_law_950 rfl (lv_at hl 4 rfl) ?_
  refine lv_iload hx hb d_Lw_law_951 (lv_at hl 0 rfl) ?_
  refine lv_iconst (v := 1) hx hb d_Lw_law_953 (by decide) ?_
  refine lv_iadd hx hb d_Lw_law_954 ?_
  refine lv_topi (fun z1 z1_e => ?_)
  obtain rfl : z1 = 1 := z1_e.trans (by decide)
  refine va_sld hx hb hX hbl hbA hS (by unfold vp_in; decide) d_Lw_law_955 ?_
  refine W.eq (g2 := F0 m 956 ls [.int (xs 1), .ref x0]) rfl ?_
  refine lv_aload_n hx hb d_Lw_law_956 rfl (lv_at hl 4 rfl) ?_
  refine lv_iload hx hb d_Lw_law_957 (lv_at hl 0 rfl) ?_
  refine lv_iconst (v := 2) hx hb d_Lw_law_959 (by decide) ?_
  refine lv_iadd hx hb d_Lw_law_960 ?_
  refine lv_topi (fun z2 z2_e => ?_)
  obtain rfl : z2 = 2 := z2_e.trans (by decide)
  refine va_sld hx hb hX hbl hbA hS (by unfold vp_in; decide) d_Lw_law_961 ?_
  refine W.eq (g2 := F0 m 962 ls [.int (xs 2), .int (xs 1), .ref x0]) rfl ?_
  refine lv_aload_n hx hb d_Lw_law_962 rfl (lv_at hl 1 rfl) ?_
  refine W.eq (g2 := F0 m 963 ls [.ref o0, .int (xs 2), .int (xs 1), .ref x0]) rfl ?_
  refine hx_go (hx_runS (n := 4) (hh := [(0, 10, 13, 31)]) (As := [.ref x0, .int (xs 1), .int (xs 2), .ref o0]) (rest := []) ⟨hx, hb, hml, hown, hB⟩ (x_block l hl0 dC dI aS aT cS cT x0 q ci o0 (xs 1) (xs 2) h) (gy_good k_Lw_block) rfl rfl rfl ⟨(Nat.le_of_ble_eq_true rfl), (Nat.le_of_ble_eq_true rfl)⟩ (hB _ hw_65) (hB _ hw_867) (hB _ hw_866) (by decide +kernel) ⟨fun a U g mk q => by obtain ⟨q0, qP, qK, qJ⟩ := q; exact ⟨q0, qP, va_K.moved (u := U) (U := U.calling g mk a) (Vm.Alike.refl U.vm) qK, qJ.call g mk a⟩, fun U hU hW => ⟨rfl, by rw [hU]; exact hPx, va_K.moved hW.alike hKx, hJ.move hW (by rw [hU]; exact hS.2.1 aS haS (Nat.not_le.mpr haS)) (by rw [hU]; exact hS.2.1 aT haT (Nat.not_le.mpr haT))⟩⟩ rfl rfl hl.1 rfl (lv_room (Nat.le_of_ble_eq_true rfl)) d_Lw_law_963 ⟨(Nat.le_of_ble_eq_true rfl), (Nat.le_of_ble_eq_true rfl)⟩) (fun H1 hz hk => ?_)
  have hPm := wj_all hPm hk
  have hPo := wj_all hPo hk
  have hS := mx_S hS hz (wj_old hk)
  generalize H1 = H at hPm hPo hS ⊢
  refine W.widen (k := 130) (n := 14040) (Nat.le_of_ble_eq_true rfl) (Nat.le_of_ble_eq_true rfl) ?_
  refine W.eq (g2 := F0 m 966 ls [.int 1]) rfl ?_
  refine lv_istore hx hb d_Lw_law_966 hl (by decide) rfl (fun ls hl => ?_)
  have hl : lv_has ls 7 [(5, .int 1), (4, .int 0), (3, .ref o0), (2, .ref m0), (1, .ref x0), (0, .ref b)] := hl
  refine lv_aload_n hx hb d_Lw_law_968 rfl (lv_at hl 3 rfl) ?_
  refine lv_aload_n hx hb d_Lw_law_969 rfl (lv_at hl 5 rfl) ?_
  refine lv_iload hx hb d_Lw_law_970 (lv_at hl 1 rfl) ?_
  refine lv_iconst (v := 1) hx hb d_Lw_law_972 (by decide) ?_
  refine lv_iadd hx hb d_Lw_law_973 ?_
  refine lv_topi (fun z3 z3_e => ?_)
  obtain rfl : z3 = 1 := z3_e.trans (by decide)
  refine va_sld hx hb hX hbl hbA hS (by unfold vp_in; decide) d_Lw_law_974 ?_
  refine W.eq (g2 := F0 m 975 ls [.int (xs 1), .ref m0]) rfl ?_
  refine lv_aload_n hx hb d_Lw_law_975 rfl (lv_at hl 5 rfl) ?_
  refine lv_iload hx hb d_Lw_law_976 (lv_at hl 1 rfl) ?_
  refine lv_iconst (v := 2) hx hb d_Lw_law_978 (by decide) ?_
  refine lv_iadd hx hb d_Lw_law_979 ?_
  refine lv_topi (fun z4 z4_e => ?_)
  obtain rfl : z4 = 2 := z4_e.trans (by decide)
  refine va_sld hx hb hX hbl hbA hS (by unfold vp_in; decide) d_Lw_law_980 ?_
  refine W.eq (g2 := F0 m 981 ls [.int (xs 2), .int (xs 1), .ref m0]) rfl ?_
  refine W.eq (g2 := F0 m 981 ls [.int (xs 2), .int (xs 1), .ref m0]) rfl ?_
  have hFm := va_free (wc := wMo m0 r cj) hDm hS hA [0, 1, 2, 3, 4] rfl
  refine va_calli (va_runV (C := "TapeSealerModel") (As := [.int (xs 1), .int (xs 2)]) (rest := []) ⟨hx, hb, hml, hown, hB⟩ (m_Mo_block0 l dC dI H.size m0 r cj (xs 1) (xs 2) h) (cwV 2 hB (gy_goodV hw_1262 hw_1263 hw_1264 hw_75 k_Mo_block) rfl rfl rfl (by decide +kernel) ⟨(Nat.le_of_ble_eq_true rfl), (Nat.le_of_ble_eq_true rfl)⟩) ⟨fun a U g mk q => by obtain ⟨q0, q1, qP, qK, qD⟩ := q; exact ⟨q0, q1, qP, va_K.moved (u := U) (U := U.calling g mk a) (Vm.Alike.refl U.vm) qK, qD⟩, va_recv hKm hPm rfl (q0 := 0) rfl, fun U hU hW => ⟨rfl, by rw [hU], by rw [hU]; exact hPm, va_K.moved hW.alike hKm, hDm.weaken (fun _ _ _ _ => trivial)⟩⟩ rfl rfl hl.1 rfl (lv_room (Nat.le_of_ble_eq_true rfl)) d_Lw_law_981 ⟨(Nat.le_of_ble_eq_true rfl), (Nat.le_of_ble_eq_true rfl)⟩) hS (fun q _ h => hFm q h) hFm (fun r9 u t H1 locs ht hvm hw hB1 hz1 hk1 hS => ?_)
  have hw : r9 = 0 := hw
  subst hw
  obtain ⟨fs, hPt, hDt⟩ := hB1
  rw [ht] at hPt
  have hPo := wj_keep (wc := wMo m0 r cj) hPo hmo2 hk1
  generalize H1 = H at hPt hPo hS ⊢
  refine W.widen (k := 130) (n := 14040) (Nat.le_of_ble_eq_true rfl) (Nat.le_of_ble_eq_true rfl) ?_
  refine W.eq (g2 := F0 m 984 ls [.int 0]) rfl ?_
  refine lv_istore hx hb d_Lw_law_984 hl (by decide) rfl (fun ls hl => ?_)
  have hl : lv_has ls 7 [(6, .int 0), (5, .int 1), (4, .int 0), (3, .ref o0), (2, .ref m0), (1, .ref x0), (0, .ref b)] := hl
  refine lv_aload_n hx hb d_Lw_law_986 rfl (lv_at hl 4 rfl) ?_
  refine W.eq (g2 := F0 m 987 ls [.ref m0]) rfl ?_
  refine px_go (va_runV (C := "TapeSealerModel") (As := []) (rest := []) ⟨hx, hb, hml, hown, hB⟩ (p_Mo_thrown l dC dI m0 1 fs) (cwV 0 hB (gy_goodV hw_1026 hw_1027 hw_1028 hw_75 k_Mo_thrown) rfl rfl rfl (by decide +kernel) ⟨(Nat.le_of_ble_eq_true rfl), (Nat.le_of_ble_eq_true rfl)⟩) ⟨fun a U g mk q => by obtain ⟨q0, qP, qK⟩ := q; exact ⟨q0, qP, va_K.moved (u := U) (U := U.calling g mk a) (Vm.Alike.refl U.vm) qK⟩, va_recv hK0 hPt rfl (q0 := 0) rfl, fun U hU hW => ⟨rfl, by rw [hU]; exact hPt, va_K.moved hW.alike hK0⟩⟩ rfl rfl hl.1 rfl (lv_room (Nat.le_of_ble_eq_true rfl)) d_Lw_law_987 ⟨(Nat.le_of_ble_eq_true rfl), (Nat.le_of_ble_eq_true rfl)⟩) ?_
  refine W.eq (g2 := F0 m 990 ls [.int 1]) rfl ?_
  refine lv_iload hx hb d_Lw_law_990 (lv_at hl 1 rfl) ?_
  refine lv_icmp_eq (tgt := 997) hx hb d_Lw_law_992 (by decide) (fun _ => ?_) (fun h9 => absurd (by decide) h9)
  refine lv_iload hx hb d_Lw_law_997 (lv_at hl 1 rfl) ?_
  refine lv_if_ne (tgt := 1014) hx hb d_Lw_law_999 (by decide) (fun _ => ?_) (fun h9 => absurd h9 (by decide))
  refine lv_goto (tgt := 1073) hx hb d_Lw_law_1014 (by decide) ?_
  exact law_exit l C1 (Nat.le_of_ble_eq_true rfl) (Nat.le_of_ble_eq_true rfl) (lv_sub hl [2, 6] rfl) hS
set_option maxHeartbeats 4000000 in
set_option maxRecDepth 100000 in
theorem lq_block1 {p : Program} {e : Env} {s : State} {m : MethodId} {below : List Frame} {meth : Method} {c : Code} (l : Launch) (hl0 : l.stackTraces = false) {b : Nat} {xs : Nat → Int32} (C0 : lw_At p s m meth c b 4 xs) (dC : Nat → ClassId) (dI : Nat → Nat → Nat) (aS aT : Nat) (cS cT : Cell) (hJ : jx aS aT cS cT s) {x0 m0 o0 : Nat} {q r : Nat → Nat} {ci cj : Nat → ClassId} {cO : ClassId} {ls : Array Slot} {H : Heap} {locs : List Loc} (hl : lv_has ls 7 [(4, .int 0), (3, .ref o0), (2, .ref m0), (1, .ref x0), (0, .ref b)]) (hP : va_P (dC, dI) gx_cl (wJ x0 m0 o0 q r ci cj cO) H) (hD : va_D (lA s) (wJ x0 m0 o0 q r ci cj cO)) (hK : va_K (dC, dI) gx_cl (kJ ci cj cO) s) (hS : va_S (lA s) s.heap H locs) (h1 : ¬ (xs 1) < 0) (h2 : ¬ 44 ≤ (xs 1)) (h3 : ¬ (xs 2) < 0) (h4 : ¬ 64 ≤ (xs 2)) : W p l e room_1 s m #[Value.ref b] below meth c H locs 129 14034 (lw_Z below #[Value.ref b] s) (F0 m 949 ls []) := by
  have C1 := C0
  obtain ⟨hx, hb, hr, hml, hown0, hts, hX, hbl, hlocks, -⟩ := C0
  have hown : s.vm.findClass "TapeSealerLaw" = some m.cls := hown0
  have hB := law_B hts
  have hbA : ¬ lA s b := Nat.not_le.mpr hbl
  have haS := (Array.getElem?_eq_some_iff.mp hJ.2.2.2.2.2.1).1
  have haT := (Array.getElem?_eq_some_iff.mp hJ.2.2.2.2.2.2).1
  have hA : ∀ q : Nat, s.heap.size ≤ q → lA s q := fun q h => h
  have hPx : va_P (dC, dI) gx_cl (wTS x0 q ci) H := wj_l (wj_l hP)
  have hPm : va_P (dC, dI) gx_cl (wMo m0 r cj) H := wj_r (wj_l hP)
  have hPo : va_P (dC, dI) gx_cl (wO o0 cO) H := wj_r hP
  have hDx : va_D (lA s) (wTS x0 q ci) := wj_Dl (wj_Dl hD)
  have hDm : va_D (lA s) (wMo m0 r cj) := wj_Dr (wj_Dl hD)
  have hDo : va_D (lA s) (wO o0 cO) := wj_Dr hD
  have hxm := wj_ne (a := wTS x0 q ci) (b := wMo m0 r cj) (wj_Dl hD)
  have hmo := wj_bc (a := wTS x0 q ci) (b := wMo m0 r cj) (c := wO o0 cO) hD
  have hKx := hK.sub (tys' := kTS ci) [0, 1, 2, 3, 4] rfl
  have hKm := hK.sub (tys' := kMo cj) [5, 6, 7, 8] rfl
  have hKo := hK.sub (tys' := [(cO, .long)]) [9] rfl
  have hK0 := hK.sub (tys' := []) [] rfl
  have hmo2 := hmo
  refine lv_aload_n hx hb d_Lw_law_949 rfl (lv_at hl 3 rfl) ?_
  refine lv_aload_n hx hb d_Lw_law_950 rfl (lv_at hl 4 rfl) ?_
  refine lv_iload hx hb d_Lw_law_951 (lv_at hl 0 rfl) ?_
  refine lv_iconst (v := 1) hx hb d_Lw_law_953 (by decide) ?_
  refine lv_iadd hx hb d_Lw_law_954 ?_
  refine lv_topi (fun z1 z1_e => ?_)
  obtain rfl : z1 = 1 := z1_e.trans (by decide)
  refine va_sld hx hb hX hbl hbA hS (by unfold vp_in; decide) d_Lw_law_955 ?_
  refine W.eq (g2 := F0 m 956 ls [.int (xs 1), .ref x0]) rfl ?_
  refine lv_aload_n hx hb d_Lw_law_956 rfl (lv_at hl 4 rfl) ?_
  refine lv_iload hx hb d_Lw_law_957 (lv_at hl 0 rfl) ?_
  refine lv_iconst (v := 2) hx hb d_Lw_law_959 (by decide) ?_
  refine lv_iadd hx hb d_Lw_law_960 ?_
  refine lv_topi (fun z2 z2_e => ?_)
  obtain rfl : z2 = 2 := z2_e.trans (by decide)
  refine va_sld hx hb hX hbl hbA hS (by unfold vp_in; decide) d_Lw_law_961 ?_
  refine W.eq (g2 := F0 m 962 ls [.int (xs 2), .int (xs 1), .ref x0]) rfl ?_
  refine lv_aload_n hx hb d_Lw_law_962 rfl (lv_at hl 1 rfl) ?_
  refine W.eq (g2 := F0 m 963 ls [.ref o0, .int (xs 2), .int (xs 1), .ref x0]) rfl ?_
  have hFo := va_free (wc := wO o0 cO) hDo hS hA [0] rfl
  refine va_calli (hx_runS (n := 4) (hh := [(0, 10, 13, 31)]) (As := [.ref x0, .int (xs 1), .int (xs 2), .ref o0]) (rest := []) ⟨hx, hb, hml, hown, hB⟩ (x_block1 l dC dI H.size x0 q ci o0 cO (xs 1) (xs 2) h1 h2 h3 h4) (gy_good k_Lw_block) rfl rfl rfl ⟨(Nat.le_of_ble_eq_true rfl), (Nat.le_of_ble_eq_true rfl)⟩ (hB _ hw_65) (hB _ hw_867) (hB _ hw_866) (by decide +kernel) ⟨fun a U g mk q => by obtain ⟨q0, q1, qP, qK, qPx, qKx⟩ := q; exact ⟨q0, q1, qP, va_K.moved (u := U) (U := U.calling g mk a) (Vm.Alike.refl U.vm) qK, qPx, va_K.moved (u := U) (U := U.calling g mk a) (Vm.Alike.refl U.vm) qKx⟩, fun U hU hW => ⟨rfl, by rw [hU], by rw [hU]; exact hPo, va_K.moved hW.alike hKo, by rw [hU]; exact (wd4_P (gx_lt44 h1 h2) hPx), va_K.moved hW.alike hKx⟩⟩ rfl rfl hl.1 rfl (lv_room (Nat.le_of_ble_eq_true rfl)) d_Lw_law_963 ⟨(Nat.le_of_ble_eq_true rfl), (Nat.le_of_ble_eq_true rfl)⟩) hS (fun q _ h => hFo q h) hFo (fun r9 u t H1 locs ht hvm hw hB1 hz1 hk1 hS => ?_)
  have hw : r9 = 0 := hw
  subst hw
  have hPo : va_P (dC, dI) gx_cl [(o0, .inl (cO, 1, .inr (.inl (vp_updL (fun _ => 0) 0 0))))] H1 := by rw [← ht]; exact hB1
  have hPm := wj_keep (wc := wO o0 cO) hPm (wj_sym hmo) hk1
  have hmo2 : ∀ (i j : Nat) (p q : Nat × va_E), (wMo m0 r cj)[i]? = some p → ([(o0, .inl (cO, 1, .inr (.inl (vp_updL (fun _ => 0) 0 0))))] : va_W)[j]? = some q → p.1 ≠ q.1 := wj_one hmo
  generalize H1 = H at hPm hPo hS ⊢
  refine W.widen (k := 129) (n := 14034) (Nat.le_of_ble_eq_true rfl) (Nat.le_of_ble_eq_true rfl) ?_
  refine W.eq (g2 := F0 m 966 ls [.int 0]) rfl ?_
  refine lv_istore hx hb d_Lw_law_966 hl (by decide) rfl (fun ls hl => ?_)
  have hl : lv_has ls 7 [(5, .int 0), (4, .int 0), (3, .ref o0), (2, .ref m0), (1, .ref x0), (0, .ref b)] := hl
  refine lv_aload_n hx hb d_Lw_law_968 rfl (lv_at hl 3 rfl) ?_
  refine lv_aload_n hx hb d_Lw_law_969 rfl (lv_at hl 5 rfl) ?_
  refine lv_iload hx hb d_Lw_law_970 (lv_at hl 1 rfl) ?_
  refine lv_iconst (v := 1) hx hb d_Lw_law_972 (by decide) ?_
  refine lv_iadd hx hb d_Lw_law_973 ?_
  refine lv_topi (fun z3 z3_e => ?_)
  obtain rfl : z3 = 1 := z3_e.trans (by decide)
  refine va_sld hx hb hX hbl hbA hS (by unfold vp_in; decide) d_Lw_law_974 ?_
  refine W.eq (g2 := F0 m 975 ls [.int (xs 1), .ref m0]) rfl ?_
  refine lv_aload_n hx hb d_Lw_law_975 rfl (lv_at hl 5 rfl) ?_
  refine lv_iload hx hb d_Lw_law_976 (lv_at hl 1 rfl) ?_
  refine lv_iconst (v := 2) hx hb d_Lw_law_978 (by decide) ?_
  refine lv_iadd hx hb d_Lw_law_979 ?_
  refine lv_topi (fun z4 z4_e => ?_)
  obtain rfl : z4 = 2 := z4_e.trans (by decide)
  refine va_sld hx hb hX hbl hbA hS (by unfold vp_in; decide) d_Lw_law_980 ?_
  refine W.eq (g2 := F0 m 981 ls [.int (xs 2), .int (xs 1), .ref m0]) rfl ?_
  refine W.eq (g2 := F0 m 981 ls [.int (xs 2), .int (xs 1), .ref m0]) rfl ?_
  have hFm := va_free (wc := wMo m0 r cj) hDm hS hA [0, 1, 2, 3, 4] rfl
  refine va_calli (va_runV (C := "TapeSealerModel") (As := [.int (xs 1), .int (xs 2)]) (rest := []) ⟨hx, hb, hml, hown, hB⟩ (m_Mo_block1 l dC dI H.size m0 r cj (xs 1) (xs 2) h1 h2 h3 h4) (cwV 2 hB (gy_goodV hw_1262 hw_1263 hw_1264 hw_75 k_Mo_block) rfl rfl rfl (by decide +kernel) ⟨(Nat.le_of_ble_eq_true rfl), (Nat.le_of_ble_eq_true rfl)⟩) ⟨fun a U g mk q => by obtain ⟨q0, q1, qP, qK, qD⟩ := q; exact ⟨q0, q1, qP, va_K.moved (u := U) (U := U.calling g mk a) (Vm.Alike.refl U.vm) qK, qD⟩, va_recv hKm hPm rfl (q0 := 0) rfl, fun U hU hW => ⟨rfl, by rw [hU], by rw [hU]; exact hPm, va_K.moved hW.alike hKm, hDm.weaken (fun _ _ _ _ => trivial)⟩⟩ rfl rfl hl.1 rfl (lv_room (Nat.le_of_ble_eq_true rfl)) d_Lw_law_981 ⟨(Nat.le_of_ble_eq_true rfl), (Nat.le_of_ble_eq_true rfl)⟩) hS (fun q _ h => hFm q h) hFm (fun r9 u t H1 locs ht hvm hw hB1 hz1 hk1 hS => ?_)
  have hw : r9 = 0 := hw
  subst hw
  obtain ⟨fs, hPt, hDt⟩ := hB1
  rw [ht] at hPt
  have hPo := wj_keep (wc := wMo m0 r cj) hPo hmo2 hk1
  generalize H1 = H at hPt hPo hS ⊢
  refine W.widen (k := 129) (n := 14034) (Nat.le_of_ble_eq_true rfl) (Nat.le_of_ble_eq_true rfl) ?_
  refine W.eq (g2 := F0 m 984 ls [.int 0]) rfl ?_
  refine lv_istore hx hb d_Lw_law_984 hl (by decide) rfl (fun ls hl => ?_)
  have hl : lv_has ls 7 [(6, .int 0), (5, .int 0), (4, .int 0), (3, .ref o0), (2, .ref m0), (1, .ref x0), (0, .ref b)] := hl
  refine lv_aload_n hx hb d_Lw_law_986 rfl (lv_at hl 4 rfl) ?_
  refine W.eq (g2 := F0 m 987 ls [.ref m0]) rfl ?_
  refine px_go (va_runV (C := "TapeSealerModel") (As := []) (rest := []) ⟨hx, hb, hml, hown, hB⟩ (p_Mo_thrown l dC dI m0 0 fs) (cwV 0 hB (gy_goodV hw_1026 hw_1027 hw_1028 hw_75 k_Mo_thrown) rfl rfl rfl (by decide +kernel) ⟨(Nat.le_of_ble_eq_true rfl), (Nat.le_of_ble_eq_true rfl)⟩) ⟨fun a U g mk q => by obtain ⟨q0, qP, qK⟩ := q; exact ⟨q0, qP, va_K.moved (u := U) (U := U.calling g mk a) (Vm.Alike.refl U.vm) qK⟩, va_recv hK0 hPt rfl (q0 := 0) rfl, fun U hU hW => ⟨rfl, by rw [hU]; exact hPt, va_K.moved hW.alike hK0⟩⟩ rfl rfl hl.1 rfl (lv_room (Nat.le_of_ble_eq_true rfl)) d_Lw_law_987 ⟨(Nat.le_of_ble_eq_true rfl), (Nat.le_of_ble_eq_true rfl)⟩) ?_
  refine W.eq (g2 := F0 m 990 ls [.int 0]) rfl ?_
  refine lv_iload hx hb d_Lw_law_990 (lv_at hl 1 rfl) ?_
  refine lv_icmp_eq (tgt := 997) hx hb d_Lw_law_992 (by decide) (fun _ => ?_) (fun h9 => absurd (by decide) h9)
  refine lv_iload hx hb d_Lw_law_997 (lv_at hl 1 rfl) ?_
  refine lv_if_ne (tgt := 1014) hx hb d_Lw_law_999 (by decide) (fun h9 => absurd (by decide) h9) (fun _ => ?_)
  refine lv_aload_n hx hb d_Lw_law_1002 rfl (lv_at hl 3 rfl) ?_
  refine lv_iconst (v := 0) hx hb d_Lw_law_1003 (by decide) ?_
  refine va_lald (D := (dC, dI)) hx hb hKo hPo 0 0 rfl rfl (by unfold vp_in; decide) d_Lw_law_1004 ?_
  refine W.eq (g2 := F0 m 1005 ls [.long 0]) rfl ?_
  refine lv_iload hx hb d_Lw_law_1005 (lv_at hl 0 rfl) ?_
  refine lv_i2l (v := 0) hx hb d_Lw_law_1007 (by decide) ?_
  refine W.lcmp hx hb d_Lw_law_1008 ?_
  refine lv_topi (fun zc zc_e => ?_)
  obtain rfl : zc = 0 := zc_e.trans (by decide)
  refine lv_if_eq (tgt := 1014) hx hb d_Lw_law_1009 (by decide) (fun _ => ?_) (fun h9 => absurd (by decide) h9)
  refine lv_goto (tgt := 1073) hx hb d_Lw_law_1014 (by decide) ?_
  exact law_exit l C1 (Nat.le_of_ble_eq_true rfl) (Nat.le_of_ble_eq_true rfl) (lv_sub hl [2, 6] rfl) hS
set_option maxHeartbeats 4000000 in
set_option maxRecDepth 100000 in
theorem lq_state_x {p : Program} {e : Env} {s : State} {m : MethodId} {below : List Frame} {meth : Method} {c : Code} (l : Launch) (hl0 : l.stackTraces = false) {b : Nat} {xs : Nat → Int32} (C0 : lw_At p s m meth c b 4 xs) (dC : Nat → ClassId) (dI : Nat → Nat → Nat) (aS aT : Nat) (cS cT : Cell) (hJ : jx aS aT cS cT s) {x0 m0 o0 : Nat} {q r : Nat → Nat} {ci cj : Nat → ClassId} {cO : ClassId} {ls : Array Slot} {H : Heap} {locs : List Loc} (hl : lv_has ls 7 [(4, .int 0), (3, .ref o0), (2, .ref m0), (1, .ref x0), (0, .ref b)]) (hP : va_P (dC, dI) gx_cl (wJ x0 m0 o0 q r ci cj cO) H) (hD : va_D (lA s) (wJ x0 m0 o0 q r ci cj cO)) (hK : va_K (dC, dI) gx_cl (kJ ci cj cO) s) (hS : va_S (lA s) s.heap H locs) (h : (xs 1) < 0 ∨ 5 < (xs 1)) : W p l e room_1 s m #[Value.ref b] below meth c H locs 129 14034 (lw_Z below #[Value.ref b] s) (F0 m 1017 ls []) := by
  have C1 := C0
  obtain ⟨hx, hb, hr, hml, hown0, hts, hX, hbl, hlocks, -⟩ := C0
  have hown : s.vm.findClass "TapeSealerLaw" = some m.cls := hown0
  have hB := law_B hts
  have hbA : ¬ lA s b := Nat.not_le.mpr hbl
  have haS := (Array.getElem?_eq_some_iff.mp hJ.2.2.2.2.2.1).1
  have haT := (Array.getElem?_eq_some_iff.mp hJ.2.2.2.2.2.2).1
  have hA : ∀ q : Nat, s.heap.size ≤ q → lA s q := fun q h => h
  have hPx : va_P (dC, dI) gx_cl (wTS x0 q ci) H := wj_l (wj_l hP)
  have hPm : va_P (dC, dI) gx_cl (wMo m0 r cj) H := wj_r (wj_l hP)
  have hPo : va_P (dC, dI) gx_cl (wO o0 cO) H := wj_r hP
  have hDx : va_D (lA s) (wTS x0 q ci) := wj_Dl (wj_Dl hD)
  have hDm : va_D (lA s) (wMo m0 r cj) := wj_Dr (wj_Dl hD)
  have hDo : va_D (lA s) (wO o0 cO) := wj_Dr hD
  have hxm := wj_ne (a := wTS x0 q ci) (b := wMo m0 r cj) (wj_Dl hD)
  have hmo := wj_bc (a := wTS x0 q ci) (b := wMo m0 r cj) (c := wO o0 cO) hD
  have hKx := hK.sub (tys' := kTS ci) [0, 1, 2, 3, 4] rfl
  have hKm := hK.sub (tys' := kMo cj) [5, 6, 7, 8] rfl
  have hKo := hK.sub (tys' := [(cO, .long)]) [9] rfl
  have hK0 := hK.sub (tys' := []) [] rfl
  have hmo2 := hmo
  refine lv_aload_n hx hb d_Lw_law_1017 rfl (lv_at hl 3 rfl) ?_
  refine lv_aload_n hx hb d_Lw_law_1018 rfl (lv_at hl 4 rfl) ?_
  refine lv_iload hx hb d_Lw_law_1019 (lv_at hl 0 rfl) ?_
  refine lv_iconst (v := 1) hx hb d_Lw_law_1021 (by decide) ?_
  refine lv_iadd hx hb d_Lw_law_1022 ?_
  refine lv_topi (fun z1 z1_e => ?_)
  obtain rfl : z1 = 1 := z1_e.trans (by decide)
  refine va_sld hx hb hX hbl hbA hS (by unfold vp_in; decide) d_Lw_law_1023 ?_
  refine W.eq (g2 := F0 m 1024 ls [.int (xs 1), .ref x0]) rfl ?_
  refine lv_aload_n hx hb d_Lw_law_1024 rfl (lv_at hl 1 rfl) ?_
  refine W.eq (g2 := F0 m 1025 ls [.ref o0, .int (xs 1), .ref x0]) rfl ?_
  refine hx_go (hx_runS (n := 3) (hh := [(0, 9, 12, 31)]) (As := [.ref x0, .int (xs 1), .ref o0]) (rest := []) ⟨hx, hb, hml, hown, hB⟩ (x_state l hl0 dC dI aS aT cS cT x0 q ci o0 (xs 1) (gx_st h)) (gy_good k_Lw_state) rfl rfl rfl ⟨(Nat.le_of_ble_eq_true rfl), (Nat.le_of_ble_eq_true rfl)⟩ (hB _ hw_65) (hB _ hw_874) (hB _ hw_873) (by decide +kernel) ⟨fun a U g mk q => by obtain ⟨q0, qP, qK, qJ⟩ := q; exact ⟨q0, qP, va_K.moved (u := U) (U := U.calling g mk a) (Vm.Alike.refl U.vm) qK, qJ.call g mk a⟩, fun U hU hW => ⟨rfl, by rw [hU]; exact hPx, va_K.moved hW.alike hKx, hJ.move hW (by rw [hU]; exact hS.2.1 aS haS (Nat.not_le.mpr haS)) (by rw [hU]; exact hS.2.1 aT haT (Nat.not_le.mpr haT))⟩⟩ rfl rfl hl.1 rfl (lv_room (Nat.le_of_ble_eq_true rfl)) d_Lw_law_1025 ⟨(Nat.le_of_ble_eq_true rfl), (Nat.le_of_ble_eq_true rfl)⟩) (fun H1 hz hk => ?_)
  have hPm := wj_all hPm hk
  have hPo := wj_all hPo hk
  have hS := mx_S hS hz (wj_old hk)
  generalize H1 = H at hPm hPo hS ⊢
  refine W.widen (k := 130) (n := 14040) (Nat.le_of_ble_eq_true rfl) (Nat.le_of_ble_eq_true rfl) ?_
  refine W.eq (g2 := F0 m 1028 ls [.int 1]) rfl ?_
  refine lv_istore hx hb d_Lw_law_1028 hl (by decide) rfl (fun ls hl => ?_)
  have hl : lv_has ls 7 [(5, .int 1), (4, .int 0), (3, .ref o0), (2, .ref m0), (1, .ref x0), (0, .ref b)] := hl
  refine lv_aload_n hx hb d_Lw_law_1030 rfl (lv_at hl 3 rfl) ?_
  refine lv_aload_n hx hb d_Lw_law_1031 rfl (lv_at hl 5 rfl) ?_
  refine lv_iload hx hb d_Lw_law_1032 (lv_at hl 1 rfl) ?_
  refine lv_iconst (v := 1) hx hb d_Lw_law_1034 (by decide) ?_
  refine lv_iadd hx hb d_Lw_law_1035 ?_
  refine lv_topi (fun z2 z2_e => ?_)
  obtain rfl : z2 = 1 := z2_e.trans (by decide)
  refine va_sld hx hb hX hbl hbA hS (by unfold vp_in; decide) d_Lw_law_1036 ?_
  refine W.eq (g2 := F0 m 1037 ls [.int (xs 1), .ref m0]) rfl ?_
  refine W.eq (g2 := F0 m 1037 ls [.int (xs 1), .ref m0]) rfl ?_
  have hFm := va_free (wc := wMo m0 r cj) hDm hS hA [0, 1, 2, 3, 4] rfl
  refine va_calli (va_runV (C := "TapeSealerModel") (As := [.int (xs 1)]) (rest := []) ⟨hx, hb, hml, hown, hB⟩ (m_Mo_state_x l dC dI H.size m0 r cj (xs 1) h) (cwV 1 hB (gy_goodV hw_1266 hw_1267 hw_1268 hw_75 k_Mo_state) rfl rfl rfl (by decide +kernel) ⟨(Nat.le_of_ble_eq_true rfl), (Nat.le_of_ble_eq_true rfl)⟩) ⟨fun a U g mk q => by obtain ⟨q0, q1, qP, qK, qD⟩ := q; exact ⟨q0, q1, qP, va_K.moved (u := U) (U := U.calling g mk a) (Vm.Alike.refl U.vm) qK, qD⟩, va_recv hKm hPm rfl (q0 := 0) rfl, fun U hU hW => ⟨rfl, by rw [hU], by rw [hU]; exact hPm, va_K.moved hW.alike hKm, hDm.weaken (fun _ _ _ _ => trivial)⟩⟩ rfl rfl hl.1 rfl (lv_room (Nat.le_of_ble_eq_true rfl)) d_Lw_law_1037 ⟨(Nat.le_of_ble_eq_true rfl), (Nat.le_of_ble_eq_true rfl)⟩) hS (fun q _ h => hFm q h) hFm (fun r9 u t H1 locs ht hvm hw hB1 hz1 hk1 hS => ?_)
  have hw : r9 = 0 := hw
  subst hw
  obtain ⟨fs, hPt, hDt⟩ := hB1
  rw [ht] at hPt
  have hPo := wj_keep (wc := wMo m0 r cj) hPo hmo2 hk1
  generalize H1 = H at hPt hPo hS ⊢
  refine W.widen (k := 130) (n := 14040) (Nat.le_of_ble_eq_true rfl) (Nat.le_of_ble_eq_true rfl) ?_
  refine W.eq (g2 := F0 m 1040 ls [.int 0]) rfl ?_
  refine lv_istore hx hb d_Lw_law_1040 hl (by decide) rfl (fun ls hl => ?_)
  have hl : lv_has ls 7 [(6, .int 0), (5, .int 1), (4, .int 0), (3, .ref o0), (2, .ref m0), (1, .ref x0), (0, .ref b)] := hl
  refine lv_aload_n hx hb d_Lw_law_1042 rfl (lv_at hl 4 rfl) ?_
  refine W.eq (g2 := F0 m 1043 ls [.ref m0]) rfl ?_
  refine px_go (va_runV (C := "TapeSealerModel") (As := []) (rest := []) ⟨hx, hb, hml, hown, hB⟩ (p_Mo_thrown l dC dI m0 1 fs) (cwV 0 hB (gy_goodV hw_1026 hw_1027 hw_1028 hw_75 k_Mo_thrown) rfl rfl rfl (by decide +kernel) ⟨(Nat.le_of_ble_eq_true rfl), (Nat.le_of_ble_eq_true rfl)⟩) ⟨fun a U g mk q => by obtain ⟨q0, qP, qK⟩ := q; exact ⟨q0, qP, va_K.moved (u := U) (U := U.calling g mk a) (Vm.Alike.refl U.vm) qK⟩, va_recv hK0 hPt rfl (q0 := 0) rfl, fun U hU hW => ⟨rfl, by rw [hU]; exact hPt, va_K.moved hW.alike hK0⟩⟩ rfl rfl hl.1 rfl (lv_room (Nat.le_of_ble_eq_true rfl)) d_Lw_law_1043 ⟨(Nat.le_of_ble_eq_true rfl), (Nat.le_of_ble_eq_true rfl)⟩) ?_
  refine W.eq (g2 := F0 m 1046 ls [.int 1]) rfl ?_
  refine lv_iload hx hb d_Lw_law_1046 (lv_at hl 1 rfl) ?_
  refine lv_icmp_eq (tgt := 1053) hx hb d_Lw_law_1048 (by decide) (fun _ => ?_) (fun h9 => absurd (by decide) h9)
  refine lv_iload hx hb d_Lw_law_1053 (lv_at hl 1 rfl) ?_
  refine lv_if_ne (tgt := 1070) hx hb d_Lw_law_1055 (by decide) (fun _ => ?_) (fun h9 => absurd h9 (by decide))
  refine lv_goto (tgt := 1073) hx hb d_Lw_law_1070 (by decide) ?_
  exact law_exit l C1 (Nat.le_of_ble_eq_true rfl) (Nat.le_of_ble_eq_true rfl) (lv_sub hl [2, 6] rfl) hS
set_option maxHeartbeats 4000000 in
set_option maxRecDepth 100000 in
theorem lq_state0 {p : Program} {e : Env} {s : State} {m : MethodId} {below : List Frame} {meth : Method} {c : Code} (l : Launch) (hl0 : l.stackTraces = false) {b : Nat} {xs : Nat → Int32} (C0 : lw_At p s m meth c b 4 xs) (dC : Nat → ClassId) (dI : Nat → Nat → Nat) (aS aT : Nat) (cS cT : Cell) (hJ : jx aS aT cS cT s) {x0 m0 o0 : Nat} {q r : Nat → Nat} {ci cj : Nat → ClassId} {cO : ClassId} {ls : Array Slot} {H : Heap} {locs : List Loc} (hl : lv_has ls 7 [(4, .int 0), (3, .ref o0), (2, .ref m0), (1, .ref x0), (0, .ref b)]) (hP : va_P (dC, dI) gx_cl (wJ x0 m0 o0 q r ci cj cO) H) (hD : va_D (lA s) (wJ x0 m0 o0 q r ci cj cO)) (hK : va_K (dC, dI) gx_cl (kJ ci cj cO) s) (hS : va_S (lA s) s.heap H locs) (e1 : xs 1 = 0) : W p l e room_1 s m #[Value.ref b] below meth c H locs 129 14034 (lw_Z below #[Value.ref b] s) (F0 m 1017 ls []) := by
  have C1 := C0
  obtain ⟨hx, hb, hr, hml, hown0, hts, hX, hbl, hlocks, -⟩ := C0
  have hown : s.vm.findClass "TapeSealerLaw" = some m.cls := hown0
  have hB := law_B hts
  have hbA : ¬ lA s b := Nat.not_le.mpr hbl
  have haS := (Array.getElem?_eq_some_iff.mp hJ.2.2.2.2.2.1).1
  have haT := (Array.getElem?_eq_some_iff.mp hJ.2.2.2.2.2.2).1
  have hA : ∀ q : Nat, s.heap.size ≤ q → lA s q := fun q h => h
  have hPx : va_P (dC, dI) gx_cl (wTS x0 q ci) H := wj_l (wj_l hP)
  have hPm : va_P (dC, dI) gx_cl (wMo m0 r cj) H := wj_r (wj_l hP)
  have hPo : va_P (dC, dI) gx_cl (wO o0 cO) H := wj_r hP
  have hDx : va_D (lA s) (wTS x0 q ci) := wj_Dl (wj_Dl hD)
  have hDm : va_D (lA s) (wMo m0 r cj) := wj_Dr (wj_Dl hD)
  have hDo : va_D (lA s) (wO o0 cO) := wj_Dr hD
  have hxm := wj_ne (a := wTS x0 q ci) (b := wMo m0 r cj) (wj_Dl hD)
  have hmo := wj_bc (a := wTS x0 q ci) (b := wMo m0 r cj) (c := wO o0 cO) hD
  have hKx := hK.sub (tys' := kTS ci) [0, 1, 2, 3, 4] rfl
  have hKm := hK.sub (tys' := kMo cj) [5, 6, 7, 8] rfl
  have hKo := hK.sub (tys' := [(cO, .long)]) [9] rfl
  have hK0 := hK.sub (tys' := []) [] rfl
  have hmo2 := hmo
  refine lv_aload_n hx hb d_Lw_law_1017 rfl (lv_at hl 3 rfl) ?_
  refine lv_aload_n hx hb d_Lw_law_1018 rfl (lv_at hl 4 rfl) ?_
  refine lv_iload hx hb d_Lw_law_1019 (lv_at hl 0 rfl) ?_
  refine lv_iconst (v := 1) hx hb d_Lw_law_1021 (by decide) ?_
  refine lv_iadd hx hb d_Lw_law_1022 ?_
  refine lv_topi (fun z1 z1_e => ?_)
  obtain rfl : z1 = 1 := z1_e.trans (by decide)
  refine va_sld hx hb hX hbl hbA hS (by unfold vp_in; decide) d_Lw_law_1023 ?_
  refine W.eq (g2 := F0 m 1024 ls [.int (xs 1), .ref x0]) rfl ?_
  refine W.eq (g2 := F0 m 1024 ls [.int 0, .ref x0]) (by rw [e1]) ?_
  refine lv_aload_n hx hb d_Lw_law_1024 rfl (lv_at hl 1 rfl) ?_
  refine W.eq (g2 := F0 m 1025 ls [.ref o0, .int 0, .ref x0]) rfl ?_
  have hFo := va_free (wc := wO o0 cO) hDo hS hA [0] rfl
  refine va_calli (hx_runS (n := 3) (hh := [(0, 9, 12, 31)]) (As := [.ref x0, .int 0, .ref o0]) (rest := []) ⟨hx, hb, hml, hown, hB⟩ (x_state0 l dC dI H.size x0 q ci o0 cO) (gy_good k_Lw_state) rfl rfl rfl ⟨(Nat.le_of_ble_eq_true rfl), (Nat.le_of_ble_eq_true rfl)⟩ (hB _ hw_65) (hB _ hw_874) (hB _ hw_873) (by decide +kernel) ⟨fun a U g mk q => by obtain ⟨q0, q1, qP, qK, qPx, qKx⟩ := q; exact ⟨q0, q1, qP, va_K.moved (u := U) (U := U.calling g mk a) (Vm.Alike.refl U.vm) qK, qPx, va_K.moved (u := U) (U := U.calling g mk a) (Vm.Alike.refl U.vm) qKx⟩, fun U hU hW => ⟨rfl, by rw [hU], by rw [hU]; exact hPo, va_K.moved hW.alike hKo, by rw [hU]; exact hPx, va_K.moved hW.alike hKx⟩⟩ rfl rfl hl.1 rfl (lv_room (Nat.le_of_ble_eq_true rfl)) d_Lw_law_1025 ⟨(Nat.le_of_ble_eq_true rfl), (Nat.le_of_ble_eq_true rfl)⟩) hS (fun q _ h => hFo q h) hFo (fun r9 u t H1 locs ht hvm hw hB1 hz1 hk1 hS => ?_)
  have hw : r9 = 0 := hw
  subst hw
  have hPo : va_P (dC, dI) gx_cl [(o0, .inl (cO, 1, .inr (.inl (vp_updL (fun _ => 0) 0 0))))] H1 := by rw [← ht]; exact hB1
  have hPm := wj_keep (wc := wO o0 cO) hPm (wj_sym hmo) hk1
  have hmo2 : ∀ (i j : Nat) (p q : Nat × va_E), (wMo m0 r cj)[i]? = some p → ([(o0, .inl (cO, 1, .inr (.inl (vp_updL (fun _ => 0) 0 0))))] : va_W)[j]? = some q → p.1 ≠ q.1 := wj_one hmo
  generalize H1 = H at hPm hPo hS ⊢
  refine W.widen (k := 129) (n := 14034) (Nat.le_of_ble_eq_true rfl) (Nat.le_of_ble_eq_true rfl) ?_
  refine W.eq (g2 := F0 m 1028 ls [.int 0]) rfl ?_
  refine lv_istore hx hb d_Lw_law_1028 hl (by decide) rfl (fun ls hl => ?_)
  have hl : lv_has ls 7 [(5, .int 0), (4, .int 0), (3, .ref o0), (2, .ref m0), (1, .ref x0), (0, .ref b)] := hl
  refine lv_aload_n hx hb d_Lw_law_1030 rfl (lv_at hl 3 rfl) ?_
  refine lv_aload_n hx hb d_Lw_law_1031 rfl (lv_at hl 5 rfl) ?_
  refine lv_iload hx hb d_Lw_law_1032 (lv_at hl 1 rfl) ?_
  refine lv_iconst (v := 1) hx hb d_Lw_law_1034 (by decide) ?_
  refine lv_iadd hx hb d_Lw_law_1035 ?_
  refine lv_topi (fun z2 z2_e => ?_)
  obtain rfl : z2 = 1 := z2_e.trans (by decide)
  refine va_sld hx hb hX hbl hbA hS (by unfold vp_in; decide) d_Lw_law_1036 ?_
  refine W.eq (g2 := F0 m 1037 ls [.int (xs 1), .ref m0]) rfl ?_
  refine W.eq (g2 := F0 m 1037 ls [.int 0, .ref m0]) (by rw [e1]) ?_
  refine W.eq (g2 := F0 m 1037 ls [.int 0, .ref m0]) rfl ?_
  have hFm := va_free (wc := wMo m0 r cj) hDm hS hA [0, 1, 2, 3, 4] rfl
  refine va_calli (va_runV (C := "TapeSealerModel") (As := [.int 0]) (rest := []) ⟨hx, hb, hml, hown, hB⟩ (m_Mo_state0 l dC dI H.size m0 r cj) (cwV 1 hB (gy_goodV hw_1266 hw_1267 hw_1268 hw_75 k_Mo_state) rfl rfl rfl (by decide +kernel) ⟨(Nat.le_of_ble_eq_true rfl), (Nat.le_of_ble_eq_true rfl)⟩) ⟨fun a U g mk q => by obtain ⟨q0, q1, qP, qK, qD⟩ := q; exact ⟨q0, q1, qP, va_K.moved (u := U) (U := U.calling g mk a) (Vm.Alike.refl U.vm) qK, qD⟩, va_recv hKm hPm rfl (q0 := 0) rfl, fun U hU hW => ⟨rfl, by rw [hU], by rw [hU]; exact hPm, va_K.moved hW.alike hKm, hDm.weaken (fun _ _ _ _ => trivial)⟩⟩ rfl rfl hl.1 rfl (lv_room (Nat.le_of_ble_eq_true rfl)) d_Lw_law_1037 ⟨(Nat.le_of_ble_eq_true rfl), (Nat.le_of_ble_eq_true rfl)⟩) hS (fun q _ h => hFm q h) hFm (fun r9 u t H1 locs ht hvm hw hB1 hz1 hk1 hS => ?_)
  have hw : r9 = 0 := hw
  subst hw
  obtain ⟨fs, hPt, hDt⟩ := hB1
  rw [ht] at hPt
  have hPo := wj_keep (wc := wMo m0 r cj) hPo hmo2 hk1
  generalize H1 = H at hPt hPo hS ⊢
  refine W.widen (k := 129) (n := 14034) (Nat.le_of_ble_eq_true rfl) (Nat.le_of_ble_eq_true rfl) ?_
  refine W.eq (g2 := F0 m 1040 ls [.int 0]) rfl ?_
  refine lv_istore hx hb d_Lw_law_1040 hl (by decide) rfl (fun ls hl => ?_)
  have hl : lv_has ls 7 [(6, .int 0), (5, .int 0), (4, .int 0), (3, .ref o0), (2, .ref m0), (1, .ref x0), (0, .ref b)] := hl
  refine lv_aload_n hx hb d_Lw_law_1042 rfl (lv_at hl 4 rfl) ?_
  refine W.eq (g2 := F0 m 1043 ls [.ref m0]) rfl ?_
  refine px_go (va_runV (C := "TapeSealerModel") (As := []) (rest := []) ⟨hx, hb, hml, hown, hB⟩ (p_Mo_thrown l dC dI m0 0 fs) (cwV 0 hB (gy_goodV hw_1026 hw_1027 hw_1028 hw_75 k_Mo_thrown) rfl rfl rfl (by decide +kernel) ⟨(Nat.le_of_ble_eq_true rfl), (Nat.le_of_ble_eq_true rfl)⟩) ⟨fun a U g mk q => by obtain ⟨q0, qP, qK⟩ := q; exact ⟨q0, qP, va_K.moved (u := U) (U := U.calling g mk a) (Vm.Alike.refl U.vm) qK⟩, va_recv hK0 hPt rfl (q0 := 0) rfl, fun U hU hW => ⟨rfl, by rw [hU]; exact hPt, va_K.moved hW.alike hK0⟩⟩ rfl rfl hl.1 rfl (lv_room (Nat.le_of_ble_eq_true rfl)) d_Lw_law_1043 ⟨(Nat.le_of_ble_eq_true rfl), (Nat.le_of_ble_eq_true rfl)⟩) ?_
  refine W.eq (g2 := F0 m 1046 ls [.int 0]) rfl ?_
  refine lv_iload hx hb d_Lw_law_1046 (lv_at hl 1 rfl) ?_
  refine lv_icmp_eq (tgt := 1053) hx hb d_Lw_law_1048 (by decide) (fun _ => ?_) (fun h9 => absurd (by decide) h9)
  refine lv_iload hx hb d_Lw_law_1053 (lv_at hl 1 rfl) ?_
  refine lv_if_ne (tgt := 1070) hx hb d_Lw_law_1055 (by decide) (fun h9 => absurd (by decide) h9) (fun _ => ?_)
  refine lv_aload_n hx hb d_Lw_law_1058 rfl (lv_at hl 3 rfl) ?_
  refine lv_iconst (v := 0) hx hb d_Lw_law_1059 (by decide) ?_
  refine va_lald (D := (dC, dI)) hx hb hKo hPo 0 0 rfl rfl (by unfold vp_in; decide) d_Lw_law_1060 ?_
  refine W.eq (g2 := F0 m 1061 ls [.long 0]) rfl ?_
  refine lv_iload hx hb d_Lw_law_1061 (lv_at hl 0 rfl) ?_
  refine lv_i2l (v := 0) hx hb d_Lw_law_1063 (by decide) ?_
  refine W.lcmp hx hb d_Lw_law_1064 ?_
  refine lv_topi (fun zc zc_e => ?_)
  obtain rfl : zc = 0 := zc_e.trans (by decide)
  refine lv_if_eq (tgt := 1070) hx hb d_Lw_law_1065 (by decide) (fun _ => ?_) (fun h9 => absurd (by decide) h9)
  refine lv_goto (tgt := 1073) hx hb d_Lw_law_1070 (by decide) ?_
  exact law_exit l C1 (Nat.le_of_ble_eq_true rfl) (Nat.le_of_ble_eq_true rfl) (lv_sub hl [2, 6] rfl) hS
set_option maxHeartbeats 4000000 in
set_option maxRecDepth 100000 in
theorem lq_state1 {p : Program} {e : Env} {s : State} {m : MethodId} {below : List Frame} {meth : Method} {c : Code} (l : Launch) (hl0 : l.stackTraces = false) {b : Nat} {xs : Nat → Int32} (C0 : lw_At p s m meth c b 4 xs) (dC : Nat → ClassId) (dI : Nat → Nat → Nat) (aS aT : Nat) (cS cT : Cell) (hJ : jx aS aT cS cT s) {x0 m0 o0 : Nat} {q r : Nat → Nat} {ci cj : Nat → ClassId} {cO : ClassId} {ls : Array Slot} {H : Heap} {locs : List Loc} (hl : lv_has ls 7 [(4, .int 0), (3, .ref o0), (2, .ref m0), (1, .ref x0), (0, .ref b)]) (hP : va_P (dC, dI) gx_cl (wJ x0 m0 o0 q r ci cj cO) H) (hD : va_D (lA s) (wJ x0 m0 o0 q r ci cj cO)) (hK : va_K (dC, dI) gx_cl (kJ ci cj cO) s) (hS : va_S (lA s) s.heap H locs) (e1 : xs 1 = 1) : W p l e room_1 s m #[Value.ref b] below meth c H locs 129 14034 (lw_Z below #[Value.ref b] s) (F0 m 1017 ls []) := by
  have C1 := C0
  obtain ⟨hx, hb, hr, hml, hown0, hts, hX, hbl, hlocks, -⟩ := C0
  have hown : s.vm.findClass "TapeSealerLaw" = some m.cls := hown0
  have hB := law_B hts
  have hbA : ¬ lA s b := Nat.not_le.mpr hbl
  have haS := (Array.getElem?_eq_some_iff.mp hJ.2.2.2.2.2.1).1
  have haT := (Array.getElem?_eq_some_iff.mp hJ.2.2.2.2.2.2).1
  have hA : ∀ q : Nat, s.heap.size ≤ q → lA s q := fun q h => h
  have hPx : va_P (dC, dI) gx_cl (wTS x0 q ci) H := wj_l (wj_l hP)
  have hPm : va_P (dC, dI) gx_cl (wMo m0 r cj) H := wj_r (wj_l hP)
  have hPo : va_P (dC, dI) gx_cl (wO o0 cO) H := wj_r hP
  have hDx : va_D (lA s) (wTS x0 q ci) := wj_Dl (wj_Dl hD)
  have hDm : va_D (lA s) (wMo m0 r cj) := wj_Dr (wj_Dl hD)
  have hDo : va_D (lA s) (wO o0 cO) := wj_Dr hD
  have hxm := wj_ne (a := wTS x0 q ci) (b := wMo m0 r cj) (wj_Dl hD)
  have hmo := wj_bc (a := wTS x0 q ci) (b := wMo m0 r cj) (c := wO o0 cO) hD
  have hKx := hK.sub (tys' := kTS ci) [0, 1, 2, 3, 4] rfl
  have hKm := hK.sub (tys' := kMo cj) [5, 6, 7, 8] rfl
  have hKo := hK.sub (tys' := [(cO, .long)]) [9] rfl
  have hK0 := hK.sub (tys' := []) [] rfl
  have hmo2 := hmo
  refine lv_aload_n hx hb d_Lw_law_1017 rfl (lv_at hl 3 rfl) ?_
  refine lv_aload_n hx hb d_Lw_law_1018 rfl (lv_at hl 4 rfl) ?_
  refine lv_iload hx hb d_Lw_law_1019 (lv_at hl 0 rfl) ?_
  refine lv_iconst (v := 1) hx hb d_Lw_law_1021 (by decide) ?_
  refine lv_iadd hx hb d_Lw_law_1022 ?_
  refine lv_topi (fun z1 z1_e => ?_)
  obtain rfl : z1 = 1 := z1_e.trans (by decide)
  refine va_sld hx hb hX hbl hbA hS (by unfold vp_in; decide) d_Lw_law_1023 ?_
  refine W.eq (g2 := F0 m 1024 ls [.int (xs 1), .ref x0]) rfl ?_
  refine W.eq (g2 := F0 m 1024 ls [.int 1, .ref x0]) (by rw [e1]) ?_
  refine lv_aload_n hx hb d_Lw_law_1024 rfl (lv_at hl 1 rfl) ?_
  refine W.eq (g2 := F0 m 1025 ls [.ref o0, .int 1, .ref x0]) rfl ?_
  have hFo := va_free (wc := wO o0 cO) hDo hS hA [0] rfl
  refine va_calli (hx_runS (n := 3) (hh := [(0, 9, 12, 31)]) (As := [.ref x0, .int 1, .ref o0]) (rest := []) ⟨hx, hb, hml, hown, hB⟩ (x_state1 l dC dI H.size x0 q ci o0 cO) (gy_good k_Lw_state) rfl rfl rfl ⟨(Nat.le_of_ble_eq_true rfl), (Nat.le_of_ble_eq_true rfl)⟩ (hB _ hw_65) (hB _ hw_874) (hB _ hw_873) (by decide +kernel) ⟨fun a U g mk q => by obtain ⟨q0, q1, qP, qK, qPx, qKx⟩ := q; exact ⟨q0, q1, qP, va_K.moved (u := U) (U := U.calling g mk a) (Vm.Alike.refl U.vm) qK, qPx, va_K.moved (u := U) (U := U.calling g mk a) (Vm.Alike.refl U.vm) qKx⟩, fun U hU hW => ⟨rfl, by rw [hU], by rw [hU]; exact hPo, va_K.moved hW.alike hKo, by rw [hU]; exact hPx, va_K.moved hW.alike hKx⟩⟩ rfl rfl hl.1 rfl (lv_room (Nat.le_of_ble_eq_true rfl)) d_Lw_law_1025 ⟨(Nat.le_of_ble_eq_true rfl), (Nat.le_of_ble_eq_true rfl)⟩) hS (fun q _ h => hFo q h) hFo (fun r9 u t H1 locs ht hvm hw hB1 hz1 hk1 hS => ?_)
  have hw : r9 = 0 := hw
  subst hw
  have hPo : va_P (dC, dI) gx_cl [(o0, .inl (cO, 1, .inr (.inl (vp_updL (fun _ => 0) 0 6))))] H1 := by rw [← ht]; exact hB1
  have hPm := wj_keep (wc := wO o0 cO) hPm (wj_sym hmo) hk1
  have hmo2 : ∀ (i j : Nat) (p q : Nat × va_E), (wMo m0 r cj)[i]? = some p → ([(o0, .inl (cO, 1, .inr (.inl (vp_updL (fun _ => 0) 0 6))))] : va_W)[j]? = some q → p.1 ≠ q.1 := wj_one hmo
  generalize H1 = H at hPm hPo hS ⊢
  refine W.widen (k := 129) (n := 14034) (Nat.le_of_ble_eq_true rfl) (Nat.le_of_ble_eq_true rfl) ?_
  refine W.eq (g2 := F0 m 1028 ls [.int 0]) rfl ?_
  refine lv_istore hx hb d_Lw_law_1028 hl (by decide) rfl (fun ls hl => ?_)
  have hl : lv_has ls 7 [(5, .int 0), (4, .int 0), (3, .ref o0), (2, .ref m0), (1, .ref x0), (0, .ref b)] := hl
  refine lv_aload_n hx hb d_Lw_law_1030 rfl (lv_at hl 3 rfl) ?_
  refine lv_aload_n hx hb d_Lw_law_1031 rfl (lv_at hl 5 rfl) ?_
  refine lv_iload hx hb d_Lw_law_1032 (lv_at hl 1 rfl) ?_
  refine lv_iconst (v := 1) hx hb d_Lw_law_1034 (by decide) ?_
  refine lv_iadd hx hb d_Lw_law_1035 ?_
  refine lv_topi (fun z2 z2_e => ?_)
  obtain rfl : z2 = 1 := z2_e.trans (by decide)
  refine va_sld hx hb hX hbl hbA hS (by unfold vp_in; decide) d_Lw_law_1036 ?_
  refine W.eq (g2 := F0 m 1037 ls [.int (xs 1), .ref m0]) rfl ?_
  refine W.eq (g2 := F0 m 1037 ls [.int 1, .ref m0]) (by rw [e1]) ?_
  refine W.eq (g2 := F0 m 1037 ls [.int 1, .ref m0]) rfl ?_
  have hFm := va_free (wc := wMo m0 r cj) hDm hS hA [0, 1, 2, 3, 4] rfl
  refine va_calli (va_runV (C := "TapeSealerModel") (As := [.int 1]) (rest := []) ⟨hx, hb, hml, hown, hB⟩ (m_Mo_state1 l dC dI H.size m0 r cj) (cwV 1 hB (gy_goodV hw_1266 hw_1267 hw_1268 hw_75 k_Mo_state) rfl rfl rfl (by decide +kernel) ⟨(Nat.le_of_ble_eq_true rfl), (Nat.le_of_ble_eq_true rfl)⟩) ⟨fun a U g mk q => by obtain ⟨q0, q1, qP, qK, qD⟩ := q; exact ⟨q0, q1, qP, va_K.moved (u := U) (U := U.calling g mk a) (Vm.Alike.refl U.vm) qK, qD⟩, va_recv hKm hPm rfl (q0 := 0) rfl, fun U hU hW => ⟨rfl, by rw [hU], by rw [hU]; exact hPm, va_K.moved hW.alike hKm, hDm.weaken (fun _ _ _ _ => trivial)⟩⟩ rfl rfl hl.1 rfl (lv_room (Nat.le_of_ble_eq_true rfl)) d_Lw_law_1037 ⟨(Nat.le_of_ble_eq_true rfl), (Nat.le_of_ble_eq_true rfl)⟩) hS (fun q _ h => hFm q h) hFm (fun r9 u t H1 locs ht hvm hw hB1 hz1 hk1 hS => ?_)
  have hw : r9 = 6 := hw
  subst hw
  obtain ⟨fs, hPt, hDt⟩ := hB1
  rw [ht] at hPt
  have hPo := wj_keep (wc := wMo m0 r cj) hPo hmo2 hk1
  generalize H1 = H at hPt hPo hS ⊢
  refine W.widen (k := 129) (n := 14034) (Nat.le_of_ble_eq_true rfl) (Nat.le_of_ble_eq_true rfl) ?_
  refine W.eq (g2 := F0 m 1040 ls [.int 6]) rfl ?_
  refine lv_istore hx hb d_Lw_law_1040 hl (by decide) rfl (fun ls hl => ?_)
  have hl : lv_has ls 7 [(6, .int 6), (5, .int 0), (4, .int 0), (3, .ref o0), (2, .ref m0), (1, .ref x0), (0, .ref b)] := hl
  refine lv_aload_n hx hb d_Lw_law_1042 rfl (lv_at hl 4 rfl) ?_
  refine W.eq (g2 := F0 m 1043 ls [.ref m0]) rfl ?_
  refine px_go (va_runV (C := "TapeSealerModel") (As := []) (rest := []) ⟨hx, hb, hml, hown, hB⟩ (p_Mo_thrown l dC dI m0 0 fs) (cwV 0 hB (gy_goodV hw_1026 hw_1027 hw_1028 hw_75 k_Mo_thrown) rfl rfl rfl (by decide +kernel) ⟨(Nat.le_of_ble_eq_true rfl), (Nat.le_of_ble_eq_true rfl)⟩) ⟨fun a U g mk q => by obtain ⟨q0, qP, qK⟩ := q; exact ⟨q0, qP, va_K.moved (u := U) (U := U.calling g mk a) (Vm.Alike.refl U.vm) qK⟩, va_recv hK0 hPt rfl (q0 := 0) rfl, fun U hU hW => ⟨rfl, by rw [hU]; exact hPt, va_K.moved hW.alike hK0⟩⟩ rfl rfl hl.1 rfl (lv_room (Nat.le_of_ble_eq_true rfl)) d_Lw_law_1043 ⟨(Nat.le_of_ble_eq_true rfl), (Nat.le_of_ble_eq_true rfl)⟩) ?_
  refine W.eq (g2 := F0 m 1046 ls [.int 0]) rfl ?_
  refine lv_iload hx hb d_Lw_law_1046 (lv_at hl 1 rfl) ?_
  refine lv_icmp_eq (tgt := 1053) hx hb d_Lw_law_1048 (by decide) (fun _ => ?_) (fun h9 => absurd (by decide) h9)
  refine lv_iload hx hb d_Lw_law_1053 (lv_at hl 1 rfl) ?_
  refine lv_if_ne (tgt := 1070) hx hb d_Lw_law_1055 (by decide) (fun h9 => absurd (by decide) h9) (fun _ => ?_)
  refine lv_aload_n hx hb d_Lw_law_1058 rfl (lv_at hl 3 rfl) ?_
  refine lv_iconst (v := 0) hx hb d_Lw_law_1059 (by decide) ?_
  refine va_lald (D := (dC, dI)) hx hb hKo hPo 0 0 rfl rfl (by unfold vp_in; decide) d_Lw_law_1060 ?_
  refine W.eq (g2 := F0 m 1061 ls [.long 6]) rfl ?_
  refine lv_iload hx hb d_Lw_law_1061 (lv_at hl 0 rfl) ?_
  refine lv_i2l (v := 6) hx hb d_Lw_law_1063 (by decide) ?_
  refine W.lcmp hx hb d_Lw_law_1064 ?_
  refine lv_topi (fun zc zc_e => ?_)
  obtain rfl : zc = 0 := zc_e.trans (by decide)
  refine lv_if_eq (tgt := 1070) hx hb d_Lw_law_1065 (by decide) (fun _ => ?_) (fun h9 => absurd (by decide) h9)
  refine lv_goto (tgt := 1073) hx hb d_Lw_law_1070 (by decide) ?_
  exact law_exit l C1 (Nat.le_of_ble_eq_true rfl) (Nat.le_of_ble_eq_true rfl) (lv_sub hl [2, 6] rfl) hS
set_option maxHeartbeats 4000000 in
set_option maxRecDepth 100000 in
theorem lq_state2 {p : Program} {e : Env} {s : State} {m : MethodId} {below : List Frame} {meth : Method} {c : Code} (l : Launch) (hl0 : l.stackTraces = false) {b : Nat} {xs : Nat → Int32} (C0 : lw_At p s m meth c b 4 xs) (dC : Nat → ClassId) (dI : Nat → Nat → Nat) (aS aT : Nat) (cS cT : Cell) (hJ : jx aS aT cS cT s) {x0 m0 o0 : Nat} {q r : Nat → Nat} {ci cj : Nat → ClassId} {cO : ClassId} {ls : Array Slot} {H : Heap} {locs : List Loc} (hl : lv_has ls 7 [(4, .int 0), (3, .ref o0), (2, .ref m0), (1, .ref x0), (0, .ref b)]) (hP : va_P (dC, dI) gx_cl (wJ x0 m0 o0 q r ci cj cO) H) (hD : va_D (lA s) (wJ x0 m0 o0 q r ci cj cO)) (hK : va_K (dC, dI) gx_cl (kJ ci cj cO) s) (hS : va_S (lA s) s.heap H locs) (e1 : xs 1 = 2) : W p l e room_1 s m #[Value.ref b] below meth c H locs 129 14034 (lw_Z below #[Value.ref b] s) (F0 m 1017 ls []) := by
  have C1 := C0
  obtain ⟨hx, hb, hr, hml, hown0, hts, hX, hbl, hlocks, -⟩ := C0
  have hown : s.vm.findClass "TapeSealerLaw" = some m.cls := hown0
  have hB := law_B hts
  have hbA : ¬ lA s b := Nat.not_le.mpr hbl
  have haS := (Array.getElem?_eq_some_iff.mp hJ.2.2.2.2.2.1).1
  have haT := (Array.getElem?_eq_some_iff.mp hJ.2.2.2.2.2.2).1
  have hA : ∀ q : Nat, s.heap.size ≤ q → lA s q := fun q h => h
  have hPx : va_P (dC, dI) gx_cl (wTS x0 q ci) H := wj_l (wj_l hP)
  have hPm : va_P (dC, dI) gx_cl (wMo m0 r cj) H := wj_r (wj_l hP)
  have hPo : va_P (dC, dI) gx_cl (wO o0 cO) H := wj_r hP
  have hDx : va_D (lA s) (wTS x0 q ci) := wj_Dl (wj_Dl hD)
  have hDm : va_D (lA s) (wMo m0 r cj) := wj_Dr (wj_Dl hD)
  have hDo : va_D (lA s) (wO o0 cO) := wj_Dr hD
  have hxm := wj_ne (a := wTS x0 q ci) (b := wMo m0 r cj) (wj_Dl hD)
  have hmo := wj_bc (a := wTS x0 q ci) (b := wMo m0 r cj) (c := wO o0 cO) hD
  have hKx := hK.sub (tys' := kTS ci) [0, 1, 2, 3, 4] rfl
  have hKm := hK.sub (tys' := kMo cj) [5, 6, 7, 8] rfl
  have hKo := hK.sub (tys' := [(cO, .long)]) [9] rfl
  have hK0 := hK.sub (tys' := []) [] rfl
  have hmo2 := hmo
  refine lv_aload_n hx hb d_Lw_law_1017 rfl (lv_at hl 3 rfl) ?_
  refine lv_aload_n hx hb d_Lw_law_1018 rfl (lv_at hl 4 rfl) ?_
  refine lv_iload hx hb d_Lw_law_1019 (lv_at hl 0 rfl) ?_
  refine lv_iconst (v := 1) hx hb d_Lw_law_1021 (by decide) ?_
  refine lv_iadd hx hb d_Lw_law_1022 ?_
  refine lv_topi (fun z1 z1_e => ?_)
  obtain rfl : z1 = 1 := z1_e.trans (by decide)
  refine va_sld hx hb hX hbl hbA hS (by unfold vp_in; decide) d_Lw_law_1023 ?_
  refine W.eq (g2 := F0 m 1024 ls [.int (xs 1), .ref x0]) rfl ?_
  refine W.eq (g2 := F0 m 1024 ls [.int 2, .ref x0]) (by rw [e1]) ?_
  refine lv_aload_n hx hb d_Lw_law_1024 rfl (lv_at hl 1 rfl) ?_
  refine W.eq (g2 := F0 m 1025 ls [.ref o0, .int 2, .ref x0]) rfl ?_
  have hFo := va_free (wc := wO o0 cO) hDo hS hA [0] rfl
  refine va_calli (hx_runS (n := 3) (hh := [(0, 9, 12, 31)]) (As := [.ref x0, .int 2, .ref o0]) (rest := []) ⟨hx, hb, hml, hown, hB⟩ (x_state2 l dC dI H.size x0 q ci o0 cO) (gy_good k_Lw_state) rfl rfl rfl ⟨(Nat.le_of_ble_eq_true rfl), (Nat.le_of_ble_eq_true rfl)⟩ (hB _ hw_65) (hB _ hw_874) (hB _ hw_873) (by decide +kernel) ⟨fun a U g mk q => by obtain ⟨q0, q1, qP, qK, qPx, qKx⟩ := q; exact ⟨q0, q1, qP, va_K.moved (u := U) (U := U.calling g mk a) (Vm.Alike.refl U.vm) qK, qPx, va_K.moved (u := U) (U := U.calling g mk a) (Vm.Alike.refl U.vm) qKx⟩, fun U hU hW => ⟨rfl, by rw [hU], by rw [hU]; exact hPo, va_K.moved hW.alike hKo, by rw [hU]; exact hPx, va_K.moved hW.alike hKx⟩⟩ rfl rfl hl.1 rfl (lv_room (Nat.le_of_ble_eq_true rfl)) d_Lw_law_1025 ⟨(Nat.le_of_ble_eq_true rfl), (Nat.le_of_ble_eq_true rfl)⟩) hS (fun q _ h => hFo q h) hFo (fun r9 u t H1 locs ht hvm hw hB1 hz1 hk1 hS => ?_)
  have hw : r9 = 0 := hw
  subst hw
  have hPo : va_P (dC, dI) gx_cl [(o0, .inl (cO, 1, .inr (.inl (vp_updL (fun _ => 0) 0 0))))] H1 := by rw [← ht]; exact hB1
  have hPm := wj_keep (wc := wO o0 cO) hPm (wj_sym hmo) hk1
  have hmo2 : ∀ (i j : Nat) (p q : Nat × va_E), (wMo m0 r cj)[i]? = some p → ([(o0, .inl (cO, 1, .inr (.inl (vp_updL (fun _ => 0) 0 0))))] : va_W)[j]? = some q → p.1 ≠ q.1 := wj_one hmo
  generalize H1 = H at hPm hPo hS ⊢
  refine W.widen (k := 129) (n := 14034) (Nat.le_of_ble_eq_true rfl) (Nat.le_of_ble_eq_true rfl) ?_
  refine W.eq (g2 := F0 m 1028 ls [.int 0]) rfl ?_
  refine lv_istore hx hb d_Lw_law_1028 hl (by decide) rfl (fun ls hl => ?_)
  have hl : lv_has ls 7 [(5, .int 0), (4, .int 0), (3, .ref o0), (2, .ref m0), (1, .ref x0), (0, .ref b)] := hl
  refine lv_aload_n hx hb d_Lw_law_1030 rfl (lv_at hl 3 rfl) ?_
  refine lv_aload_n hx hb d_Lw_law_1031 rfl (lv_at hl 5 rfl) ?_
  refine lv_iload hx hb d_Lw_law_1032 (lv_at hl 1 rfl) ?_
  refine lv_iconst (v := 1) hx hb d_Lw_law_1034 (by decide) ?_
  refine lv_iadd hx hb d_Lw_law_1035 ?_
  refine lv_topi (fun z2 z2_e => ?_)
  obtain rfl : z2 = 1 := z2_e.trans (by decide)
  refine va_sld hx hb hX hbl hbA hS (by unfold vp_in; decide) d_Lw_law_1036 ?_
  refine W.eq (g2 := F0 m 1037 ls [.int (xs 1), .ref m0]) rfl ?_
  refine W.eq (g2 := F0 m 1037 ls [.int 2, .ref m0]) (by rw [e1]) ?_
  refine W.eq (g2 := F0 m 1037 ls [.int 2, .ref m0]) rfl ?_
  have hFm := va_free (wc := wMo m0 r cj) hDm hS hA [0, 1, 2, 3, 4] rfl
  refine va_calli (va_runV (C := "TapeSealerModel") (As := [.int 2]) (rest := []) ⟨hx, hb, hml, hown, hB⟩ (m_Mo_state2 l dC dI H.size m0 r cj) (cwV 1 hB (gy_goodV hw_1266 hw_1267 hw_1268 hw_75 k_Mo_state) rfl rfl rfl (by decide +kernel) ⟨(Nat.le_of_ble_eq_true rfl), (Nat.le_of_ble_eq_true rfl)⟩) ⟨fun a U g mk q => by obtain ⟨q0, q1, qP, qK, qD⟩ := q; exact ⟨q0, q1, qP, va_K.moved (u := U) (U := U.calling g mk a) (Vm.Alike.refl U.vm) qK, qD⟩, va_recv hKm hPm rfl (q0 := 0) rfl, fun U hU hW => ⟨rfl, by rw [hU], by rw [hU]; exact hPm, va_K.moved hW.alike hKm, hDm.weaken (fun _ _ _ _ => trivial)⟩⟩ rfl rfl hl.1 rfl (lv_room (Nat.le_of_ble_eq_true rfl)) d_Lw_law_1037 ⟨(Nat.le_of_ble_eq_true rfl), (Nat.le_of_ble_eq_true rfl)⟩) hS (fun q _ h => hFm q h) hFm (fun r9 u t H1 locs ht hvm hw hB1 hz1 hk1 hS => ?_)
  have hw : r9 = 0 := hw
  subst hw
  obtain ⟨fs, hPt, hDt⟩ := hB1
  rw [ht] at hPt
  have hPo := wj_keep (wc := wMo m0 r cj) hPo hmo2 hk1
  generalize H1 = H at hPt hPo hS ⊢
  refine W.widen (k := 129) (n := 14034) (Nat.le_of_ble_eq_true rfl) (Nat.le_of_ble_eq_true rfl) ?_
  refine W.eq (g2 := F0 m 1040 ls [.int 0]) rfl ?_
  refine lv_istore hx hb d_Lw_law_1040 hl (by decide) rfl (fun ls hl => ?_)
  have hl : lv_has ls 7 [(6, .int 0), (5, .int 0), (4, .int 0), (3, .ref o0), (2, .ref m0), (1, .ref x0), (0, .ref b)] := hl
  refine lv_aload_n hx hb d_Lw_law_1042 rfl (lv_at hl 4 rfl) ?_
  refine W.eq (g2 := F0 m 1043 ls [.ref m0]) rfl ?_
  refine px_go (va_runV (C := "TapeSealerModel") (As := []) (rest := []) ⟨hx, hb, hml, hown, hB⟩ (p_Mo_thrown l dC dI m0 0 fs) (cwV 0 hB (gy_goodV hw_1026 hw_1027 hw_1028 hw_75 k_Mo_thrown) rfl rfl rfl (by decide +kernel) ⟨(Nat.le_of_ble_eq_true rfl), (Nat.le_of_ble_eq_true rfl)⟩) ⟨fun a U g mk q => by obtain ⟨q0, qP, qK⟩ := q; exact ⟨q0, qP, va_K.moved (u := U) (U := U.calling g mk a) (Vm.Alike.refl U.vm) qK⟩, va_recv hK0 hPt rfl (q0 := 0) rfl, fun U hU hW => ⟨rfl, by rw [hU]; exact hPt, va_K.moved hW.alike hK0⟩⟩ rfl rfl hl.1 rfl (lv_room (Nat.le_of_ble_eq_true rfl)) d_Lw_law_1043 ⟨(Nat.le_of_ble_eq_true rfl), (Nat.le_of_ble_eq_true rfl)⟩) ?_
  refine W.eq (g2 := F0 m 1046 ls [.int 0]) rfl ?_
  refine lv_iload hx hb d_Lw_law_1046 (lv_at hl 1 rfl) ?_
  refine lv_icmp_eq (tgt := 1053) hx hb d_Lw_law_1048 (by decide) (fun _ => ?_) (fun h9 => absurd (by decide) h9)
  refine lv_iload hx hb d_Lw_law_1053 (lv_at hl 1 rfl) ?_
  refine lv_if_ne (tgt := 1070) hx hb d_Lw_law_1055 (by decide) (fun h9 => absurd (by decide) h9) (fun _ => ?_)
  refine lv_aload_n hx hb d_Lw_law_1058 rfl (lv_at hl 3 rfl) ?_
  refine lv_iconst (v := 0) hx hb d_Lw_law_1059 (by decide) ?_
  refine va_lald (D := (dC, dI)) hx hb hKo hPo 0 0 rfl rfl (by unfold vp_in; decide) d_Lw_law_1060 ?_
  refine W.eq (g2 := F0 m 1061 ls [.long 0]) rfl ?_
  refine lv_iload hx hb d_Lw_law_1061 (lv_at hl 0 rfl) ?_
  refine lv_i2l (v := 0) hx hb d_Lw_law_1063 (by decide) ?_
  refine W.lcmp hx hb d_Lw_law_1064 ?_
  refine lv_topi (fun zc zc_e => ?_)
  obtain rfl : zc = 0 := zc_e.trans (by decide)
  refine lv_if_eq (tgt := 1070) hx hb d_Lw_law_1065 (by decide) (fun _ => ?_) (fun h9 => absurd (by decide) h9)
  refine lv_goto (tgt := 1073) hx hb d_Lw_law_1070 (by decide) ?_
  exact law_exit l C1 (Nat.le_of_ble_eq_true rfl) (Nat.le_of_ble_eq_true rfl) (lv_sub hl [2, 6] rfl) hS
set_option maxHeartbeats 4000000 in
set_option maxRecDepth 100000 in
theorem lq_state3 {p : Program} {e : Env} {s : State} {m : MethodId} {below : List Frame} {meth : Method} {c : Code} (l : Launch) (hl0 : l.stackTraces = false) {b : Nat} {xs : Nat → Int32} (C0 : lw_At p s m meth c b 4 xs) (dC : Nat → ClassId) (dI : Nat → Nat → Nat) (aS aT : Nat) (cS cT : Cell) (hJ : jx aS aT cS cT s) {x0 m0 o0 : Nat} {q r : Nat → Nat} {ci cj : Nat → ClassId} {cO : ClassId} {ls : Array Slot} {H : Heap} {locs : List Loc} (hl : lv_has ls 7 [(4, .int 0), (3, .ref o0), (2, .ref m0), (1, .ref x0), (0, .ref b)]) (hP : va_P (dC, dI) gx_cl (wJ x0 m0 o0 q r ci cj cO) H) (hD : va_D (lA s) (wJ x0 m0 o0 q r ci cj cO)) (hK : va_K (dC, dI) gx_cl (kJ ci cj cO) s) (hS : va_S (lA s) s.heap H locs) (e1 : xs 1 = 3) : W p l e room_1 s m #[Value.ref b] below meth c H locs 129 14034 (lw_Z below #[Value.ref b] s) (F0 m 1017 ls []) := by
  have C1 := C0
  obtain ⟨hx, hb, hr, hml, hown0, hts, hX, hbl, hlocks, -⟩ := C0
  have hown : s.vm.findClass "TapeSealerLaw" = some m.cls := hown0
  have hB := law_B hts
  have hbA : ¬ lA s b := Nat.not_le.mpr hbl
  have haS := (Array.getElem?_eq_some_iff.mp hJ.2.2.2.2.2.1).1
  have haT := (Array.getElem?_eq_some_iff.mp hJ.2.2.2.2.2.2).1
  have hA : ∀ q : Nat, s.heap.size ≤ q → lA s q := fun q h => h
  have hPx : va_P (dC, dI) gx_cl (wTS x0 q ci) H := wj_l (wj_l hP)
  have hPm : va_P (dC, dI) gx_cl (wMo m0 r cj) H := wj_r (wj_l hP)
  have hPo : va_P (dC, dI) gx_cl (wO o0 cO) H := wj_r hP
  have hDx : va_D (lA s) (wTS x0 q ci) := wj_Dl (wj_Dl hD)
  have hDm : va_D (lA s) (wMo m0 r cj) := wj_Dr (wj_Dl hD)
  have hDo : va_D (lA s) (wO o0 cO) := wj_Dr hD
  have hxm := wj_ne (a := wTS x0 q ci) (b := wMo m0 r cj) (wj_Dl hD)
  have hmo := wj_bc (a := wTS x0 q ci) (b := wMo m0 r cj) (c := wO o0 cO) hD
  have hKx := hK.sub (tys' := kTS ci) [0, 1, 2, 3, 4] rfl
  have hKm := hK.sub (tys' := kMo cj) [5, 6, 7, 8] rfl
  have hKo := hK.sub (tys' := [(cO, .long)]) [9] rfl
  have hK0 := hK.sub (tys' := []) [] rfl
  have hmo2 := hmo
  refine lv_aload_n hx hb d_Lw_law_1017 rfl (lv_at hl 3 rfl) ?_
  refine lv_aload_n hx hb d_Lw_law_1018 rfl (lv_at hl 4 rfl) ?_
  refine lv_iload hx hb d_Lw_law_1019 (lv_at hl 0 rfl) ?_
  refine lv_iconst (v := 1) hx hb d_Lw_law_1021 (by decide) ?_
  refine lv_iadd hx hb d_Lw_law_1022 ?_
  refine lv_topi (fun z1 z1_e => ?_)
  obtain rfl : z1 = 1 := z1_e.trans (by decide)
  refine va_sld hx hb hX hbl hbA hS (by unfold vp_in; decide) d_Lw_law_1023 ?_
  refine W.eq (g2 := F0 m 1024 ls [.int (xs 1), .ref x0]) rfl ?_
  refine W.eq (g2 := F0 m 1024 ls [.int 3, .ref x0]) (by rw [e1]) ?_
  refine lv_aload_n hx hb d_Lw_law_1024 rfl (lv_at hl 1 rfl) ?_
  refine W.eq (g2 := F0 m 1025 ls [.ref o0, .int 3, .ref x0]) rfl ?_
  have hFo := va_free (wc := wO o0 cO) hDo hS hA [0] rfl
  refine va_calli (hx_runS (n := 3) (hh := [(0, 9, 12, 31)]) (As := [.ref x0, .int 3, .ref o0]) (rest := []) ⟨hx, hb, hml, hown, hB⟩ (x_state3 l dC dI H.size x0 q ci o0 cO) (gy_good k_Lw_state) rfl rfl rfl ⟨(Nat.le_of_ble_eq_true rfl), (Nat.le_of_ble_eq_true rfl)⟩ (hB _ hw_65) (hB _ hw_874) (hB _ hw_873) (by decide +kernel) ⟨fun a U g mk q => by obtain ⟨q0, q1, qP, qK, qPx, qKx⟩ := q; exact ⟨q0, q1, qP, va_K.moved (u := U) (U := U.calling g mk a) (Vm.Alike.refl U.vm) qK, qPx, va_K.moved (u := U) (U := U.calling g mk a) (Vm.Alike.refl U.vm) qKx⟩, fun U hU hW => ⟨rfl, by rw [hU], by rw [hU]; exact hPo, va_K.moved hW.alike hKo, by rw [hU]; exact hPx, va_K.moved hW.alike hKx⟩⟩ rfl rfl hl.1 rfl (lv_room (Nat.le_of_ble_eq_true rfl)) d_Lw_law_1025 ⟨(Nat.le_of_ble_eq_true rfl), (Nat.le_of_ble_eq_true rfl)⟩) hS (fun q _ h => hFo q h) hFo (fun r9 u t H1 locs ht hvm hw hB1 hz1 hk1 hS => ?_)
  have hw : r9 = 0 := hw
  subst hw
  have hPo : va_P (dC, dI) gx_cl [(o0, .inl (cO, 1, .inr (.inl (vp_updL (fun _ => 0) 0 0))))] H1 := by rw [← ht]; exact hB1
  have hPm := wj_keep (wc := wO o0 cO) hPm (wj_sym hmo) hk1
  have hmo2 : ∀ (i j : Nat) (p q : Nat × va_E), (wMo m0 r cj)[i]? = some p → ([(o0, .inl (cO, 1, .inr (.inl (vp_updL (fun _ => 0) 0 0))))] : va_W)[j]? = some q → p.1 ≠ q.1 := wj_one hmo
  generalize H1 = H at hPm hPo hS ⊢
  refine W.widen (k := 129) (n := 14034) (Nat.le_of_ble_eq_true rfl) (Nat.le_of_ble_eq_true rfl) ?_
  refine W.eq (g2 := F0 m 1028 ls [.int 0]) rfl ?_
  refine lv_istore hx hb d_Lw_law_1028 hl (by decide) rfl (fun ls hl => ?_)
  have hl : lv_has ls 7 [(5, .int 0), (4, .int 0), (3, .ref o0), (2, .ref m0), (1, .ref x0), (0, .ref b)] := hl
  refine lv_aload_n hx hb d_Lw_law_1030 rfl (lv_at hl 3 rfl) ?_
  refine lv_aload_n hx hb d_Lw_law_1031 rfl (lv_at hl 5 rfl) ?_
  refine lv_iload hx hb d_Lw_law_1032 (lv_at hl 1 rfl) ?_
  refine lv_iconst (v := 1) hx hb d_Lw_law_1034 (by decide) ?_
  refine lv_iadd hx hb d_Lw_law_1035 ?_
  refine lv_topi (fun z2 z2_e => ?_)
  obtain rfl : z2 = 1 := z2_e.trans (by decide)
  refine va_sld hx hb hX hbl hbA hS (by unfold vp_in; decide) d_Lw_law_1036 ?_
  refine W.eq (g2 := F0 m 1037 ls [.int (xs 1), .ref m0]) rfl ?_
  refine W.eq (g2 := F0 m 1037 ls [.int 3, .ref m0]) (by rw [e1]) ?_
  refine W.eq (g2 := F0 m 1037 ls [.int 3, .ref m0]) rfl ?_
  have hFm := va_free (wc := wMo m0 r cj) hDm hS hA [0, 1, 2, 3, 4] rfl
  refine va_calli (va_runV (C := "TapeSealerModel") (As := [.int 3]) (rest := []) ⟨hx, hb, hml, hown, hB⟩ (m_Mo_state3 l dC dI H.size m0 r cj) (cwV 1 hB (gy_goodV hw_1266 hw_1267 hw_1268 hw_75 k_Mo_state) rfl rfl rfl (by decide +kernel) ⟨(Nat.le_of_ble_eq_true rfl), (Nat.le_of_ble_eq_true rfl)⟩) ⟨fun a U g mk q => by obtain ⟨q0, q1, qP, qK, qD⟩ := q; exact ⟨q0, q1, qP, va_K.moved (u := U) (U := U.calling g mk a) (Vm.Alike.refl U.vm) qK, qD⟩, va_recv hKm hPm rfl (q0 := 0) rfl, fun U hU hW => ⟨rfl, by rw [hU], by rw [hU]; exact hPm, va_K.moved hW.alike hKm, hDm.weaken (fun _ _ _ _ => trivial)⟩⟩ rfl rfl hl.1 rfl (lv_room (Nat.le_of_ble_eq_true rfl)) d_Lw_law_1037 ⟨(Nat.le_of_ble_eq_true rfl), (Nat.le_of_ble_eq_true rfl)⟩) hS (fun q _ h => hFm q h) hFm (fun r9 u t H1 locs ht hvm hw hB1 hz1 hk1 hS => ?_)
  have hw : r9 = 0 := hw
  subst hw
  obtain ⟨fs, hPt, hDt⟩ := hB1
  rw [ht] at hPt
  have hPo := wj_keep (wc := wMo m0 r cj) hPo hmo2 hk1
  generalize H1 = H at hPt hPo hS ⊢
  refine W.widen (k := 129) (n := 14034) (Nat.le_of_ble_eq_true rfl) (Nat.le_of_ble_eq_true rfl) ?_
  refine W.eq (g2 := F0 m 1040 ls [.int 0]) rfl ?_
  refine lv_istore hx hb d_Lw_law_1040 hl (by decide) rfl (fun ls hl => ?_)
  have hl : lv_has ls 7 [(6, .int 0), (5, .int 0), (4, .int 0), (3, .ref o0), (2, .ref m0), (1, .ref x0), (0, .ref b)] := hl
  refine lv_aload_n hx hb d_Lw_law_1042 rfl (lv_at hl 4 rfl) ?_
  refine W.eq (g2 := F0 m 1043 ls [.ref m0]) rfl ?_
  refine px_go (va_runV (C := "TapeSealerModel") (As := []) (rest := []) ⟨hx, hb, hml, hown, hB⟩ (p_Mo_thrown l dC dI m0 0 fs) (cwV 0 hB (gy_goodV hw_1026 hw_1027 hw_1028 hw_75 k_Mo_thrown) rfl rfl rfl (by decide +kernel) ⟨(Nat.le_of_ble_eq_true rfl), (Nat.le_of_ble_eq_true rfl)⟩) ⟨fun a U g mk q => by obtain ⟨q0, qP, qK⟩ := q; exact ⟨q0, qP, va_K.moved (u := U) (U := U.calling g mk a) (Vm.Alike.refl U.vm) qK⟩, va_recv hK0 hPt rfl (q0 := 0) rfl, fun U hU hW => ⟨rfl, by rw [hU]; exact hPt, va_K.moved hW.alike hK0⟩⟩ rfl rfl hl.1 rfl (lv_room (Nat.le_of_ble_eq_true rfl)) d_Lw_law_1043 ⟨(Nat.le_of_ble_eq_true rfl), (Nat.le_of_ble_eq_true rfl)⟩) ?_
  refine W.eq (g2 := F0 m 1046 ls [.int 0]) rfl ?_
  refine lv_iload hx hb d_Lw_law_1046 (lv_at hl 1 rfl) ?_
  refine lv_icmp_eq (tgt := 1053) hx hb d_Lw_law_1048 (by decide) (fun _ => ?_) (fun h9 => absurd (by decide) h9)
  refine lv_iload hx hb d_Lw_law_1053 (lv_at hl 1 rfl) ?_
  refine lv_if_ne (tgt := 1070) hx hb d_Lw_law_1055 (by decide) (fun h9 => absurd (by decide) h9) (fun _ => ?_)
  refine lv_aload_n hx hb d_Lw_law_1058 rfl (lv_at hl 3 rfl) ?_
  refine lv_iconst (v := 0) hx hb d_Lw_law_1059 (by decide) ?_
  refine va_lald (D := (dC, dI)) hx hb hKo hPo 0 0 rfl rfl (by unfold vp_in; decide) d_Lw_law_1060 ?_
  refine W.eq (g2 := F0 m 1061 ls [.long 0]) rfl ?_
  refine lv_iload hx hb d_Lw_law_1061 (lv_at hl 0 rfl) ?_
  refine lv_i2l (v := 0) hx hb d_Lw_law_1063 (by decide) ?_
  refine W.lcmp hx hb d_Lw_law_1064 ?_
  refine lv_topi (fun zc zc_e => ?_)
  obtain rfl : zc = 0 := zc_e.trans (by decide)
  refine lv_if_eq (tgt := 1070) hx hb d_Lw_law_1065 (by decide) (fun _ => ?_) (fun h9 => absurd (by decide) h9)
  refine lv_goto (tgt := 1073) hx hb d_Lw_law_1070 (by decide) ?_
  exact law_exit l C1 (Nat.le_of_ble_eq_true rfl) (Nat.le_of_ble_eq_true rfl) (lv_sub hl [2, 6] rfl) hS
set_option maxHeartbeats 4000000 in
set_option maxRecDepth 100000 in
theorem lq_state4 {p : Program} {e : Env} {s : State} {m : MethodId} {below : List Frame} {meth : Method} {c : Code} (l : Launch) (hl0 : l.stackTraces = false) {b : Nat} {xs : Nat → Int32} (C0 : lw_At p s m meth c b 4 xs) (dC : Nat → ClassId) (dI : Nat → Nat → Nat) (aS aT : Nat) (cS cT : Cell) (hJ : jx aS aT cS cT s) {x0 m0 o0 : Nat} {q r : Nat → Nat} {ci cj : Nat → ClassId} {cO : ClassId} {ls : Array Slot} {H : Heap} {locs : List Loc} (hl : lv_has ls 7 [(4, .int 0), (3, .ref o0), (2, .ref m0), (1, .ref x0), (0, .ref b)]) (hP : va_P (dC, dI) gx_cl (wJ x0 m0 o0 q r ci cj cO) H) (hD : va_D (lA s) (wJ x0 m0 o0 q r ci cj cO)) (hK : va_K (dC, dI) gx_cl (kJ ci cj cO) s) (hS : va_S (lA s) s.heap H locs) (e1 : xs 1 = 4) : W p l e room_1 s m #[Value.ref b] below meth c H locs 129 14034 (lw_Z below #[Value.ref b] s) (F0 m 1017 ls []) := by
  have C1 := C0
  obtain ⟨hx, hb, hr, hml, hown0, hts, hX, hbl, hlocks, -⟩ := C0
  have hown : s.vm.findClass "TapeSealerLaw" = some m.cls := hown0
  have hB := law_B hts
  have hbA : ¬ lA s b := Nat.not_le.mpr hbl
  have haS := (Array.getElem?_eq_some_iff.mp hJ.2.2.2.2.2.1).1
  have haT := (Array.getElem?_eq_some_iff.mp hJ.2.2.2.2.2.2).1
  have hA : ∀ q : Nat, s.heap.size ≤ q → lA s q := fun q h => h
  have hPx : va_P (dC, dI) gx_cl (wTS x0 q ci) H := wj_l (wj_l hP)
  have hPm : va_P (dC, dI) gx_cl (wMo m0 r cj) H := wj_r (wj_l hP)
  have hPo : va_P (dC, dI) gx_cl (wO o0 cO) H := wj_r hP
  have hDx : va_D (lA s) (wTS x0 q ci) := wj_Dl (wj_Dl hD)
  have hDm : va_D (lA s) (wMo m0 r cj) := wj_Dr (wj_Dl hD)
  have hDo : va_D (lA s) (wO o0 cO) := wj_Dr hD
  have hxm := wj_ne (a := wTS x0 q ci) (b := wMo m0 r cj) (wj_Dl hD)
  have hmo := wj_bc (a := wTS x0 q ci) (b := wMo m0 r cj) (c := wO o0 cO) hD
  have hKx := hK.sub (tys' := kTS ci) [0, 1, 2, 3, 4] rfl
  have hKm := hK.sub (tys' := kMo cj) [5, 6, 7, 8] rfl
  have hKo := hK.sub (tys' := [(cO, .long)]) [9] rfl
  have hK0 := hK.sub (tys' := []) [] rfl
  have hmo2 := hmo
  refine lv_aload_n hx hb d_Lw_law_1017 rfl (lv_at hl 3 rfl) ?_
  refine lv_aload_n hx hb d_Lw_law_1018 rfl (lv_at hl 4 rfl) ?_
  refine lv_iload hx hb d_Lw_law_1019 (lv_at hl 0 rfl) ?_
  refine lv_iconst (v := 1) hx hb d_Lw_law_1021 (by decide) ?_
  refine lv_iadd hx hb d_Lw_law_1022 ?_
  refine lv_topi (fun z1 z1_e => ?_)
  obtain rfl : z1 = 1 := z1_e.trans (by decide)
  refine va_sld hx hb hX hbl hbA hS (by unfold vp_in; decide) d_Lw_law_1023 ?_
  refine W.eq (g2 := F0 m 1024 ls [.int (xs 1), .ref x0]) rfl ?_
  refine W.eq (g2 := F0 m 1024 ls [.int 4, .ref x0]) (by rw [e1]) ?_
  refine lv_aload_n hx hb d_Lw_law_1024 rfl (lv_at hl 1 rfl) ?_
  refine W.eq (g2 := F0 m 1025 ls [.ref o0, .int 4, .ref x0]) rfl ?_
  have hFo := va_free (wc := wO o0 cO) hDo hS hA [0] rfl
  refine va_calli (hx_runS (n := 3) (hh := [(0, 9, 12, 31)]) (As := [.ref x0, .int 4, .ref o0]) (rest := []) ⟨hx, hb, hml, hown, hB⟩ (x_state4 l dC dI H.size x0 q ci o0 cO) (gy_good k_Lw_state) rfl rfl rfl ⟨(Nat.le_of_ble_eq_true rfl), (Nat.le_of_ble_eq_true rfl)⟩ (hB _ hw_65) (hB _ hw_874) (hB _ hw_873) (by decide +kernel) ⟨fun a U g mk q => by obtain ⟨q0, q1, qP, qK, qPx, qKx⟩ := q; exact ⟨q0, q1, qP, va_K.moved (u := U) (U := U.calling g mk a) (Vm.Alike.refl U.vm) qK, qPx, va_K.moved (u := U) (U := U.calling g mk a) (Vm.Alike.refl U.vm) qKx⟩, fun U hU hW => ⟨rfl, by rw [hU], by rw [hU]; exact hPo, va_K.moved hW.alike hKo, by rw [hU]; exact hPx, va_K.moved hW.alike hKx⟩⟩ rfl rfl hl.1 rfl (lv_room (Nat.le_of_ble_eq_true rfl)) d_Lw_law_1025 ⟨(Nat.le_of_ble_eq_true rfl), (Nat.le_of_ble_eq_true rfl)⟩) hS (fun q _ h => hFo q h) hFo (fun r9 u t H1 locs ht hvm hw hB1 hz1 hk1 hS => ?_)
  have hw : r9 = 0 := hw
  subst hw
  have hPo : va_P (dC, dI) gx_cl [(o0, .inl (cO, 1, .inr (.inl (vp_updL (fun _ => 0) 0 0))))] H1 := by rw [← ht]; exact hB1
  have hPm := wj_keep (wc := wO o0 cO) hPm (wj_sym hmo) hk1
  have hmo2 : ∀ (i j : Nat) (p q : Nat × va_E), (wMo m0 r cj)[i]? = some p → ([(o0, .inl (cO, 1, .inr (.inl (vp_updL (fun _ => 0) 0 0))))] : va_W)[j]? = some q → p.1 ≠ q.1 := wj_one hmo
  generalize H1 = H at hPm hPo hS ⊢
  refine W.widen (k := 129) (n := 14034) (Nat.le_of_ble_eq_true rfl) (Nat.le_of_ble_eq_true rfl) ?_
  refine W.eq (g2 := F0 m 1028 ls [.int 0]) rfl ?_
  refine lv_istore hx hb d_Lw_law_1028 hl (by decide) rfl (fun ls hl => ?_)
  have hl : lv_has ls 7 [(5, .int 0), (4, .int 0), (3, .ref o0), (2, .ref m0), (1, .ref x0), (0, .ref b)] := hl
  refine lv_aload_n hx hb d_Lw_law_1030 rfl (lv_at hl 3 rfl) ?_
  refine lv_aload_n hx hb d_Lw_law_1031 rfl (lv_at hl 5 rfl) ?_
  refine lv_iload hx hb d_Lw_law_1032 (lv_at hl 1 rfl) ?_
  refine lv_iconst (v := 1) hx hb d_Lw_law_1034 (by decide) ?_
  refine lv_iadd hx hb d_Lw_law_1035 ?_
  refine lv_topi (fun z2 z2_e => ?_)
  obtain rfl : z2 = 1 := z2_e.trans (by decide)
  refine va_sld hx hb hX hbl hbA hS (by unfold vp_in; decide) d_Lw_law_1036 ?_
  refine W.eq (g2 := F0 m 1037 ls [.int (xs 1), .ref m0]) rfl ?_
  refine W.eq (g2 := F0 m 1037 ls [.int 4, .ref m0]) (by rw [e1]) ?_
  refine W.eq (g2 := F0 m 1037 ls [.int 4, .ref m0]) rfl ?_
  have hFm := va_free (wc := wMo m0 r cj) hDm hS hA [0, 1, 2, 3, 4] rfl
  refine va_calli (va_runV (C := "TapeSealerModel") (As := [.int 4]) (rest := []) ⟨hx, hb, hml, hown, hB⟩ (m_Mo_state4 l dC dI H.size m0 r cj) (cwV 1 hB (gy_goodV hw_1266 hw_1267 hw_1268 hw_75 k_Mo_state) rfl rfl rfl (by decide +kernel) ⟨(Nat.le_of_ble_eq_true rfl), (Nat.le_of_ble_eq_true rfl)⟩) ⟨fun a U g mk q => by obtain ⟨q0, q1, qP, qK, qD⟩ := q; exact ⟨q0, q1, qP, va_K.moved (u := U) (U := U.calling g mk a) (Vm.Alike.refl U.vm) qK, qD⟩, va_recv hKm hPm rfl (q0 := 0) rfl, fun U hU hW => ⟨rfl, by rw [hU], by rw [hU]; exact hPm, va_K.moved hW.alike hKm, hDm.weaken (fun _ _ _ _ => trivial)⟩⟩ rfl rfl hl.1 rfl (lv_room (Nat.le_of_ble_eq_true rfl)) d_Lw_law_1037 ⟨(Nat.le_of_ble_eq_true rfl), (Nat.le_of_ble_eq_true rfl)⟩) hS (fun q _ h => hFm q h) hFm (fun r9 u t H1 locs ht hvm hw hB1 hz1 hk1 hS => ?_)
  have hw : r9 = 0 := hw
  subst hw
  obtain ⟨fs, hPt, hDt⟩ := hB1
  rw [ht] at hPt
  have hPo := wj_keep (wc := wMo m0 r cj) hPo hmo2 hk1
  generalize H1 = H at hPt hPo hS ⊢
  refine W.widen (k := 129) (n := 14034) (Nat.le_of_ble_eq_true rfl) (Nat.le_of_ble_eq_true rfl) ?_
  refine W.eq (g2 := F0 m 1040 ls [.int 0]) rfl ?_
  refine lv_istore hx hb d_Lw_law_1040 hl (by decide) rfl (fun ls hl => ?_)
  have hl : lv_has ls 7 [(6, .int 0), (5, .int 0), (4, .int 0), (3, .ref o0), (2, .ref m0), (1, .ref x0), (0, .ref b)] := hl
  refine lv_aload_n hx hb d_Lw_law_1042 rfl (lv_at hl 4 rfl) ?_
  refine W.eq (g2 := F0 m 1043 ls [.ref m0]) rfl ?_
  refine px_go (va_runV (C := "TapeSealerModel") (As := []) (rest := []) ⟨hx, hb, hml, hown, hB⟩ (p_Mo_thrown l dC dI m0 0 fs) (cwV 0 hB (gy_goodV hw_1026 hw_1027 hw_1028 hw_75 k_Mo_thrown) rfl rfl rfl (by decide +kernel) ⟨(Nat.le_of_ble_eq_true rfl), (Nat.le_of_ble_eq_true rfl)⟩) ⟨fun a U g mk q => by obtain ⟨q0, qP, qK⟩ := q; exact ⟨q0, qP, va_K.moved (u := U) (U := U.calling g mk a) (Vm.Alike.refl U.vm) qK⟩, va_recv hK0 hPt rfl (q0 := 0) rfl, fun U hU hW => ⟨rfl, by rw [hU]; exact hPt, va_K.moved hW.alike hK0⟩⟩ rfl rfl hl.1 rfl (lv_room (Nat.le_of_ble_eq_true rfl)) d_Lw_law_1043 ⟨(Nat.le_of_ble_eq_true rfl), (Nat.le_of_ble_eq_true rfl)⟩) ?_
  refine W.eq (g2 := F0 m 1046 ls [.int 0]) rfl ?_
  refine lv_iload hx hb d_Lw_law_1046 (lv_at hl 1 rfl) ?_
  refine lv_icmp_eq (tgt := 1053) hx hb d_Lw_law_1048 (by decide) (fun _ => ?_) (fun h9 => absurd (by decide) h9)
  refine lv_iload hx hb d_Lw_law_1053 (lv_at hl 1 rfl) ?_
  refine lv_if_ne (tgt := 1070) hx hb d_Lw_law_1055 (by decide) (fun h9 => absurd (by decide) h9) (fun _ => ?_)
  refine lv_aload_n hx hb d_Lw_law_1058 rfl (lv_at hl 3 rfl) ?_
  refine lv_iconst (v := 0) hx hb d_Lw_law_1059 (by decide) ?_
  refine va_lald (D := (dC, dI)) hx hb hKo hPo 0 0 rfl rfl (by unfold vp_in; decide) d_Lw_law_1060 ?_
  refine W.eq (g2 := F0 m 1061 ls [.long 0]) rfl ?_
  refine lv_iload hx hb d_Lw_law_1061 (lv_at hl 0 rfl) ?_
  refine lv_i2l (v := 0) hx hb d_Lw_law_1063 (by decide) ?_
  refine W.lcmp hx hb d_Lw_law_1064 ?_
  refine lv_topi (fun zc zc_e => ?_)
  obtain rfl : zc = 0 := zc_e.trans (by decide)
  refine lv_if_eq (tgt := 1070) hx hb d_Lw_law_1065 (by decide) (fun _ => ?_) (fun h9 => absurd (by decide) h9)
  refine lv_goto (tgt := 1073) hx hb d_Lw_law_1070 (by decide) ?_
  exact law_exit l C1 (Nat.le_of_ble_eq_true rfl) (Nat.le_of_ble_eq_true rfl) (lv_sub hl [2, 6] rfl) hS
set_option maxHeartbeats 4000000 in
set_option maxRecDepth 100000 in
theorem lq_state5 {p : Program} {e : Env} {s : State} {m : MethodId} {below : List Frame} {meth : Method} {c : Code} (l : Launch) (hl0 : l.stackTraces = false) {b : Nat} {xs : Nat → Int32} (C0 : lw_At p s m meth c b 4 xs) (dC : Nat → ClassId) (dI : Nat → Nat → Nat) (aS aT : Nat) (cS cT : Cell) (hJ : jx aS aT cS cT s) {x0 m0 o0 : Nat} {q r : Nat → Nat} {ci cj : Nat → ClassId} {cO : ClassId} {ls : Array Slot} {H : Heap} {locs : List Loc} (hl : lv_has ls 7 [(4, .int 0), (3, .ref o0), (2, .ref m0), (1, .ref x0), (0, .ref b)]) (hP : va_P (dC, dI) gx_cl (wJ x0 m0 o0 q r ci cj cO) H) (hD : va_D (lA s) (wJ x0 m0 o0 q r ci cj cO)) (hK : va_K (dC, dI) gx_cl (kJ ci cj cO) s) (hS : va_S (lA s) s.heap H locs) (e1 : xs 1 = 5) : W p l e room_1 s m #[Value.ref b] below meth c H locs 129 14034 (lw_Z below #[Value.ref b] s) (F0 m 1017 ls []) := by
  have C1 := C0
  obtain ⟨hx, hb, hr, hml, hown0, hts, hX, hbl, hlocks, -⟩ := C0
  have hown : s.vm.findClass "TapeSealerLaw" = some m.cls := hown0
  have hB := law_B hts
  have hbA : ¬ lA s b := Nat.not_le.mpr hbl
  have haS := (Array.getElem?_eq_some_iff.mp hJ.2.2.2.2.2.1).1
  have haT := (Array.getElem?_eq_some_iff.mp hJ.2.2.2.2.2.2).1
  have hA : ∀ q : Nat, s.heap.size ≤ q → lA s q := fun q h => h
  have hPx : va_P (dC, dI) gx_cl (wTS x0 q ci) H := wj_l (wj_l hP)
  have hPm : va_P (dC, dI) gx_cl (wMo m0 r cj) H := wj_r (wj_l hP)
  have hPo : va_P (dC, dI) gx_cl (wO o0 cO) H := wj_r hP
  have hDx : va_D (lA s) (wTS x0 q ci) := wj_Dl (wj_Dl hD)
  have hDm : va_D (lA s) (wMo m0 r cj) := wj_Dr (wj_Dl hD)
  have hDo : va_D (lA s) (wO o0 cO) := wj_Dr hD
  have hxm := wj_ne (a := wTS x0 q ci) (b := wMo m0 r cj) (wj_Dl hD)
  have hmo := wj_bc (a := wTS x0 q ci) (b := wMo m0 r cj) (c := wO o0 cO) hD
  have hKx := hK.sub (tys' := kTS ci) [0, 1, 2, 3, 4] rfl
  have hKm := hK.sub (tys' := kMo cj) [5, 6, 7, 8] rfl
  have hKo := hK.sub (tys' := [(cO, .long)]) [9] rfl
  have hK0 := hK.sub (tys' := []) [] rfl
  have hmo2 := hmo
  refine lv_aload_n hx hb d_Lw_law_1017 rfl (lv_at hl 3 rfl) ?_
  refine lv_aload_n hx hb d_Lw_law_1018 rfl (lv_at hl 4 rfl) ?_
  refine lv_iload hx hb d_Lw_law_1019 (lv_at hl 0 rfl) ?_
  refine lv_iconst (v := 1) hx hb d_Lw_law_1021 (by decide) ?_
  refine lv_iadd hx hb d_Lw_law_1022 ?_
  refine lv_topi (fun z1 z1_e => ?_)
  obtain rfl : z1 = 1 := z1_e.trans (by decide)
  refine va_sld hx hb hX hbl hbA hS (by unfold vp_in; decide) d_Lw_law_1023 ?_
  refine W.eq (g2 := F0 m 1024 ls [.int (xs 1), .ref x0]) rfl ?_
  refine W.eq (g2 := F0 m 1024 ls [.int 5, .ref x0]) (by rw [e1]) ?_
  refine lv_aload_n hx hb d_Lw_law_1024 rfl (lv_at hl 1 rfl) ?_
  refine W.eq (g2 := F0 m 1025 ls [.ref o0, .int 5, .ref x0]) rfl ?_
  have hFo := va_free (wc := wO o0 cO) hDo hS hA [0] rfl
  refine va_calli (hx_runS (n := 3) (hh := [(0, 9, 12, 31)]) (As := [.ref x0, .int 5, .ref o0]) (rest := []) ⟨hx, hb, hml, hown, hB⟩ (x_state5 l dC dI H.size x0 q ci o0 cO) (gy_good k_Lw_state) rfl rfl rfl ⟨(Nat.le_of_ble_eq_true rfl), (Nat.le_of_ble_eq_true rfl)⟩ (hB _ hw_65) (hB _ hw_874) (hB _ hw_873) (by decide +kernel) ⟨fun a U g mk q => by obtain ⟨q0, q1, qP, qK, qPx, qKx⟩ := q; exact ⟨q0, q1, qP, va_K.moved (u := U) (U := U.calling g mk a) (Vm.Alike.refl U.vm) qK, qPx, va_K.moved (u := U) (U := U.calling g mk a) (Vm.Alike.refl U.vm) qKx⟩, fun U hU hW => ⟨rfl, by rw [hU], by rw [hU]; exact hPo, va_K.moved hW.alike hKo, by rw [hU]; exact hPx, va_K.moved hW.alike hKx⟩⟩ rfl rfl hl.1 rfl (lv_room (Nat.le_of_ble_eq_true rfl)) d_Lw_law_1025 ⟨(Nat.le_of_ble_eq_true rfl), (Nat.le_of_ble_eq_true rfl)⟩) hS (fun q _ h => hFo q h) hFo (fun r9 u t H1 locs ht hvm hw hB1 hz1 hk1 hS => ?_)
  have hw : r9 = 0 := hw
  subst hw
  have hPo : va_P (dC, dI) gx_cl [(o0, .inl (cO, 1, .inr (.inl (vp_updL (fun _ => 0) 0 0))))] H1 := by rw [← ht]; exact hB1
  have hPm := wj_keep (wc := wO o0 cO) hPm (wj_sym hmo) hk1
  have hmo2 : ∀ (i j : Nat) (p q : Nat × va_E), (wMo m0 r cj)[i]? = some p → ([(o0, .inl (cO, 1, .inr (.inl (vp_updL (fun _ => 0) 0 0))))] : va_W)[j]? = some q → p.1 ≠ q.1 := wj_one hmo
  generalize H1 = H at hPm hPo hS ⊢
  refine W.widen (k := 129) (n := 14034) (Nat.le_of_ble_eq_true rfl) (Nat.le_of_ble_eq_true rfl) ?_
  refine W.eq (g2 := F0 m 1028 ls [.int 0]) rfl ?_
  refine lv_istore hx hb d_Lw_law_1028 hl (by decide) rfl (fun ls hl => ?_)
  have hl : lv_has ls 7 [(5, .int 0), (4, .int 0), (3, .ref o0), (2, .ref m0), (1, .ref x0), (0, .ref b)] := hl
  refine lv_aload_n hx hb d_Lw_law_1030 rfl (lv_at hl 3 rfl) ?_
  refine lv_aload_n hx hb d_Lw_law_1031 rfl (lv_at hl 5 rfl) ?_
  refine lv_iload hx hb d_Lw_law_1032 (lv_at hl 1 rfl) ?_
  refine lv_iconst (v := 1) hx hb d_Lw_law_1034 (by decide) ?_
  refine lv_iadd hx hb d_Lw_law_1035 ?_
  refine lv_topi (fun z2 z2_e => ?_)
  obtain rfl : z2 = 1 := z2_e.trans (by decide)
  refine va_sld hx hb hX hbl hbA hS (by unfold vp_in; decide) d_Lw_law_1036 ?_
  refine W.eq (g2 := F0 m 1037 ls [.int (xs 1), .ref m0]) rfl ?_
  refine W.eq (g2 := F0 m 1037 ls [.int 5, .ref m0]) (by rw [e1]) ?_
  refine W.eq (g2 := F0 m 1037 ls [.int 5, .ref m0]) rfl ?_
  have hFm := va_free (wc := wMo m0 r cj) hDm hS hA [0, 1, 2, 3, 4] rfl
  refine va_calli (va_runV (C := "TapeSealerModel") (As := [.int 5]) (rest := []) ⟨hx, hb, hml, hown, hB⟩ (m_Mo_state5 l dC dI H.size m0 r cj) (cwV 1 hB (gy_goodV hw_1266 hw_1267 hw_1268 hw_75 k_Mo_state) rfl rfl rfl (by decide +kernel) ⟨(Nat.le_of_ble_eq_true rfl), (Nat.le_of_ble_eq_true rfl)⟩) ⟨fun a U g mk q => by obtain ⟨q0, q1, qP, qK, qD⟩ := q; exact ⟨q0, q1, qP, va_K.moved (u := U) (U := U.calling g mk a) (Vm.Alike.refl U.vm) qK, qD⟩, va_recv hKm hPm rfl (q0 := 0) rfl, fun U hU hW => ⟨rfl, by rw [hU], by rw [hU]; exact hPm, va_K.moved hW.alike hKm, hDm.weaken (fun _ _ _ _ => trivial)⟩⟩ rfl rfl hl.1 rfl (lv_room (Nat.le_of_ble_eq_true rfl)) d_Lw_law_1037 ⟨(Nat.le_of_ble_eq_true rfl), (Nat.le_of_ble_eq_true rfl)⟩) hS (fun q _ h => hFm q h) hFm (fun r9 u t H1 locs ht hvm hw hB1 hz1 hk1 hS => ?_)
  have hw : r9 = 0 := hw
  subst hw
  obtain ⟨fs, hPt, hDt⟩ := hB1
  rw [ht] at hPt
  have hPo := wj_keep (wc := wMo m0 r cj) hPo hmo2 hk1
  generalize H1 = H at hPt hPo hS ⊢
  refine W.widen (k := 129) (n := 14034) (Nat.le_of_ble_eq_true rfl) (Nat.le_of_ble_eq_true rfl) ?_
  refine W.eq (g2 := F0 m 1040 ls [.int 0]) rfl ?_
  refine lv_istore hx hb d_Lw_law_1040 hl (by decide) rfl (fun ls hl => ?_)
  have hl : lv_has ls 7 [(6, .int 0), (5, .int 0), (4, .int 0), (3, .ref o0), (2, .ref m0), (1, .ref x0), (0, .ref b)] := hl
  refine lv_aload_n hx hb d_Lw_law_1042 rfl (lv_at hl 4 rfl) ?_
  refine W.eq (g2 := F0 m 1043 ls [.ref m0]) rfl ?_
  refine px_go (va_runV (C := "TapeSealerModel") (As := []) (rest := []) ⟨hx, hb, hml, hown, hB⟩ (p_Mo_thrown l dC dI m0 0 fs) (cwV 0 hB (gy_goodV hw_1026 hw_1027 hw_1028 hw_75 k_Mo_thrown) rfl rfl rfl (by decide +kernel) ⟨(Nat.le_of_ble_eq_true rfl), (Nat.le_of_ble_eq_true rfl)⟩) ⟨fun a U g mk q => by obtain ⟨q0, qP, qK⟩ := q; exact ⟨q0, qP, va_K.moved (u := U) (U := U.calling g mk a) (Vm.Alike.refl U.vm) qK⟩, va_recv hK0 hPt rfl (q0 := 0) rfl, fun U hU hW => ⟨rfl, by rw [hU]; exact hPt, va_K.moved hW.alike hK0⟩⟩ rfl rfl hl.1 rfl (lv_room (Nat.le_of_ble_eq_true rfl)) d_Lw_law_1043 ⟨(Nat.le_of_ble_eq_true rfl), (Nat.le_of_ble_eq_true rfl)⟩) ?_
  refine W.eq (g2 := F0 m 1046 ls [.int 0]) rfl ?_
  refine lv_iload hx hb d_Lw_law_1046 (lv_at hl 1 rfl) ?_
  refine lv_icmp_eq (tgt := 1053) hx hb d_Lw_law_1048 (by decide) (fun _ => ?_) (fun h9 => absurd (by decide) h9)
  refine lv_iload hx hb d_Lw_law_1053 (lv_at hl 1 rfl) ?_
  refine lv_if_ne (tgt := 1070) hx hb d_Lw_law_1055 (by decide) (fun h9 => absurd (by decide) h9) (fun _ => ?_)
  refine lv_aload_n hx hb d_Lw_law_1058 rfl (lv_at hl 3 rfl) ?_
  refine lv_iconst (v := 0) hx hb d_Lw_law_1059 (by decide) ?_
  refine va_lald (D := (dC, dI)) hx hb hKo hPo 0 0 rfl rfl (by unfold vp_in; decide) d_Lw_law_1060 ?_
  refine W.eq (g2 := F0 m 1061 ls [.long 0]) rfl ?_
  refine lv_iload hx hb d_Lw_law_1061 (lv_at hl 0 rfl) ?_
  refine lv_i2l (v := 0) hx hb d_Lw_law_1063 (by decide) ?_
  refine W.lcmp hx hb d_Lw_law_1064 ?_
  refine lv_topi (fun zc zc_e => ?_)
  obtain rfl : zc = 0 := zc_e.trans (by decide)
  refine lv_if_eq (tgt := 1070) hx hb d_Lw_law_1065 (by decide) (fun _ => ?_) (fun h9 => absurd (by decide) h9)
  refine lv_goto (tgt := 1073) hx hb d_Lw_law_1070 (by decide) ?_
  exact law_exit l C1 (Nat.le_of_ble_eq_true rfl) (Nat.le_of_ble_eq_true rfl) (lv_sub hl [2, 6] rfl) hS
set_option maxHeartbeats 4000000 in
set_option maxRecDepth 100000 in
theorem lq_put0 {p : Program} {e : Env} {s : State} {m : MethodId} {below : List Frame} {meth : Method} {c : Code} (l : Launch) (hl0 : l.stackTraces = false) {b : Nat} {xs : Nat → Int32} (C0 : lw_At p s m meth c b 4 xs) (dC : Nat → ClassId) (dI : Nat → Nat → Nat) (aS aT : Nat) (cS cT : Cell) (hJ : jx aS aT cS cT s) {x0 m0 o0 : Nat} {q r : Nat → Nat} {ci cj : Nat → ClassId} {cO : ClassId} {ls : Array Slot} {H : Heap} {locs : List Loc} (hl : lv_has ls 7 [(4, .int 0), (3, .ref o0), (2, .ref m0), (1, .ref x0), (0, .ref b)]) (hP : va_P (dC, dI) gx_cl (wJ x0 m0 o0 q r ci cj cO) H) (hD : va_D (lA s) (wJ x0 m0 o0 q r ci cj cO)) (hK : va_K (dC, dI) gx_cl (kJ ci cj cO) s) (hS : va_S (lA s) s.heap H locs) (h : (xs 2) < 1 ∨ 4 < (xs 2)) : W p l e room_1 s m #[Value.ref b] below meth c H locs 129 14034 (lw_Z below #[Value.ref b] s) (F0 m 128 ls []) := by
  have C1 := C0
  obtain ⟨hx, hb, hr, hml, hown0, hts, hX, hbl, hlocks, -⟩ := C0
  have hown : s.vm.findClass "TapeSealerLaw" = some m.cls := hown0
  have hB := law_B hts
  have hbA : ¬ lA s b := Nat.not_le.mpr hbl
  have haS := (Array.getElem?_eq_some_iff.mp hJ.2.2.2.2.2.1).1
  have haT := (Array.getElem?_eq_some_iff.mp hJ.2.2.2.2.2.2).1
  have hA : ∀ q : Nat, s.heap.size ≤ q → lA s q := fun q h => h
  have hPx : va_P (dC, dI) gx_cl (wTS x0 q ci) H := wj_l (wj_l hP)
  have hPm : va_P (dC, dI) gx_cl (wMo m0 r cj) H := wj_r (wj_l hP)
  have hPo : va_P (dC, dI) gx_cl (wO o0 cO) H := wj_r hP
  have hDx : va_D (lA s) (wTS x0 q ci) := wj_Dl (wj_Dl hD)
  have hDm : va_D (lA s) (wMo m0 r cj) := wj_Dr (wj_Dl hD)
  have hDo : va_D (lA s) (wO o0 cO) := wj_Dr hD
  have hxm := wj_ne (a := wTS x0 q ci) (b := wMo m0 r cj) (wj_Dl hD)
  have hmo := wj_bc (a := wTS x0 q ci) (b := wMo m0 r cj) (c := wO o0 cO) hD
  have hKx := hK.sub (tys' := kTS ci) [0, 1, 2, 3, 4] rfl
  have hKm := hK.sub (tys' := kMo cj) [5, 6, 7, 8] rfl
  have hKo := hK.sub (tys' := [(cO, .long)]) [9] rfl
  have hK0 := hK.sub (tys' := []) [] rfl
  have hmo2 := hmo
  refine lv_aload_n hx hb d_Lw_law_128 rfl (lv_at hl 3 rfl) ?_
  refine lv_aload_n hx hb d_Lw_law_129 rfl (lv_at hl 4 rfl) ?_
  refine lv_iload hx hb d_Lw_law_130 (lv_at hl 0 rfl) ?_
  refine lv_iconst (v := 1) hx hb d_Lw_law_132 (by decide) ?_
  refine lv_iadd hx hb d_Lw_law_133 ?_
  refine lv_topi (fun z1 z1_e => ?_)
  obtain rfl : z1 = 1 := z1_e.trans (by decide)
  refine va_sld hx hb hX hbl hbA hS (by unfold vp_in; decide) d_Lw_law_134 ?_
  refine W.eq (g2 := F0 m 135 ls [.int (xs 1), .ref x0]) rfl ?_
  refine lv_aload_n hx hb d_Lw_law_135 rfl (lv_at hl 4 rfl) ?_
  refine lv_iload hx hb d_Lw_law_136 (lv_at hl 0 rfl) ?_
  refine lv_iconst (v := 2) hx hb d_Lw_law_138 (by decide) ?_
  refine lv_iadd hx hb d_Lw_law_139 ?_
  refine lv_topi (fun z2 z2_e => ?_)
  obtain rfl : z2 = 2 := z2_e.trans (by decide)
  refine va_sld hx hb hX hbl hbA hS (by unfold vp_in; decide) d_Lw_law_140 ?_
  refine W.eq (g2 := F0 m 141 ls [.int (xs 2), .int (xs 1), .ref x0]) rfl ?_
  refine W.eq (g2 := F0 m 141 ls [.int (xs 2), .int (xs 1), .ref x0]) rfl ?_
  refine px_go (va_runV (C := "TapeSealer") (As := [.int (xs 1), .int (xs 2)]) (rest := []) ⟨hx, hb, hml, hown, hB⟩ (p_TS_put0 l dC dI x0 q ci (xs 1) (xs 2) h) (cwV 2 hB (gy_goodV hw_353 hw_354 hw_355 hw_66 k_TS_put) rfl rfl rfl (by decide +kernel) ⟨(Nat.le_of_ble_eq_true rfl), (Nat.le_of_ble_eq_true rfl)⟩) ⟨fun a U g mk q => by obtain ⟨q0, qP, qK⟩ := q; exact ⟨q0, qP, va_K.moved (u := U) (U := U.calling g mk a) (Vm.Alike.refl U.vm) qK⟩, va_recv hKx hPx rfl (q0 := 0) rfl, fun U hU hW => ⟨rfl, by rw [hU]; exact hPx, va_K.moved hW.alike hKx⟩⟩ rfl rfl hl.1 rfl (lv_room (Nat.le_of_ble_eq_true rfl)) d_Lw_law_141 ⟨(Nat.le_of_ble_eq_true rfl), (Nat.le_of_ble_eq_true rfl)⟩) ?_
  refine W.eq (g2 := F0 m 144 ls [.int 0]) rfl ?_
  refine lv_aload_n hx hb d_Lw_law_144 rfl (lv_at hl 2 rfl) ?_
  refine lv_aload_n hx hb d_Lw_law_145 rfl (lv_at hl 4 rfl) ?_
  refine lv_iload hx hb d_Lw_law_146 (lv_at hl 0 rfl) ?_
  refine lv_iconst (v := 1) hx hb d_Lw_law_148 (by decide) ?_
  refine lv_iadd hx hb d_Lw_law_149 ?_
  refine lv_topi (fun z3 z3_e => ?_)
  obtain rfl : z3 = 1 := z3_e.trans (by decide)
  refine va_sld hx hb hX hbl hbA hS (by unfold vp_in; decide) d_Lw_law_150 ?_
  refine W.eq (g2 := F0 m 151 ls [.int (xs 1), .ref m0, .int 0]) rfl ?_
  refine lv_aload_n hx hb d_Lw_law_151 rfl (lv_at hl 4 rfl) ?_
  refine lv_iload hx hb d_Lw_law_152 (lv_at hl 0 rfl) ?_
  refine lv_iconst (v := 2) hx hb d_Lw_law_154 (by decide) ?_
  refine lv_iadd hx hb d_Lw_law_155 ?_
  refine lv_topi (fun z4 z4_e => ?_)
  obtain rfl : z4 = 2 := z4_e.trans (by decide)
  refine va_sld hx hb hX hbl hbA hS (by unfold vp_in; decide) d_Lw_law_156 ?_
  refine W.eq (g2 := F0 m 157 ls [.int (xs 2), .int (xs 1), .ref m0, .int 0]) rfl ?_
  refine W.eq (g2 := F0 m 157 ls [.int (xs 2), .int (xs 1), .ref m0, .int 0]) rfl ?_
  have hFm := va_free (wc := wMo m0 r cj) hDm hS hA [0, 1, 2, 3, 4] rfl
  refine va_calli (va_runV (C := "TapeSealerModel") (As := [.int (xs 1), .int (xs 2)]) (rest := [.int 0]) ⟨hx, hb, hml, hown, hB⟩ (m_Mo_put0 l dC dI H.size m0 r cj (xs 1) (xs 2) h) (cwV 2 hB (gy_goodV hw_1030 hw_1031 hw_1032 hw_75 k_Mo_put) rfl rfl rfl (by decide +kernel) ⟨(Nat.le_of_ble_eq_true rfl), (Nat.le_of_ble_eq_true rfl)⟩) ⟨fun a U g mk q => by obtain ⟨q0, q1, qP, qK, qD⟩ := q; exact ⟨q0, q1, qP, va_K.moved (u := U) (U := U.calling g mk a) (Vm.Alike.refl U.vm) qK, qD⟩, va_recv hKm hPm rfl (q0 := 0) rfl, fun U hU hW => ⟨rfl, by rw [hU], by rw [hU]; exact hPm, va_K.moved hW.alike hKm, hDm.weaken (fun _ _ _ _ => trivial)⟩⟩ rfl rfl hl.1 rfl (lv_room (Nat.le_of_ble_eq_true rfl)) d_Lw_law_157 ⟨(Nat.le_of_ble_eq_true rfl), (Nat.le_of_ble_eq_true rfl)⟩) hS (fun q _ h => hFm q h) hFm (fun r9 u t H1 locs ht hvm hw hB1 hz1 hk1 hS => ?_)
  have hw : r9 = 0 := hw
  subst hw
  obtain ⟨fs, hPt, hDt⟩ := hB1
  rw [ht] at hPt
  have hPo := wj_keep (wc := wMo m0 r cj) hPo hmo2 hk1
  generalize H1 = H at hPt hPo hS ⊢
  refine W.widen (k := 129) (n := 14034) (Nat.le_of_ble_eq_true rfl) (Nat.le_of_ble_eq_true rfl) ?_
  refine W.eq (g2 := F0 m 160 ls [.int 0, .int 0]) rfl ?_
  refine lv_icmp_eq (tgt := 1073) hx hb d_Lw_law_160 (by decide) (fun _ => ?_) (fun h9 => absurd (by decide) h9)
  exact law_exit l C1 (Nat.le_of_ble_eq_true rfl) (Nat.le_of_ble_eq_true rfl) (lv_sub hl [0, 4] rfl) hS
set_option maxHeartbeats 4000000 in
set_option maxRecDepth 100000 in
theorem lq_put1 {p : Program} {e : Env} {s : State} {m : MethodId} {below : List Frame} {meth : Method} {c : Code} (l : Launch) (hl0 : l.stackTraces = false) {b : Nat} {xs : Nat → Int32} (C0 : lw_At p s m meth c b 4 xs) (dC : Nat → ClassId) (dI : Nat → Nat → Nat) (aS aT : Nat) (cS cT : Cell) (hJ : jx aS aT cS cT s) {x0 m0 o0 : Nat} {q r : Nat → Nat} {ci cj : Nat → ClassId} {cO : ClassId} {ls : Array Slot} {H : Heap} {locs : List Loc} (hl : lv_has ls 7 [(4, .int 0), (3, .ref o0), (2, .ref m0), (1, .ref x0), (0, .ref b)]) (hP : va_P (dC, dI) gx_cl (wJ x0 m0 o0 q r ci cj cO) H) (hD : va_D (lA s) (wJ x0 m0 o0 q r ci cj cO)) (hK : va_K (dC, dI) gx_cl (kJ ci cj cO) s) (hS : va_S (lA s) s.heap H locs) (e2 : xs 2 = 1) : W p l e room_1 s m #[Value.ref b] below meth c H locs 129 14034 (lw_Z below #[Value.ref b] s) (F0 m 128 ls []) := by
  have C1 := C0
  obtain ⟨hx, hb, hr, hml, hown0, hts, hX, hbl, hlocks, -⟩ := C0
  have hown : s.vm.findClass "TapeSealerLaw" = some m.cls := hown0
  have hB := law_B hts
  have hbA : ¬ lA s b := Nat.not_le.mpr hbl
  have haS := (Array.getElem?_eq_some_iff.mp hJ.2.2.2.2.2.1).1
  have haT := (Array.getElem?_eq_some_iff.mp hJ.2.2.2.2.2.2).1
  have hA : ∀ q : Nat, s.heap.size ≤ q → lA s q := fun q h => h
  have hPx : va_P (dC, dI) gx_cl (wTS x0 q ci) H := wj_l (wj_l hP)
  have hPm : va_P (dC, dI) gx_cl (wMo m0 r cj) H := wj_r (wj_l hP)
  have hPo : va_P (dC, dI) gx_cl (wO o0 cO) H := wj_r hP
  have hDx : va_D (lA s) (wTS x0 q ci) := wj_Dl (wj_Dl hD)
  have hDm : va_D (lA s) (wMo m0 r cj) := wj_Dr (wj_Dl hD)
  have hDo : va_D (lA s) (wO o0 cO) := wj_Dr hD
  have hxm := wj_ne (a := wTS x0 q ci) (b := wMo m0 r cj) (wj_Dl hD)
  have hmo := wj_bc (a := wTS x0 q ci) (b := wMo m0 r cj) (c := wO o0 cO) hD
  have hKx := hK.sub (tys' := kTS ci) [0, 1, 2, 3, 4] rfl
  have hKm := hK.sub (tys' := kMo cj) [5, 6, 7, 8] rfl
  have hKo := hK.sub (tys' := [(cO, .long)]) [9] rfl
  have hK0 := hK.sub (tys' := []) [] rfl
  have hmo2 := hmo
  refine lv_aload_n hx hb d_Lw_law_128 rfl (lv_at hl 3 rfl) ?_
  refine lv_aload_n hx hb d_Lw_law_129 rfl (lv_at hl 4 rfl) ?_
  refine lv_iload hx hb d_Lw_law_130 (lv_at hl 0 rfl) ?_
  refine lv_iconst (v := 1) hx hb d_Lw_law_132 (by decide) ?_
  refine lv_iadd hx hb d_Lw_law_133 ?_
  refine lv_topi (fun z1 z1_e => ?_)
  obtain rfl : z1 = 1 := z1_e.trans (by decide)
  refine va_sld hx hb hX hbl hbA hS (by unfold vp_in; decide) d_Lw_law_134 ?_
  refine W.eq (g2 := F0 m 135 ls [.int (xs 1), .ref x0]) rfl ?_
  refine lv_aload_n hx hb d_Lw_law_135 rfl (lv_at hl 4 rfl) ?_
  refine lv_iload hx hb d_Lw_law_136 (lv_at hl 0 rfl) ?_
  refine lv_iconst (v := 2) hx hb d_Lw_law_138 (by decide) ?_
  refine lv_iadd hx hb d_Lw_law_139 ?_
  refine lv_topi (fun z2 z2_e => ?_)
  obtain rfl : z2 = 2 := z2_e.trans (by decide)
  refine va_sld hx hb hX hbl hbA hS (by unfold vp_in; decide) d_Lw_law_140 ?_
  refine W.eq (g2 := F0 m 141 ls [.int (xs 2), .int (xs 1), .ref x0]) rfl ?_
  refine W.eq (g2 := F0 m 141 ls [.int 1, .int (xs 1), .ref x0]) (by rw [e2]) ?_
  refine W.eq (g2 := F0 m 141 ls [.int 1, .int (xs 1), .ref x0]) rfl ?_
  have hPd : va_P (dC, dI) gx_cl [(x0, .inr (8, [.ref (q 0), .ref (q 3), .ref (q 18), .ref (q 19), .ref (q 6), .ref (q 20), .ref (q 21), .ref (q 22), .ref (q 23), .ref (q 15), .ref (q 17), .int 0, .ref (q 24), .ref (q 25), .int 0])), ((q 17), .inl ((ci 4), 192, .inl (fun _ => 0)))] H := hPx.sub [0, 11] rfl
  have hDd : va_D (lA s) [(x0, .inr (8, [.ref (q 0), .ref (q 3), .ref (q 18), .ref (q 19), .ref (q 6), .ref (q 20), .ref (q 21), .ref (q 22), .ref (q 23), .ref (q 15), .ref (q 17), .int 0, .ref (q 24), .ref (q 25), .int 0])), ((q 17), .inl ((ci 4), 192, .inl (fun _ => 0)))] := hDx.sub [0, 11] (by decide) rfl
  have hFd := va_free (wc := [(x0, .inr (8, [.ref (q 0), .ref (q 3), .ref (q 18), .ref (q 19), .ref (q 6), .ref (q 20), .ref (q 21), .ref (q 22), .ref (q 23), .ref (q 15), .ref (q 17), .int 0, .ref (q 24), .ref (q 25), .int 0])), ((q 17), .inl ((ci 4), 192, .inl (fun _ => 0)))]) hDd hS hA [0, 1] rfl
  refine va_calli (va_runV (C := "TapeSealer") (As := [.int (xs 1), .int 1]) (rest := []) ⟨hx, hb, hml, hown, hB⟩ (m_TS_put1 l dC dI H.size x0 q ci (xs 1)) (cwV 2 hB (gy_goodV hw_353 hw_354 hw_355 hw_66 k_TS_put) rfl rfl rfl (by decide +kernel) ⟨(Nat.le_of_ble_eq_true rfl), (Nat.le_of_ble_eq_true rfl)⟩) ⟨fun a U g mk q => by obtain ⟨q0, q1, qP, qK, qD⟩ := q; exact ⟨q0, q1, qP, va_K.moved (u := U) (U := U.calling g mk a) (Vm.Alike.refl U.vm) qK, qD⟩, va_recv hKx hPd rfl (q0 := 0) rfl, fun U hU hW => ⟨rfl, by rw [hU], by rw [hU]; exact hPd, va_K.moved hW.alike hKx, hDd.weaken (fun _ _ _ _ => trivial)⟩⟩ rfl rfl hl.1 rfl (lv_room (Nat.le_of_ble_eq_true rfl)) d_Lw_law_141 ⟨(Nat.le_of_ble_eq_true rfl), (Nat.le_of_ble_eq_true rfl)⟩) hS (fun q _ h => hFd q h) hFd (fun r9 u t H1 locs ht hvm hw hB1 hz1 hk1 hS => ?_)
  have hw : r9 = 1 := hw
  subst hw
  have hPm := wj_keep (wc := [(x0, .inr (8, [.ref (q 0), .ref (q 3), .ref (q 18), .ref (q 19), .ref (q 6), .ref (q 20), .ref (q 21), .ref (q 22), .ref (q 23), .ref (q 15), .ref (q 17), .int 0, .ref (q 24), .ref (q 25), .int 0])), ((q 17), .inl ((ci 4), 192, .inl (fun _ => 0)))]) hPm (wj_sub hxm (fun i => match i with | 0 => 0 | 1 => 11 | _ => 0) (by intro i p hi; have hlt : i < 2 := (List.getElem?_eq_some_iff.mp hi).1; rcases (show i = 0 ∨ i = 1 by omega) with rfl | rfl <;> exact hi)) hk1
  have hS9 := hS
  generalize H1 = H at hPm hS ⊢
  clear hPo hS9
  have hPo : va_P (dC, dI) gx_cl [] H := gx_P0
  have hmo2 : ∀ (i j : Nat) (p q : Nat × va_E), (wMo m0 r cj)[i]? = some p → ([] : va_W)[j]? = some q → p.1 ≠ q.1 := fun _ _ _ _ _ h => by cases h
  refine W.widen (k := 129) (n := 14034) (Nat.le_of_ble_eq_true rfl) (Nat.le_of_ble_eq_true rfl) ?_
  refine W.eq (g2 := F0 m 144 ls [.int 1]) rfl ?_
  refine lv_aload_n hx hb d_Lw_law_144 rfl (lv_at hl 2 rfl) ?_
  refine lv_aload_n hx hb d_Lw_law_145 rfl (lv_at hl 4 rfl) ?_
  refine lv_iload hx hb d_Lw_law_146 (lv_at hl 0 rfl) ?_
  refine lv_iconst (v := 1) hx hb d_Lw_law_148 (by decide) ?_
  refine lv_iadd hx hb d_Lw_law_149 ?_
  refine lv_topi (fun z3 z3_e => ?_)
  obtain rfl : z3 = 1 := z3_e.trans (by decide)
  refine va_sld hx hb hX hbl hbA hS (by unfold vp_in; decide) d_Lw_law_150 ?_
  refine W.eq (g2 := F0 m 151 ls [.int (xs 1), .ref m0, .int 1]) rfl ?_
  refine lv_aload_n hx hb d_Lw_law_151 rfl (lv_at hl 4 rfl) ?_
  refine lv_iload hx hb d_Lw_law_152 (lv_at hl 0 rfl) ?_
  refine lv_iconst (v := 2) hx hb d_Lw_law_154 (by decide) ?_
  refine lv_iadd hx hb d_Lw_law_155 ?_
  refine lv_topi (fun z4 z4_e => ?_)
  obtain rfl : z4 = 2 := z4_e.trans (by decide)
  refine va_sld hx hb hX hbl hbA hS (by unfold vp_in; decide) d_Lw_law_156 ?_
  refine W.eq (g2 := F0 m 157 ls [.int (xs 2), .int (xs 1), .ref m0, .int 1]) rfl ?_
  refine W.eq (g2 := F0 m 157 ls [.int 1, .int (xs 1), .ref m0, .int 1]) (by rw [e2]) ?_
  refine W.eq (g2 := F0 m 157 ls [.int 1, .int (xs 1), .ref m0, .int 1]) rfl ?_
  have hFm := va_free (wc := wMo m0 r cj) hDm hS hA [0, 1, 2, 3, 4] rfl
  refine va_calli (va_runV (C := "TapeSealerModel") (As := [.int (xs 1), .int 1]) (rest := [.int 1]) ⟨hx, hb, hml, hown, hB⟩ (m_Mo_put1 l dC dI H.size m0 r cj (xs 1)) (cwV 2 hB (gy_goodV hw_1030 hw_1031 hw_1032 hw_75 k_Mo_put) rfl rfl rfl (by decide +kernel) ⟨(Nat.le_of_ble_eq_true rfl), (Nat.le_of_ble_eq_true rfl)⟩) ⟨fun a U g mk q => by obtain ⟨q0, q1, qP, qK, qD⟩ := q; exact ⟨q0, q1, qP, va_K.moved (u := U) (U := U.calling g mk a) (Vm.Alike.refl U.vm) qK, qD⟩, va_recv hKm hPm rfl (q0 := 0) rfl, fun U hU hW => ⟨rfl, by rw [hU], by rw [hU]; exact hPm, va_K.moved hW.alike hKm, hDm.weaken (fun _ _ _ _ => trivial)⟩⟩ rfl rfl hl.1 rfl (lv_room (Nat.le_of_ble_eq_true rfl)) d_Lw_law_157 ⟨(Nat.le_of_ble_eq_true rfl), (Nat.le_of_ble_eq_true rfl)⟩) hS (fun q _ h => hFm q h) hFm (fun r9 u t H1 locs ht hvm hw hB1 hz1 hk1 hS => ?_)
  have hw : r9 = 1 := hw
  subst hw
  obtain ⟨fs, hPt, hDt⟩ := hB1
  rw [ht] at hPt
  have hPo := wj_keep (wc := wMo m0 r cj) hPo hmo2 hk1
  generalize H1 = H at hPt hPo hS ⊢
  refine W.widen (k := 129) (n := 14034) (Nat.le_of_ble_eq_true rfl) (Nat.le_of_ble_eq_true rfl) ?_
  refine W.eq (g2 := F0 m 160 ls [.int 1, .int 1]) rfl ?_
  refine lv_icmp_eq (tgt := 1073) hx hb d_Lw_law_160 (by decide) (fun _ => ?_) (fun h9 => absurd (by decide) h9)
  exact law_exit l C1 (Nat.le_of_ble_eq_true rfl) (Nat.le_of_ble_eq_true rfl) (lv_sub hl [0, 4] rfl) hS
set_option maxHeartbeats 4000000 in
set_option maxRecDepth 100000 in
theorem lq_put2 {p : Program} {e : Env} {s : State} {m : MethodId} {below : List Frame} {meth : Method} {c : Code} (l : Launch) (hl0 : l.stackTraces = false) {b : Nat} {xs : Nat → Int32} (C0 : lw_At p s m meth c b 4 xs) (dC : Nat → ClassId) (dI : Nat → Nat → Nat) (aS aT : Nat) (cS cT : Cell) (hJ : jx aS aT cS cT s) {x0 m0 o0 : Nat} {q r : Nat → Nat} {ci cj : Nat → ClassId} {cO : ClassId} {ls : Array Slot} {H : Heap} {locs : List Loc} (hl : lv_has ls 7 [(4, .int 0), (3, .ref o0), (2, .ref m0), (1, .ref x0), (0, .ref b)]) (hP : va_P (dC, dI) gx_cl (wJ x0 m0 o0 q r ci cj cO) H) (hD : va_D (lA s) (wJ x0 m0 o0 q r ci cj cO)) (hK : va_K (dC, dI) gx_cl (kJ ci cj cO) s) (hS : va_S (lA s) s.heap H locs) (e2 : xs 2 = 2) : W p l e room_1 s m #[Value.ref b] below meth c H locs 129 14034 (lw_Z below #[Value.ref b] s) (F0 m 128 ls []) := by
  have C1 := C0
  obtain ⟨hx, hb, hr, hml, hown0, hts, hX, hbl, hlocks, -⟩ := C0
  have hown : s.vm.findClass "TapeSealerLaw" = some m.cls := hown0
  have hB := law_B hts
  have hbA : ¬ lA s b := Nat.not_le.mpr hbl
  have haS := (Array.getElem?_eq_some_iff.mp hJ.2.2.2.2.2.1).1
  have haT := (Array.getElem?_eq_some_iff.mp hJ.2.2.2.2.2.2).1
  have hA : ∀ q : Nat, s.heap.size ≤ q → lA s q := fun q h => h
  have hPx : va_P (dC, dI) gx_cl (wTS x0 q ci) H := wj_l (wj_l hP)
  have hPm : va_P (dC, dI) gx_cl (wMo m0 r cj) H := wj_r (wj_l hP)
  have hPo : va_P (dC, dI) gx_cl (wO o0 cO) H := wj_r hP
  have hDx : va_D (lA s) (wTS x0 q ci) := wj_Dl (wj_Dl hD)
  have hDm : va_D (lA s) (wMo m0 r cj) := wj_Dr (wj_Dl hD)
  have hDo : va_D (lA s) (wO o0 cO) := wj_Dr hD
  have hxm := wj_ne (a := wTS x0 q ci) (b := wMo m0 r cj) (wj_Dl hD)
  have hmo := wj_bc (a := wTS x0 q ci) (b := wMo m0 r cj) (c := wO o0 cO) hD
  have hKx := hK.sub (tys' := kTS ci) [0, 1, 2, 3, 4] rfl
  have hKm := hK.sub (tys' := kMo cj) [5, 6, 7, 8] rfl
  have hKo := hK.sub (tys' := [(cO, .long)]) [9] rfl
  have hK0 := hK.sub (tys' := []) [] rfl
  have hmo2 := hmo
  refine lv_aload_n hx hb d_Lw_law_128 rfl (lv_at hl 3 rfl) ?_
  refine lv_aload_n hx hb d_Lw_law_129 rfl (lv_at hl 4 rfl) ?_
  refine lv_iload hx hb d_Lw_law_130 (lv_at hl 0 rfl) ?_
  refine lv_iconst (v := 1) hx hb d_Lw_law_132 (by decide) ?_
  refine lv_iadd hx hb d_Lw_law_133 ?_
  refine lv_topi (fun z1 z1_e => ?_)
  obtain rfl : z1 = 1 := z1_e.trans (by decide)
  refine va_sld hx hb hX hbl hbA hS (by unfold vp_in; decide) d_Lw_law_134 ?_
  refine W.eq (g2 := F0 m 135 ls [.int (xs 1), .ref x0]) rfl ?_
  refine lv_aload_n hx hb d_Lw_law_135 rfl (lv_at hl 4 rfl) ?_
  refine lv_iload hx hb d_Lw_law_136 (lv_at hl 0 rfl) ?_
  refine lv_iconst (v := 2) hx hb d_Lw_law_138 (by decide) ?_
  refine lv_iadd hx hb d_Lw_law_139 ?_
  refine lv_topi (fun z2 z2_e => ?_)
  obtain rfl : z2 = 2 := z2_e.trans (by decide)
  refine va_sld hx hb hX hbl hbA hS (by unfold vp_in; decide) d_Lw_law_140 ?_
  refine W.eq (g2 := F0 m 141 ls [.int (xs 2), .int (xs 1), .ref x0]) rfl ?_
  refine W.eq (g2 := F0 m 141 ls [.int 2, .int (xs 1), .ref x0]) (by rw [e2]) ?_
  refine W.eq (g2 := F0 m 141 ls [.int 2, .int (xs 1), .ref x0]) rfl ?_
  have hPd : va_P (dC, dI) gx_cl [(x0, .inr (8, [.ref (q 0), .ref (q 3), .ref (q 18), .ref (q 19), .ref (q 6), .ref (q 20), .ref (q 21), .ref (q 22), .ref (q 23), .ref (q 15), .ref (q 17), .int 0, .ref (q 24), .ref (q 25), .int 0])), ((q 17), .inl ((ci 4), 192, .inl (fun _ => 0)))] H := hPx.sub [0, 11] rfl
  have hDd : va_D (lA s) [(x0, .inr (8, [.ref (q 0), .ref (q 3), .ref (q 18), .ref (q 19), .ref (q 6), .ref (q 20), .ref (q 21), .ref (q 22), .ref (q 23), .ref (q 15), .ref (q 17), .int 0, .ref (q 24), .ref (q 25), .int 0])), ((q 17), .inl ((ci 4), 192, .inl (fun _ => 0)))] := hDx.sub [0, 11] (by decide) rfl
  have hFd := va_free (wc := [(x0, .inr (8, [.ref (q 0), .ref (q 3), .ref (q 18), .ref (q 19), .ref (q 6), .ref (q 20), .ref (q 21), .ref (q 22), .ref (q 23), .ref (q 15), .ref (q 17), .int 0, .ref (q 24), .ref (q 25), .int 0])), ((q 17), .inl ((ci 4), 192, .inl (fun _ => 0)))]) hDd hS hA [0, 1] rfl
  refine va_calli (va_runV (C := "TapeSealer") (As := [.int (xs 1), .int 2]) (rest := []) ⟨hx, hb, hml, hown, hB⟩ (m_TS_put2 l dC dI H.size x0 q ci (xs 1)) (cwV 2 hB (gy_goodV hw_353 hw_354 hw_355 hw_66 k_TS_put) rfl rfl rfl (by decide +kernel) ⟨(Nat.le_of_ble_eq_true rfl), (Nat.le_of_ble_eq_true rfl)⟩) ⟨fun a U g mk q => by obtain ⟨q0, q1, qP, qK, qD⟩ := q; exact ⟨q0, q1, qP, va_K.moved (u := U) (U := U.calling g mk a) (Vm.Alike.refl U.vm) qK, qD⟩, va_recv hKx hPd rfl (q0 := 0) rfl, fun U hU hW => ⟨rfl, by rw [hU], by rw [hU]; exact hPd, va_K.moved hW.alike hKx, hDd.weaken (fun _ _ _ _ => trivial)⟩⟩ rfl rfl hl.1 rfl (lv_room (Nat.le_of_ble_eq_true rfl)) d_Lw_law_141 ⟨(Nat.le_of_ble_eq_true rfl), (Nat.le_of_ble_eq_true rfl)⟩) hS (fun q _ h => hFd q h) hFd (fun r9 u t H1 locs ht hvm hw hB1 hz1 hk1 hS => ?_)
  have hw : r9 = 1 := hw
  subst hw
  have hPm := wj_keep (wc := [(x0, .inr (8, [.ref (q 0), .ref (q 3), .ref (q 18), .ref (q 19), .ref (q 6), .ref (q 20), .ref (q 21), .ref (q 22), .ref (q 23), .ref (q 15), .ref (q 17), .int 0, .ref (q 24), .ref (q 25), .int 0])), ((q 17), .inl ((ci 4), 192, .inl (fun _ => 0)))]) hPm (wj_sub hxm (fun i => match i with | 0 => 0 | 1 => 11 | _ => 0) (by intro i p hi; have hlt : i < 2 := (List.getElem?_eq_some_iff.mp hi).1; rcases (show i = 0 ∨ i = 1 by omega) with rfl | rfl <;> exact hi)) hk1
  have hS9 := hS
  generalize H1 = H at hPm hS ⊢
  clear hPo hS9
  have hPo : va_P (dC, dI) gx_cl [] H := gx_P0
  have hmo2 : ∀ (i j : Nat) (p q : Nat × va_E), (wMo m0 r cj)[i]? = some p → ([] : va_W)[j]? = some q → p.1 ≠ q.1 := fun _ _ _ _ _ h => by cases h
  refine W.widen (k := 129) (n := 14034) (Nat.le_of_ble_eq_true rfl) (Nat.le_of_ble_eq_true rfl) ?_
  refine W.eq (g2 := F0 m 144 ls [.int 1]) rfl ?_
  refine lv_aload_n hx hb d_Lw_law_144 rfl (lv_at hl 2 rfl) ?_
  refine lv_aload_n hx hb d_Lw_law_145 rfl (lv_at hl 4 rfl) ?_
  refine lv_iload hx hb d_Lw_law_146 (lv_at hl 0 rfl) ?_
  refine lv_iconst (v := 1) hx hb d_Lw_law_148 (by decide) ?_
  refine lv_iadd hx hb d_Lw_law_149 ?_
  refine lv_topi (fun z3 z3_e => ?_)
  obtain rfl : z3 = 1 := z3_e.trans (by decide)
  refine va_sld hx hb hX hbl hbA hS (by unfold vp_in; decide) d_Lw_law_150 ?_
  refine W.eq (g2 := F0 m 151 ls [.int (xs 1), .ref m0, .int 1]) rfl ?_
  refine lv_aload_n hx hb d_Lw_law_151 rfl (lv_at hl 4 rfl) ?_
  refine lv_iload hx hb d_Lw_law_152 (lv_at hl 0 rfl) ?_
  refine lv_iconst (v := 2) hx hb d_Lw_law_154 (by decide) ?_
  refine lv_iadd hx hb d_Lw_law_155 ?_
  refine lv_topi (fun z4 z4_e => ?_)
  obtain rfl : z4 = 2 := z4_e.trans (by decide)
  refine va_sld hx hb hX hbl hbA hS (by unfold vp_in; decide) d_Lw_law_156 ?_
  refine W.eq (g2 := F0 m 157 ls [.int (xs 2), .int (xs 1), .ref m0, .int 1]) rfl ?_
  refine W.eq (g2 := F0 m 157 ls [.int 2, .int (xs 1), .ref m0, .int 1]) (by rw [e2]) ?_
  refine W.eq (g2 := F0 m 157 ls [.int 2, .int (xs 1), .ref m0, .int 1]) rfl ?_
  have hFm := va_free (wc := wMo m0 r cj) hDm hS hA [0, 1, 2, 3, 4] rfl
  refine va_calli (va_runV (C := "TapeSealerModel") (As := [.int (xs 1), .int 2]) (rest := [.int 1]) ⟨hx, hb, hml, hown, hB⟩ (m_Mo_put2 l dC dI H.size m0 r cj (xs 1)) (cwV 2 hB (gy_goodV hw_1030 hw_1031 hw_1032 hw_75 k_Mo_put) rfl rfl rfl (by decide +kernel) ⟨(Nat.le_of_ble_eq_true rfl), (Nat.le_of_ble_eq_true rfl)⟩) ⟨fun a U g mk q => by obtain ⟨q0, q1, qP, qK, qD⟩ := q; exact ⟨q0, q1, qP, va_K.moved (u := U) (U := U.calling g mk a) (Vm.Alike.refl U.vm) qK, qD⟩, va_recv hKm hPm rfl (q0 := 0) rfl, fun U hU hW => ⟨rfl, by rw [hU], by rw [hU]; exact hPm, va_K.moved hW.alike hKm, hDm.weaken (fun _ _ _ _ => trivial)⟩⟩ rfl rfl hl.1 rfl (lv_room (Nat.le_of_ble_eq_true rfl)) d_Lw_law_157 ⟨(Nat.le_of_ble_eq_true rfl), (Nat.le_of_ble_eq_true rfl)⟩) hS (fun q _ h => hFm q h) hFm (fun r9 u t H1 locs ht hvm hw hB1 hz1 hk1 hS => ?_)
  have hw : r9 = 1 := hw
  subst hw
  obtain ⟨fs, hPt, hDt⟩ := hB1
  rw [ht] at hPt
  have hPo := wj_keep (wc := wMo m0 r cj) hPo hmo2 hk1
  generalize H1 = H at hPt hPo hS ⊢
  refine W.widen (k := 129) (n := 14034) (Nat.le_of_ble_eq_true rfl) (Nat.le_of_ble_eq_true rfl) ?_
  refine W.eq (g2 := F0 m 160 ls [.int 1, .int 1]) rfl ?_
  refine lv_icmp_eq (tgt := 1073) hx hb d_Lw_law_160 (by decide) (fun _ => ?_) (fun h9 => absurd (by decide) h9)
  exact law_exit l C1 (Nat.le_of_ble_eq_true rfl) (Nat.le_of_ble_eq_true rfl) (lv_sub hl [0, 4] rfl) hS
set_option maxHeartbeats 4000000 in
set_option maxRecDepth 100000 in
theorem lq_put3 {p : Program} {e : Env} {s : State} {m : MethodId} {below : List Frame} {meth : Method} {c : Code} (l : Launch) (hl0 : l.stackTraces = false) {b : Nat} {xs : Nat → Int32} (C0 : lw_At p s m meth c b 4 xs) (dC : Nat → ClassId) (dI : Nat → Nat → Nat) (aS aT : Nat) (cS cT : Cell) (hJ : jx aS aT cS cT s) {x0 m0 o0 : Nat} {q r : Nat → Nat} {ci cj : Nat → ClassId} {cO : ClassId} {ls : Array Slot} {H : Heap} {locs : List Loc} (hl : lv_has ls 7 [(4, .int 0), (3, .ref o0), (2, .ref m0), (1, .ref x0), (0, .ref b)]) (hP : va_P (dC, dI) gx_cl (wJ x0 m0 o0 q r ci cj cO) H) (hD : va_D (lA s) (wJ x0 m0 o0 q r ci cj cO)) (hK : va_K (dC, dI) gx_cl (kJ ci cj cO) s) (hS : va_S (lA s) s.heap H locs) (e2 : xs 2 = 3) : W p l e room_1 s m #[Value.ref b] below meth c H locs 129 14034 (lw_Z below #[Value.ref b] s) (F0 m 128 ls []) := by
  have C1 := C0
  obtain ⟨hx, hb, hr, hml, hown0, hts, hX, hbl, hlocks, -⟩ := C0
  have hown : s.vm.findClass "TapeSealerLaw" = some m.cls := hown0
  have hB := law_B hts
  have hbA : ¬ lA s b := Nat.not_le.mpr hbl
  have haS := (Array.getElem?_eq_some_iff.mp hJ.2.2.2.2.2.1).1
  have haT := (Array.getElem?_eq_some_iff.mp hJ.2.2.2.2.2.2).1
  have hA : ∀ q : Nat, s.heap.size ≤ q → lA s q := fun q h => h
  have hPx : va_P (dC, dI) gx_cl (wTS x0 q ci) H := wj_l (wj_l hP)
  have hPm : va_P (dC, dI) gx_cl (wMo m0 r cj) H := wj_r (wj_l hP)
  have hPo : va_P (dC, dI) gx_cl (wO o0 cO) H := wj_r hP
  have hDx : va_D (lA s) (wTS x0 q ci) := wj_Dl (wj_Dl hD)
  have hDm : va_D (lA s) (wMo m0 r cj) := wj_Dr (wj_Dl hD)
  have hDo : va_D (lA s) (wO o0 cO) := wj_Dr hD
  have hxm := wj_ne (a := wTS x0 q ci) (b := wMo m0 r cj) (wj_Dl hD)
  have hmo := wj_bc (a := wTS x0 q ci) (b := wMo m0 r cj) (c := wO o0 cO) hD
  have hKx := hK.sub (tys' := kTS ci) [0, 1, 2, 3, 4] rfl
  have hKm := hK.sub (tys' := kMo cj) [5, 6, 7, 8] rfl
  have hKo := hK.sub (tys' := [(cO, .long)]) [9] rfl
  have hK0 := hK.sub (tys' := []) [] rfl
  have hmo2 := hmo
  refine lv_aload_n hx hb d_Lw_law_128 rfl (lv_at hl 3 rfl) ?_
  refine lv_aload_n hx hb d_Lw_law_129 rfl (lv_at hl 4 rfl) ?_
  refine lv_iload hx hb d_Lw_law_130 (lv_at hl 0 rfl) ?_
  refine lv_iconst (v := 1) hx hb d_Lw_law_132 (by decide) ?_
  refine lv_iadd hx hb d_Lw_law_133 ?_
  refine lv_topi (fun z1 z1_e => ?_)
  obtain rfl : z1 = 1 := z1_e.trans (by decide)
  refine va_sld hx hb hX hbl hbA hS (by unfold vp_in; decide) d_Lw_law_134 ?_
  refine W.eq (g2 := F0 m 135 ls [.int (xs 1), .ref x0]) rfl ?_
  refine lv_aload_n hx hb d_Lw_law_135 rfl (lv_at hl 4 rfl) ?_
  refine lv_iload hx hb d_Lw_law_136 (lv_at hl 0 rfl) ?_
  refine lv_iconst (v := 2) hx hb d_Lw_law_138 (by decide) ?_
  refine lv_iadd hx hb d_Lw_law_139 ?_
  refine lv_topi (fun z2 z2_e => ?_)
  obtain rfl : z2 = 2 := z2_e.trans (by decide)
  refine va_sld hx hb hX hbl hbA hS (by unfold vp_in; decide) d_Lw_law_140 ?_
  refine W.eq (g2 := F0 m 141 ls [.int (xs 2), .int (xs 1), .ref x0]) rfl ?_
  refine W.eq (g2 := F0 m 141 ls [.int 3, .int (xs 1), .ref x0]) (by rw [e2]) ?_
  refine W.eq (g2 := F0 m 141 ls [.int 3, .int (xs 1), .ref x0]) rfl ?_
  have hPd : va_P (dC, dI) gx_cl [(x0, .inr (8, [.ref (q 0), .ref (q 3), .ref (q 18), .ref (q 19), .ref (q 6), .ref (q 20), .ref (q 21), .ref (q 22), .ref (q 23), .ref (q 15), .ref (q 17), .int 0, .ref (q 24), .ref (q 25), .int 0])), ((q 17), .inl ((ci 4), 192, .inl (fun _ => 0)))] H := hPx.sub [0, 11] rfl
  have hDd : va_D (lA s) [(x0, .inr (8, [.ref (q 0), .ref (q 3), .ref (q 18), .ref (q 19), .ref (q 6), .ref (q 20), .ref (q 21), .ref (q 22), .ref (q 23), .ref (q 15), .ref (q 17), .int 0, .ref (q 24), .ref (q 25), .int 0])), ((q 17), .inl ((ci 4), 192, .inl (fun _ => 0)))] := hDx.sub [0, 11] (by decide) rfl
  have hFd := va_free (wc := [(x0, .inr (8, [.ref (q 0), .ref (q 3), .ref (q 18), .ref (q 19), .ref (q 6), .ref (q 20), .ref (q 21), .ref (q 22), .ref (q 23), .ref (q 15), .ref (q 17), .int 0, .ref (q 24), .ref (q 25), .int 0])), ((q 17), .inl ((ci 4), 192, .inl (fun _ => 0)))]) hDd hS hA [0, 1] rfl
  refine va_calli (va_runV (C := "TapeSealer") (As := [.int (xs 1), .int 3]) (rest := []) ⟨hx, hb, hml, hown, hB⟩ (m_TS_put3 l dC dI H.size x0 q ci (xs 1)) (cwV 2 hB (gy_goodV hw_353 hw_354 hw_355 hw_66 k_TS_put) rfl rfl rfl (by decide +kernel) ⟨(Nat.le_of_ble_eq_true rfl), (Nat.le_of_ble_eq_true rfl)⟩) ⟨fun a U g mk q => by obtain ⟨q0, q1, qP, qK, qD⟩ := q; exact ⟨q0, q1, qP, va_K.moved (u := U) (U := U.calling g mk a) (Vm.Alike.refl U.vm) qK, qD⟩, va_recv hKx hPd rfl (q0 := 0) rfl, fun U hU hW => ⟨rfl, by rw [hU], by rw [hU]; exact hPd, va_K.moved hW.alike hKx, hDd.weaken (fun _ _ _ _ => trivial)⟩⟩ rfl rfl hl.1 rfl (lv_room (Nat.le_of_ble_eq_true rfl)) d_Lw_law_141 ⟨(Nat.le_of_ble_eq_true rfl), (Nat.le_of_ble_eq_true rfl)⟩) hS (fun q _ h => hFd q h) hFd (fun r9 u t H1 locs ht hvm hw hB1 hz1 hk1 hS => ?_)
  have hw : r9 = 1 := hw
  subst hw
  have hPm := wj_keep (wc := [(x0, .inr (8, [.ref (q 0), .ref (q 3), .ref (q 18), .ref (q 19), .ref (q 6), .ref (q 20), .ref (q 21), .ref (q 22), .ref (q 23), .ref (q 15), .ref (q 17), .int 0, .ref (q 24), .ref (q 25), .int 0])), ((q 17), .inl ((ci 4), 192, .inl (fun _ => 0)))]) hPm (wj_sub hxm (fun i => match i with | 0 => 0 | 1 => 11 | _ => 0) (by intro i p hi; have hlt : i < 2 := (List.getElem?_eq_some_iff.mp hi).1; rcases (show i = 0 ∨ i = 1 by omega) with rfl | rfl <;> exact hi)) hk1
  have hS9 := hS
  generalize H1 = H at hPm hS ⊢
  clear hPo hS9
  have hPo : va_P (dC, dI) gx_cl [] H := gx_P0
  have hmo2 : ∀ (i j : Nat) (p q : Nat × va_E), (wMo m0 r cj)[i]? = some p → ([] : va_W)[j]? = some q → p.1 ≠ q.1 := fun _ _ _ _ _ h => by cases h
  refine W.widen (k := 129) (n := 14034) (Nat.le_of_ble_eq_true rfl) (Nat.le_of_ble_eq_true rfl) ?_
  refine W.eq (g2 := F0 m 144 ls [.int 1]) rfl ?_
  refine lv_aload_n hx hb d_Lw_law_144 rfl (lv_at hl 2 rfl) ?_
  refine lv_aload_n hx hb d_Lw_law_145 rfl (lv_at hl 4 rfl) ?_
  refine lv_iload hx hb d_Lw_law_146 (lv_at hl 0 rfl) ?_
  refine lv_iconst (v := 1) hx hb d_Lw_law_148 (by decide) ?_
  refine lv_iadd hx hb d_Lw_law_149 ?_
  refine lv_topi (fun z3 z3_e => ?_)
  obtain rfl : z3 = 1 := z3_e.trans (by decide)
  refine va_sld hx hb hX hbl hbA hS (by unfold vp_in; decide) d_Lw_law_150 ?_
  refine W.eq (g2 := F0 m 151 ls [.int (xs 1), .ref m0, .int 1]) rfl ?_
  refine lv_aload_n hx hb d_Lw_law_151 rfl (lv_at hl 4 rfl) ?_
  refine lv_iload hx hb d_Lw_law_152 (lv_at hl 0 rfl) ?_
  refine lv_iconst (v := 2) hx hb d_Lw_law_154 (by decide) ?_
  refine lv_iadd hx hb d_Lw_law_155 ?_
  refine lv_topi (fun z4 z4_e => ?_)
  obtain rfl : z4 = 2 := z4_e.trans (by decide)
  refine va_sld hx hb hX hbl hbA hS (by unfold vp_in; decide) d_Lw_law_156 ?_
  refine W.eq (g2 := F0 m 157 ls [.int (xs 2), .int (xs 1), .ref m0, .int 1]) rfl ?_
  refine W.eq (g2 := F0 m 157 ls [.int 3, .int (xs 1), .ref m0, .int 1]) (by rw [e2]) ?_
  refine W.eq (g2 := F0 m 157 ls [.int 3, .int (xs 1), .ref m0, .int 1]) rfl ?_
  have hFm := va_free (wc := wMo m0 r cj) hDm hS hA [0, 1, 2, 3, 4] rfl
  refine va_calli (va_runV (C := "TapeSealerModel") (As := [.int (xs 1), .int 3]) (rest := [.int 1]) ⟨hx, hb, hml, hown, hB⟩ (m_Mo_put3 l dC dI H.size m0 r cj (xs 1)) (cwV 2 hB (gy_goodV hw_1030 hw_1031 hw_1032 hw_75 k_Mo_put) rfl rfl rfl (by decide +kernel) ⟨(Nat.le_of_ble_eq_true rfl), (Nat.le_of_ble_eq_true rfl)⟩) ⟨fun a U g mk q => by obtain ⟨q0, q1, qP, qK, qD⟩ := q; exact ⟨q0, q1, qP, va_K.moved (u := U) (U := U.calling g mk a) (Vm.Alike.refl U.vm) qK, qD⟩, va_recv hKm hPm rfl (q0 := 0) rfl, fun U hU hW => ⟨rfl, by rw [hU], by rw [hU]; exact hPm, va_K.moved hW.alike hKm, hDm.weaken (fun _ _ _ _ => trivial)⟩⟩ rfl rfl hl.1 rfl (lv_room (Nat.le_of_ble_eq_true rfl)) d_Lw_law_157 ⟨(Nat.le_of_ble_eq_true rfl), (Nat.le_of_ble_eq_true rfl)⟩) hS (fun q _ h => hFm q h) hFm (fun r9 u t H1 locs ht hvm hw hB1 hz1 hk1 hS => ?_)
  have hw : r9 = 1 := hw
  subst hw
  obtain ⟨fs, hPt, hDt⟩ := hB1
  rw [ht] at hPt
  have hPo := wj_keep (wc := wMo m0 r cj) hPo hmo2 hk1
  generalize H1 = H at hPt hPo hS ⊢
  refine W.widen (k := 129) (n := 14034) (Nat.le_of_ble_eq_true rfl) (Nat.le_of_ble_eq_true rfl) ?_
  refine W.eq (g2 := F0 m 160 ls [.int 1, .int 1]) rfl ?_
  refine lv_icmp_eq (tgt := 1073) hx hb d_Lw_law_160 (by decide) (fun _ => ?_) (fun h9 => absurd (by decide) h9)
  exact law_exit l C1 (Nat.le_of_ble_eq_true rfl) (Nat.le_of_ble_eq_true rfl) (lv_sub hl [0, 4] rfl) hS
set_option maxHeartbeats 4000000 in
set_option maxRecDepth 100000 in
theorem lq_put4 {p : Program} {e : Env} {s : State} {m : MethodId} {below : List Frame} {meth : Method} {c : Code} (l : Launch) (hl0 : l.stackTraces = false) {b : Nat} {xs : Nat → Int32} (C0 : lw_At p s m meth c b 4 xs) (dC : Nat → ClassId) (dI : Nat → Nat → Nat) (aS aT : Nat) (cS cT : Cell) (hJ : jx aS aT cS cT s) {x0 m0 o0 : Nat} {q r : Nat → Nat} {ci cj : Nat → ClassId} {cO : ClassId} {ls : Array Slot} {H : Heap} {locs : List Loc} (hl : lv_has ls 7 [(4, .int 0), (3, .ref o0), (2, .ref m0), (1, .ref x0), (0, .ref b)]) (hP : va_P (dC, dI) gx_cl (wJ x0 m0 o0 q r ci cj cO) H) (hD : va_D (lA s) (wJ x0 m0 o0 q r ci cj cO)) (hK : va_K (dC, dI) gx_cl (kJ ci cj cO) s) (hS : va_S (lA s) s.heap H locs) (e2 : xs 2 = 4) : W p l e room_1 s m #[Value.ref b] below meth c H locs 129 14034 (lw_Z below #[Value.ref b] s) (F0 m 128 ls []) := by
  have C1 := C0
  obtain ⟨hx, hb, hr, hml, hown0, hts, hX, hbl, hlocks, -⟩ := C0
  have hown : s.vm.findClass "TapeSealerLaw" = some m.cls := hown0
  have hB := law_B hts
  have hbA : ¬ lA s b := Nat.not_le.mpr hbl
  have haS := (Array.getElem?_eq_some_iff.mp hJ.2.2.2.2.2.1).1
  have haT := (Array.getElem?_eq_some_iff.mp hJ.2.2.2.2.2.2).1
  have hA : ∀ q : Nat, s.heap.size ≤ q → lA s q := fun q h => h
  have hPx : va_P (dC, dI) gx_cl (wTS x0 q ci) H := wj_l (wj_l hP)
  have hPm : va_P (dC, dI) gx_cl (wMo m0 r cj) H := wj_r (wj_l hP)
  have hPo : va_P (dC, dI) gx_cl (wO o0 cO) H := wj_r hP
  have hDx : va_D (lA s) (wTS x0 q ci) := wj_Dl (wj_Dl hD)
  have hDm : va_D (lA s) (wMo m0 r cj) := wj_Dr (wj_Dl hD)
  have hDo : va_D (lA s) (wO o0 cO) := wj_Dr hD
  have hxm := wj_ne (a := wTS x0 q ci) (b := wMo m0 r cj) (wj_Dl hD)
  have hmo := wj_bc (a := wTS x0 q ci) (b := wMo m0 r cj) (c := wO o0 cO) hD
  have hKx := hK.sub (tys' := kTS ci) [0, 1, 2, 3, 4] rfl
  have hKm := hK.sub (tys' := kMo cj) [5, 6, 7, 8] rfl
  have hKo := hK.sub (tys' := [(cO, .long)]) [9] rfl
  have hK0 := hK.sub (tys' := []) [] rfl
  have hmo2 := hmo
  refine lv_aload_n hx hb d_Lw_law_128 rfl (lv_at hl 3 rfl) ?_
  refine lv_aload_n hx hb d_Lw_law_129 rfl (lv_at hl 4 rfl) ?_
  refine lv_iload hx hb d_Lw_law_130 (lv_at hl 0 rfl) ?_
  refine lv_iconst (v := 1) hx hb d_Lw_law_132 (by decide) ?_
  refine lv_iadd hx hb d_Lw_law_133 ?_
  refine lv_topi (fun z1 z1_e => ?_)
  obtain rfl : z1 = 1 := z1_e.trans (by decide)
  refine va_sld hx hb hX hbl hbA hS (by unfold vp_in; decide) d_Lw_law_134 ?_
  refine W.eq (g2 := F0 m 135 ls [.int (xs 1), .ref x0]) rfl ?_
  refine lv_aload_n hx hb d_Lw_law_135 rfl (lv_at hl 4 rfl) ?_
  refine lv_iload hx hb d_Lw_law_136 (lv_at hl 0 rfl) ?_
  refine lv_iconst (v := 2) hx hb d_Lw_law_138 (by decide) ?_
  refine lv_iadd hx hb d_Lw_law_139 ?_
  refine lv_topi (fun z2 z2_e => ?_)
  obtain rfl : z2 = 2 := z2_e.trans (by decide)
  refine va_sld hx hb hX hbl hbA hS (by unfold vp_in; decide) d_Lw_law_140 ?_
  refine W.eq (g2 := F0 m 141 ls [.int (xs 2), .int (xs 1), .ref x0]) rfl ?_
  refine W.eq (g2 := F0 m 141 ls [.int 4, .int (xs 1), .ref x0]) (by rw [e2]) ?_
  refine W.eq (g2 := F0 m 141 ls [.int 4, .int (xs 1), .ref x0]) rfl ?_
  have hPd : va_P (dC, dI) gx_cl [(x0, .inr (8, [.ref (q 0), .ref (q 3), .ref (q 18), .ref (q 19), .ref (q 6), .ref (q 20), .ref (q 21), .ref (q 22), .ref (q 23), .ref (q 15), .ref (q 17), .int 0, .ref (q 24), .ref (q 25), .int 0])), ((q 17), .inl ((ci 4), 192, .inl (fun _ => 0)))] H := hPx.sub [0, 11] rfl
  have hDd : va_D (lA s) [(x0, .inr (8, [.ref (q 0), .ref (q 3), .ref (q 18), .ref (q 19), .ref (q 6), .ref (q 20), .ref (q 21), .ref (q 22), .ref (q 23), .ref (q 15), .ref (q 17), .int 0, .ref (q 24), .ref (q 25), .int 0])), ((q 17), .inl ((ci 4), 192, .inl (fun _ => 0)))] := hDx.sub [0, 11] (by decide) rfl
  have hFd := va_free (wc := [(x0, .inr (8, [.ref (q 0), .ref (q 3), .ref (q 18), .ref (q 19), .ref (q 6), .ref (q 20), .ref (q 21), .ref (q 22), .ref (q 23), .ref (q 15), .ref (q 17), .int 0, .ref (q 24), .ref (q 25), .int 0])), ((q 17), .inl ((ci 4), 192, .inl (fun _ => 0)))]) hDd hS hA [0, 1] rfl
  refine va_calli (va_runV (C := "TapeSealer") (As := [.int (xs 1), .int 4]) (rest := []) ⟨hx, hb, hml, hown, hB⟩ (m_TS_put4 l dC dI H.size x0 q ci (xs 1)) (cwV 2 hB (gy_goodV hw_353 hw_354 hw_355 hw_66 k_TS_put) rfl rfl rfl (by decide +kernel) ⟨(Nat.le_of_ble_eq_true rfl), (Nat.le_of_ble_eq_true rfl)⟩) ⟨fun a U g mk q => by obtain ⟨q0, q1, qP, qK, qD⟩ := q; exact ⟨q0, q1, qP, va_K.moved (u := U) (U := U.calling g mk a) (Vm.Alike.refl U.vm) qK, qD⟩, va_recv hKx hPd rfl (q0 := 0) rfl, fun U hU hW => ⟨rfl, by rw [hU], by rw [hU]; exact hPd, va_K.moved hW.alike hKx, hDd.weaken (fun _ _ _ _ => trivial)⟩⟩ rfl rfl hl.1 rfl (lv_room (Nat.le_of_ble_eq_true rfl)) d_Lw_law_141 ⟨(Nat.le_of_ble_eq_true rfl), (Nat.le_of_ble_eq_true rfl)⟩) hS (fun q _ h => hFd q h) hFd (fun r9 u t H1 locs ht hvm hw hB1 hz1 hk1 hS => ?_)
  have hw : r9 = 1 := hw
  subst hw
  have hPm := wj_keep (wc := [(x0, .inr (8, [.ref (q 0), .ref (q 3), .ref (q 18), .ref (q 19), .ref (q 6), .ref (q 20), .ref (q 21), .ref (q 22), .ref (q 23), .ref (q 15), .ref (q 17), .int 0, .ref (q 24), .ref (q 25), .int 0])), ((q 17), .inl ((ci 4), 192, .inl (fun _ => 0)))]) hPm (wj_sub hxm (fun i => match i with | 0 => 0 | 1 => 11 | _ => 0) (by intro i p hi; have hlt : i < 2 := (List.getElem?_eq_some_iff.mp hi).1; rcases (show i = 0 ∨ i = 1 by omega) with rfl | rfl <;> exact hi)) hk1
  have hS9 := hS
  generalize H1 = H at hPm hS ⊢
  clear hPo hS9
  have hPo : va_P (dC, dI) gx_cl [] H := gx_P0
  have hmo2 : ∀ (i j : Nat) (p q : Nat × va_E), (wMo m0 r cj)[i]? = some p → ([] : va_W)[j]? = some q → p.1 ≠ q.1 := fun _ _ _ _ _ h => by cases h
  refine W.widen (k := 129) (n := 14034) (Nat.le_of_ble_eq_true rfl) (Nat.le_of_ble_eq_true rfl) ?_
  refine W.eq (g2 := F0 m 144 ls [.int 1]) rfl ?_
  refine lv_aload_n hx hb d_Lw_law_144 rfl (lv_at hl 2 rfl) ?_
  refine lv_aload_n hx hb d_Lw_law_145 rfl (lv_at hl 4 rfl) ?_
  refine lv_iload hx hb d_Lw_law_146 (lv_at hl 0 rfl) ?_
  refine lv_iconst (v := 1) hx hb d_Lw_law_148 (by decide) ?_
  refine lv_iadd hx hb d_Lw_law_149 ?_
  refine lv_topi (fun z3 z3_e => ?_)
  obtain rfl : z3 = 1 := z3_e.trans (by decide)
  refine va_sld hx hb hX hbl hbA hS (by unfold vp_in; decide) d_Lw_law_150 ?_
  refine W.eq (g2 := F0 m 151 ls [.int (xs 1), .ref m0, .int 1]) rfl ?_
  refine lv_aload_n hx hb d_Lw_law_151 rfl (lv_at hl 4 rfl) ?_
  refine lv_iload hx hb d_Lw_law_152 (lv_at hl 0 rfl) ?_
  refine lv_iconst (v := 2) hx hb d_Lw_law_154 (by decide) ?_
  refine lv_iadd hx hb d_Lw_law_155 ?_
  refine lv_topi (fun z4 z4_e => ?_)
  obtain rfl : z4 = 2 := z4_e.trans (by decide)
  refine va_sld hx hb hX hbl hbA hS (by unfold vp_in; decide) d_Lw_law_156 ?_
  refine W.eq (g2 := F0 m 157 ls [.int (xs 2), .int (xs 1), .ref m0, .int 1]) rfl ?_
  refine W.eq (g2 := F0 m 157 ls [.int 4, .int (xs 1), .ref m0, .int 1]) (by rw [e2]) ?_
  refine W.eq (g2 := F0 m 157 ls [.int 4, .int (xs 1), .ref m0, .int 1]) rfl ?_
  have hFm := va_free (wc := wMo m0 r cj) hDm hS hA [0, 1, 2, 3, 4] rfl
  refine va_calli (va_runV (C := "TapeSealerModel") (As := [.int (xs 1), .int 4]) (rest := [.int 1]) ⟨hx, hb, hml, hown, hB⟩ (m_Mo_put4 l dC dI H.size m0 r cj (xs 1)) (cwV 2 hB (gy_goodV hw_1030 hw_1031 hw_1032 hw_75 k_Mo_put) rfl rfl rfl (by decide +kernel) ⟨(Nat.le_of_ble_eq_true rfl), (Nat.le_of_ble_eq_true rfl)⟩) ⟨fun a U g mk q => by obtain ⟨q0, q1, qP, qK, qD⟩ := q; exact ⟨q0, q1, qP, va_K.moved (u := U) (U := U.calling g mk a) (Vm.Alike.refl U.vm) qK, qD⟩, va_recv hKm hPm rfl (q0 := 0) rfl, fun U hU hW => ⟨rfl, by rw [hU], by rw [hU]; exact hPm, va_K.moved hW.alike hKm, hDm.weaken (fun _ _ _ _ => trivial)⟩⟩ rfl rfl hl.1 rfl (lv_room (Nat.le_of_ble_eq_true rfl)) d_Lw_law_157 ⟨(Nat.le_of_ble_eq_true rfl), (Nat.le_of_ble_eq_true rfl)⟩) hS (fun q _ h => hFm q h) hFm (fun r9 u t H1 locs ht hvm hw hB1 hz1 hk1 hS => ?_)
  have hw : r9 = 1 := hw
  subst hw
  obtain ⟨fs, hPt, hDt⟩ := hB1
  rw [ht] at hPt
  have hPo := wj_keep (wc := wMo m0 r cj) hPo hmo2 hk1
  generalize H1 = H at hPt hPo hS ⊢
  refine W.widen (k := 129) (n := 14034) (Nat.le_of_ble_eq_true rfl) (Nat.le_of_ble_eq_true rfl) ?_
  refine W.eq (g2 := F0 m 160 ls [.int 1, .int 1]) rfl ?_
  refine lv_icmp_eq (tgt := 1073) hx hb d_Lw_law_160 (by decide) (fun _ => ?_) (fun h9 => absurd (by decide) h9)
  exact law_exit l C1 (Nat.le_of_ble_eq_true rfl) (Nat.le_of_ble_eq_true rfl) (lv_sub hl [0, 4] rfl) hS
set_option maxHeartbeats 4000000 in
set_option maxRecDepth 100000 in
theorem lq_mount {p : Program} {e : Env} {s : State} {m : MethodId} {below : List Frame} {meth : Method} {c : Code} (l : Launch) (hl0 : l.stackTraces = false) {b : Nat} {xs : Nat → Int32} (C0 : lw_At p s m meth c b 4 xs) (dC : Nat → ClassId) (dI : Nat → Nat → Nat) (aS aT : Nat) (cS cT : Cell) (hJ : jx aS aT cS cT s) {x0 m0 o0 : Nat} {q r : Nat → Nat} {ci cj : Nat → ClassId} {cO : ClassId} {ls : Array Slot} {H : Heap} {locs : List Loc} (hl : lv_has ls 7 [(4, .int 0), (3, .ref o0), (2, .ref m0), (1, .ref x0), (0, .ref b)]) (hP : va_P (dC, dI) gx_cl (wJ x0 m0 o0 q r ci cj cO) H) (hD : va_D (lA s) (wJ x0 m0 o0 q r ci cj cO)) (hK : va_K (dC, dI) gx_cl (kJ ci cj cO) s) (hS : va_S (lA s) s.heap H locs) : W p l e room_1 s m #[Value.ref b] below meth c H locs 129 14034 (lw_Z below #[Value.ref b] s) (F0 m 868 ls []) := by
  have C1 := C0
  obtain ⟨hx, hb, hr, hml, hown0, hts, hX, hbl, hlocks, -⟩ := C0
  have hown : s.vm.findClass "TapeSealerLaw" = some m.cls := hown0
  have hB := law_B hts
  have hbA : ¬ lA s b := Nat.not_le.mpr hbl
  have haS := (Array.getElem?_eq_some_iff.mp hJ.2.2.2.2.2.1).1
  have haT := (Array.getElem?_eq_some_iff.mp hJ.2.2.2.2.2.2).1
  have hA : ∀ q : Nat, s.heap.size ≤ q → lA s q := fun q h => h
  have hPx : va_P (dC, dI) gx_cl (wTS x0 q ci) H := wj_l (wj_l hP)
  have hPm : va_P (dC, dI) gx_cl (wMo m0 r cj) H := wj_r (wj_l hP)
  have hPo : va_P (dC, dI) gx_cl (wO o0 cO) H := wj_r hP
  have hDx : va_D (lA s) (wTS x0 q ci) := wj_Dl (wj_Dl hD)
  have hDm : va_D (lA s) (wMo m0 r cj) := wj_Dr (wj_Dl hD)
  have hDo : va_D (lA s) (wO o0 cO) := wj_Dr hD
  have hxm := wj_ne (a := wTS x0 q ci) (b := wMo m0 r cj) (wj_Dl hD)
  have hmo := wj_bc (a := wTS x0 q ci) (b := wMo m0 r cj) (c := wO o0 cO) hD
  have hKx := hK.sub (tys' := kTS ci) [0, 1, 2, 3, 4] rfl
  have hKm := hK.sub (tys' := kMo cj) [5, 6, 7, 8] rfl
  have hKo := hK.sub (tys' := [(cO, .long)]) [9] rfl
  have hK0 := hK.sub (tys' := []) [] rfl
  have hmo2 := hmo
  refine lv_aload_n hx hb d_Lw_law_868 rfl (lv_at hl 3 rfl) ?_
  refine W.eq (g2 := F0 m 869 ls [.ref x0]) rfl ?_
  have hPd : va_P (dC, dI) gx_cl (wTS x0 q ci) H := hPx
  have hDd : va_D (lA s) (wTS x0 q ci) := hDx
  have hFd := va_free (wc := (wTS x0 q ci)) hDd hS hA [0, 1, 2, 3, 4, 5, 6, 7, 8, 9, 10, 11, 12, 13, 14, 15, 16, 17, 18, 19, 20, 21, 22, 23, 24, 25, 26, 27, 28, 29, 30, 31, 32, 33, 34, 35, 36, 37, 38, 39, 40, 41, 42, 43, 44, 45, 46, 47, 48, 49, 50, 51, 52, 53, 54, 55] rfl
  refine va_calli (va_runV (C := "TapeSealer") (As := []) (rest := []) ⟨hx, hb, hml, hown, hB⟩ (m_TS_mount l dC dI H.size x0 q ci) (cwV 0 hB (gy_goodV hw_357 hw_358 hw_359 hw_66 k_TS_mount) rfl rfl rfl (by decide +kernel) ⟨(Nat.le_of_ble_eq_true rfl), (Nat.le_of_ble_eq_true rfl)⟩) ⟨fun a U g mk q => by obtain ⟨q0, q1, qP, qK, qD⟩ := q; exact ⟨q0, q1, qP, va_K.moved (u := U) (U := U.calling g mk a) (Vm.Alike.refl U.vm) qK, qD⟩, va_recv hKx hPd rfl (q0 := 0) rfl, fun U hU hW => ⟨rfl, by rw [hU], by rw [hU]; exact hPd, va_K.moved hW.alike hKx, hDd.weaken (fun _ _ _ _ => trivial)⟩⟩ rfl rfl hl.1 rfl (lv_room (Nat.le_of_ble_eq_true rfl)) d_Lw_law_869 ⟨(Nat.le_of_ble_eq_true rfl), (Nat.le_of_ble_eq_true rfl)⟩) hS (fun q _ h => hFd q h) hFd (fun r9 u t H1 locs ht hvm hw hB1 hz1 hk1 hS => ?_)
  have hw : r9 = 0 := hw
  subst hw
  have hPm := wj_keep (wc := (wTS x0 q ci)) hPm hxm hk1
  have hS9 := hS
  generalize H1 = H at hPm hS ⊢
  clear hPo hS9
  have hPo : va_P (dC, dI) gx_cl [] H := gx_P0
  have hmo2 : ∀ (i j : Nat) (p q : Nat × va_E), (wMo m0 r cj)[i]? = some p → ([] : va_W)[j]? = some q → p.1 ≠ q.1 := fun _ _ _ _ _ h => by cases h
  refine W.widen (k := 129) (n := 14034) (Nat.le_of_ble_eq_true rfl) (Nat.le_of_ble_eq_true rfl) ?_
  refine W.eq (g2 := F0 m 872 ls [.int 0]) rfl ?_
  refine lv_aload_n hx hb d_Lw_law_872 rfl (lv_at hl 2 rfl) ?_
  refine W.eq (g2 := F0 m 873 ls [.ref m0, .int 0]) rfl ?_
  have hFm := va_free (wc := wMo m0 r cj) hDm hS hA [0, 1, 2, 3, 4] rfl
  refine va_calli (va_runV (C := "TapeSealerModel") (As := []) (rest := [.int 0]) ⟨hx, hb, hml, hown, hB⟩ (m_Mo_mount l dC dI H.size m0 r cj) (cwV 0 hB (gy_goodV hw_1254 hw_1255 hw_1256 hw_75 k_Mo_mount) rfl rfl rfl (by decide +kernel) ⟨(Nat.le_of_ble_eq_true rfl), (Nat.le_of_ble_eq_true rfl)⟩) ⟨fun a U g mk q => by obtain ⟨q0, q1, qP, qK, qD⟩ := q; exact ⟨q0, q1, qP, va_K.moved (u := U) (U := U.calling g mk a) (Vm.Alike.refl U.vm) qK, qD⟩, va_recv hKm hPm rfl (q0 := 0) rfl, fun U hU hW => ⟨rfl, by rw [hU], by rw [hU]; exact hPm, va_K.moved hW.alike hKm, hDm.weaken (fun _ _ _ _ => trivial)⟩⟩ rfl rfl hl.1 rfl (lv_room (Nat.le_of_ble_eq_true rfl)) d_Lw_law_873 ⟨(Nat.le_of_ble_eq_true rfl), (Nat.le_of_ble_eq_true rfl)⟩) hS (fun q _ h => hFm q h) hFm (fun r9 u t H1 locs ht hvm hw hB1 hz1 hk1 hS => ?_)
  have hw : r9 = 0 := hw
  subst hw
  obtain ⟨fs, hPt, hDt⟩ := hB1
  rw [ht] at hPt
  have hPo := wj_keep (wc := wMo m0 r cj) hPo hmo2 hk1
  generalize H1 = H at hPt hPo hS ⊢
  refine W.widen (k := 129) (n := 14034) (Nat.le_of_ble_eq_true rfl) (Nat.le_of_ble_eq_true rfl) ?_
  refine W.eq (g2 := F0 m 876 ls [.int 0, .int 0]) rfl ?_
  refine lv_icmp_eq (tgt := 1073) hx hb d_Lw_law_876 (by decide) (fun _ => ?_) (fun h9 => absurd (by decide) h9)
  exact law_exit l C1 (Nat.le_of_ble_eq_true rfl) (Nat.le_of_ble_eq_true rfl) (lv_sub hl [0, 4] rfl) hS
