set_option maxHeartbeats 4000000 in
set_option maxRecDepth 100000 in
theorem law_exit {p : Program} {e : Env} {s : State} {m : MethodId} {below : List Frame} {meth : Method} {c : Code} (l : Launch) {b : Nat} {xs : Nat → Int32} (C0 : lw_At p s m meth c b 4 xs) {ls : Array Slot} {H : Heap} {locs : List Loc} {cells slots : Nat} (hc : cells ≤ 600002) (hs : slots ≤ 7302232) (hl : lv_has ls 7 [(4, .int 0), (0, .ref b)]) (hS : va_S (lA s) s.heap H locs) : W p l e room_1 s m #[Value.ref b] below meth c H locs cells slots (lw_Z below #[Value.ref b] s) (F0 m 1073 ls []) := by
  obtain ⟨hx, hb, hr, hml, hown, hts, hX, hbl, hlocks, -⟩ := C0
  have hbA : ¬ lA s b := Nat.not_le.mpr hbl
  refine lv_iinc (k := 0) (v := 4) hx hb d_Lw_law_1073 hl rfl (by decide) (by decide) rfl (fun ls hl => ?_)
  have hl : lv_has ls 7 [(4, .int 4), (0, .ref b)] := hl
  refine lv_goto (tgt := 23) hx hb d_Lw_law_1076 (by decide) ?_
  refine lv_iload hx hb d_Lw_law_23 (lv_at hl 0 rfl) ?_
  refine lv_aload_n hx hb d_Lw_law_25 rfl (lv_at hl 1 rfl) ?_
  refine va_slen hx hb hX hbl hbA hS d_Lw_law_26 ?_
  refine lv_iconst (v := 4) hx hb d_Lw_law_27 (by decide) ?_
  refine lv_isub hx hb d_Lw_law_28 ?_
  refine lv_icmp_gt (tgt := 1079) hx hb d_Lw_law_29 (by decide) (fun _ => ?_) (fun h9 => absurd (by decide) h9)
  refine lv_iconst (v := 1) hx hb d_Lw_law_1079 (by decide) ?_
  refine va_forget hS.2.2 ?_
  refine W.widen (k := 600002) (n := 7302232) hc hs ?_
  exact lw_ret hx hb hr hlocks d_Lw_law_1080
set_option maxHeartbeats 4000000 in
set_option maxRecDepth 100000 in
theorem law_pro {p : Program} {e : Env} {s : State} {m : MethodId} {below : List Frame} {meth : Method} {c : Code} (l : Launch) {b L : Nat} {xs : Nat → Int32} (C0 : lw_At p s m meth c b L xs) (dC : Nat → ClassId) (dI : Nat → Nat → Nat) (aS aT : Nat) (cS cT : Cell) (hK : va_K (dC, dI) gx_cl [] s) (hJ : jx aS aT cS cT s) (kk : ∀ (x0 m0 o0 : Nat) (q r : Nat → Nat) (ci cj : Nat → ClassId) (cO : ClassId) (ls : Array Slot) (H : Heap) (locs : List Loc), lv_has ls 7 [(4, .int 0), (3, .ref o0), (2, .ref m0), (1, .ref x0), (0, .ref b)] → va_P (dC, dI) gx_cl (wJ x0 m0 o0 q r ci cj cO) H → va_D (lA s) (wJ x0 m0 o0 q r ci cj cO) → va_K (dC, dI) gx_cl (kJ ci cj cO) s → va_S (lA s) s.heap H locs → W p l e room_1 s m #[Value.ref b] below meth c H locs 129 14034 (lw_Z below #[Value.ref b] s) (F0 m 23 ls [])) : W p l e room_1 s m #[Value.ref b] below meth c s.heap [] 0 0 (lw_Z below #[Value.ref b] s) (entryFrame m ([Value.ref b] : List Value).toArray 7) := by
  obtain ⟨hx, hb, hr, hml, hown0, hts, hX, hbl, hlocks, -⟩ := C0
  have hown : s.vm.findClass "TapeSealerLaw" = some m.cls := hown0
  have hB := law_B hts
  have haS := (Array.getElem?_eq_some_iff.mp hJ.2.2.2.2.2.1).1
  have haT := (Array.getElem?_eq_some_iff.mp hJ.2.2.2.2.2.2).1
  have hP : va_P (dC, dI) gx_cl [] s.heap := gx_P0
  have hD : va_D (lA s) [] := gx_D0
  have hA : ∀ q : Nat, s.heap.size ≤ q → lA s q := fun q h => h
  have hS : va_S (lA s) s.heap s.heap [] := va_S.rf
  have hl := lv_entry ([.ref b]) (n := 7) (Nat.le_of_ble_eq_true rfl)
  rw [lg_entry_eq]
  generalize (lg_sl ([.ref b]) ++ List.replicate (7 - (lg_sl ([.ref b])).length) Slot.unset).toArray = ls at hl ⊢
  have hl : lv_has ls 7 [(0, .ref b)] := hl
  refine va_new (D := (dC, dI)) (ci := 8) (fs := [.null, .null, .null, .null, .null, .null, .null, .null, .null, .null, .null, .int 0, .null, .null, .int 0]) (C := RTS) (T := FTS) (N := 15) hx hb hB in_TS tTS tTS_ok hown (hB _ hw_88) (hB _ hw_89) (hB _ hw_66) hK hP hD hS hA rfl (fun j hj => by rcases (show j = 0 ∨ j = 1 ∨ j = 2 ∨ j = 3 ∨ j = 4 ∨ j = 5 ∨ j = 6 ∨ j = 7 ∨ j = 8 ∨ j = 9 ∨ j = 10 ∨ j = 11 ∨ j = 12 ∨ j = 13 ∨ j = 14 by omega) with rfl | rfl | rfl | rfl | rfl | rfl | rfl | rfl | rfl | rfl | rfl | rfl | rfl | rfl | rfl <;> rfl) (Nat.le_of_ble_eq_true rfl) (Nat.le_of_ble_eq_true rfl) d_Lw_law_0 (fun x0 H hP hD hS => ?_)
  have hP : va_P (dC, dI) gx_cl [(x0, .inr (8, [.null, .null, .null, .null, .null, .null, .null, .null, .null, .null, .null, .int 0, .null, .null, .int 0]))] H := hP
  have hD : va_D (lA s) [(x0, .inr (8, [.null, .null, .null, .null, .null, .null, .null, .null, .null, .null, .null, .int 0, .null, .null, .int 0]))] := hD
  refine W.widen (k := 1) (n := 15) (Nat.le_of_ble_eq_true rfl) (Nat.le_of_ble_eq_true rfl) ?_
  refine lv_dup hx hb d_Lw_law_3 rfl ?_
  have hPc := hP.sub (ws' := [(x0, .inr (8, [.null, .null, .null, .null, .null, .null, .null, .null, .null, .null, .null, .int 0, .null, .null, .int 0]))]) [0] rfl
  have hDc := hD.sub (ws' := [(x0, .inr (8, [.null, .null, .null, .null, .null, .null, .null, .null, .null, .null, .null, .int 0, .null, .null, .int 0]))]) [0] (by decide) rfl
  have hKc := hK.sub (tys' := []) [] rfl
  have hFc := va_free (wc := [(x0, .inr (8, [.null, .null, .null, .null, .null, .null, .null, .null, .null, .null, .null, .int 0, .null, .null, .int 0]))]) hD hS hA [0] rfl
  refine va_callv (va_runI (As := []) (rest := [.ref x0]) ⟨hx, hb, hml, hown, hB⟩ (c_TS_init l dC dI aS aT cS cT x0 H.size) (cwI 0 hB (gy_good k_TS_init) rfl rfl rfl (hB _ hw_66) (hB _ hw_90) (hB _ hw_91) rfl (by decide +kernel) ⟨(Nat.le_of_ble_eq_true rfl), (Nat.le_of_ble_eq_true rfl)⟩) ⟨fun a U g mk q => by obtain ⟨q0, q1, qP, qK, qD, qJ⟩ := q; exact ⟨q0, q1, qP, va_K.moved (u := U) (U := U.calling g mk a) (Vm.Alike.refl U.vm) qK, qD, qJ.call g mk a⟩, fun U hU hW => ⟨rfl, by rw [hU], by rw [hU]; exact hPc, va_K.moved hW.alike hKc, hDc.weaken (fun _ _ _ _ => trivial), hJ.move hW (by rw [hU]; exact hS.2.1 aS haS (Nat.not_le.mpr haS)) (by rw [hU]; exact hS.2.1 aT haT (Nat.not_le.mpr haT))⟩⟩ rfl rfl hl.1 rfl (lv_room (Nat.le_of_ble_eq_true rfl)) d_Lw_law_4 ⟨(Nat.le_of_ble_eq_true rfl), (Nat.le_of_ble_eq_true rfl)⟩) hS (fun q _ h => hFc q h) hFc (fun u t H1 locs ht hvm hw hB1 hz1 hk1 hS => ?_)
  obtain ⟨q, ci, hP1, hD1, hK1⟩ := hB1
  rw [ht] at hP1
  obtain ⟨hP, hD⟩ := va_join (wr := []) (w1 := wTS x0 q ci) hP hD [0] [] rfl rfl (by decide) (by decide) hk1 hFc hP1 hD1
  have hK := hK.app (va_K.moved hvm.symm hK1)
  generalize H1 = H at hP hS ⊢
  have hP : va_P (dC, dI) gx_cl (wTS x0 q ci) H := hP
  have hD : va_D (lA s) (wTS x0 q ci) := hD
  have hK : va_K (dC, dI) gx_cl (kTS ci) s := hK
  refine W.widen (k := 103) (n := 7503) (Nat.le_of_ble_eq_true rfl) (Nat.le_of_ble_eq_true rfl) ?_
  refine W.eq (g2 := F0 m 7 ls [.ref x0]) rfl ?_
  refine lv_astore_n hx hb d_Lw_law_7 rfl hl (by decide) rfl (fun ls hl => ?_)
  have hl : lv_has ls 7 [(1, .ref x0), (0, .ref b)] := hl
  refine va_new (D := (dC, dI)) (ci := 9) (fs := [.int 0, .null, .null, .null, .int 0, .int 0, .null, .null, .int 0, .int 0, .int 0, .null, .int 0, .int 0, .int 0, .int 0, .null, .int 0, .null, .null, .null, .int 0, .null, .int 0, .null, .null, .null, .null, .null, .int 0, .null, .null, .null, .null, .int 0, .int 0, .int 0, .int 0, .int 0, .int 0, .null, .int 0, .null, .null, .null]) (C := RMo) (T := FMo) (N := 45) hx hb hB in_Mo tMo tMo_ok hown (hB _ hw_884) (hB _ hw_885) (hB _ hw_75) hK hP hD hS hA rfl (fun j hj => by rcases (show j = 0 ∨ j = 1 ∨ j = 2 ∨ j = 3 ∨ j = 4 ∨ j = 5 ∨ j = 6 ∨ j = 7 ∨ j = 8 ∨ j = 9 ∨ j = 10 ∨ j = 11 ∨ j = 12 ∨ j = 13 ∨ j = 14 ∨ j = 15 ∨ j = 16 ∨ j = 17 ∨ j = 18 ∨ j = 19 ∨ j = 20 ∨ j = 21 ∨ j = 22 ∨ j = 23 ∨ j = 24 ∨ j = 25 ∨ j = 26 ∨ j = 27 ∨ j = 28 ∨ j = 29 ∨ j = 30 ∨ j = 31 ∨ j = 32 ∨ j = 33 ∨ j = 34 ∨ j = 35 ∨ j = 36 ∨ j = 37 ∨ j = 38 ∨ j = 39 ∨ j = 40 ∨ j = 41 ∨ j = 42 ∨ j = 43 ∨ j = 44 by omega) with rfl | rfl | rfl | rfl | rfl | rfl | rfl | rfl | rfl | rfl | rfl | rfl | rfl | rfl | rfl | rfl | rfl | rfl | rfl | rfl | rfl | rfl | rfl | rfl | rfl | rfl | rfl | rfl | rfl | rfl | rfl | rfl | rfl | rfl | rfl | rfl | rfl | rfl | rfl | rfl | rfl | rfl | rfl | rfl | rfl <;> rfl) (Nat.le_of_ble_eq_true rfl) (Nat.le_of_ble_eq_true rfl) d_Lw_law_8 (fun m0 H hP hD hS => ?_)
  refine W.widen (k := 104) (n := 7548) (Nat.le_of_ble_eq_true rfl) (Nat.le_of_ble_eq_true rfl) ?_
  refine lv_dup hx hb d_Lw_law_11 rfl ?_
  have hPc := hP.sub (ws' := [(m0, .inr (9, [.int 0, .null, .null, .null, .int 0, .int 0, .null, .null, .int 0, .int 0, .int 0, .null, .int 0, .int 0, .int 0, .int 0, .null, .int 0, .null, .null, .null, .int 0, .null, .int 0, .null, .null, .null, .null, .null, .int 0, .null, .null, .null, .null, .int 0, .int 0, .int 0, .int 0, .int 0, .int 0, .null, .int 0, .null, .null, .null]))]) [56] rfl
  have hDc := hD.sub (ws' := [(m0, .inr (9, [.int 0, .null, .null, .null, .int 0, .int 0, .null, .null, .int 0, .int 0, .int 0, .null, .int 0, .int 0, .int 0, .int 0, .null, .int 0, .null, .null, .null, .int 0, .null, .int 0, .null, .null, .null, .null, .null, .int 0, .null, .null, .null, .null, .int 0, .int 0, .int 0, .int 0, .int 0, .int 0, .null, .int 0, .null, .null, .null]))]) [56] (by decide) rfl
  have hKc := hK.sub (tys' := []) [] rfl
  have hFc := va_free (wc := [(m0, .inr (9, [.int 0, .null, .null, .null, .int 0, .int 0, .null, .null, .int 0, .int 0, .int 0, .null, .int 0, .int 0, .int 0, .int 0, .null, .int 0, .null, .null, .null, .int 0, .null, .int 0, .null, .null, .null, .null, .null, .int 0, .null, .null, .null, .null, .int 0, .int 0, .int 0, .int 0, .int 0, .int 0, .null, .int 0, .null, .null, .null]))]) hD hS hA [56] rfl
  refine va_callv (va_runI (As := []) (rest := [.ref m0]) ⟨hx, hb, hml, hown, hB⟩ (c_Mo_init l dC dI m0 H.size) (cwI 0 hB (gy_good k_Mo_init) rfl rfl rfl (hB _ hw_75) (hB _ hw_886) (hB _ hw_887) rfl (by decide +kernel) ⟨(Nat.le_of_ble_eq_true rfl), (Nat.le_of_ble_eq_true rfl)⟩) ⟨fun a U g mk q => by obtain ⟨q0, q1, qP, qK, qD⟩ := q; exact ⟨q0, q1, qP, va_K.moved (u := U) (U := U.calling g mk a) (Vm.Alike.refl U.vm) qK, qD⟩, fun U hU hW => ⟨rfl, by rw [hU], by rw [hU]; exact hPc, va_K.moved hW.alike hKc, hDc.weaken (fun _ _ _ _ => trivial)⟩⟩ rfl rfl hl.1 rfl (lv_room (Nat.le_of_ble_eq_true rfl)) d_Lw_law_12 ⟨(Nat.le_of_ble_eq_true rfl), (Nat.le_of_ble_eq_true rfl)⟩) hS (fun q _ h => hFc q h) hFc (fun u t H1 locs ht hvm hw hB1 hz1 hk1 hS => ?_)
  obtain ⟨r, cj, hP1, hD1, hK1⟩ := hB1
  rw [ht] at hP1
  obtain ⟨hP, hD⟩ := va_join (wr := wTS x0 q ci) (w1 := wMo m0 r cj) hP hD [56] [0, 1, 2, 3, 4, 5, 6, 7, 8, 9, 10, 11, 12, 13, 14, 15, 16, 17, 18, 19, 20, 21, 22, 23, 24, 25, 26, 27, 28, 29, 30, 31, 32, 33, 34, 35, 36, 37, 38, 39, 40, 41, 42, 43, 44, 45, 46, 47, 48, 49, 50, 51, 52, 53, 54, 55] rfl rfl (by decide) (by decide) hk1 hFc hP1 hD1
  have hK := hK.app (va_K.moved hvm.symm hK1)
  generalize H1 = H at hP hS ⊢
  refine W.widen (k := 128) (n := 14033) (Nat.le_of_ble_eq_true rfl) (Nat.le_of_ble_eq_true rfl) ?_
  refine W.eq (g2 := F0 m 15 ls [.ref m0]) rfl ?_
  refine lv_astore_n hx hb d_Lw_law_15 rfl hl (by decide) rfl (fun ls hl => ?_)
  have hl : lv_has ls 7 [(2, .ref m0), (1, .ref x0), (0, .ref b)] := hl
  refine lv_iconst (v := 1) hx hb d_Lw_law_16 (by decide) ?_
  refine va_newa (D := (dC, dI)) (atype := .long) (a0 := (1, .inr (.inl (fun _ => 0)))) (ty := .long) hx hb (hB _ hw_198) rfl hK hP hD hS hA (fun _ => rfl) (by decide) (N' := 1) rfl (by decide) (Nat.le_of_ble_eq_true rfl) (Nat.le_of_ble_eq_true rfl) d_Lw_law_17 (fun o0 cO H hK hP hD hS => ?_)
  refine W.widen (k := 129) (n := 14034) (Nat.le_of_ble_eq_true rfl) (Nat.le_of_ble_eq_true rfl) ?_
  refine lv_astore_n hx hb d_Lw_law_19 rfl hl (by decide) rfl (fun ls hl => ?_)
  have hl : lv_has ls 7 [(3, .ref o0), (2, .ref m0), (1, .ref x0), (0, .ref b)] := hl
  refine lv_iconst (v := 0) hx hb d_Lw_law_20 (by decide) ?_
  refine lv_istore hx hb d_Lw_law_21 hl (by decide) rfl (fun ls hl => ?_)
  have hl : lv_has ls 7 [(4, .int 0), (3, .ref o0), (2, .ref m0), (1, .ref x0), (0, .ref b)] := hl
  refine W.eq (g2 := F0 m 23 ls []) rfl ?_
  exact kk x0 m0 o0 q r ci cj cO ls H locs hl hP hD hK hS
