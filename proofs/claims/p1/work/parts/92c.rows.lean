theorem gx_put (n : Int32) : (n < 1 ∨ 4 < n) ∨ n = 1 ∨ n = 2 ∨ n = 3 ∨ n = 4 := by
  by_cases h1 : n < 1
  · exact Or.inl (Or.inl h1)
  · by_cases h2 : 4 < n
    · exact Or.inl (Or.inr h2)
    · right
      rw [Int32.lt_iff_toInt_lt] at h1 h2
      have e1 : (1 : Int32).toInt = 1 := by decide
      have e2 : (2 : Int32).toInt = 2 := by decide
      have e3 : (3 : Int32).toInt = 3 := by decide
      have e4 : (4 : Int32).toInt = 4 := by decide
      rw [← Int32.toInt_inj, ← Int32.toInt_inj, ← Int32.toInt_inj, ← Int32.toInt_inj]
      omega
theorem gx_state (n : Int32) : (n < 0 ∨ 5 < n) ∨ n = 0 ∨ n = 1 ∨ n = 2 ∨ n = 3 ∨ n = 4 ∨ n = 5 := by
  by_cases h1 : n < 0
  · exact Or.inl (Or.inl h1)
  · by_cases h2 : 5 < n
    · exact Or.inl (Or.inr h2)
    · right
      rw [Int32.lt_iff_toInt_lt] at h1 h2
      have e0 : (0 : Int32).toInt = 0 := by decide
      have e1 : (1 : Int32).toInt = 1 := by decide
      have e2 : (2 : Int32).toInt = 2 := by decide
      have e3 : (3 : Int32).toInt = 3 := by decide
      have e4 : (4 : Int32).toInt = 4 := by decide
      have e5 : (5 : Int32).toInt = 5 := by decide
      rw [← Int32.toInt_inj, ← Int32.toInt_inj, ← Int32.toInt_inj, ← Int32.toInt_inj, ← Int32.toInt_inj, ← Int32.toInt_inj]
      omega
theorem gx_lt6 {n : Int32} (h : ¬ 6 ≤ n) : n < 6 := by
  rw [Int32.le_iff_toInt_le] at h; rw [Int32.lt_iff_toInt_lt]; omega
theorem gx_le255 {n : Int32} (h : ¬ 255 < n) : n ≤ 255 := by
  rw [Int32.lt_iff_toInt_lt] at h; rw [Int32.le_iff_toInt_le]; omega
set_option maxHeartbeats 4000000 in
set_option maxRecDepth 100000 in
theorem whole_start {p : Program} {e : Env} {s : State} {m : MethodId} {below : List Frame} {meth : Method} {c : Code} (l : Launch) (hl0 : l.stackTraces = false) {b L : Nat} {xs : Nat → Int32} (hL : L ≤ 4) (C0 : lw_At p s m meth c b L xs) : W p l e room_1 s m #[Value.ref b] below meth c s.heap [] 0 0 (lw_Z below #[Value.ref b] s) (entryFrame m ([Value.ref b] : List Value).toArray 7) := by
  have C1 := C0
  obtain ⟨hx, hb, hr, hml, hown0, hts, hX, hbl, hlocks, hgv⟩ := C1
  have hB := law_B hts
  have hbA : ¬ lA s b := Nat.not_le.mpr hbl
  have hki : ∀ (c : Nat) (q : vw_C), gx_cl[c]? = some q → ∃ (cC : ClassId) (iS : Nat → Nat), u_Kn s q.1 q.2.1 q.2.2 cC iS := by
    intro c q hq
    have hlt : c < 10 := (List.getElem?_eq_some_iff.mp hq).1
    rcases (show c = 0 ∨ c = 1 ∨ c = 2 ∨ c = 3 ∨ c = 4 ∨ c = 5 ∨ c = 6 ∨ c = 7 ∨ c = 8 ∨ c = 9 by omega) with rfl | rfl | rfl | rfl | rfl | rfl | rfl | rfl | rfl | rfl
    · cases hq; exact u_known hB in_Au (hB _ hw_176)
    · cases hq; exact u_known hB in_Ca (hB _ hw_97)
    · cases hq; exact u_known hB in_Dr (hB _ hw_287)
    · cases hq; exact u_known hB in_Ep (hB _ hw_134)
    · cases hq; exact u_known hB in_Ks (hB _ hw_159)
    · cases hq; exact u_known hB in_La (hB _ hw_242)
    · cases hq; exact u_known hB in_Se (hB _ hw_153)
    · cases hq; exact u_known hB in_St (hB _ hw_216)
    · cases hq; exact u_known hB in_TS (hB _ hw_89)
    · cases hq; exact u_known hB in_Mo (hB _ hw_885)
  obtain ⟨dC, dI, hK⟩ := law_K hB hki
  obtain ⟨aS, cS, hcS, hstS⟩ := jx_st.of (n := "UNASSIGNED_STACK") (d := Bundle.steD) (hts _ (List.mem_of_getElem? (i := 497) (by decide +kernel))) (flat_of_before _ hgv _ (by decide +kernel))
  obtain ⟨aT, cT, hcT, hstT⟩ := jx_st.of (n := "SUPPRESSED_SENTINEL") (d := Bundle.listD) (hts _ (List.mem_of_getElem? (i := 499) (by decide +kernel))) (flat_of_before _ hgv _ (by decide +kernel))
  have hJ : jx aS aT cS cT s := ⟨fun w hw hk => va_Nw.of (gx_nk_on hk) (hts w hw), mx_A.of (hts _ (List.mem_of_getElem? (i := 103) (by decide +kernel))), va_AO.of (hts _ (List.mem_of_getElem? (i := 241) (by decide +kernel))), hstS, hstT, hcS, hcT⟩
  refine law_pro l C0 dC dI aS aT cS cT hK hJ (fun x0 m0 o0 q r ci cj cO ls H locs hl hP hD hK hS => ?_)
  refine lv_iload hx hb d_Lw_law_23 (lv_at hl 0 rfl) ?_
  refine lv_aload_n hx hb d_Lw_law_25 rfl (lv_at hl 4 rfl) ?_
  refine va_slen hx hb hX hbl hbA hS d_Lw_law_26 ?_
  refine lv_iconst (v := 4) hx hb d_Lw_law_27 (by decide) ?_
  refine lv_isub hx hb d_Lw_law_28 ?_
  rcases (show L = 4 ∨ L = 0 ∨ L = 1 ∨ L = 2 ∨ L = 3 by omega) with rfl | h9
  · refine lv_icmp_gt (tgt := 1079) hx hb d_Lw_law_29 (by decide) (fun h9 => absurd h9 (by decide)) (fun _ => ?_)
    refine W.eq (g2 := F0 m 32 ls []) rfl ?_
    refine lv_aload_n hx hb d_Lw_law_32 rfl (lv_at hl 4 rfl) ?_
    refine lv_iload hx hb d_Lw_law_33 (lv_at hl 0 rfl) ?_
    refine va_sld hx hb hX hbl hbA hS (by unfold vp_in; decide) d_Lw_law_35 ?_
    refine lv_bipush (v := 31) hx hb d_Lw_law_36 (by decide) ?_
    refine lv_iand hx hb d_Lw_law_38 ?_
    obtain ⟨j, hj, hz⟩ := pk_andE (xs 0) (m := 31) 5 (by decide)
    have hj : j < 32 := hj
    refine W.eq (g2 := F0 m 39 ls [.int (nI j)]) (by show F0 m _ ls [.int (xs 0 &&& 31)] = _; rw [hz]) ?_
    rcases (show j = 0 ∨ j = 1 ∨ j = 2 ∨ j = 3 ∨ j = 4 ∨ j = 5 ∨ j = 6 ∨ j = 7 ∨ j = 8 ∨ j = 9 ∨ j = 10 ∨ j = 11 ∨ j = 12 ∨ j = 13 ∨ j = 14 ∨ j = 15 ∨ j = 16 ∨ j = 17 ∨ j = 18 ∨ j = 19 ∨ j = 20 ∨ j = 21 ∨ j = 22 ∨ j = 23 ∨ j = 24 ∨ j = 25 ∨ j = 26 ∨ j = 27 ∨ j = 28 ∨ j = 29 ∨ j = 30 ∨ j = 31 by omega) with rfl | rfl | rfl | rfl | rfl | rfl | rfl | rfl | rfl | rfl | rfl | rfl | rfl | rfl | rfl | rfl | rfl | rfl | rfl | rfl | rfl | rfl | rfl | rfl | rfl | rfl | rfl | rfl | rfl | rfl | rfl | rfl
    · refine lv_tableIn (off := 89) (tgt := 128) hx hb d_Lw_law_39 (by decide) (by decide) rfl (by decide) ?_
      rcases gx_put (xs 2) with h | e2 | e2 | e2 | e2
      · exact lq_put0 l hl0 C0 dC dI aS aT cS cT hJ hl hP hD hK hS h
      · exact lq_put1 l hl0 C0 dC dI aS aT cS cT hJ hl hP hD hK hS e2
      · exact lq_put2 l hl0 C0 dC dI aS aT cS cT hJ hl hP hD hK hS e2
      · exact lq_put3 l hl0 C0 dC dI aS aT cS cT hJ hl hP hD hK hS e2
      · exact lq_put4 l hl0 C0 dC dI aS aT cS cT hJ hl hP hD hK hS e2
    · refine lv_tableIn (off := 126) (tgt := 165) hx hb d_Lw_law_39 (by decide) (by decide) rfl (by decide) ?_
      exact lq_epoch l hl0 C0 dC dI aS aT cS cT hJ hl hP hD hK hS
    · refine lv_tableIn (off := 170) (tgt := 209) hx hb d_Lw_law_39 (by decide) (by decide) rfl (by decide) ?_
      exact lq_create l hl0 C0 dC dI aS aT cS cT hJ hl hP hD hK hS
    · refine lv_tableIn (off := 226) (tgt := 265) hx hb d_Lw_law_39 (by decide) (by decide) rfl (by decide) ?_
      exact lq_append l hl0 C0 dC dI aS aT cS cT hJ hl hP hD hK hS
    · refine lv_tableIn (off := 270) (tgt := 309) hx hb d_Lw_law_39 (by decide) (by decide) rfl (by decide) ?_
      exact lq_finish l hl0 C0 dC dI aS aT cS cT hJ hl hP hD hK hS
    · refine lv_tableIn (off := 314) (tgt := 353) hx hb d_Lw_law_39 (by decide) (by decide) rfl (by decide) ?_
      exact lq_read l hl0 C0 dC dI aS aT cS cT hJ hl hP hD hK hS
    · refine lv_tableIn (off := 394) (tgt := 433) hx hb d_Lw_law_39 (by decide) (by decide) rfl (by decide) ?_
      exact lq_output l hl0 C0 dC dI aS aT cS cT hJ hl hP hD hK hS
    · refine lv_tableIn (off := 450) (tgt := 489) hx hb d_Lw_law_39 (by decide) (by decide) rfl (by decide) ?_
      exact lq_verify l hl0 C0 dC dI aS aT cS cT hJ hl hP hD hK hS
    · refine lv_tableIn (off := 506) (tgt := 545) hx hb d_Lw_law_39 (by decide) (by decide) rfl (by decide) ?_
      exact lq_rewrap l hl0 C0 dC dI aS aT cS cT hJ hl hP hD hK hS
    · refine lv_tableIn (off := 569) (tgt := 608) hx hb d_Lw_law_39 (by decide) (by decide) rfl (by decide) ?_
      exact lq_dropEpoch l hl0 C0 dC dI aS aT cS cT hJ hl hP hD hK hS
    · refine lv_tableIn (off := 605) (tgt := 644) hx hb d_Lw_law_39 (by decide) (by decide) rfl (by decide) ?_
      exact lq_delete l hl0 C0 dC dI aS aT cS cT hJ hl hP hD hK hS
    · refine lv_tableIn (off := 641) (tgt := 680) hx hb d_Lw_law_39 (by decide) (by decide) rfl (by decide) ?_
      by_cases h1 : (xs 1) < 0
      · exact lq_scrub0 l hl0 C0 dC dI aS aT cS cT hJ hl hP hD hK hS (Or.inl h1)
      · by_cases h2 : 6 ≤ (xs 1)
        · exact lq_scrub0 l hl0 C0 dC dI aS aT cS cT hJ hl hP hD hK hS (Or.inr h2)
        · exact lq_scrub1 l hl0 C0 dC dI aS aT cS cT hJ hl hP hD hK hS h1 (gx_lt6 h2)
    · refine lv_tableIn (off := 697) (tgt := 736) hx hb d_Lw_law_39 (by decide) (by decide) rfl (by decide) ?_
      by_cases h1 : (xs 1) < 0
      · exact lq_damage_b l hl0 C0 dC dI aS aT cS cT hJ hl hP hD hK hS (Or.inl h1)
      · by_cases h2 : 44 ≤ (xs 1)
        · exact lq_damage_b l hl0 C0 dC dI aS aT cS cT hJ hl hP hD hK hS (Or.inr (Or.inl h2))
        · by_cases h3 : (xs 2) < 0
          · exact lq_damage_b l hl0 C0 dC dI aS aT cS cT hJ hl hP hD hK hS (Or.inr (Or.inr (Or.inl h3)))
          · by_cases h4 : 64 ≤ (xs 2)
            · exact lq_damage_b l hl0 C0 dC dI aS aT cS cT hJ hl hP hD hK hS (Or.inr (Or.inr (Or.inr h4)))
            · by_cases h5 : (xs 3) < 0
              · exact lq_damage_m l hl0 C0 dC dI aS aT cS cT hJ hl hP hD hK hS h1 h2 h3 h4 (Or.inl h5)
              · by_cases h6 : 255 < (xs 3)
                · exact lq_damage_m l hl0 C0 dC dI aS aT cS cT hJ hl hP hD hK hS h1 h2 h3 h4 (Or.inr h6)
                · exact lq_damage1 l hl0 C0 dC dI aS aT cS cT hJ hl hP hD hK hS h1 h2 h3 h4 h5 (gx_le255 h6)
    · refine lv_tableIn (off := 757) (tgt := 796) hx hb d_Lw_law_39 (by decide) (by decide) rfl (by decide) ?_
      by_cases h1 : (xs 1) < 0
      · exact lq_spoil0 l hl0 C0 dC dI aS aT cS cT hJ hl hP hD hK hS (Or.inl h1)
      · by_cases h2 : 44 ≤ (xs 1)
        · exact lq_spoil0 l hl0 C0 dC dI aS aT cS cT hJ hl hP hD hK hS (Or.inr h2)
        · exact lq_spoil1 l hl0 C0 dC dI aS aT cS cT hJ hl hP hD hK hS h1 h2
    · refine lv_tableIn (off := 793) (tgt := 832) hx hb d_Lw_law_39 (by decide) (by decide) rfl (by decide) ?_
      by_cases h : (xs 1) ≤ 100
      · exact lq_stopAfter1 l hl0 C0 dC dI aS aT cS cT hJ hl hP hD hK hS h
      · exact lq_stopAfter0 l hl0 C0 dC dI aS aT cS cT hJ hl hP hD hK hS h
    · refine lv_tableIn (off := 829) (tgt := 868) hx hb d_Lw_law_39 (by decide) (by decide) rfl (by decide) ?_
      exact lq_mount l hl0 C0 dC dI aS aT cS cT hJ hl hP hD hK hS
    · refine lv_tableIn (off := 842) (tgt := 881) hx hb d_Lw_law_39 (by decide) (by decide) rfl (by decide) ?_
      exact lq_file l hl0 C0 dC dI aS aT cS cT hJ hl hP hD hK hS
    · refine lv_tableIn (off := 910) (tgt := 949) hx hb d_Lw_law_39 (by decide) (by decide) rfl (by decide) ?_
      by_cases h1 : (xs 1) < 0
      · exact lq_block0 l hl0 C0 dC dI aS aT cS cT hJ hl hP hD hK hS (Or.inl h1)
      · by_cases h2 : 44 ≤ (xs 1)
        · exact lq_block0 l hl0 C0 dC dI aS aT cS cT hJ hl hP hD hK hS (Or.inr (Or.inl h2))
        · by_cases h3 : (xs 2) < 0
          · exact lq_block0 l hl0 C0 dC dI aS aT cS cT hJ hl hP hD hK hS (Or.inr (Or.inr (Or.inl h3)))
          · by_cases h4 : 64 ≤ (xs 2)
            · exact lq_block0 l hl0 C0 dC dI aS aT cS cT hJ hl hP hD hK hS (Or.inr (Or.inr (Or.inr h4)))
            · exact lq_block1 l hl0 C0 dC dI aS aT cS cT hJ hl hP hD hK hS h1 h2 h3 h4
    · refine lv_tableIn (off := 978) (tgt := 1017) hx hb d_Lw_law_39 (by decide) (by decide) rfl (by decide) ?_
      rcases gx_state (xs 1) with h | e1 | e1 | e1 | e1 | e1 | e1
      · exact lq_state_x l hl0 C0 dC dI aS aT cS cT hJ hl hP hD hK hS h
      · exact lq_state0 l hl0 C0 dC dI aS aT cS cT hJ hl hP hD hK hS e1
      · exact lq_state1 l hl0 C0 dC dI aS aT cS cT hJ hl hP hD hK hS e1
      · exact lq_state2 l hl0 C0 dC dI aS aT cS cT hJ hl hP hD hK hS e1
      · exact lq_state3 l hl0 C0 dC dI aS aT cS cT hJ hl hP hD hK hS e1
      · exact lq_state4 l hl0 C0 dC dI aS aT cS cT hJ hl hP hD hK hS e1
      · exact lq_state5 l hl0 C0 dC dI aS aT cS cT hJ hl hP hD hK hS e1
    · refine lv_tableOut (tgt := 1073) hx hb d_Lw_law_39 (Or.inr (by decide)) (by decide) ?_
      exact law_exit l C0 (Nat.le_of_ble_eq_true rfl) (Nat.le_of_ble_eq_true rfl) (lv_sub hl [0, 4] rfl) hS
    · refine lv_tableOut (tgt := 1073) hx hb d_Lw_law_39 (Or.inr (by decide)) (by decide) ?_
      exact law_exit l C0 (Nat.le_of_ble_eq_true rfl) (Nat.le_of_ble_eq_true rfl) (lv_sub hl [0, 4] rfl) hS
    · refine lv_tableOut (tgt := 1073) hx hb d_Lw_law_39 (Or.inr (by decide)) (by decide) ?_
      exact law_exit l C0 (Nat.le_of_ble_eq_true rfl) (Nat.le_of_ble_eq_true rfl) (lv_sub hl [0, 4] rfl) hS
    · refine lv_tableOut (tgt := 1073) hx hb d_Lw_law_39 (Or.inr (by decide)) (by decide) ?_
      exact law_exit l C0 (Nat.le_of_ble_eq_true rfl) (Nat.le_of_ble_eq_true rfl) (lv_sub hl [0, 4] rfl) hS
    · refine lv_tableOut (tgt := 1073) hx hb d_Lw_law_39 (Or.inr (by decide)) (by decide) ?_
      exact law_exit l C0 (Nat.le_of_ble_eq_true rfl) (Nat.le_of_ble_eq_true rfl) (lv_sub hl [0, 4] rfl) hS
    · refine lv_tableOut (tgt := 1073) hx hb d_Lw_law_39 (Or.inr (by decide)) (by decide) ?_
      exact law_exit l C0 (Nat.le_of_ble_eq_true rfl) (Nat.le_of_ble_eq_true rfl) (lv_sub hl [0, 4] rfl) hS
    · refine lv_tableOut (tgt := 1073) hx hb d_Lw_law_39 (Or.inr (by decide)) (by decide) ?_
      exact law_exit l C0 (Nat.le_of_ble_eq_true rfl) (Nat.le_of_ble_eq_true rfl) (lv_sub hl [0, 4] rfl) hS
    · refine lv_tableOut (tgt := 1073) hx hb d_Lw_law_39 (Or.inr (by decide)) (by decide) ?_
      exact law_exit l C0 (Nat.le_of_ble_eq_true rfl) (Nat.le_of_ble_eq_true rfl) (lv_sub hl [0, 4] rfl) hS
    · refine lv_tableOut (tgt := 1073) hx hb d_Lw_law_39 (Or.inr (by decide)) (by decide) ?_
      exact law_exit l C0 (Nat.le_of_ble_eq_true rfl) (Nat.le_of_ble_eq_true rfl) (lv_sub hl [0, 4] rfl) hS
    · refine lv_tableOut (tgt := 1073) hx hb d_Lw_law_39 (Or.inr (by decide)) (by decide) ?_
      exact law_exit l C0 (Nat.le_of_ble_eq_true rfl) (Nat.le_of_ble_eq_true rfl) (lv_sub hl [0, 4] rfl) hS
    · refine lv_tableOut (tgt := 1073) hx hb d_Lw_law_39 (Or.inr (by decide)) (by decide) ?_
      exact law_exit l C0 (Nat.le_of_ble_eq_true rfl) (Nat.le_of_ble_eq_true rfl) (lv_sub hl [0, 4] rfl) hS
    · refine lv_tableOut (tgt := 1073) hx hb d_Lw_law_39 (Or.inr (by decide)) (by decide) ?_
      exact law_exit l C0 (Nat.le_of_ble_eq_true rfl) (Nat.le_of_ble_eq_true rfl) (lv_sub hl [0, 4] rfl) hS
    · refine lv_tableOut (tgt := 1073) hx hb d_Lw_law_39 (Or.inr (by decide)) (by decide) ?_
      exact law_exit l C0 (Nat.le_of_ble_eq_true rfl) (Nat.le_of_ble_eq_true rfl) (lv_sub hl [0, 4] rfl) hS
  · have hneg : (Int32.ofNat L - 4) < 0 := by
      rcases h9 with rfl | rfl | rfl | rfl <;> decide
    refine lv_icmp_gt (tgt := 1079) hx hb d_Lw_law_29 (by decide) (fun _ => ?_) (fun h8 => absurd hneg h8)
    refine lv_iconst (v := 1) hx hb d_Lw_law_1079 (by decide) ?_
    refine va_forget hS.2.2 ?_
    refine W.widen (k := 600002) (n := 7302232) (Nat.le_of_ble_eq_true rfl) (Nat.le_of_ble_eq_true rfl) ?_
    exact lw_ret hx hb hr hlocks d_Lw_law_1080
