section P280_06_safe
set_option maxHeartbeats 4000000 in
set_option maxRecDepth 100000 in
theorem c0_X8_firstShut (l : Launch) (dC : Nat → ClassId) (dI : Nat → Nat → Nat) (sz : Nat) (a0 : Nat) (a1 : Int32) (a2 : Int32) (a0_0 : Int32) (a0g_1 a0g_2 a0g_3 a0g_4 a0g_5 a0g_6 a0g_7 a0g_8 a0g_9 a0g_10 a0g_12 a0g_13 a0g_15 a0g_16 a0g_17 a0g_18 a0g_19 a0g_20 a0g_21 a0g_22 a0g_23 a0g_24 a0g_25 a0g_26 a0g_27 a0g_28 a0g_29 a0g_30 a0g_31 a0g_32 a0g_33 a0g_34 a0g_35 a0g_36 a0g_37 a0g_38 a0g_39 : Value) (a0_11 : Int32) (a0_14 : Int32) (ba0_14_l : (0 : Int) ≤ a0_14.toInt) (ba0_14_u : a0_14.toInt ≤ (0 : Int)) : zm l yX8_firstShut wsX8_firstShut ({ frames := 2, cells := 0, slots := 0, locals := 50 }) [.ref a0, .int a1, .int a2] dC dI sz [(a0, .inr (8, [Value.int a0_0, a0g_1, a0g_2, a0g_3, a0g_4, a0g_5, a0g_6, a0g_7, a0g_8, a0g_9, a0g_10, Value.int a0_11, a0g_12, a0g_13, Value.int a0_14, a0g_15, a0g_16, a0g_17, a0g_18, a0g_19, a0g_20, a0g_21, a0g_22, a0g_23, a0g_24, a0g_25, a0g_26, a0g_27, a0g_28, a0g_29, a0g_30, a0g_31, a0g_32, a0g_33, a0g_34, a0g_35, a0g_36, a0g_37, a0g_38, a0g_39]))] [] (fun A _ => True) (fun A => va_Qi (fun (r : Int32) (_ : Unit) => r = (-1)) (fun (_ : Unit) (t : State) => ∃ na0_0 : Int32, ∃ na0_11 : Int32, ax_B dC dI A [(a0, .inr (8, [Value.int na0_0, a0g_1, a0g_2, a0g_3, a0g_4, a0g_5, a0g_6, a0g_7, a0g_8, a0g_9, a0g_10, Value.int na0_11, a0g_12, a0g_13, Value.int a0_14, a0g_15, a0g_16, a0g_17, a0g_18, a0g_19, a0g_20, a0g_21, a0g_22, a0g_23, a0g_24, a0g_25, a0g_26, a0g_27, a0g_28, a0g_29, a0g_30, a0g_31, a0g_32, a0g_33, a0g_34, a0g_35, a0g_36, a0g_37, a0g_38, a0g_39]))] [] t) A) := by
  refine zh (cc := cX8_firstShut) (maxL := 4) (ret := (some .int)) zn_RX8 rfl (Nat.le_of_ble_eq_true rfl) (fun p e s m below meth c A ls hx hb hml hr hts (hown : s.vm.findClass RX8 = some m.cls) hlocks hA hS hP hK hD hE (hl : lv_has ls 4 [(0, .ref a0), (1, .int a1), (2, .int a2)]) => ?_)
  refine lv_aload_n hx hb dX8_firstShut_0 rfl (lv_at hl 0 rfl) ?_
  refine va_callv (va_runV (As := []) (rest := []) ⟨hx, hb, hml, hown, hts⟩ (c_X8_good l dC dI s.heap.size a0 a0_0 a0g_1 a0g_2 a0g_3 a0g_4 a0g_5 a0g_6 a0g_7 a0g_8 a0g_9 a0g_10 a0g_12 a0g_13 (Value.int a0_14) a0g_15 a0g_16 a0g_17 a0g_18 a0g_19 a0g_20 a0g_21 a0g_22 a0g_23 a0g_24 a0g_25 a0g_26 a0g_27 a0g_28 a0g_29 a0g_30 a0g_31 a0g_32 a0g_33 a0g_34 a0g_35 a0g_36 a0g_37 a0g_38 a0g_39 a0_11 ) (cwV 0 hts gX8_firstShut_X8_good rfl rfl rfl zd_X8_good ⟨Nat.le_of_ble_eq_true rfl, Nat.le_of_ble_eq_true rfl⟩) ⟨ax_blind (fun _ _ _ _ _ => trivial), zr_8 (zp_K hK) (zp_P1 hP) (q0 := 0) rfl, ax_pre (zp_P1 hP) (zp_K hK) (zp_D1 hD) (fun _ _ => trivial)⟩ rfl rfl hl.1 rfl (lv_room (Nat.le_of_ble_eq_true rfl)) dX8_firstShut_1 ⟨Nat.le_of_ble_eq_true rfl, Nat.le_of_ble_eq_true rfl⟩) hS (fun q _ h => zp_F1 hD hS hA q h) (zp_F1 hD hS hA) (fun u t H locs ht hvm hw hB hz1 hk1 hS1 => zx_2 hB (fun v1na0_0 v1na0_11 hB => zo1 hB ht hP hD hk1 (zp_F1 hD hS hA) hS1 (fun hP hK1 hD hS => ?_)))
  refine lv_aload_n hx hb dX8_firstShut_4 rfl (lv_at hl 0 rfl) ?_
  refine lv_aload_n hx hb dX8_firstShut_5 rfl (lv_at hl 0 rfl) ?_
  refine va_get (D := (dC, dI)) (ci := 8) (v := .int a0_14) (C := RX8) (T := TX8) (N := 40) hx hb hts zi_X8_firstShut_8 hown hK hP 0 rfl rfl 14 (by decide) (hts (.fieldLink RX8 173 "WaxTurnsModel" "hasGallery" "Z") (zm_X8_firstShut_r1 (List.mem_of_getElem? (i := 0) rfl))) (fun _ h9 => h9) rfl dX8_firstShut_6 ?_
  refine lv_iconst (v := (-1)) hx hb dX8_firstShut_9 zk_iconst_n1 ?_
  refine lv_iload_n hx hb dX8_firstShut_10 rfl (lv_at hl 1 rfl) ?_
  refine lv_iload_n hx hb dX8_firstShut_11 rfl (lv_at hl 2 rfl) ?_
  refine va_calli (va_runV (As := [.int a0_14, .int (-1), .int a1, .int a2]) (rest := []) ⟨hx, hb, hml, hown, hts⟩ (c0_X8_drawWhy l dC dI H.size a0 a0_14 (-1) a1 a2 (Value.int v1na0_0) a0g_1 a0g_2 a0g_3 a0g_4 a0g_5 a0g_6 a0g_7 a0g_8 a0g_9 a0g_10 (Value.int v1na0_11) a0g_12 a0g_13 (Value.int a0_14) a0g_15 a0g_16 a0g_17 a0g_18 a0g_19 a0g_20 a0g_21 a0g_22 a0g_23 a0g_24 a0g_25 a0g_26 a0g_27 a0g_28 a0g_29 a0g_30 a0g_31 a0g_32 a0g_33 a0g_34 a0g_35 a0g_36 a0g_37 a0g_38 a0g_39 ba0_14_l ba0_14_u) (cwV 4 hts gX8_firstShut_X8_drawWhy rfl rfl rfl zd_X8_drawWhy ⟨Nat.le_of_ble_eq_true rfl, Nat.le_of_ble_eq_true rfl⟩) ⟨ax_blind (fun _ _ _ _ _ => trivial), zr_8 (zp_K hK) (zp_P1 hP) (q0 := 0) rfl, ax_pre (zp_P1 hP) (zp_K hK) (zp_D1 hD) (fun _ _ => trivial)⟩ rfl rfl hl.1 rfl (lv_room (Nat.le_of_ble_eq_true rfl)) dX8_firstShut_12 ⟨Nat.le_of_ble_eq_true rfl, Nat.le_of_ble_eq_true rfl⟩) hS (fun q _ h => zp_F1 hD hS hA q h) (zp_F1 hD hS hA) (fun r12 u t H locs ht hvm hw hB hz1 hk1 hS1 => zo1 hB ht hP hD hk1 (zp_F1 hD hS hA) hS1 (fun hP hK1 hD hS => ?_))
  have hw : r12 = 1 := hw
  have hw := hw.symm
  subst hw
  refine lv_istore_n (lv' := [(3, .int 1), (0, .ref a0), (1, .int a1), (2, .int a2)]) hx hb dX8_firstShut_15 rfl hl (by decide) rfl (fun ls hl => ?_)
  refine lv_iload_n hx hb dX8_firstShut_16 rfl (lv_at hl 0 rfl) ?_
  refine lv_if_eq (tgt := 28) hx hb dX8_firstShut_17 (by decide) (fun c17 => absurd c17 (by decide +kernel)) (fun _ => ?_)
  refine lv_aload_n hx hb dX8_firstShut_20 rfl (lv_at hl 1 rfl) ?_
  refine lv_iload_n hx hb dX8_firstShut_21 rfl (lv_at hl 0 rfl) ?_
  refine va_calli (va_runV (As := [.int 1]) (rest := []) ⟨hx, hb, hml, hown, hts⟩ (c_X8_no l dC dI H.size a0 1 (Value.int v1na0_0) a0g_1 a0g_2 a0g_3 a0g_4 a0g_5 a0g_6 a0g_7 a0g_8 a0g_9 a0g_10 a0g_12 a0g_13 (Value.int a0_14) a0g_15 a0g_16 a0g_17 a0g_18 a0g_19 a0g_20 a0g_21 a0g_22 a0g_23 a0g_24 a0g_25 a0g_26 a0g_27 a0g_28 a0g_29 a0g_30 a0g_31 a0g_32 a0g_33 a0g_34 a0g_35 a0g_36 a0g_37 a0g_38 a0g_39 v1na0_11 ) (cwV 1 hts gX8_firstShut_X8_no rfl rfl rfl zd_X8_no ⟨Nat.le_of_ble_eq_true rfl, Nat.le_of_ble_eq_true rfl⟩) ⟨ax_blind (fun _ _ _ _ _ => trivial), zr_8 (zp_K hK) (zp_P1 hP) (q0 := 0) rfl, ax_pre (zp_P1 hP) (zp_K hK) (zp_D1 hD) (fun _ _ => trivial)⟩ rfl rfl hl.1 rfl (lv_room (Nat.le_of_ble_eq_true rfl)) dX8_firstShut_22 ⟨Nat.le_of_ble_eq_true rfl, Nat.le_of_ble_eq_true rfl⟩) hS (fun q _ h => zp_F1 hD hS hA q h) (zp_F1 hD hS hA) (fun r22 u t H locs ht hvm hw hB hz1 hk1 hS1 => zx_1 hB (fun v22na0_11 hB => zo1 hB ht hP hD hk1 (zp_F1 hD hS hA) hS1 (fun hP hK1 hD hS => ?_)))
  have hw : r22 = (-1) := hw
  have hw := hw.symm
  subst hw
  refine lv_goto (tgt := 32) hx hb dX8_firstShut_25 (by decide) ?_
  exact W.iret (v := (-1)) hx hb hr (fun t ht hW => ⟨⟨(-1), (), rfl, rfl, v1na0_0, v22na0_11, by rw [ht]; exact hP, va_K.moved hW.alike hK, hD⟩, hS.F ht⟩) hS.2.2 dX8_firstShut_32

set_option maxHeartbeats 4000000 in
set_option maxRecDepth 100000 in
theorem c0_X8_go (l : Launch) (dC : Nat → ClassId) (dI : Nat → Nat → Nat) (sz : Nat) (a0 : Nat) (a1 : Int32) (a0_0 : Int32) (a0g_1 a0g_2 a0g_3 a0g_4 a0g_5 a0g_6 a0g_7 a0g_8 a0g_9 a0g_10 a0g_12 a0g_13 a0g_15 a0g_16 a0g_17 a0g_18 a0g_19 a0g_20 a0g_21 a0g_22 a0g_23 a0g_24 a0g_25 a0g_26 a0g_27 a0g_28 a0g_29 a0g_30 a0g_31 a0g_32 a0g_33 a0g_34 a0g_35 a0g_36 a0g_37 a0g_38 a0g_39 : Value) (a0_11 : Int32) (a0_14 : Int32) (ba0_14_l : (0 : Int) ≤ a0_14.toInt) (ba0_14_u : a0_14.toInt ≤ (0 : Int)) : zm l yX8_go wsX8_go ({ frames := 1, cells := 0, slots := 0, locals := 22 }) [.ref a0, .int a1] dC dI sz [(a0, .inr (8, [Value.int a0_0, a0g_1, a0g_2, a0g_3, a0g_4, a0g_5, a0g_6, a0g_7, a0g_8, a0g_9, a0g_10, Value.int a0_11, a0g_12, a0g_13, Value.int a0_14, a0g_15, a0g_16, a0g_17, a0g_18, a0g_19, a0g_20, a0g_21, a0g_22, a0g_23, a0g_24, a0g_25, a0g_26, a0g_27, a0g_28, a0g_29, a0g_30, a0g_31, a0g_32, a0g_33, a0g_34, a0g_35, a0g_36, a0g_37, a0g_38, a0g_39]))] [] (fun A _ => True) (fun A => va_Qi (fun (r : Int32) (_ : Unit) => r = (-1)) (fun (_ : Unit) (t : State) => ∃ na0_0 : Int32, ∃ na0_11 : Int32, ax_B dC dI A [(a0, .inr (8, [Value.int na0_0, a0g_1, a0g_2, a0g_3, a0g_4, a0g_5, a0g_6, a0g_7, a0g_8, a0g_9, a0g_10, Value.int na0_11, a0g_12, a0g_13, Value.int a0_14, a0g_15, a0g_16, a0g_17, a0g_18, a0g_19, a0g_20, a0g_21, a0g_22, a0g_23, a0g_24, a0g_25, a0g_26, a0g_27, a0g_28, a0g_29, a0g_30, a0g_31, a0g_32, a0g_33, a0g_34, a0g_35, a0g_36, a0g_37, a0g_38, a0g_39]))] [] t) A) := by
  refine zh (cc := cX8_go) (maxL := 5) (ret := (some .int)) zn_RX8 rfl (Nat.le_of_ble_eq_true rfl) (fun p e s m below meth c A ls hx hb hml hr hts (hown : s.vm.findClass RX8 = some m.cls) hlocks hA hS hP hK hD hE (hl : lv_has ls 5 [(0, .ref a0), (1, .int a1)]) => ?_)
  refine ai_open (fun K hK0 => ?_)
  refine (hK0 _ _ _).mpr ?_
  refine lv_aload_n hx hb dX8_go_0 rfl (lv_at hl 0 rfl) ?_
  refine va_callv (va_runV (As := []) (rest := []) ⟨hx, hb, hml, hown, hts⟩ (c_X8_good l dC dI s.heap.size a0 a0_0 a0g_1 a0g_2 a0g_3 a0g_4 a0g_5 a0g_6 a0g_7 a0g_8 a0g_9 a0g_10 a0g_12 a0g_13 (Value.int a0_14) a0g_15 a0g_16 a0g_17 a0g_18 a0g_19 a0g_20 a0g_21 a0g_22 a0g_23 a0g_24 a0g_25 a0g_26 a0g_27 a0g_28 a0g_29 a0g_30 a0g_31 a0g_32 a0g_33 a0g_34 a0g_35 a0g_36 a0g_37 a0g_38 a0g_39 a0_11 ) (cwV 0 hts gX8_go_X8_good rfl rfl rfl zd_X8_good ⟨Nat.le_of_ble_eq_true rfl, Nat.le_of_ble_eq_true rfl⟩) ⟨ax_blind (fun _ _ _ _ _ => trivial), zr_8 (zp_K hK) (zp_P1 hP) (q0 := 0) rfl, ax_pre (zp_P1 hP) (zp_K hK) (zp_D1 hD) (fun _ _ => trivial)⟩ rfl rfl hl.1 rfl (lv_room (Nat.le_of_ble_eq_true rfl)) dX8_go_1 ⟨Nat.le_of_ble_eq_true rfl, Nat.le_of_ble_eq_true rfl⟩) hS (fun q _ h => zp_F1 hD hS hA q h) (zp_F1 hD hS hA) (fun u t H locs ht hvm hw hB hz1 hk1 hS1 => zx_2 hB (fun v1na0_0 v1na0_11 hB => zo1 hB ht hP hD hk1 (zp_F1 hD hS hA) hS1 (fun hP hK1 hD hS => ?_)))
  refine lv_aload_n hx hb dX8_go_4 rfl (lv_at hl 0 rfl) ?_
  refine lv_aload_n hx hb dX8_go_5 rfl (lv_at hl 0 rfl) ?_
  refine va_get (D := (dC, dI)) (ci := 8) (v := .int a0_14) (C := RX8) (T := TX8) (N := 40) hx hb hts zi_X8_go_8 hown hK hP 0 rfl rfl 14 (by decide) (hts (.fieldLink RX8 173 "WaxTurnsModel" "hasGallery" "Z") (zm_X8_go_r1 (List.mem_of_getElem? (i := 0) rfl))) (fun _ h9 => h9) rfl dX8_go_6 ?_
  refine lv_iload_n hx hb dX8_go_9 rfl (lv_at hl 1 rfl) ?_
  refine lv_iconst (v := 1) hx hb dX8_go_10 zk_iconst_1 ?_
  refine lv_bipush (v := 60) hx hb dX8_go_11 zk_bipush_60 ?_
  refine va_calli (va_runS (As := [.int a1, .int 1, .int 60]) (rest := [.int a0_14, .ref a0]) ⟨hx, hb, hml, hown, hts⟩ (c_X8_in l dC dI H.size a1 1 60 ) (va_cwS 3 hts gX8_go_X8_in rfl rfl rfl zd_X8_in.2 ⟨Nat.le_of_ble_eq_true rfl, Nat.le_of_ble_eq_true rfl⟩) ⟨ax_blind (fun _ _ _ _ _ => trivial), ax_pre (zp_P0 hP) (zp_K hK) (zp_D0 hD) (fun _ _ => trivial)⟩ rfl rfl hl.1 rfl (lv_room (Nat.le_of_ble_eq_true rfl)) dX8_go_13 ⟨Nat.le_of_ble_eq_true rfl, Nat.le_of_ble_eq_true rfl⟩) hS (fun q _ h => zp_F0 hD hS hA q h) (zp_F0 hD hS hA) (fun r13 u t H locs ht hvm hw hB hz1 hk1 hS1 => zo0 hB ht hP hD hk1 (zp_F0 hD hS hA) hS1 (fun hP hK1 hD hS => ?_))
  rcases hw with hw | hw
  · obtain ⟨hw, h13⟩ := hw
    subst hw
    have l13k0_a1 : (1 : Int) ≤ a1.toInt := Int.le_trans zq1 h13.1
    have u13k0_a1 : a1.toInt ≤ (60 : Int) := Int.le_trans h13.2 zq46
    refine va_calli (va_runV (As := [.int a0_14, .int 1]) (rest := []) ⟨hx, hb, hml, hown, hts⟩ (c_X8_whyB l dC dI H.size a0 a0_14 1 (Value.int v1na0_0) a0g_1 a0g_2 a0g_3 a0g_4 a0g_5 a0g_6 a0g_7 a0g_8 a0g_9 a0g_10 (Value.int v1na0_11) a0g_12 a0g_13 (Value.int a0_14) a0g_15 a0g_16 a0g_17 a0g_18 a0g_19 a0g_20 a0g_21 a0g_22 a0g_23 a0g_24 a0g_25 a0g_26 a0g_27 a0g_28 a0g_29 a0g_30 a0g_31 a0g_32 a0g_33 a0g_34 a0g_35 a0g_36 a0g_37 a0g_38 a0g_39 ba0_14_l (Int.le_trans ba0_14_u zq4) (Int.le_trans zq4 zq1) zq0) (cwV 2 hts gX8_go_X8_why rfl rfl rfl zd_X8_why ⟨Nat.le_of_ble_eq_true rfl, Nat.le_of_ble_eq_true rfl⟩) ⟨ax_blind (fun _ _ _ _ _ => trivial), zr_8 (zp_K hK) (zp_P1 hP) (q0 := 0) rfl, ax_pre (zp_P1 hP) (zp_K hK) (zp_D1 hD) (fun _ _ => trivial)⟩ rfl rfl hl.1 rfl (lv_room (Nat.le_of_ble_eq_true rfl)) dX8_go_16 ⟨Nat.le_of_ble_eq_true rfl, Nat.le_of_ble_eq_true rfl⟩) hS (fun q _ h => zp_F1 hD hS hA q h) (zp_F1 hD hS hA) (fun r16 u t H locs ht hvm hw hB hz1 hk1 hS1 => zo1 hB ht hP hD hk1 (zp_F1 hD hS hA) hS1 (fun hP hK1 hD hS => ?_))
    rcases hw with hw | hw | hw
    · obtain ⟨hw, h16_0, h16_1, h16_2, h16_3⟩ := hw
      subst hw
      have l16k0_a0_14 : (1 : Int) ≤ a0_14.toInt := h16_0
      have u16k0_a0_14 : a0_14.toInt ≤ (0 : Int) := ba0_14_u
      exact absurd (Int.le_trans l16k0_a0_14 u16k0_a0_14) (by decide)
    · obtain ⟨hw, h16_0, h16_1⟩ := hw
      subst hw
      have l16k1_a0_14 : (0 : Int) ≤ a0_14.toInt := ba0_14_l
      have u16k1_a0_14 : a0_14.toInt ≤ (0 : Int) := ba0_14_u
      refine lv_istore_n (lv' := [(2, .int 1), (0, .ref a0), (1, .int a1)]) hx hb dX8_go_19 rfl hl (by decide) rfl (fun ls hl => ?_)
      refine lv_iload_n hx hb dX8_go_20 rfl (lv_at hl 0 rfl) ?_
      refine lv_if_ne (tgt := 41) hx hb dX8_go_21 (by decide) (fun _ => ?_) (fun c21 => absurd c21 (by decide +kernel))
      have J41 : ∀ (H : Heap) (locs : List Loc) (ls : Array Slot), va_P (dC, dI) vwCl [(a0, .inr (8, [Value.int v1na0_0, a0g_1, a0g_2, a0g_3, a0g_4, a0g_5, a0g_6, a0g_7, a0g_8, a0g_9, a0g_10, Value.int v1na0_11, a0g_12, a0g_13, Value.int a0_14, a0g_15, a0g_16, a0g_17, a0g_18, a0g_19, a0g_20, a0g_21, a0g_22, a0g_23, a0g_24, a0g_25, a0g_26, a0g_27, a0g_28, a0g_29, a0g_30, a0g_31, a0g_32, a0g_33, a0g_34, a0g_35, a0g_36, a0g_37, a0g_38, a0g_39]))] H → va_D A [(a0, .inr (8, [Value.int v1na0_0, a0g_1, a0g_2, a0g_3, a0g_4, a0g_5, a0g_6, a0g_7, a0g_8, a0g_9, a0g_10, Value.int v1na0_11, a0g_12, a0g_13, Value.int a0_14, a0g_15, a0g_16, a0g_17, a0g_18, a0g_19, a0g_20, a0g_21, a0g_22, a0g_23, a0g_24, a0g_25, a0g_26, a0g_27, a0g_28, a0g_29, a0g_30, a0g_31, a0g_32, a0g_33, a0g_34, a0g_35, a0g_36, a0g_37, a0g_38, a0g_39]))] → va_S A s.heap H locs → lv_has ls 5 [(0, .ref a0), (1, .int a1), (2, .int 1)] → K H locs (F0 m 41 ls []) := by
        intro  H locs ls   hP hD hS hl
        refine (hK0 _ _ _).mpr ?_
        refine lv_iload_n hx hb dX8_go_41 rfl (lv_at hl 2 rfl) ?_
        refine lv_if_eq (tgt := 51) hx hb dX8_go_42 (by decide) (fun c42 => absurd c42 (by decide +kernel)) (fun _ => ?_)
        refine lv_aload_n hx hb dX8_go_45 rfl (lv_at hl 0 rfl) ?_
        refine lv_iload_n hx hb dX8_go_46 rfl (lv_at hl 2 rfl) ?_
        refine va_calli (va_runV (As := [.int 1]) (rest := []) ⟨hx, hb, hml, hown, hts⟩ (c_X8_no l dC dI H.size a0 1 (Value.int v1na0_0) a0g_1 a0g_2 a0g_3 a0g_4 a0g_5 a0g_6 a0g_7 a0g_8 a0g_9 a0g_10 a0g_12 a0g_13 (Value.int a0_14) a0g_15 a0g_16 a0g_17 a0g_18 a0g_19 a0g_20 a0g_21 a0g_22 a0g_23 a0g_24 a0g_25 a0g_26 a0g_27 a0g_28 a0g_29 a0g_30 a0g_31 a0g_32 a0g_33 a0g_34 a0g_35 a0g_36 a0g_37 a0g_38 a0g_39 v1na0_11 ) (cwV 1 hts gX8_go_X8_no rfl rfl rfl zd_X8_no ⟨Nat.le_of_ble_eq_true rfl, Nat.le_of_ble_eq_true rfl⟩) ⟨ax_blind (fun _ _ _ _ _ => trivial), zr_8 (zp_K hK) (zp_P1 hP) (q0 := 0) rfl, ax_pre (zp_P1 hP) (zp_K hK) (zp_D1 hD) (fun _ _ => trivial)⟩ rfl rfl hl.1 rfl (lv_room (Nat.le_of_ble_eq_true rfl)) dX8_go_47 ⟨Nat.le_of_ble_eq_true rfl, Nat.le_of_ble_eq_true rfl⟩) hS (fun q _ h => zp_F1 hD hS hA q h) (zp_F1 hD hS hA) (fun r47 u t H locs ht hvm hw hB hz1 hk1 hS1 => zx_1 hB (fun v47na0_11 hB => zo1 hB ht hP hD hk1 (zp_F1 hD hS hA) hS1 (fun hP hK1 hD hS => ?_)))
        have hw : r47 = (-1) := hw
        have hw := hw.symm
        subst hw
        exact W.iret (v := (-1)) hx hb hr (fun t ht hW => ⟨⟨(-1), (), rfl, rfl, v1na0_0, v47na0_11, by rw [ht]; exact hP, va_K.moved hW.alike hK, hD⟩, hS.F ht⟩) hS.2.2 dX8_go_50
      exact (hK0 _ _ _).mp (J41  _ _ _   hP hD hS (lv_sub hl [1, 2, 0] rfl))
    · obtain ⟨hw, h16_0, h16_1, h16_2, h16_3⟩ := hw
      subst hw
      have l16k2_a0_14 : (1 : Int) ≤ a0_14.toInt := h16_0
      have u16k2_a0_14 : a0_14.toInt ≤ (0 : Int) := ba0_14_u
      exact absurd (Int.le_trans l16k2_a0_14 u16k2_a0_14) (by decide)
  · obtain ⟨hw, h13⟩ := hw
    subst hw
    refine va_calli (va_runV (As := [.int a0_14, .int 0]) (rest := []) ⟨hx, hb, hml, hown, hts⟩ (c_X8_whyB l dC dI H.size a0 a0_14 0 (Value.int v1na0_0) a0g_1 a0g_2 a0g_3 a0g_4 a0g_5 a0g_6 a0g_7 a0g_8 a0g_9 a0g_10 (Value.int v1na0_11) a0g_12 a0g_13 (Value.int a0_14) a0g_15 a0g_16 a0g_17 a0g_18 a0g_19 a0g_20 a0g_21 a0g_22 a0g_23 a0g_24 a0g_25 a0g_26 a0g_27 a0g_28 a0g_29 a0g_30 a0g_31 a0g_32 a0g_33 a0g_34 a0g_35 a0g_36 a0g_37 a0g_38 a0g_39 ba0_14_l (Int.le_trans ba0_14_u zq4) zq5 (Int.le_trans zq6 zq4)) (cwV 2 hts gX8_go_X8_why rfl rfl rfl zd_X8_why ⟨Nat.le_of_ble_eq_true rfl, Nat.le_of_ble_eq_true rfl⟩) ⟨ax_blind (fun _ _ _ _ _ => trivial), zr_8 (zp_K hK) (zp_P1 hP) (q0 := 0) rfl, ax_pre (zp_P1 hP) (zp_K hK) (zp_D1 hD) (fun _ _ => trivial)⟩ rfl rfl hl.1 rfl (lv_room (Nat.le_of_ble_eq_true rfl)) dX8_go_16 ⟨Nat.le_of_ble_eq_true rfl, Nat.le_of_ble_eq_true rfl⟩) hS (fun q _ h => zp_F1 hD hS hA q h) (zp_F1 hD hS hA) (fun r16 u t H locs ht hvm hw hB hz1 hk1 hS1 => zo1 hB ht hP hD hk1 (zp_F1 hD hS hA) hS1 (fun hP hK1 hD hS => ?_))
    rcases hw with hw | hw | hw
    · obtain ⟨hw, h16_0, h16_1, h16_2, h16_3⟩ := hw
      subst hw
      have l16k0_a0_14 : (1 : Int) ≤ a0_14.toInt := h16_0
      have u16k0_a0_14 : a0_14.toInt ≤ (0 : Int) := ba0_14_u
      exact absurd (Int.le_trans l16k0_a0_14 u16k0_a0_14) (by decide)
    · obtain ⟨hw, h16_0, h16_1⟩ := hw
      subst hw
      have l16k1_a0_14 : (0 : Int) ≤ a0_14.toInt := ba0_14_l
      have u16k1_a0_14 : a0_14.toInt ≤ (0 : Int) := ba0_14_u
      refine lv_istore_n (lv' := [(2, .int 1), (0, .ref a0), (1, .int a1)]) hx hb dX8_go_19 rfl hl (by decide) rfl (fun ls hl => ?_)
      refine lv_iload_n hx hb dX8_go_20 rfl (lv_at hl 0 rfl) ?_
      refine lv_if_ne (tgt := 41) hx hb dX8_go_21 (by decide) (fun _ => ?_) (fun c21 => absurd c21 (by decide +kernel))
      have J41 : ∀ (H : Heap) (locs : List Loc) (ls : Array Slot), va_P (dC, dI) vwCl [(a0, .inr (8, [Value.int v1na0_0, a0g_1, a0g_2, a0g_3, a0g_4, a0g_5, a0g_6, a0g_7, a0g_8, a0g_9, a0g_10, Value.int v1na0_11, a0g_12, a0g_13, Value.int a0_14, a0g_15, a0g_16, a0g_17, a0g_18, a0g_19, a0g_20, a0g_21, a0g_22, a0g_23, a0g_24, a0g_25, a0g_26, a0g_27, a0g_28, a0g_29, a0g_30, a0g_31, a0g_32, a0g_33, a0g_34, a0g_35, a0g_36, a0g_37, a0g_38, a0g_39]))] H → va_D A [(a0, .inr (8, [Value.int v1na0_0, a0g_1, a0g_2, a0g_3, a0g_4, a0g_5, a0g_6, a0g_7, a0g_8, a0g_9, a0g_10, Value.int v1na0_11, a0g_12, a0g_13, Value.int a0_14, a0g_15, a0g_16, a0g_17, a0g_18, a0g_19, a0g_20, a0g_21, a0g_22, a0g_23, a0g_24, a0g_25, a0g_26, a0g_27, a0g_28, a0g_29, a0g_30, a0g_31, a0g_32, a0g_33, a0g_34, a0g_35, a0g_36, a0g_37, a0g_38, a0g_39]))] → va_S A s.heap H locs → lv_has ls 5 [(0, .ref a0), (1, .int a1), (2, .int 1)] → K H locs (F0 m 41 ls []) := by
        intro  H locs ls   hP hD hS hl
        refine (hK0 _ _ _).mpr ?_
        refine lv_iload_n hx hb dX8_go_41 rfl (lv_at hl 2 rfl) ?_
        refine lv_if_eq (tgt := 51) hx hb dX8_go_42 (by decide) (fun c42 => absurd c42 (by decide +kernel)) (fun _ => ?_)
        refine lv_aload_n hx hb dX8_go_45 rfl (lv_at hl 0 rfl) ?_
        refine lv_iload_n hx hb dX8_go_46 rfl (lv_at hl 2 rfl) ?_
        refine va_calli (va_runV (As := [.int 1]) (rest := []) ⟨hx, hb, hml, hown, hts⟩ (c_X8_no l dC dI H.size a0 1 (Value.int v1na0_0) a0g_1 a0g_2 a0g_3 a0g_4 a0g_5 a0g_6 a0g_7 a0g_8 a0g_9 a0g_10 a0g_12 a0g_13 (Value.int a0_14) a0g_15 a0g_16 a0g_17 a0g_18 a0g_19 a0g_20 a0g_21 a0g_22 a0g_23 a0g_24 a0g_25 a0g_26 a0g_27 a0g_28 a0g_29 a0g_30 a0g_31 a0g_32 a0g_33 a0g_34 a0g_35 a0g_36 a0g_37 a0g_38 a0g_39 v1na0_11 ) (cwV 1 hts gX8_go_X8_no rfl rfl rfl zd_X8_no ⟨Nat.le_of_ble_eq_true rfl, Nat.le_of_ble_eq_true rfl⟩) ⟨ax_blind (fun _ _ _ _ _ => trivial), zr_8 (zp_K hK) (zp_P1 hP) (q0 := 0) rfl, ax_pre (zp_P1 hP) (zp_K hK) (zp_D1 hD) (fun _ _ => trivial)⟩ rfl rfl hl.1 rfl (lv_room (Nat.le_of_ble_eq_true rfl)) dX8_go_47 ⟨Nat.le_of_ble_eq_true rfl, Nat.le_of_ble_eq_true rfl⟩) hS (fun q _ h => zp_F1 hD hS hA q h) (zp_F1 hD hS hA) (fun r47 u t H locs ht hvm hw hB hz1 hk1 hS1 => zx_1 hB (fun v47na0_11 hB => zo1 hB ht hP hD hk1 (zp_F1 hD hS hA) hS1 (fun hP hK1 hD hS => ?_)))
        have hw : r47 = (-1) := hw
        have hw := hw.symm
        subst hw
        exact W.iret (v := (-1)) hx hb hr (fun t ht hW => ⟨⟨(-1), (), rfl, rfl, v1na0_0, v47na0_11, by rw [ht]; exact hP, va_K.moved hW.alike hK, hD⟩, hS.F ht⟩) hS.2.2 dX8_go_50
      exact (hK0 _ _ _).mp (J41  _ _ _   hP hD hS (lv_sub hl [1, 2, 0] rfl))
    · obtain ⟨hw, h16_0, h16_1, h16_2, h16_3⟩ := hw
      subst hw
      have l16k2_a0_14 : (1 : Int) ≤ a0_14.toInt := h16_0
      have u16k2_a0_14 : a0_14.toInt ≤ (0 : Int) := ba0_14_u
      exact absurd (Int.le_trans l16k2_a0_14 u16k2_a0_14) (by decide)

set_option maxHeartbeats 4000000 in
set_option maxRecDepth 100000 in
theorem c0_X8_put (l : Launch) (dC : Nat → ClassId) (dI : Nat → Nat → Nat) (sz : Nat) (a0 : Nat) (a1 : Int32) (a0_0 : Int32) (a0g_1 a0g_2 a0g_3 a0g_4 a0g_5 a0g_6 a0g_7 a0g_8 a0g_9 a0g_10 a0g_12 a0g_13 a0g_15 a0g_16 a0g_17 a0g_18 a0g_19 a0g_20 a0g_21 a0g_22 a0g_23 a0g_24 a0g_25 a0g_26 a0g_27 a0g_28 a0g_29 a0g_30 a0g_31 a0g_32 a0g_33 a0g_34 a0g_35 a0g_36 a0g_37 a0g_38 a0g_39 : Value) (a0_11 : Int32) (a0_14 : Int32) (ba0_14_l : (0 : Int) ≤ a0_14.toInt) (ba0_14_u : a0_14.toInt ≤ (0 : Int)) : zm l yX8_put wsX8_put ({ frames := 1, cells := 0, slots := 0, locals := 21 }) [.ref a0, .int a1] dC dI sz [(a0, .inr (8, [Value.int a0_0, a0g_1, a0g_2, a0g_3, a0g_4, a0g_5, a0g_6, a0g_7, a0g_8, a0g_9, a0g_10, Value.int a0_11, a0g_12, a0g_13, Value.int a0_14, a0g_15, a0g_16, a0g_17, a0g_18, a0g_19, a0g_20, a0g_21, a0g_22, a0g_23, a0g_24, a0g_25, a0g_26, a0g_27, a0g_28, a0g_29, a0g_30, a0g_31, a0g_32, a0g_33, a0g_34, a0g_35, a0g_36, a0g_37, a0g_38, a0g_39]))] [] (fun A _ => True) (fun A => va_Qi (fun (r : Int32) (_ : Unit) => r = (-1)) (fun (_ : Unit) (t : State) => ∃ na0_0 : Int32, ∃ na0_11 : Int32, ax_B dC dI A [(a0, .inr (8, [Value.int na0_0, a0g_1, a0g_2, a0g_3, a0g_4, a0g_5, a0g_6, a0g_7, a0g_8, a0g_9, a0g_10, Value.int na0_11, a0g_12, a0g_13, Value.int a0_14, a0g_15, a0g_16, a0g_17, a0g_18, a0g_19, a0g_20, a0g_21, a0g_22, a0g_23, a0g_24, a0g_25, a0g_26, a0g_27, a0g_28, a0g_29, a0g_30, a0g_31, a0g_32, a0g_33, a0g_34, a0g_35, a0g_36, a0g_37, a0g_38, a0g_39]))] [] t) A) := by
  refine zh (cc := cX8_put) (maxL := 3) (ret := (some .int)) zn_RX8 rfl (Nat.le_of_ble_eq_true rfl) (fun p e s m below meth c A ls hx hb hml hr hts (hown : s.vm.findClass RX8 = some m.cls) hlocks hA hS hP hK hD hE (hl : lv_has ls 3 [(0, .ref a0), (1, .int a1)]) => ?_)
  refine lv_aload_n hx hb dX8_put_0 rfl (lv_at hl 0 rfl) ?_
  refine va_callv (va_runV (As := []) (rest := []) ⟨hx, hb, hml, hown, hts⟩ (c_X8_good l dC dI s.heap.size a0 a0_0 a0g_1 a0g_2 a0g_3 a0g_4 a0g_5 a0g_6 a0g_7 a0g_8 a0g_9 a0g_10 a0g_12 a0g_13 (Value.int a0_14) a0g_15 a0g_16 a0g_17 a0g_18 a0g_19 a0g_20 a0g_21 a0g_22 a0g_23 a0g_24 a0g_25 a0g_26 a0g_27 a0g_28 a0g_29 a0g_30 a0g_31 a0g_32 a0g_33 a0g_34 a0g_35 a0g_36 a0g_37 a0g_38 a0g_39 a0_11 ) (cwV 0 hts gX8_put_X8_good rfl rfl rfl zd_X8_good ⟨Nat.le_of_ble_eq_true rfl, Nat.le_of_ble_eq_true rfl⟩) ⟨ax_blind (fun _ _ _ _ _ => trivial), zr_8 (zp_K hK) (zp_P1 hP) (q0 := 0) rfl, ax_pre (zp_P1 hP) (zp_K hK) (zp_D1 hD) (fun _ _ => trivial)⟩ rfl rfl hl.1 rfl (lv_room (Nat.le_of_ble_eq_true rfl)) dX8_put_1 ⟨Nat.le_of_ble_eq_true rfl, Nat.le_of_ble_eq_true rfl⟩) hS (fun q _ h => zp_F1 hD hS hA q h) (zp_F1 hD hS hA) (fun u t H locs ht hvm hw hB hz1 hk1 hS1 => zx_2 hB (fun v1na0_0 v1na0_11 hB => zo1 hB ht hP hD hk1 (zp_F1 hD hS hA) hS1 (fun hP hK1 hD hS => ?_)))
  refine lv_aload_n hx hb dX8_put_4 rfl (lv_at hl 0 rfl) ?_
  refine lv_iload_n hx hb dX8_put_5 rfl (lv_at hl 1 rfl) ?_
  refine va_calli (va_runV (As := [.int a1]) (rest := []) ⟨hx, hb, hml, hown, hts⟩ (c0_X8_isFigure l dC dI H.size a0 a1 (Value.int v1na0_0) a0g_1 a0g_2 a0g_3 a0g_4 a0g_5 a0g_6 a0g_7 a0g_8 a0g_9 a0g_10 (Value.int v1na0_11) a0g_12 a0g_13 a0g_15 a0g_16 a0g_17 a0g_18 a0g_19 a0g_20 a0g_21 a0g_22 a0g_23 a0g_24 a0g_25 a0g_26 a0g_27 a0g_28 a0g_29 a0g_30 a0g_31 a0g_32 a0g_33 a0g_34 a0g_35 a0g_36 a0g_37 a0g_38 a0g_39 a0_14 ba0_14_l ba0_14_u) (cwV 1 hts gX8_put_X8_isFigure rfl rfl rfl zd_X8_isFigure ⟨Nat.le_of_ble_eq_true rfl, Nat.le_of_ble_eq_true rfl⟩) ⟨ax_blind (fun _ _ _ _ _ => trivial), zr_8 (zp_K hK) (zp_P1 hP) (q0 := 0) rfl, ax_pre (zp_P1 hP) (zp_K hK) (zp_D1 hD) (fun _ _ => trivial)⟩ rfl rfl hl.1 rfl (lv_room (Nat.le_of_ble_eq_true rfl)) dX8_put_6 ⟨Nat.le_of_ble_eq_true rfl, Nat.le_of_ble_eq_true rfl⟩) hS (fun q _ h => zp_F1 hD hS hA q h) (zp_F1 hD hS hA) (fun r6 u t H locs ht hvm hw hB hz1 hk1 hS1 => zo1 hB ht hP hD hk1 (zp_F1 hD hS hA) hS1 (fun hP hK1 hD hS => ?_))
  have hw : r6 = 0 := hw
  have hw := hw.symm
  subst hw
  refine lv_if_ne (tgt := 18) hx hb dX8_put_9 (by decide) (fun c9 => absurd (by decide +kernel) c9) (fun _ => ?_)
  refine lv_aload_n hx hb dX8_put_12 rfl (lv_at hl 0 rfl) ?_
  refine lv_iconst (v := 1) hx hb dX8_put_13 zk_iconst_1 ?_
  refine va_calli (va_runV (As := [.int 1]) (rest := []) ⟨hx, hb, hml, hown, hts⟩ (c_X8_no l dC dI H.size a0 1 (Value.int v1na0_0) a0g_1 a0g_2 a0g_3 a0g_4 a0g_5 a0g_6 a0g_7 a0g_8 a0g_9 a0g_10 a0g_12 a0g_13 (Value.int a0_14) a0g_15 a0g_16 a0g_17 a0g_18 a0g_19 a0g_20 a0g_21 a0g_22 a0g_23 a0g_24 a0g_25 a0g_26 a0g_27 a0g_28 a0g_29 a0g_30 a0g_31 a0g_32 a0g_33 a0g_34 a0g_35 a0g_36 a0g_37 a0g_38 a0g_39 v1na0_11 ) (cwV 1 hts gX8_put_X8_no rfl rfl rfl zd_X8_no ⟨Nat.le_of_ble_eq_true rfl, Nat.le_of_ble_eq_true rfl⟩) ⟨ax_blind (fun _ _ _ _ _ => trivial), zr_8 (zp_K hK) (zp_P1 hP) (q0 := 0) rfl, ax_pre (zp_P1 hP) (zp_K hK) (zp_D1 hD) (fun _ _ => trivial)⟩ rfl rfl hl.1 rfl (lv_room (Nat.le_of_ble_eq_true rfl)) dX8_put_14 ⟨Nat.le_of_ble_eq_true rfl, Nat.le_of_ble_eq_true rfl⟩) hS (fun q _ h => zp_F1 hD hS hA q h) (zp_F1 hD hS hA) (fun r14 u t H locs ht hvm hw hB hz1 hk1 hS1 => zx_1 hB (fun v14na0_11 hB => zo1 hB ht hP hD hk1 (zp_F1 hD hS hA) hS1 (fun hP hK1 hD hS => ?_)))
  have hw : r14 = (-1) := hw
  have hw := hw.symm
  subst hw
  exact W.iret (v := (-1)) hx hb hr (fun t ht hW => ⟨⟨(-1), (), rfl, rfl, v1na0_0, v14na0_11, by rw [ht]; exact hP, va_K.moved hW.alike hK, hD⟩, hS.F ht⟩) hS.2.2 dX8_put_17

set_option maxHeartbeats 4000000 in
set_option maxRecDepth 100000 in
theorem c0_X8_wind (l : Launch) (dC : Nat → ClassId) (dI : Nat → Nat → Nat) (sz : Nat) (a0 : Nat) (a1 : Int32) (a0_0 : Int32) (a0g_1 a0g_2 a0g_3 a0g_4 a0g_5 a0g_6 a0g_7 a0g_8 a0g_9 a0g_10 a0g_12 a0g_13 a0g_15 a0g_16 a0g_17 a0g_18 a0g_19 a0g_20 a0g_21 a0g_22 a0g_23 a0g_24 a0g_25 a0g_26 a0g_27 a0g_28 a0g_29 a0g_30 a0g_31 a0g_32 a0g_33 a0g_34 a0g_35 a0g_36 a0g_37 a0g_38 a0g_39 : Value) (a0_11 : Int32) (a0_14 : Int32) (ba0_14_l : (0 : Int) ≤ a0_14.toInt) (ba0_14_u : a0_14.toInt ≤ (0 : Int)) : zm l yX8_wind wsX8_wind ({ frames := 1, cells := 0, slots := 0, locals := 21 }) [.ref a0, .int a1] dC dI sz [(a0, .inr (8, [Value.int a0_0, a0g_1, a0g_2, a0g_3, a0g_4, a0g_5, a0g_6, a0g_7, a0g_8, a0g_9, a0g_10, Value.int a0_11, a0g_12, a0g_13, Value.int a0_14, a0g_15, a0g_16, a0g_17, a0g_18, a0g_19, a0g_20, a0g_21, a0g_22, a0g_23, a0g_24, a0g_25, a0g_26, a0g_27, a0g_28, a0g_29, a0g_30, a0g_31, a0g_32, a0g_33, a0g_34, a0g_35, a0g_36, a0g_37, a0g_38, a0g_39]))] [] (fun A _ => True) (fun A => va_Qi (fun (r : Int32) (_ : Unit) => r = (-1)) (fun (_ : Unit) (t : State) => ∃ na0_0 : Int32, ∃ na0_11 : Int32, ax_B dC dI A [(a0, .inr (8, [Value.int na0_0, a0g_1, a0g_2, a0g_3, a0g_4, a0g_5, a0g_6, a0g_7, a0g_8, a0g_9, a0g_10, Value.int na0_11, a0g_12, a0g_13, Value.int a0_14, a0g_15, a0g_16, a0g_17, a0g_18, a0g_19, a0g_20, a0g_21, a0g_22, a0g_23, a0g_24, a0g_25, a0g_26, a0g_27, a0g_28, a0g_29, a0g_30, a0g_31, a0g_32, a0g_33, a0g_34, a0g_35, a0g_36, a0g_37, a0g_38, a0g_39]))] [] t) A) := by
  refine zh (cc := cX8_wind) (maxL := 3) (ret := (some .int)) zn_RX8 rfl (Nat.le_of_ble_eq_true rfl) (fun p e s m below meth c A ls hx hb hml hr hts (hown : s.vm.findClass RX8 = some m.cls) hlocks hA hS hP hK hD hE (hl : lv_has ls 3 [(0, .ref a0), (1, .int a1)]) => ?_)
  refine lv_aload_n hx hb dX8_wind_0 rfl (lv_at hl 0 rfl) ?_
  refine va_callv (va_runV (As := []) (rest := []) ⟨hx, hb, hml, hown, hts⟩ (c_X8_good l dC dI s.heap.size a0 a0_0 a0g_1 a0g_2 a0g_3 a0g_4 a0g_5 a0g_6 a0g_7 a0g_8 a0g_9 a0g_10 a0g_12 a0g_13 (Value.int a0_14) a0g_15 a0g_16 a0g_17 a0g_18 a0g_19 a0g_20 a0g_21 a0g_22 a0g_23 a0g_24 a0g_25 a0g_26 a0g_27 a0g_28 a0g_29 a0g_30 a0g_31 a0g_32 a0g_33 a0g_34 a0g_35 a0g_36 a0g_37 a0g_38 a0g_39 a0_11 ) (cwV 0 hts gX8_wind_X8_good rfl rfl rfl zd_X8_good ⟨Nat.le_of_ble_eq_true rfl, Nat.le_of_ble_eq_true rfl⟩) ⟨ax_blind (fun _ _ _ _ _ => trivial), zr_8 (zp_K hK) (zp_P1 hP) (q0 := 0) rfl, ax_pre (zp_P1 hP) (zp_K hK) (zp_D1 hD) (fun _ _ => trivial)⟩ rfl rfl hl.1 rfl (lv_room (Nat.le_of_ble_eq_true rfl)) dX8_wind_1 ⟨Nat.le_of_ble_eq_true rfl, Nat.le_of_ble_eq_true rfl⟩) hS (fun q _ h => zp_F1 hD hS hA q h) (zp_F1 hD hS hA) (fun u t H locs ht hvm hw hB hz1 hk1 hS1 => zx_2 hB (fun v1na0_0 v1na0_11 hB => zo1 hB ht hP hD hk1 (zp_F1 hD hS hA) hS1 (fun hP hK1 hD hS => ?_)))
  refine lv_aload_n hx hb dX8_wind_4 rfl (lv_at hl 0 rfl) ?_
  refine lv_iload_n hx hb dX8_wind_5 rfl (lv_at hl 1 rfl) ?_
  refine va_calli (va_runV (As := [.int a1]) (rest := []) ⟨hx, hb, hml, hown, hts⟩ (c0_X8_isFigure l dC dI H.size a0 a1 (Value.int v1na0_0) a0g_1 a0g_2 a0g_3 a0g_4 a0g_5 a0g_6 a0g_7 a0g_8 a0g_9 a0g_10 (Value.int v1na0_11) a0g_12 a0g_13 a0g_15 a0g_16 a0g_17 a0g_18 a0g_19 a0g_20 a0g_21 a0g_22 a0g_23 a0g_24 a0g_25 a0g_26 a0g_27 a0g_28 a0g_29 a0g_30 a0g_31 a0g_32 a0g_33 a0g_34 a0g_35 a0g_36 a0g_37 a0g_38 a0g_39 a0_14 ba0_14_l ba0_14_u) (cwV 1 hts gX8_wind_X8_isFigure rfl rfl rfl zd_X8_isFigure ⟨Nat.le_of_ble_eq_true rfl, Nat.le_of_ble_eq_true rfl⟩) ⟨ax_blind (fun _ _ _ _ _ => trivial), zr_8 (zp_K hK) (zp_P1 hP) (q0 := 0) rfl, ax_pre (zp_P1 hP) (zp_K hK) (zp_D1 hD) (fun _ _ => trivial)⟩ rfl rfl hl.1 rfl (lv_room (Nat.le_of_ble_eq_true rfl)) dX8_wind_6 ⟨Nat.le_of_ble_eq_true rfl, Nat.le_of_ble_eq_true rfl⟩) hS (fun q _ h => zp_F1 hD hS hA q h) (zp_F1 hD hS hA) (fun r6 u t H locs ht hvm hw hB hz1 hk1 hS1 => zo1 hB ht hP hD hk1 (zp_F1 hD hS hA) hS1 (fun hP hK1 hD hS => ?_))
  have hw : r6 = 0 := hw
  have hw := hw.symm
  subst hw
  refine lv_if_ne (tgt := 18) hx hb dX8_wind_9 (by decide) (fun c9 => absurd (by decide +kernel) c9) (fun _ => ?_)
  refine lv_aload_n hx hb dX8_wind_12 rfl (lv_at hl 0 rfl) ?_
  refine lv_iconst (v := 1) hx hb dX8_wind_13 zk_iconst_1 ?_
  refine va_calli (va_runV (As := [.int 1]) (rest := []) ⟨hx, hb, hml, hown, hts⟩ (c_X8_no l dC dI H.size a0 1 (Value.int v1na0_0) a0g_1 a0g_2 a0g_3 a0g_4 a0g_5 a0g_6 a0g_7 a0g_8 a0g_9 a0g_10 a0g_12 a0g_13 (Value.int a0_14) a0g_15 a0g_16 a0g_17 a0g_18 a0g_19 a0g_20 a0g_21 a0g_22 a0g_23 a0g_24 a0g_25 a0g_26 a0g_27 a0g_28 a0g_29 a0g_30 a0g_31 a0g_32 a0g_33 a0g_34 a0g_35 a0g_36 a0g_37 a0g_38 a0g_39 v1na0_11 ) (cwV 1 hts gX8_wind_X8_no rfl rfl rfl zd_X8_no ⟨Nat.le_of_ble_eq_true rfl, Nat.le_of_ble_eq_true rfl⟩) ⟨ax_blind (fun _ _ _ _ _ => trivial), zr_8 (zp_K hK) (zp_P1 hP) (q0 := 0) rfl, ax_pre (zp_P1 hP) (zp_K hK) (zp_D1 hD) (fun _ _ => trivial)⟩ rfl rfl hl.1 rfl (lv_room (Nat.le_of_ble_eq_true rfl)) dX8_wind_14 ⟨Nat.le_of_ble_eq_true rfl, Nat.le_of_ble_eq_true rfl⟩) hS (fun q _ h => zp_F1 hD hS hA q h) (zp_F1 hD hS hA) (fun r14 u t H locs ht hvm hw hB hz1 hk1 hS1 => zx_1 hB (fun v14na0_11 hB => zo1 hB ht hP hD hk1 (zp_F1 hD hS hA) hS1 (fun hP hK1 hD hS => ?_)))
  have hw : r14 = (-1) := hw
  have hw := hw.symm
  subst hw
  exact W.iret (v := (-1)) hx hb hr (fun t ht hW => ⟨⟨(-1), (), rfl, rfl, v1na0_0, v14na0_11, by rw [ht]; exact hP, va_K.moved hW.alike hK, hD⟩, hS.F ht⟩) hS.2.2 dX8_wind_17

set_option maxHeartbeats 4000000 in
set_option maxRecDepth 100000 in
theorem c0_X8_image (l : Launch) (dC : Nat → ClassId) (dI : Nat → Nat → Nat) (sz : Nat) (a0 : Nat) (a0_0 : Int32) (a0g_1 a0g_2 a0g_3 a0g_4 a0g_5 a0g_6 a0g_7 a0g_8 a0g_9 a0g_10 a0g_12 a0g_13 a0g_15 a0g_16 a0g_17 a0g_18 a0g_19 a0g_20 a0g_21 a0g_22 a0g_23 a0g_24 a0g_25 a0g_26 a0g_27 a0g_28 a0g_29 a0g_30 a0g_31 a0g_32 a0g_33 a0g_34 a0g_35 a0g_36 a0g_37 a0g_38 a0g_39 : Value) (a0_11 : Int32) (a0_14 : Int32) (ba0_14_l : (0 : Int) ≤ a0_14.toInt) (ba0_14_u : a0_14.toInt ≤ (0 : Int)) : zm l yX8_image wsX8_image ({ frames := 1, cells := 0, slots := 0, locals := 21 }) [.ref a0] dC dI sz [(a0, .inr (8, [Value.int a0_0, a0g_1, a0g_2, a0g_3, a0g_4, a0g_5, a0g_6, a0g_7, a0g_8, a0g_9, a0g_10, Value.int a0_11, a0g_12, a0g_13, Value.int a0_14, a0g_15, a0g_16, a0g_17, a0g_18, a0g_19, a0g_20, a0g_21, a0g_22, a0g_23, a0g_24, a0g_25, a0g_26, a0g_27, a0g_28, a0g_29, a0g_30, a0g_31, a0g_32, a0g_33, a0g_34, a0g_35, a0g_36, a0g_37, a0g_38, a0g_39]))] [] (fun A _ => True) (fun A => va_Qi (fun (r : Int32) (_ : Unit) => r = (-1)) (fun (_ : Unit) (t : State) => ∃ na0_0 : Int32, ∃ na0_11 : Int32, ax_B dC dI A [(a0, .inr (8, [Value.int na0_0, a0g_1, a0g_2, a0g_3, a0g_4, a0g_5, a0g_6, a0g_7, a0g_8, a0g_9, a0g_10, Value.int na0_11, a0g_12, a0g_13, Value.int a0_14, a0g_15, a0g_16, a0g_17, a0g_18, a0g_19, a0g_20, a0g_21, a0g_22, a0g_23, a0g_24, a0g_25, a0g_26, a0g_27, a0g_28, a0g_29, a0g_30, a0g_31, a0g_32, a0g_33, a0g_34, a0g_35, a0g_36, a0g_37, a0g_38, a0g_39]))] [] t) A) := by
  refine zh (cc := cX8_image) (maxL := 1) (ret := (some .int)) zn_RX8 rfl (Nat.le_of_ble_eq_true rfl) (fun p e s m below meth c A ls hx hb hml hr hts (hown : s.vm.findClass RX8 = some m.cls) hlocks hA hS hP hK hD hE (hl : lv_has ls 1 [(0, .ref a0)]) => ?_)
  refine lv_aload_n hx hb dX8_image_0 rfl (lv_at hl 0 rfl) ?_
  refine va_callv (va_runV (As := []) (rest := []) ⟨hx, hb, hml, hown, hts⟩ (c_X8_good l dC dI s.heap.size a0 a0_0 a0g_1 a0g_2 a0g_3 a0g_4 a0g_5 a0g_6 a0g_7 a0g_8 a0g_9 a0g_10 a0g_12 a0g_13 (Value.int a0_14) a0g_15 a0g_16 a0g_17 a0g_18 a0g_19 a0g_20 a0g_21 a0g_22 a0g_23 a0g_24 a0g_25 a0g_26 a0g_27 a0g_28 a0g_29 a0g_30 a0g_31 a0g_32 a0g_33 a0g_34 a0g_35 a0g_36 a0g_37 a0g_38 a0g_39 a0_11 ) (cwV 0 hts gX8_image_X8_good rfl rfl rfl zd_X8_good ⟨Nat.le_of_ble_eq_true rfl, Nat.le_of_ble_eq_true rfl⟩) ⟨ax_blind (fun _ _ _ _ _ => trivial), zr_8 (zp_K hK) (zp_P1 hP) (q0 := 0) rfl, ax_pre (zp_P1 hP) (zp_K hK) (zp_D1 hD) (fun _ _ => trivial)⟩ rfl rfl hl.1 rfl (lv_room (Nat.le_of_ble_eq_true rfl)) dX8_image_1 ⟨Nat.le_of_ble_eq_true rfl, Nat.le_of_ble_eq_true rfl⟩) hS (fun q _ h => zp_F1 hD hS hA q h) (zp_F1 hD hS hA) (fun u t H locs ht hvm hw hB hz1 hk1 hS1 => zx_2 hB (fun v1na0_0 v1na0_11 hB => zo1 hB ht hP hD hk1 (zp_F1 hD hS hA) hS1 (fun hP hK1 hD hS => ?_)))
  refine lv_aload_n hx hb dX8_image_4 rfl (lv_at hl 0 rfl) ?_
  refine va_get (D := (dC, dI)) (ci := 8) (v := .int a0_14) (C := RX8) (T := TX8) (N := 40) hx hb hts zi_X8_image_8 hown hK hP 0 rfl rfl 14 (by decide) (hts (.fieldLink RX8 173 "WaxTurnsModel" "hasGallery" "Z") (List.mem_cons_of_mem _ (List.mem_append_left _ (List.mem_of_getElem? (i := 0) rfl)))) (fun _ h9 => h9) rfl dX8_image_5 ?_
  refine lv_if_ne (tgt := 17) hx hb dX8_image_8 (by decide) (fun c8 => ?_) (fun c8 => ?_)
  · have gc8 := ai_ne c8
    have l8t_a0_14 : (1 : Int) ≤ a0_14.toInt := (by have h1 := ba0_14_l; have h2 : (0 : Int32).toInt = 0 := (by decide); rw [h2] at gc8; omega)
    have u8t_a0_14 : a0_14.toInt ≤ (-1 : Int) := (by have h1 := ba0_14_u; have h2 : (0 : Int32).toInt = 0 := (by decide); rw [h2] at gc8; omega)
    exact absurd (Int.le_trans l8t_a0_14 u8t_a0_14) (by decide)
  · have gc8 := ai_eq c8
    have u8f_a0_14 : a0_14.toInt ≤ (0 : Int) := ba0_14_u
    have l8f_a0_14 : (0 : Int) ≤ a0_14.toInt := ba0_14_l
    refine lv_aload_n hx hb dX8_image_11 rfl (lv_at hl 0 rfl) ?_
    refine lv_iconst (v := 1) hx hb dX8_image_12 zk_iconst_1 ?_
    refine va_calli (va_runV (As := [.int 1]) (rest := []) ⟨hx, hb, hml, hown, hts⟩ (c_X8_no l dC dI H.size a0 1 (Value.int v1na0_0) a0g_1 a0g_2 a0g_3 a0g_4 a0g_5 a0g_6 a0g_7 a0g_8 a0g_9 a0g_10 a0g_12 a0g_13 (Value.int a0_14) a0g_15 a0g_16 a0g_17 a0g_18 a0g_19 a0g_20 a0g_21 a0g_22 a0g_23 a0g_24 a0g_25 a0g_26 a0g_27 a0g_28 a0g_29 a0g_30 a0g_31 a0g_32 a0g_33 a0g_34 a0g_35 a0g_36 a0g_37 a0g_38 a0g_39 v1na0_11 ) (cwV 1 hts gX8_image_X8_no rfl rfl rfl zd_X8_no ⟨Nat.le_of_ble_eq_true rfl, Nat.le_of_ble_eq_true rfl⟩) ⟨ax_blind (fun _ _ _ _ _ => trivial), zr_8 (zp_K hK) (zp_P1 hP) (q0 := 0) rfl, ax_pre (zp_P1 hP) (zp_K hK) (zp_D1 hD) (fun _ _ => trivial)⟩ rfl rfl hl.1 rfl (lv_room (Nat.le_of_ble_eq_true rfl)) dX8_image_13 ⟨Nat.le_of_ble_eq_true rfl, Nat.le_of_ble_eq_true rfl⟩) hS (fun q _ h => zp_F1 hD hS hA q h) (zp_F1 hD hS hA) (fun r13 u t H locs ht hvm hw hB hz1 hk1 hS1 => zx_1 hB (fun v13na0_11 hB => zo1 hB ht hP hD hk1 (zp_F1 hD hS hA) hS1 (fun hP hK1 hD hS => ?_)))
    have hw : r13 = (-1) := hw
    have hw := hw.symm
    subst hw
    exact W.iret (v := (-1)) hx hb hr (fun t ht hW => ⟨⟨(-1), (), rfl, rfl, v1na0_0, v13na0_11, by rw [ht]; exact hP, va_K.moved hW.alike hK, hD⟩, hS.F ht⟩) hS.2.2 dX8_image_16

set_option maxHeartbeats 4000000 in
set_option maxRecDepth 100000 in
theorem c0_X8_watcher (l : Launch) (dC : Nat → ClassId) (dI : Nat → Nat → Nat) (sz : Nat) (a0 : Nat) (a1 : Int32) (a2 : Int32) (a0_0 : Int32) (a0g_1 a0g_2 a0g_3 a0g_4 a0g_5 a0g_6 a0g_7 a0g_8 a0g_9 a0g_10 a0g_12 a0g_13 a0g_15 a0g_16 a0g_17 a0g_18 a0g_19 a0g_20 a0g_21 a0g_22 a0g_23 a0g_24 a0g_25 a0g_26 a0g_27 a0g_28 a0g_29 a0g_30 a0g_31 a0g_32 a0g_33 a0g_34 a0g_35 a0g_36 a0g_37 a0g_38 a0g_39 : Value) (a0_11 : Int32) (a0_14 : Int32) (ba0_14_l : (0 : Int) ≤ a0_14.toInt) (ba0_14_u : a0_14.toInt ≤ (0 : Int)) : zm l yX8_watcher wsX8_watcher ({ frames := 1, cells := 0, slots := 0, locals := 21 }) [.ref a0, .int a1, .int a2] dC dI sz [(a0, .inr (8, [Value.int a0_0, a0g_1, a0g_2, a0g_3, a0g_4, a0g_5, a0g_6, a0g_7, a0g_8, a0g_9, a0g_10, Value.int a0_11, a0g_12, a0g_13, Value.int a0_14, a0g_15, a0g_16, a0g_17, a0g_18, a0g_19, a0g_20, a0g_21, a0g_22, a0g_23, a0g_24, a0g_25, a0g_26, a0g_27, a0g_28, a0g_29, a0g_30, a0g_31, a0g_32, a0g_33, a0g_34, a0g_35, a0g_36, a0g_37, a0g_38, a0g_39]))] [] (fun A _ => True) (fun A => va_Qi (fun (r : Int32) (_ : Unit) => r = (-1)) (fun (_ : Unit) (t : State) => ∃ na0_0 : Int32, ∃ na0_11 : Int32, ax_B dC dI A [(a0, .inr (8, [Value.int na0_0, a0g_1, a0g_2, a0g_3, a0g_4, a0g_5, a0g_6, a0g_7, a0g_8, a0g_9, a0g_10, Value.int na0_11, a0g_12, a0g_13, Value.int a0_14, a0g_15, a0g_16, a0g_17, a0g_18, a0g_19, a0g_20, a0g_21, a0g_22, a0g_23, a0g_24, a0g_25, a0g_26, a0g_27, a0g_28, a0g_29, a0g_30, a0g_31, a0g_32, a0g_33, a0g_34, a0g_35, a0g_36, a0g_37, a0g_38, a0g_39]))] [] t) A) := by
  refine zh (cc := cX8_watcher) (maxL := 3) (ret := (some .int)) zn_RX8 rfl (Nat.le_of_ble_eq_true rfl) (fun p e s m below meth c A ls hx hb hml hr hts (hown : s.vm.findClass RX8 = some m.cls) hlocks hA hS hP hK hD hE (hl : lv_has ls 3 [(0, .ref a0), (1, .int a1), (2, .int a2)]) => ?_)
  refine lv_aload_n hx hb dX8_watcher_0 rfl (lv_at hl 0 rfl) ?_
  refine va_callv (va_runV (As := []) (rest := []) ⟨hx, hb, hml, hown, hts⟩ (c_X8_good l dC dI s.heap.size a0 a0_0 a0g_1 a0g_2 a0g_3 a0g_4 a0g_5 a0g_6 a0g_7 a0g_8 a0g_9 a0g_10 a0g_12 a0g_13 (Value.int a0_14) a0g_15 a0g_16 a0g_17 a0g_18 a0g_19 a0g_20 a0g_21 a0g_22 a0g_23 a0g_24 a0g_25 a0g_26 a0g_27 a0g_28 a0g_29 a0g_30 a0g_31 a0g_32 a0g_33 a0g_34 a0g_35 a0g_36 a0g_37 a0g_38 a0g_39 a0_11 ) (cwV 0 hts gX8_watcher_X8_good rfl rfl rfl zd_X8_good ⟨Nat.le_of_ble_eq_true rfl, Nat.le_of_ble_eq_true rfl⟩) ⟨ax_blind (fun _ _ _ _ _ => trivial), zr_8 (zp_K hK) (zp_P1 hP) (q0 := 0) rfl, ax_pre (zp_P1 hP) (zp_K hK) (zp_D1 hD) (fun _ _ => trivial)⟩ rfl rfl hl.1 rfl (lv_room (Nat.le_of_ble_eq_true rfl)) dX8_watcher_1 ⟨Nat.le_of_ble_eq_true rfl, Nat.le_of_ble_eq_true rfl⟩) hS (fun q _ h => zp_F1 hD hS hA q h) (zp_F1 hD hS hA) (fun u t H locs ht hvm hw hB hz1 hk1 hS1 => zx_2 hB (fun v1na0_0 v1na0_11 hB => zo1 hB ht hP hD hk1 (zp_F1 hD hS hA) hS1 (fun hP hK1 hD hS => ?_)))
  refine lv_aload_n hx hb dX8_watcher_4 rfl (lv_at hl 0 rfl) ?_
  refine lv_iload_n hx hb dX8_watcher_5 rfl (lv_at hl 1 rfl) ?_
  refine va_calli (va_runV (As := [.int a1]) (rest := []) ⟨hx, hb, hml, hown, hts⟩ (c0_X8_isWatcher l dC dI H.size a0 a1 (Value.int v1na0_0) a0g_1 a0g_2 a0g_3 a0g_4 a0g_5 a0g_6 a0g_7 a0g_8 a0g_9 a0g_10 (Value.int v1na0_11) a0g_12 a0g_13 a0g_15 a0g_16 a0g_17 a0g_18 a0g_19 a0g_20 a0g_21 a0g_22 a0g_23 a0g_24 a0g_25 a0g_26 a0g_27 a0g_28 a0g_29 a0g_30 a0g_31 a0g_32 a0g_33 a0g_34 a0g_35 a0g_36 a0g_37 a0g_38 a0g_39 a0_14 ba0_14_l ba0_14_u) (cwV 1 hts gX8_watcher_X8_isWatcher rfl rfl rfl zd_X8_isWatcher ⟨Nat.le_of_ble_eq_true rfl, Nat.le_of_ble_eq_true rfl⟩) ⟨ax_blind (fun _ _ _ _ _ => trivial), zr_8 (zp_K hK) (zp_P1 hP) (q0 := 0) rfl, ax_pre (zp_P1 hP) (zp_K hK) (zp_D1 hD) (fun _ _ => trivial)⟩ rfl rfl hl.1 rfl (lv_room (Nat.le_of_ble_eq_true rfl)) dX8_watcher_6 ⟨Nat.le_of_ble_eq_true rfl, Nat.le_of_ble_eq_true rfl⟩) hS (fun q _ h => zp_F1 hD hS hA q h) (zp_F1 hD hS hA) (fun r6 u t H locs ht hvm hw hB hz1 hk1 hS1 => zo1 hB ht hP hD hk1 (zp_F1 hD hS hA) hS1 (fun hP hK1 hD hS => ?_))
  have hw : r6 = 0 := hw
  have hw := hw.symm
  subst hw
  refine lv_if_eq (tgt := 21) hx hb dX8_watcher_9 (by decide) (fun _ => ?_) (fun c9 => absurd (by decide +kernel) c9)
  refine lv_aload_n hx hb dX8_watcher_21 rfl (lv_at hl 0 rfl) ?_
  refine lv_iconst (v := 1) hx hb dX8_watcher_22 zk_iconst_1 ?_
  refine va_calli (va_runV (As := [.int 1]) (rest := []) ⟨hx, hb, hml, hown, hts⟩ (c_X8_no l dC dI H.size a0 1 (Value.int v1na0_0) a0g_1 a0g_2 a0g_3 a0g_4 a0g_5 a0g_6 a0g_7 a0g_8 a0g_9 a0g_10 a0g_12 a0g_13 (Value.int a0_14) a0g_15 a0g_16 a0g_17 a0g_18 a0g_19 a0g_20 a0g_21 a0g_22 a0g_23 a0g_24 a0g_25 a0g_26 a0g_27 a0g_28 a0g_29 a0g_30 a0g_31 a0g_32 a0g_33 a0g_34 a0g_35 a0g_36 a0g_37 a0g_38 a0g_39 v1na0_11 ) (cwV 1 hts gX8_watcher_X8_no rfl rfl rfl zd_X8_no ⟨Nat.le_of_ble_eq_true rfl, Nat.le_of_ble_eq_true rfl⟩) ⟨ax_blind (fun _ _ _ _ _ => trivial), zr_8 (zp_K hK) (zp_P1 hP) (q0 := 0) rfl, ax_pre (zp_P1 hP) (zp_K hK) (zp_D1 hD) (fun _ _ => trivial)⟩ rfl rfl hl.1 rfl (lv_room (Nat.le_of_ble_eq_true rfl)) dX8_watcher_23 ⟨Nat.le_of_ble_eq_true rfl, Nat.le_of_ble_eq_true rfl⟩) hS (fun q _ h => zp_F1 hD hS hA q h) (zp_F1 hD hS hA) (fun r23 u t H locs ht hvm hw hB hz1 hk1 hS1 => zx_1 hB (fun v23na0_11 hB => zo1 hB ht hP hD hk1 (zp_F1 hD hS hA) hS1 (fun hP hK1 hD hS => ?_)))
  have hw : r23 = (-1) := hw
  have hw := hw.symm
  subst hw
  exact W.iret (v := (-1)) hx hb hr (fun t ht hW => ⟨⟨(-1), (), rfl, rfl, v1na0_0, v23na0_11, by rw [ht]; exact hP, va_K.moved hW.alike hK, hD⟩, hS.F ht⟩) hS.2.2 dX8_watcher_26

set_option maxHeartbeats 4000000 in
set_option maxRecDepth 100000 in
theorem c0_X8_watch (l : Launch) (dC : Nat → ClassId) (dI : Nat → Nat → Nat) (sz : Nat) (a0 : Nat) (a1 : Int32) (a2 : Int32) (a0_0 : Int32) (a0g_1 a0g_2 a0g_3 a0g_4 a0g_5 a0g_6 a0g_7 a0g_8 a0g_9 a0g_10 a0g_12 a0g_13 a0g_15 a0g_16 a0g_17 a0g_18 a0g_19 a0g_20 a0g_21 a0g_22 a0g_23 a0g_24 a0g_25 a0g_26 a0g_27 a0g_28 a0g_29 a0g_30 a0g_31 a0g_32 a0g_33 a0g_34 a0g_35 a0g_36 a0g_37 a0g_38 a0g_39 : Value) (a0_11 : Int32) (a0_14 : Int32) (ba0_14_l : (0 : Int) ≤ a0_14.toInt) (ba0_14_u : a0_14.toInt ≤ (0 : Int)) : zm l yX8_watch wsX8_watch ({ frames := 2, cells := 0, slots := 0, locals := 45 }) [.ref a0, .int a1, .int a2] dC dI sz [(a0, .inr (8, [Value.int a0_0, a0g_1, a0g_2, a0g_3, a0g_4, a0g_5, a0g_6, a0g_7, a0g_8, a0g_9, a0g_10, Value.int a0_11, a0g_12, a0g_13, Value.int a0_14, a0g_15, a0g_16, a0g_17, a0g_18, a0g_19, a0g_20, a0g_21, a0g_22, a0g_23, a0g_24, a0g_25, a0g_26, a0g_27, a0g_28, a0g_29, a0g_30, a0g_31, a0g_32, a0g_33, a0g_34, a0g_35, a0g_36, a0g_37, a0g_38, a0g_39]))] [] (fun A _ => True) (fun A => va_Qi (fun (r : Int32) (_ : Unit) => r = (-1)) (fun (_ : Unit) (t : State) => ∃ na0_0 : Int32, ∃ na0_11 : Int32, ax_B dC dI A [(a0, .inr (8, [Value.int na0_0, a0g_1, a0g_2, a0g_3, a0g_4, a0g_5, a0g_6, a0g_7, a0g_8, a0g_9, a0g_10, Value.int na0_11, a0g_12, a0g_13, Value.int a0_14, a0g_15, a0g_16, a0g_17, a0g_18, a0g_19, a0g_20, a0g_21, a0g_22, a0g_23, a0g_24, a0g_25, a0g_26, a0g_27, a0g_28, a0g_29, a0g_30, a0g_31, a0g_32, a0g_33, a0g_34, a0g_35, a0g_36, a0g_37, a0g_38, a0g_39]))] [] t) A) := by
  refine zh (cc := cX8_watch) (maxL := 4) (ret := (some .int)) zn_RX8 rfl (Nat.le_of_ble_eq_true rfl) (fun p e s m below meth c A ls hx hb hml hr hts (hown : s.vm.findClass RX8 = some m.cls) hlocks hA hS hP hK hD hE (hl : lv_has ls 4 [(0, .ref a0), (1, .int a1), (2, .int a2)]) => ?_)
  refine lv_aload_n hx hb dX8_watch_0 rfl (lv_at hl 0 rfl) ?_
  refine va_callv (va_runV (As := []) (rest := []) ⟨hx, hb, hml, hown, hts⟩ (c_X8_good l dC dI s.heap.size a0 a0_0 a0g_1 a0g_2 a0g_3 a0g_4 a0g_5 a0g_6 a0g_7 a0g_8 a0g_9 a0g_10 a0g_12 a0g_13 (Value.int a0_14) a0g_15 a0g_16 a0g_17 a0g_18 a0g_19 a0g_20 a0g_21 a0g_22 a0g_23 a0g_24 a0g_25 a0g_26 a0g_27 a0g_28 a0g_29 a0g_30 a0g_31 a0g_32 a0g_33 a0g_34 a0g_35 a0g_36 a0g_37 a0g_38 a0g_39 a0_11 ) (cwV 0 hts gX8_watch_X8_good rfl rfl rfl zd_X8_good ⟨Nat.le_of_ble_eq_true rfl, Nat.le_of_ble_eq_true rfl⟩) ⟨ax_blind (fun _ _ _ _ _ => trivial), zr_8 (zp_K hK) (zp_P1 hP) (q0 := 0) rfl, ax_pre (zp_P1 hP) (zp_K hK) (zp_D1 hD) (fun _ _ => trivial)⟩ rfl rfl hl.1 rfl (lv_room (Nat.le_of_ble_eq_true rfl)) dX8_watch_1 ⟨Nat.le_of_ble_eq_true rfl, Nat.le_of_ble_eq_true rfl⟩) hS (fun q _ h => zp_F1 hD hS hA q h) (zp_F1 hD hS hA) (fun u t H locs ht hvm hw hB hz1 hk1 hS1 => zx_2 hB (fun v1na0_0 v1na0_11 hB => zo1 hB ht hP hD hk1 (zp_F1 hD hS hA) hS1 (fun hP hK1 hD hS => ?_)))
  refine lv_aload_n hx hb dX8_watch_4 rfl (lv_at hl 0 rfl) ?_
  refine lv_aload_n hx hb dX8_watch_5 rfl (lv_at hl 0 rfl) ?_
  refine lv_iload_n hx hb dX8_watch_6 rfl (lv_at hl 1 rfl) ?_
  refine va_calli (va_runV (As := [.int a1]) (rest := [.ref a0]) ⟨hx, hb, hml, hown, hts⟩ (c0_X8_isWatcher l dC dI H.size a0 a1 (Value.int v1na0_0) a0g_1 a0g_2 a0g_3 a0g_4 a0g_5 a0g_6 a0g_7 a0g_8 a0g_9 a0g_10 (Value.int v1na0_11) a0g_12 a0g_13 a0g_15 a0g_16 a0g_17 a0g_18 a0g_19 a0g_20 a0g_21 a0g_22 a0g_23 a0g_24 a0g_25 a0g_26 a0g_27 a0g_28 a0g_29 a0g_30 a0g_31 a0g_32 a0g_33 a0g_34 a0g_35 a0g_36 a0g_37 a0g_38 a0g_39 a0_14 ba0_14_l ba0_14_u) (cwV 1 hts gX8_watch_X8_isWatcher rfl rfl rfl zd_X8_isWatcher ⟨Nat.le_of_ble_eq_true rfl, Nat.le_of_ble_eq_true rfl⟩) ⟨ax_blind (fun _ _ _ _ _ => trivial), zr_8 (zp_K hK) (zp_P1 hP) (q0 := 0) rfl, ax_pre (zp_P1 hP) (zp_K hK) (zp_D1 hD) (fun _ _ => trivial)⟩ rfl rfl hl.1 rfl (lv_room (Nat.le_of_ble_eq_true rfl)) dX8_watch_7 ⟨Nat.le_of_ble_eq_true rfl, Nat.le_of_ble_eq_true rfl⟩) hS (fun q _ h => zp_F1 hD hS hA q h) (zp_F1 hD hS hA) (fun r7 u t H locs ht hvm hw hB hz1 hk1 hS1 => zo1 hB ht hP hD hk1 (zp_F1 hD hS hA) hS1 (fun hP hK1 hD hS => ?_))
  have hw : r7 = 0 := hw
  have hw := hw.symm
  subst hw
  refine lv_iconst (v := 1) hx hb dX8_watch_10 zk_iconst_1 ?_
  refine lv_iload_n hx hb dX8_watch_11 rfl (lv_at hl 2 rfl) ?_
  refine va_calli (va_runV (As := [.int 0, .int 1, .int a2]) (rest := []) ⟨hx, hb, hml, hown, hts⟩ (c_X8_aheadWhy l dC dI H.size a0 0 1 a2 (Value.int v1na0_0) a0g_1 a0g_2 a0g_3 a0g_4 a0g_5 a0g_6 a0g_7 a0g_8 a0g_9 a0g_10 (Value.int v1na0_11) a0g_12 a0g_13 (Value.int a0_14) a0g_15 a0g_16 a0g_17 a0g_18 a0g_19 a0g_20 a0g_21 a0g_22 a0g_23 a0g_24 a0g_25 a0g_26 a0g_27 a0g_28 a0g_29 a0g_30 a0g_31 a0g_32 a0g_33 a0g_34 a0g_35 a0g_36 a0g_37 a0g_38 a0g_39 zq5 (Int.le_trans zq6 zq4) (Int.le_trans zq4 zq1) zq0) (cwV 3 hts gX8_watch_X8_aheadWhy rfl rfl rfl zd_X8_aheadWhy ⟨Nat.le_of_ble_eq_true rfl, Nat.le_of_ble_eq_true rfl⟩) ⟨ax_blind (fun _ _ _ _ _ => trivial), zr_8 (zp_K hK) (zp_P1 hP) (q0 := 0) rfl, ax_pre (zp_P1 hP) (zp_K hK) (zp_D1 hD) (fun _ _ => trivial)⟩ rfl rfl hl.1 rfl (lv_room (Nat.le_of_ble_eq_true rfl)) dX8_watch_12 ⟨Nat.le_of_ble_eq_true rfl, Nat.le_of_ble_eq_true rfl⟩) hS (fun q _ h => zp_F1 hD hS hA q h) (zp_F1 hD hS hA) (fun r12 u t H locs ht hvm hw hB hz1 hk1 hS1 => zo1 hB ht hP hD hk1 (zp_F1 hD hS hA) hS1 (fun hP hK1 hD hS => ?_))
  rcases hw with hw | hw | hw
  · obtain ⟨hw, h12_0, h12_1⟩ := hw
    subst hw
    exact absurd h12_0 (by decide)
  · obtain ⟨hw, h12_0, h12_1⟩ := hw
    subst hw
    refine lv_istore_n (lv' := [(3, .int 1), (0, .ref a0), (1, .int a1), (2, .int a2)]) hx hb dX8_watch_15 rfl hl (by decide) rfl (fun ls hl => ?_)
    refine lv_iload_n hx hb dX8_watch_16 rfl (lv_at hl 0 rfl) ?_
    refine lv_if_eq (tgt := 26) hx hb dX8_watch_17 (by decide) (fun c17 => absurd c17 (by decide +kernel)) (fun _ => ?_)
    refine lv_aload_n hx hb dX8_watch_20 rfl (lv_at hl 1 rfl) ?_
    refine lv_iload_n hx hb dX8_watch_21 rfl (lv_at hl 0 rfl) ?_
    refine va_calli (va_runV (As := [.int 1]) (rest := []) ⟨hx, hb, hml, hown, hts⟩ (c_X8_no l dC dI H.size a0 1 (Value.int v1na0_0) a0g_1 a0g_2 a0g_3 a0g_4 a0g_5 a0g_6 a0g_7 a0g_8 a0g_9 a0g_10 a0g_12 a0g_13 (Value.int a0_14) a0g_15 a0g_16 a0g_17 a0g_18 a0g_19 a0g_20 a0g_21 a0g_22 a0g_23 a0g_24 a0g_25 a0g_26 a0g_27 a0g_28 a0g_29 a0g_30 a0g_31 a0g_32 a0g_33 a0g_34 a0g_35 a0g_36 a0g_37 a0g_38 a0g_39 v1na0_11 ) (cwV 1 hts gX8_watch_X8_no rfl rfl rfl zd_X8_no ⟨Nat.le_of_ble_eq_true rfl, Nat.le_of_ble_eq_true rfl⟩) ⟨ax_blind (fun _ _ _ _ _ => trivial), zr_8 (zp_K hK) (zp_P1 hP) (q0 := 0) rfl, ax_pre (zp_P1 hP) (zp_K hK) (zp_D1 hD) (fun _ _ => trivial)⟩ rfl rfl hl.1 rfl (lv_room (Nat.le_of_ble_eq_true rfl)) dX8_watch_22 ⟨Nat.le_of_ble_eq_true rfl, Nat.le_of_ble_eq_true rfl⟩) hS (fun q _ h => zp_F1 hD hS hA q h) (zp_F1 hD hS hA) (fun r22 u t H locs ht hvm hw hB hz1 hk1 hS1 => zx_1 hB (fun v22na0_11 hB => zo1 hB ht hP hD hk1 (zp_F1 hD hS hA) hS1 (fun hP hK1 hD hS => ?_)))
    have hw : r22 = (-1) := hw
    have hw := hw.symm
    subst hw
    exact W.iret (v := (-1)) hx hb hr (fun t ht hW => ⟨⟨(-1), (), rfl, rfl, v1na0_0, v22na0_11, by rw [ht]; exact hP, va_K.moved hW.alike hK, hD⟩, hS.F ht⟩) hS.2.2 dX8_watch_25
  · obtain ⟨hw, h12_0, h12_1, h12_2, h12_3⟩ := hw
    subst hw
    exact absurd h12_0 (by decide)
end P280_06_safe
section P280_07_safe
set_option maxHeartbeats 4000000 in
set_option maxRecDepth 100000 in
theorem c0_X8_meets (l : Launch) (dC : Nat → ClassId) (dI : Nat → Nat → Nat) (sz : Nat) (a0 : Nat) (a1 : Int32) (a0_0 : Int32) (a0g_1 a0g_2 a0g_3 a0g_4 a0g_5 a0g_6 a0g_7 a0g_8 a0g_9 a0g_10 a0g_12 a0g_13 a0g_15 a0g_16 a0g_17 a0g_18 a0g_19 a0g_20 a0g_21 a0g_22 a0g_23 a0g_24 a0g_25 a0g_26 a0g_27 a0g_28 a0g_29 a0g_30 a0g_31 a0g_32 a0g_33 a0g_34 a0g_35 a0g_36 a0g_37 a0g_38 a0g_39 : Value) (a0_11 : Int32) (a0_14 : Int32) (ba0_14_l : (0 : Int) ≤ a0_14.toInt) (ba0_14_u : a0_14.toInt ≤ (0 : Int)) : zm l yX8_meets wsX8_meets ({ frames := 1, cells := 0, slots := 0, locals := 21 }) [.ref a0, .int a1] dC dI sz [(a0, .inr (8, [Value.int a0_0, a0g_1, a0g_2, a0g_3, a0g_4, a0g_5, a0g_6, a0g_7, a0g_8, a0g_9, a0g_10, Value.int a0_11, a0g_12, a0g_13, Value.int a0_14, a0g_15, a0g_16, a0g_17, a0g_18, a0g_19, a0g_20, a0g_21, a0g_22, a0g_23, a0g_24, a0g_25, a0g_26, a0g_27, a0g_28, a0g_29, a0g_30, a0g_31, a0g_32, a0g_33, a0g_34, a0g_35, a0g_36, a0g_37, a0g_38, a0g_39]))] [] (fun A _ => True) (fun A => va_Qi (fun (r : Int32) (_ : Unit) => r = (-1)) (fun (_ : Unit) (t : State) => ∃ na0_0 : Int32, ∃ na0_11 : Int32, ax_B dC dI A [(a0, .inr (8, [Value.int na0_0, a0g_1, a0g_2, a0g_3, a0g_4, a0g_5, a0g_6, a0g_7, a0g_8, a0g_9, a0g_10, Value.int na0_11, a0g_12, a0g_13, Value.int a0_14, a0g_15, a0g_16, a0g_17, a0g_18, a0g_19, a0g_20, a0g_21, a0g_22, a0g_23, a0g_24, a0g_25, a0g_26, a0g_27, a0g_28, a0g_29, a0g_30, a0g_31, a0g_32, a0g_33, a0g_34, a0g_35, a0g_36, a0g_37, a0g_38, a0g_39]))] [] t) A) := by
  refine zh (cc := cX8_meets) (maxL := 4) (ret := (some .int)) zn_RX8 rfl (Nat.le_of_ble_eq_true rfl) (fun p e s m below meth c A ls hx hb hml hr hts (hown : s.vm.findClass RX8 = some m.cls) hlocks hA hS hP hK hD hE (hl : lv_has ls 4 [(0, .ref a0), (1, .int a1)]) => ?_)
  refine ai_open (fun K hK0 => ?_)
  refine (hK0 _ _ _).mpr ?_
  refine lv_aload_n hx hb dX8_meets_0 rfl (lv_at hl 0 rfl) ?_
  refine va_callv (va_runV (As := []) (rest := []) ⟨hx, hb, hml, hown, hts⟩ (c_X8_good l dC dI s.heap.size a0 a0_0 a0g_1 a0g_2 a0g_3 a0g_4 a0g_5 a0g_6 a0g_7 a0g_8 a0g_9 a0g_10 a0g_12 a0g_13 (Value.int a0_14) a0g_15 a0g_16 a0g_17 a0g_18 a0g_19 a0g_20 a0g_21 a0g_22 a0g_23 a0g_24 a0g_25 a0g_26 a0g_27 a0g_28 a0g_29 a0g_30 a0g_31 a0g_32 a0g_33 a0g_34 a0g_35 a0g_36 a0g_37 a0g_38 a0g_39 a0_11 ) (cwV 0 hts gX8_meets_X8_good rfl rfl rfl zd_X8_good ⟨Nat.le_of_ble_eq_true rfl, Nat.le_of_ble_eq_true rfl⟩) ⟨ax_blind (fun _ _ _ _ _ => trivial), zr_8 (zp_K hK) (zp_P1 hP) (q0 := 0) rfl, ax_pre (zp_P1 hP) (zp_K hK) (zp_D1 hD) (fun _ _ => trivial)⟩ rfl rfl hl.1 rfl (lv_room (Nat.le_of_ble_eq_true rfl)) dX8_meets_1 ⟨Nat.le_of_ble_eq_true rfl, Nat.le_of_ble_eq_true rfl⟩) hS (fun q _ h => zp_F1 hD hS hA q h) (zp_F1 hD hS hA) (fun u t H locs ht hvm hw hB hz1 hk1 hS1 => zx_2 hB (fun v1na0_0 v1na0_11 hB => zo1 hB ht hP hD hk1 (zp_F1 hD hS hA) hS1 (fun hP hK1 hD hS => ?_)))
  refine lv_aload_n hx hb dX8_meets_4 rfl (lv_at hl 0 rfl) ?_
  refine lv_iload_n hx hb dX8_meets_5 rfl (lv_at hl 1 rfl) ?_
  refine va_calli (va_runV (As := [.int a1]) (rest := []) ⟨hx, hb, hml, hown, hts⟩ (c0_X8_isWatcher l dC dI H.size a0 a1 (Value.int v1na0_0) a0g_1 a0g_2 a0g_3 a0g_4 a0g_5 a0g_6 a0g_7 a0g_8 a0g_9 a0g_10 (Value.int v1na0_11) a0g_12 a0g_13 a0g_15 a0g_16 a0g_17 a0g_18 a0g_19 a0g_20 a0g_21 a0g_22 a0g_23 a0g_24 a0g_25 a0g_26 a0g_27 a0g_28 a0g_29 a0g_30 a0g_31 a0g_32 a0g_33 a0g_34 a0g_35 a0g_36 a0g_37 a0g_38 a0g_39 a0_14 ba0_14_l ba0_14_u) (cwV 1 hts gX8_meets_X8_isWatcher rfl rfl rfl zd_X8_isWatcher ⟨Nat.le_of_ble_eq_true rfl, Nat.le_of_ble_eq_true rfl⟩) ⟨ax_blind (fun _ _ _ _ _ => trivial), zr_8 (zp_K hK) (zp_P1 hP) (q0 := 0) rfl, ax_pre (zp_P1 hP) (zp_K hK) (zp_D1 hD) (fun _ _ => trivial)⟩ rfl rfl hl.1 rfl (lv_room (Nat.le_of_ble_eq_true rfl)) dX8_meets_6 ⟨Nat.le_of_ble_eq_true rfl, Nat.le_of_ble_eq_true rfl⟩) hS (fun q _ h => zp_F1 hD hS hA q h) (zp_F1 hD hS hA) (fun r6 u t H locs ht hvm hw hB hz1 hk1 hS1 => zo1 hB ht hP hD hk1 (zp_F1 hD hS hA) hS1 (fun hP hK1 hD hS => ?_))
  have hw : r6 = 0 := hw
  have hw := hw.symm
  subst hw
  refine lv_if_ne (tgt := 18) hx hb dX8_meets_9 (by decide) (fun c9 => absurd (by decide +kernel) c9) (fun _ => ?_)
  refine lv_aload_n hx hb dX8_meets_12 rfl (lv_at hl 0 rfl) ?_
  refine lv_iconst (v := 1) hx hb dX8_meets_13 zk_iconst_1 ?_
  refine va_calli (va_runV (As := [.int 1]) (rest := []) ⟨hx, hb, hml, hown, hts⟩ (c_X8_no l dC dI H.size a0 1 (Value.int v1na0_0) a0g_1 a0g_2 a0g_3 a0g_4 a0g_5 a0g_6 a0g_7 a0g_8 a0g_9 a0g_10 a0g_12 a0g_13 (Value.int a0_14) a0g_15 a0g_16 a0g_17 a0g_18 a0g_19 a0g_20 a0g_21 a0g_22 a0g_23 a0g_24 a0g_25 a0g_26 a0g_27 a0g_28 a0g_29 a0g_30 a0g_31 a0g_32 a0g_33 a0g_34 a0g_35 a0g_36 a0g_37 a0g_38 a0g_39 v1na0_11 ) (cwV 1 hts gX8_meets_X8_no rfl rfl rfl zd_X8_no ⟨Nat.le_of_ble_eq_true rfl, Nat.le_of_ble_eq_true rfl⟩) ⟨ax_blind (fun _ _ _ _ _ => trivial), zr_8 (zp_K hK) (zp_P1 hP) (q0 := 0) rfl, ax_pre (zp_P1 hP) (zp_K hK) (zp_D1 hD) (fun _ _ => trivial)⟩ rfl rfl hl.1 rfl (lv_room (Nat.le_of_ble_eq_true rfl)) dX8_meets_14 ⟨Nat.le_of_ble_eq_true rfl, Nat.le_of_ble_eq_true rfl⟩) hS (fun q _ h => zp_F1 hD hS hA q h) (zp_F1 hD hS hA) (fun r14 u t H locs ht hvm hw hB hz1 hk1 hS1 => zx_1 hB (fun v14na0_11 hB => zo1 hB ht hP hD hk1 (zp_F1 hD hS hA) hS1 (fun hP hK1 hD hS => ?_)))
  have hw : r14 = (-1) := hw
  have hw := hw.symm
  subst hw
  exact W.iret (v := (-1)) hx hb hr (fun t ht hW => ⟨⟨(-1), (), rfl, rfl, v1na0_0, v14na0_11, by rw [ht]; exact hP, va_K.moved hW.alike hK, hD⟩, hS.F ht⟩) hS.2.2 dX8_meets_17

set_option maxHeartbeats 4000000 in
set_option maxRecDepth 100000 in
theorem c0_X8_patrol (l : Launch) (dC : Nat → ClassId) (dI : Nat → Nat → Nat) (sz : Nat) (a0 : Nat) (a1 : Int32) (a2 : Int32) (a0_0 : Int32) (a0g_1 a0g_2 a0g_3 a0g_4 a0g_5 a0g_6 a0g_7 a0g_8 a0g_9 a0g_10 a0g_12 a0g_13 a0g_15 a0g_16 a0g_17 a0g_18 a0g_19 a0g_20 a0g_21 a0g_22 a0g_23 a0g_24 a0g_25 a0g_26 a0g_27 a0g_28 a0g_29 a0g_30 a0g_31 a0g_32 a0g_33 a0g_34 a0g_35 a0g_36 a0g_37 a0g_38 a0g_39 : Value) (a0_11 : Int32) (a0_14 : Int32) (ba0_14_l : (0 : Int) ≤ a0_14.toInt) (ba0_14_u : a0_14.toInt ≤ (0 : Int)) : zm l yX8_patrol wsX8_patrol ({ frames := 1, cells := 0, slots := 0, locals := 22 }) [.ref a0, .int a1, .int a2] dC dI sz [(a0, .inr (8, [Value.int a0_0, a0g_1, a0g_2, a0g_3, a0g_4, a0g_5, a0g_6, a0g_7, a0g_8, a0g_9, a0g_10, Value.int a0_11, a0g_12, a0g_13, Value.int a0_14, a0g_15, a0g_16, a0g_17, a0g_18, a0g_19, a0g_20, a0g_21, a0g_22, a0g_23, a0g_24, a0g_25, a0g_26, a0g_27, a0g_28, a0g_29, a0g_30, a0g_31, a0g_32, a0g_33, a0g_34, a0g_35, a0g_36, a0g_37, a0g_38, a0g_39]))] [] (fun A _ => True) (fun A => va_Qi (fun (r : Int32) (_ : Unit) => r = (-1)) (fun (_ : Unit) (t : State) => ∃ na0_0 : Int32, ∃ na0_11 : Int32, ax_B dC dI A [(a0, .inr (8, [Value.int na0_0, a0g_1, a0g_2, a0g_3, a0g_4, a0g_5, a0g_6, a0g_7, a0g_8, a0g_9, a0g_10, Value.int na0_11, a0g_12, a0g_13, Value.int a0_14, a0g_15, a0g_16, a0g_17, a0g_18, a0g_19, a0g_20, a0g_21, a0g_22, a0g_23, a0g_24, a0g_25, a0g_26, a0g_27, a0g_28, a0g_29, a0g_30, a0g_31, a0g_32, a0g_33, a0g_34, a0g_35, a0g_36, a0g_37, a0g_38, a0g_39]))] [] t) A) := by
  refine zh (cc := cX8_patrol) (maxL := 9) (ret := (some .int)) zn_RX8 rfl (Nat.le_of_ble_eq_true rfl) (fun p e s m below meth c A ls hx hb hml hr hts (hown : s.vm.findClass RX8 = some m.cls) hlocks hA hS hP hK hD hE (hl : lv_has ls 9 [(0, .ref a0), (1, .int a1), (2, .int a2)]) => ?_)
  refine ai_open (fun K hK0 => ?_)
  refine (hK0 _ _ _).mpr ?_
  refine lv_aload_n hx hb dX8_patrol_0 rfl (lv_at hl 0 rfl) ?_
  refine va_callv (va_runV (As := []) (rest := []) ⟨hx, hb, hml, hown, hts⟩ (c_X8_good l dC dI s.heap.size a0 a0_0 a0g_1 a0g_2 a0g_3 a0g_4 a0g_5 a0g_6 a0g_7 a0g_8 a0g_9 a0g_10 a0g_12 a0g_13 (Value.int a0_14) a0g_15 a0g_16 a0g_17 a0g_18 a0g_19 a0g_20 a0g_21 a0g_22 a0g_23 a0g_24 a0g_25 a0g_26 a0g_27 a0g_28 a0g_29 a0g_30 a0g_31 a0g_32 a0g_33 a0g_34 a0g_35 a0g_36 a0g_37 a0g_38 a0g_39 a0_11 ) (cwV 0 hts gX8_patrol_X8_good rfl rfl rfl zd_X8_good ⟨Nat.le_of_ble_eq_true rfl, Nat.le_of_ble_eq_true rfl⟩) ⟨ax_blind (fun _ _ _ _ _ => trivial), zr_8 (zp_K hK) (zp_P1 hP) (q0 := 0) rfl, ax_pre (zp_P1 hP) (zp_K hK) (zp_D1 hD) (fun _ _ => trivial)⟩ rfl rfl hl.1 rfl (lv_room (Nat.le_of_ble_eq_true rfl)) dX8_patrol_1 ⟨Nat.le_of_ble_eq_true rfl, Nat.le_of_ble_eq_true rfl⟩) hS (fun q _ h => zp_F1 hD hS hA q h) (zp_F1 hD hS hA) (fun u t H locs ht hvm hw hB hz1 hk1 hS1 => zx_2 hB (fun v1na0_0 v1na0_11 hB => zo1 hB ht hP hD hk1 (zp_F1 hD hS hA) hS1 (fun hP hK1 hD hS => ?_)))
  refine lv_aload_n hx hb dX8_patrol_4 rfl (lv_at hl 0 rfl) ?_
  refine lv_aload_n hx hb dX8_patrol_5 rfl (lv_at hl 0 rfl) ?_
  refine lv_iload_n hx hb dX8_patrol_6 rfl (lv_at hl 1 rfl) ?_
  refine va_calli (va_runV (As := [.int a1]) (rest := [.ref a0]) ⟨hx, hb, hml, hown, hts⟩ (c0_X8_isWatcher l dC dI H.size a0 a1 (Value.int v1na0_0) a0g_1 a0g_2 a0g_3 a0g_4 a0g_5 a0g_6 a0g_7 a0g_8 a0g_9 a0g_10 (Value.int v1na0_11) a0g_12 a0g_13 a0g_15 a0g_16 a0g_17 a0g_18 a0g_19 a0g_20 a0g_21 a0g_22 a0g_23 a0g_24 a0g_25 a0g_26 a0g_27 a0g_28 a0g_29 a0g_30 a0g_31 a0g_32 a0g_33 a0g_34 a0g_35 a0g_36 a0g_37 a0g_38 a0g_39 a0_14 ba0_14_l ba0_14_u) (cwV 1 hts gX8_patrol_X8_isWatcher rfl rfl rfl zd_X8_isWatcher ⟨Nat.le_of_ble_eq_true rfl, Nat.le_of_ble_eq_true rfl⟩) ⟨ax_blind (fun _ _ _ _ _ => trivial), zr_8 (zp_K hK) (zp_P1 hP) (q0 := 0) rfl, ax_pre (zp_P1 hP) (zp_K hK) (zp_D1 hD) (fun _ _ => trivial)⟩ rfl rfl hl.1 rfl (lv_room (Nat.le_of_ble_eq_true rfl)) dX8_patrol_7 ⟨Nat.le_of_ble_eq_true rfl, Nat.le_of_ble_eq_true rfl⟩) hS (fun q _ h => zp_F1 hD hS hA q h) (zp_F1 hD hS hA) (fun r7 u t H locs ht hvm hw hB hz1 hk1 hS1 => zo1 hB ht hP hD hk1 (zp_F1 hD hS hA) hS1 (fun hP hK1 hD hS => ?_))
  have hw : r7 = 0 := hw
  have hw := hw.symm
  subst hw
  refine lv_iload_n hx hb dX8_patrol_10 rfl (lv_at hl 2 rfl) ?_
  refine lv_iconst (v := 1) hx hb dX8_patrol_11 zk_iconst_1 ?_
  refine lv_bipush (v := 60) hx hb dX8_patrol_12 zk_bipush_60 ?_
  refine va_calli (va_runS (As := [.int a2, .int 1, .int 60]) (rest := [.int 0, .ref a0]) ⟨hx, hb, hml, hown, hts⟩ (c_X8_in l dC dI H.size a2 1 60 ) (va_cwS 3 hts gX8_patrol_X8_in rfl rfl rfl zd_X8_in.2 ⟨Nat.le_of_ble_eq_true rfl, Nat.le_of_ble_eq_true rfl⟩) ⟨ax_blind (fun _ _ _ _ _ => trivial), ax_pre (zp_P0 hP) (zp_K hK) (zp_D0 hD) (fun _ _ => trivial)⟩ rfl rfl hl.1 rfl (lv_room (Nat.le_of_ble_eq_true rfl)) dX8_patrol_14 ⟨Nat.le_of_ble_eq_true rfl, Nat.le_of_ble_eq_true rfl⟩) hS (fun q _ h => zp_F0 hD hS hA q h) (zp_F0 hD hS hA) (fun r14 u t H locs ht hvm hw hB hz1 hk1 hS1 => zo0 hB ht hP hD hk1 (zp_F0 hD hS hA) hS1 (fun hP hK1 hD hS => ?_))
  rcases hw with hw | hw
  · obtain ⟨hw, h14⟩ := hw
    subst hw
    have l14k0_a2 : (1 : Int) ≤ a2.toInt := Int.le_trans zq1 h14.1
    have u14k0_a2 : a2.toInt ≤ (60 : Int) := Int.le_trans h14.2 zq46
    refine va_calli (va_runV (As := [.int 0, .int 1]) (rest := []) ⟨hx, hb, hml, hown, hts⟩ (c_X8_whyB l dC dI H.size a0 0 1 (Value.int v1na0_0) a0g_1 a0g_2 a0g_3 a0g_4 a0g_5 a0g_6 a0g_7 a0g_8 a0g_9 a0g_10 (Value.int v1na0_11) a0g_12 a0g_13 (Value.int a0_14) a0g_15 a0g_16 a0g_17 a0g_18 a0g_19 a0g_20 a0g_21 a0g_22 a0g_23 a0g_24 a0g_25 a0g_26 a0g_27 a0g_28 a0g_29 a0g_30 a0g_31 a0g_32 a0g_33 a0g_34 a0g_35 a0g_36 a0g_37 a0g_38 a0g_39 zq5 (Int.le_trans zq6 zq4) (Int.le_trans zq4 zq1) zq0) (cwV 2 hts gX8_patrol_X8_why rfl rfl rfl zd_X8_why ⟨Nat.le_of_ble_eq_true rfl, Nat.le_of_ble_eq_true rfl⟩) ⟨ax_blind (fun _ _ _ _ _ => trivial), zr_8 (zp_K hK) (zp_P1 hP) (q0 := 0) rfl, ax_pre (zp_P1 hP) (zp_K hK) (zp_D1 hD) (fun _ _ => trivial)⟩ rfl rfl hl.1 rfl (lv_room (Nat.le_of_ble_eq_true rfl)) dX8_patrol_17 ⟨Nat.le_of_ble_eq_true rfl, Nat.le_of_ble_eq_true rfl⟩) hS (fun q _ h => zp_F1 hD hS hA q h) (zp_F1 hD hS hA) (fun r17 u t H locs ht hvm hw hB hz1 hk1 hS1 => zo1 hB ht hP hD hk1 (zp_F1 hD hS hA) hS1 (fun hP hK1 hD hS => ?_))
    rcases hw with hw | hw | hw
    · obtain ⟨hw, h17_0, h17_1, h17_2, h17_3⟩ := hw
      subst hw
      exact absurd h17_0 (by decide)
    · obtain ⟨hw, h17_0, h17_1⟩ := hw
      subst hw
      refine lv_istore_n (lv' := [(3, .int 1), (0, .ref a0), (1, .int a1), (2, .int a2)]) hx hb dX8_patrol_20 rfl hl (by decide) rfl (fun ls hl => ?_)
      refine lv_iload_n hx hb dX8_patrol_21 rfl (lv_at hl 0 rfl) ?_
      refine lv_if_eq (tgt := 31) hx hb dX8_patrol_22 (by decide) (fun c22 => absurd c22 (by decide +kernel)) (fun _ => ?_)
      refine lv_aload_n hx hb dX8_patrol_25 rfl (lv_at hl 1 rfl) ?_
      refine lv_iload_n hx hb dX8_patrol_26 rfl (lv_at hl 0 rfl) ?_
      refine va_calli (va_runV (As := [.int 1]) (rest := []) ⟨hx, hb, hml, hown, hts⟩ (c_X8_no l dC dI H.size a0 1 (Value.int v1na0_0) a0g_1 a0g_2 a0g_3 a0g_4 a0g_5 a0g_6 a0g_7 a0g_8 a0g_9 a0g_10 a0g_12 a0g_13 (Value.int a0_14) a0g_15 a0g_16 a0g_17 a0g_18 a0g_19 a0g_20 a0g_21 a0g_22 a0g_23 a0g_24 a0g_25 a0g_26 a0g_27 a0g_28 a0g_29 a0g_30 a0g_31 a0g_32 a0g_33 a0g_34 a0g_35 a0g_36 a0g_37 a0g_38 a0g_39 v1na0_11 ) (cwV 1 hts gX8_patrol_X8_no rfl rfl rfl zd_X8_no ⟨Nat.le_of_ble_eq_true rfl, Nat.le_of_ble_eq_true rfl⟩) ⟨ax_blind (fun _ _ _ _ _ => trivial), zr_8 (zp_K hK) (zp_P1 hP) (q0 := 0) rfl, ax_pre (zp_P1 hP) (zp_K hK) (zp_D1 hD) (fun _ _ => trivial)⟩ rfl rfl hl.1 rfl (lv_room (Nat.le_of_ble_eq_true rfl)) dX8_patrol_27 ⟨Nat.le_of_ble_eq_true rfl, Nat.le_of_ble_eq_true rfl⟩) hS (fun q _ h => zp_F1 hD hS hA q h) (zp_F1 hD hS hA) (fun r27 u t H locs ht hvm hw hB hz1 hk1 hS1 => zx_1 hB (fun v27na0_11 hB => zo1 hB ht hP hD hk1 (zp_F1 hD hS hA) hS1 (fun hP hK1 hD hS => ?_)))
      have hw : r27 = (-1) := hw
      have hw := hw.symm
      subst hw
      exact W.iret (v := (-1)) hx hb hr (fun t ht hW => ⟨⟨(-1), (), rfl, rfl, v1na0_0, v27na0_11, by rw [ht]; exact hP, va_K.moved hW.alike hK, hD⟩, hS.F ht⟩) hS.2.2 dX8_patrol_30
    · obtain ⟨hw, h17_0, h17_1, h17_2, h17_3⟩ := hw
      subst hw
      exact absurd h17_0 (by decide)
  · obtain ⟨hw, h14⟩ := hw
    subst hw
    refine va_calli (va_runV (As := [.int 0, .int 0]) (rest := []) ⟨hx, hb, hml, hown, hts⟩ (c_X8_whyB l dC dI H.size a0 0 0 (Value.int v1na0_0) a0g_1 a0g_2 a0g_3 a0g_4 a0g_5 a0g_6 a0g_7 a0g_8 a0g_9 a0g_10 (Value.int v1na0_11) a0g_12 a0g_13 (Value.int a0_14) a0g_15 a0g_16 a0g_17 a0g_18 a0g_19 a0g_20 a0g_21 a0g_22 a0g_23 a0g_24 a0g_25 a0g_26 a0g_27 a0g_28 a0g_29 a0g_30 a0g_31 a0g_32 a0g_33 a0g_34 a0g_35 a0g_36 a0g_37 a0g_38 a0g_39 zq5 (Int.le_trans zq6 zq4) zq5 (Int.le_trans zq6 zq4)) (cwV 2 hts gX8_patrol_X8_why rfl rfl rfl zd_X8_why ⟨Nat.le_of_ble_eq_true rfl, Nat.le_of_ble_eq_true rfl⟩) ⟨ax_blind (fun _ _ _ _ _ => trivial), zr_8 (zp_K hK) (zp_P1 hP) (q0 := 0) rfl, ax_pre (zp_P1 hP) (zp_K hK) (zp_D1 hD) (fun _ _ => trivial)⟩ rfl rfl hl.1 rfl (lv_room (Nat.le_of_ble_eq_true rfl)) dX8_patrol_17 ⟨Nat.le_of_ble_eq_true rfl, Nat.le_of_ble_eq_true rfl⟩) hS (fun q _ h => zp_F1 hD hS hA q h) (zp_F1 hD hS hA) (fun r17 u t H locs ht hvm hw hB hz1 hk1 hS1 => zo1 hB ht hP hD hk1 (zp_F1 hD hS hA) hS1 (fun hP hK1 hD hS => ?_))
    rcases hw with hw | hw | hw
    · obtain ⟨hw, h17_0, h17_1, h17_2, h17_3⟩ := hw
      subst hw
      exact absurd h17_0 (by decide)
    · obtain ⟨hw, h17_0, h17_1⟩ := hw
      subst hw
      refine lv_istore_n (lv' := [(3, .int 1), (0, .ref a0), (1, .int a1), (2, .int a2)]) hx hb dX8_patrol_20 rfl hl (by decide) rfl (fun ls hl => ?_)
      refine lv_iload_n hx hb dX8_patrol_21 rfl (lv_at hl 0 rfl) ?_
      refine lv_if_eq (tgt := 31) hx hb dX8_patrol_22 (by decide) (fun c22 => absurd c22 (by decide +kernel)) (fun _ => ?_)
      refine lv_aload_n hx hb dX8_patrol_25 rfl (lv_at hl 1 rfl) ?_
      refine lv_iload_n hx hb dX8_patrol_26 rfl (lv_at hl 0 rfl) ?_
      refine va_calli (va_runV (As := [.int 1]) (rest := []) ⟨hx, hb, hml, hown, hts⟩ (c_X8_no l dC dI H.size a0 1 (Value.int v1na0_0) a0g_1 a0g_2 a0g_3 a0g_4 a0g_5 a0g_6 a0g_7 a0g_8 a0g_9 a0g_10 a0g_12 a0g_13 (Value.int a0_14) a0g_15 a0g_16 a0g_17 a0g_18 a0g_19 a0g_20 a0g_21 a0g_22 a0g_23 a0g_24 a0g_25 a0g_26 a0g_27 a0g_28 a0g_29 a0g_30 a0g_31 a0g_32 a0g_33 a0g_34 a0g_35 a0g_36 a0g_37 a0g_38 a0g_39 v1na0_11 ) (cwV 1 hts gX8_patrol_X8_no rfl rfl rfl zd_X8_no ⟨Nat.le_of_ble_eq_true rfl, Nat.le_of_ble_eq_true rfl⟩) ⟨ax_blind (fun _ _ _ _ _ => trivial), zr_8 (zp_K hK) (zp_P1 hP) (q0 := 0) rfl, ax_pre (zp_P1 hP) (zp_K hK) (zp_D1 hD) (fun _ _ => trivial)⟩ rfl rfl hl.1 rfl (lv_room (Nat.le_of_ble_eq_true rfl)) dX8_patrol_27 ⟨Nat.le_of_ble_eq_true rfl, Nat.le_of_ble_eq_true rfl⟩) hS (fun q _ h => zp_F1 hD hS hA q h) (zp_F1 hD hS hA) (fun r27 u t H locs ht hvm hw hB hz1 hk1 hS1 => zx_1 hB (fun v27na0_11 hB => zo1 hB ht hP hD hk1 (zp_F1 hD hS hA) hS1 (fun hP hK1 hD hS => ?_)))
      have hw : r27 = (-1) := hw
      have hw := hw.symm
      subst hw
      exact W.iret (v := (-1)) hx hb hr (fun t ht hW => ⟨⟨(-1), (), rfl, rfl, v1na0_0, v27na0_11, by rw [ht]; exact hP, va_K.moved hW.alike hK, hD⟩, hS.F ht⟩) hS.2.2 dX8_patrol_30
    · obtain ⟨hw, h17_0, h17_1, h17_2, h17_3⟩ := hw
      subst hw
      exact absurd h17_0 (by decide)

set_option maxHeartbeats 4000000 in
set_option maxRecDepth 100000 in
theorem c0_X8_odds (l : Launch) (dC : Nat → ClassId) (dI : Nat → Nat → Nat) (sz : Nat) (a0 : Nat) (a1 : Int32) (a2 : Int32) (a3 : Int32) (a0_0 : Int32) (a0g_1 a0g_2 a0g_3 a0g_4 a0g_5 a0g_6 a0g_7 a0g_8 a0g_9 a0g_10 a0g_12 a0g_13 a0g_15 a0g_16 a0g_17 a0g_18 a0g_19 a0g_20 a0g_21 a0g_22 a0g_23 a0g_24 a0g_25 a0g_26 a0g_27 a0g_28 a0g_29 a0g_30 a0g_31 a0g_32 a0g_33 a0g_34 a0g_35 a0g_36 a0g_37 a0g_38 a0g_39 : Value) (a0_11 : Int32) (a0_14 : Int32) (ba0_14_l : (0 : Int) ≤ a0_14.toInt) (ba0_14_u : a0_14.toInt ≤ (0 : Int)) : zm l yX8_odds wsX8_odds ({ frames := 1, cells := 0, slots := 0, locals := 22 }) [.ref a0, .int a1, .int a2, .int a3] dC dI sz [(a0, .inr (8, [Value.int a0_0, a0g_1, a0g_2, a0g_3, a0g_4, a0g_5, a0g_6, a0g_7, a0g_8, a0g_9, a0g_10, Value.int a0_11, a0g_12, a0g_13, Value.int a0_14, a0g_15, a0g_16, a0g_17, a0g_18, a0g_19, a0g_20, a0g_21, a0g_22, a0g_23, a0g_24, a0g_25, a0g_26, a0g_27, a0g_28, a0g_29, a0g_30, a0g_31, a0g_32, a0g_33, a0g_34, a0g_35, a0g_36, a0g_37, a0g_38, a0g_39]))] [] (fun A _ => True) (fun A => va_Ql (fun (r : Int64) (_ : Unit) => True) (fun (_ : Unit) (t : State) => ∃ na0_0 : Int32, ∃ na0_11 : Int32, ax_B dC dI A [(a0, .inr (8, [Value.int na0_0, a0g_1, a0g_2, a0g_3, a0g_4, a0g_5, a0g_6, a0g_7, a0g_8, a0g_9, a0g_10, Value.int na0_11, a0g_12, a0g_13, Value.int a0_14, a0g_15, a0g_16, a0g_17, a0g_18, a0g_19, a0g_20, a0g_21, a0g_22, a0g_23, a0g_24, a0g_25, a0g_26, a0g_27, a0g_28, a0g_29, a0g_30, a0g_31, a0g_32, a0g_33, a0g_34, a0g_35, a0g_36, a0g_37, a0g_38, a0g_39]))] [] t) A) := by
  refine zh (cc := cX8_odds) (maxL := 11) (ret := (some .long)) zn_RX8 rfl (Nat.le_of_ble_eq_true rfl) (fun p e s m below meth c A ls hx hb hml hr hts (hown : s.vm.findClass RX8 = some m.cls) hlocks hA hS hP hK hD hE (hl : lv_has ls 11 [(0, .ref a0), (1, .int a1), (2, .int a2), (3, .int a3)]) => ?_)
  refine ai_open (fun K hK0 => ?_)
  refine (hK0 _ _ _).mpr ?_
  refine lv_aload_n hx hb dX8_odds_0 rfl (lv_at hl 0 rfl) ?_
  refine va_callv (va_runV (As := []) (rest := []) ⟨hx, hb, hml, hown, hts⟩ (c_X8_good l dC dI s.heap.size a0 a0_0 a0g_1 a0g_2 a0g_3 a0g_4 a0g_5 a0g_6 a0g_7 a0g_8 a0g_9 a0g_10 a0g_12 a0g_13 (Value.int a0_14) a0g_15 a0g_16 a0g_17 a0g_18 a0g_19 a0g_20 a0g_21 a0g_22 a0g_23 a0g_24 a0g_25 a0g_26 a0g_27 a0g_28 a0g_29 a0g_30 a0g_31 a0g_32 a0g_33 a0g_34 a0g_35 a0g_36 a0g_37 a0g_38 a0g_39 a0_11 ) (cwV 0 hts gX8_odds_X8_good rfl rfl rfl zd_X8_good ⟨Nat.le_of_ble_eq_true rfl, Nat.le_of_ble_eq_true rfl⟩) ⟨ax_blind (fun _ _ _ _ _ => trivial), zr_8 (zp_K hK) (zp_P1 hP) (q0 := 0) rfl, ax_pre (zp_P1 hP) (zp_K hK) (zp_D1 hD) (fun _ _ => trivial)⟩ rfl rfl hl.1 rfl (lv_room (Nat.le_of_ble_eq_true rfl)) dX8_odds_1 ⟨Nat.le_of_ble_eq_true rfl, Nat.le_of_ble_eq_true rfl⟩) hS (fun q _ h => zp_F1 hD hS hA q h) (zp_F1 hD hS hA) (fun u t H locs ht hvm hw hB hz1 hk1 hS1 => zx_2 hB (fun v1na0_0 v1na0_11 hB => zo1 hB ht hP hD hk1 (zp_F1 hD hS hA) hS1 (fun hP hK1 hD hS => ?_)))
  refine lv_aload_n hx hb dX8_odds_4 rfl (lv_at hl 0 rfl) ?_
  refine lv_aload_n hx hb dX8_odds_5 rfl (lv_at hl 0 rfl) ?_
  refine lv_iload_n hx hb dX8_odds_6 rfl (lv_at hl 1 rfl) ?_
  refine va_calli (va_runV (As := [.int a1]) (rest := [.ref a0]) ⟨hx, hb, hml, hown, hts⟩ (c0_X8_isFigure l dC dI H.size a0 a1 (Value.int v1na0_0) a0g_1 a0g_2 a0g_3 a0g_4 a0g_5 a0g_6 a0g_7 a0g_8 a0g_9 a0g_10 (Value.int v1na0_11) a0g_12 a0g_13 a0g_15 a0g_16 a0g_17 a0g_18 a0g_19 a0g_20 a0g_21 a0g_22 a0g_23 a0g_24 a0g_25 a0g_26 a0g_27 a0g_28 a0g_29 a0g_30 a0g_31 a0g_32 a0g_33 a0g_34 a0g_35 a0g_36 a0g_37 a0g_38 a0g_39 a0_14 ba0_14_l ba0_14_u) (cwV 1 hts gX8_odds_X8_isFigure rfl rfl rfl zd_X8_isFigure ⟨Nat.le_of_ble_eq_true rfl, Nat.le_of_ble_eq_true rfl⟩) ⟨ax_blind (fun _ _ _ _ _ => trivial), zr_8 (zp_K hK) (zp_P1 hP) (q0 := 0) rfl, ax_pre (zp_P1 hP) (zp_K hK) (zp_D1 hD) (fun _ _ => trivial)⟩ rfl rfl hl.1 rfl (lv_room (Nat.le_of_ble_eq_true rfl)) dX8_odds_7 ⟨Nat.le_of_ble_eq_true rfl, Nat.le_of_ble_eq_true rfl⟩) hS (fun q _ h => zp_F1 hD hS hA q h) (zp_F1 hD hS hA) (fun r7 u t H locs ht hvm hw hB hz1 hk1 hS1 => zo1 hB ht hP hD hk1 (zp_F1 hD hS hA) hS1 (fun hP hK1 hD hS => ?_))
  have hw : r7 = 0 := hw
  have hw := hw.symm
  subst hw
  refine lv_iload_n hx hb dX8_odds_10 rfl (lv_at hl 2 rfl) ?_
  refine lv_iconst (v := 0) hx hb dX8_odds_11 zk_iconst_0 ?_
  refine lv_bipush (v := 8) hx hb dX8_odds_12 zk_bipush_8 ?_
  refine va_calli (va_runS (As := [.int a2, .int 0, .int 8]) (rest := [.int 0, .ref a0]) ⟨hx, hb, hml, hown, hts⟩ (c_X8_in l dC dI H.size a2 0 8 ) (va_cwS 3 hts gX8_odds_X8_in rfl rfl rfl zd_X8_in.2 ⟨Nat.le_of_ble_eq_true rfl, Nat.le_of_ble_eq_true rfl⟩) ⟨ax_blind (fun _ _ _ _ _ => trivial), ax_pre (zp_P0 hP) (zp_K hK) (zp_D0 hD) (fun _ _ => trivial)⟩ rfl rfl hl.1 rfl (lv_room (Nat.le_of_ble_eq_true rfl)) dX8_odds_14 ⟨Nat.le_of_ble_eq_true rfl, Nat.le_of_ble_eq_true rfl⟩) hS (fun q _ h => zp_F0 hD hS hA q h) (zp_F0 hD hS hA) (fun r14 u t H locs ht hvm hw hB hz1 hk1 hS1 => zo0 hB ht hP hD hk1 (zp_F0 hD hS hA) hS1 (fun hP hK1 hD hS => ?_))
  rcases hw with hw | hw
  · obtain ⟨hw, h14⟩ := hw
    subst hw
    have l14k0_a2 : (0 : Int) ≤ a2.toInt := Int.le_trans zq5 h14.1
    have u14k0_a2 : a2.toInt ≤ (8 : Int) := Int.le_trans h14.2 zq28
    refine va_calli (va_runV (As := [.int 0, .int 1]) (rest := []) ⟨hx, hb, hml, hown, hts⟩ (c_X8_whyB l dC dI H.size a0 0 1 (Value.int v1na0_0) a0g_1 a0g_2 a0g_3 a0g_4 a0g_5 a0g_6 a0g_7 a0g_8 a0g_9 a0g_10 (Value.int v1na0_11) a0g_12 a0g_13 (Value.int a0_14) a0g_15 a0g_16 a0g_17 a0g_18 a0g_19 a0g_20 a0g_21 a0g_22 a0g_23 a0g_24 a0g_25 a0g_26 a0g_27 a0g_28 a0g_29 a0g_30 a0g_31 a0g_32 a0g_33 a0g_34 a0g_35 a0g_36 a0g_37 a0g_38 a0g_39 zq5 (Int.le_trans zq6 zq4) (Int.le_trans zq4 zq1) zq0) (cwV 2 hts gX8_odds_X8_why rfl rfl rfl zd_X8_why ⟨Nat.le_of_ble_eq_true rfl, Nat.le_of_ble_eq_true rfl⟩) ⟨ax_blind (fun _ _ _ _ _ => trivial), zr_8 (zp_K hK) (zp_P1 hP) (q0 := 0) rfl, ax_pre (zp_P1 hP) (zp_K hK) (zp_D1 hD) (fun _ _ => trivial)⟩ rfl rfl hl.1 rfl (lv_room (Nat.le_of_ble_eq_true rfl)) dX8_odds_17 ⟨Nat.le_of_ble_eq_true rfl, Nat.le_of_ble_eq_true rfl⟩) hS (fun q _ h => zp_F1 hD hS hA q h) (zp_F1 hD hS hA) (fun r17 u t H locs ht hvm hw hB hz1 hk1 hS1 => zo1 hB ht hP hD hk1 (zp_F1 hD hS hA) hS1 (fun hP hK1 hD hS => ?_))
    rcases hw with hw | hw | hw
    · obtain ⟨hw, h17_0, h17_1, h17_2, h17_3⟩ := hw
      subst hw
      exact absurd h17_0 (by decide)
    · obtain ⟨hw, h17_0, h17_1⟩ := hw
      subst hw
      refine lv_istore (lv' := [(4, .int 1), (0, .ref a0), (1, .int a1), (2, .int a2), (3, .int a3)]) hx hb dX8_odds_20 hl (by decide) rfl (fun ls hl => ?_)
      refine lv_iload hx hb dX8_odds_22 (lv_at hl 0 rfl) ?_
      refine lv_if_eq (tgt := 35) hx hb dX8_odds_24 (by decide) (fun c24 => absurd c24 (by decide +kernel)) (fun _ => ?_)
      refine lv_aload_n hx hb dX8_odds_27 rfl (lv_at hl 1 rfl) ?_
      refine lv_iload hx hb dX8_odds_28 (lv_at hl 0 rfl) ?_
      refine va_calli (va_runV (As := [.int 1]) (rest := []) ⟨hx, hb, hml, hown, hts⟩ (c_X8_no l dC dI H.size a0 1 (Value.int v1na0_0) a0g_1 a0g_2 a0g_3 a0g_4 a0g_5 a0g_6 a0g_7 a0g_8 a0g_9 a0g_10 a0g_12 a0g_13 (Value.int a0_14) a0g_15 a0g_16 a0g_17 a0g_18 a0g_19 a0g_20 a0g_21 a0g_22 a0g_23 a0g_24 a0g_25 a0g_26 a0g_27 a0g_28 a0g_29 a0g_30 a0g_31 a0g_32 a0g_33 a0g_34 a0g_35 a0g_36 a0g_37 a0g_38 a0g_39 v1na0_11 ) (cwV 1 hts gX8_odds_X8_no rfl rfl rfl zd_X8_no ⟨Nat.le_of_ble_eq_true rfl, Nat.le_of_ble_eq_true rfl⟩) ⟨ax_blind (fun _ _ _ _ _ => trivial), zr_8 (zp_K hK) (zp_P1 hP) (q0 := 0) rfl, ax_pre (zp_P1 hP) (zp_K hK) (zp_D1 hD) (fun _ _ => trivial)⟩ rfl rfl hl.1 rfl (lv_room (Nat.le_of_ble_eq_true rfl)) dX8_odds_30 ⟨Nat.le_of_ble_eq_true rfl, Nat.le_of_ble_eq_true rfl⟩) hS (fun q _ h => zp_F1 hD hS hA q h) (zp_F1 hD hS hA) (fun r30 u t H locs ht hvm hw hB hz1 hk1 hS1 => zx_1 hB (fun v30na0_11 hB => zo1 hB ht hP hD hk1 (zp_F1 hD hS hA) hS1 (fun hP hK1 hD hS => ?_)))
      have hw : r30 = (-1) := hw
      have hw := hw.symm
      subst hw
      obtain ⟨x33, ex33⟩ : ∃ y : Int64, y = ((-1) : Int32).toInt64 := ⟨_, rfl⟩
      refine lv_i2l (v := x33) hx hb dX8_odds_33 ex33.symm ?_
      exact W.lret (v := x33) hx hb hr (fun t ht hW => ⟨⟨x33, (), rfl, trivial, v1na0_0, v30na0_11, by rw [ht]; exact hP, va_K.moved hW.alike hK, hD⟩, hS.F ht⟩) hS.2.2 dX8_odds_34
    · obtain ⟨hw, h17_0, h17_1, h17_2, h17_3⟩ := hw
      subst hw
      exact absurd h17_0 (by decide)
  · obtain ⟨hw, h14⟩ := hw
    subst hw
    refine va_calli (va_runV (As := [.int 0, .int 0]) (rest := []) ⟨hx, hb, hml, hown, hts⟩ (c_X8_whyB l dC dI H.size a0 0 0 (Value.int v1na0_0) a0g_1 a0g_2 a0g_3 a0g_4 a0g_5 a0g_6 a0g_7 a0g_8 a0g_9 a0g_10 (Value.int v1na0_11) a0g_12 a0g_13 (Value.int a0_14) a0g_15 a0g_16 a0g_17 a0g_18 a0g_19 a0g_20 a0g_21 a0g_22 a0g_23 a0g_24 a0g_25 a0g_26 a0g_27 a0g_28 a0g_29 a0g_30 a0g_31 a0g_32 a0g_33 a0g_34 a0g_35 a0g_36 a0g_37 a0g_38 a0g_39 zq5 (Int.le_trans zq6 zq4) zq5 (Int.le_trans zq6 zq4)) (cwV 2 hts gX8_odds_X8_why rfl rfl rfl zd_X8_why ⟨Nat.le_of_ble_eq_true rfl, Nat.le_of_ble_eq_true rfl⟩) ⟨ax_blind (fun _ _ _ _ _ => trivial), zr_8 (zp_K hK) (zp_P1 hP) (q0 := 0) rfl, ax_pre (zp_P1 hP) (zp_K hK) (zp_D1 hD) (fun _ _ => trivial)⟩ rfl rfl hl.1 rfl (lv_room (Nat.le_of_ble_eq_true rfl)) dX8_odds_17 ⟨Nat.le_of_ble_eq_true rfl, Nat.le_of_ble_eq_true rfl⟩) hS (fun q _ h => zp_F1 hD hS hA q h) (zp_F1 hD hS hA) (fun r17 u t H locs ht hvm hw hB hz1 hk1 hS1 => zo1 hB ht hP hD hk1 (zp_F1 hD hS hA) hS1 (fun hP hK1 hD hS => ?_))
    rcases hw with hw | hw | hw
    · obtain ⟨hw, h17_0, h17_1, h17_2, h17_3⟩ := hw
      subst hw
      exact absurd h17_0 (by decide)
    · obtain ⟨hw, h17_0, h17_1⟩ := hw
      subst hw
      refine lv_istore (lv' := [(4, .int 1), (0, .ref a0), (1, .int a1), (2, .int a2), (3, .int a3)]) hx hb dX8_odds_20 hl (by decide) rfl (fun ls hl => ?_)
      refine lv_iload hx hb dX8_odds_22 (lv_at hl 0 rfl) ?_
      refine lv_if_eq (tgt := 35) hx hb dX8_odds_24 (by decide) (fun c24 => absurd c24 (by decide +kernel)) (fun _ => ?_)
      refine lv_aload_n hx hb dX8_odds_27 rfl (lv_at hl 1 rfl) ?_
      refine lv_iload hx hb dX8_odds_28 (lv_at hl 0 rfl) ?_
      refine va_calli (va_runV (As := [.int 1]) (rest := []) ⟨hx, hb, hml, hown, hts⟩ (c_X8_no l dC dI H.size a0 1 (Value.int v1na0_0) a0g_1 a0g_2 a0g_3 a0g_4 a0g_5 a0g_6 a0g_7 a0g_8 a0g_9 a0g_10 a0g_12 a0g_13 (Value.int a0_14) a0g_15 a0g_16 a0g_17 a0g_18 a0g_19 a0g_20 a0g_21 a0g_22 a0g_23 a0g_24 a0g_25 a0g_26 a0g_27 a0g_28 a0g_29 a0g_30 a0g_31 a0g_32 a0g_33 a0g_34 a0g_35 a0g_36 a0g_37 a0g_38 a0g_39 v1na0_11 ) (cwV 1 hts gX8_odds_X8_no rfl rfl rfl zd_X8_no ⟨Nat.le_of_ble_eq_true rfl, Nat.le_of_ble_eq_true rfl⟩) ⟨ax_blind (fun _ _ _ _ _ => trivial), zr_8 (zp_K hK) (zp_P1 hP) (q0 := 0) rfl, ax_pre (zp_P1 hP) (zp_K hK) (zp_D1 hD) (fun _ _ => trivial)⟩ rfl rfl hl.1 rfl (lv_room (Nat.le_of_ble_eq_true rfl)) dX8_odds_30 ⟨Nat.le_of_ble_eq_true rfl, Nat.le_of_ble_eq_true rfl⟩) hS (fun q _ h => zp_F1 hD hS hA q h) (zp_F1 hD hS hA) (fun r30 u t H locs ht hvm hw hB hz1 hk1 hS1 => zx_1 hB (fun v30na0_11 hB => zo1 hB ht hP hD hk1 (zp_F1 hD hS hA) hS1 (fun hP hK1 hD hS => ?_)))
      have hw : r30 = (-1) := hw
      have hw := hw.symm
      subst hw
      obtain ⟨x33, ex33⟩ : ∃ y : Int64, y = ((-1) : Int32).toInt64 := ⟨_, rfl⟩
      refine lv_i2l (v := x33) hx hb dX8_odds_33 ex33.symm ?_
      exact W.lret (v := x33) hx hb hr (fun t ht hW => ⟨⟨x33, (), rfl, trivial, v1na0_0, v30na0_11, by rw [ht]; exact hP, va_K.moved hW.alike hK, hD⟩, hS.F ht⟩) hS.2.2 dX8_odds_34
    · obtain ⟨hw, h17_0, h17_1, h17_2, h17_3⟩ := hw
      subst hw
      exact absurd h17_0 (by decide)

set_option maxHeartbeats 4000000 in
set_option maxRecDepth 100000 in
theorem c0_X8_mean (l : Launch) (dC : Nat → ClassId) (dI : Nat → Nat → Nat) (sz : Nat) (a0 : Nat) (a1 : Int32) (a2 : Int32) (a3 : Int32) (a0_0 : Int32) (a0g_1 a0g_2 a0g_3 a0g_4 a0g_5 a0g_6 a0g_7 a0g_8 a0g_9 a0g_10 a0g_12 a0g_13 a0g_15 a0g_16 a0g_17 a0g_18 a0g_19 a0g_20 a0g_21 a0g_22 a0g_23 a0g_24 a0g_25 a0g_26 a0g_27 a0g_28 a0g_29 a0g_30 a0g_31 a0g_32 a0g_33 a0g_34 a0g_35 a0g_36 a0g_37 a0g_38 a0g_39 : Value) (a0_11 : Int32) (a0_14 : Int32) (ba0_14_l : (0 : Int) ≤ a0_14.toInt) (ba0_14_u : a0_14.toInt ≤ (0 : Int)) : zm l yX8_mean wsX8_mean ({ frames := 1, cells := 0, slots := 0, locals := 22 }) [.ref a0, .int a1, .int a2, .int a3] dC dI sz [(a0, .inr (8, [Value.int a0_0, a0g_1, a0g_2, a0g_3, a0g_4, a0g_5, a0g_6, a0g_7, a0g_8, a0g_9, a0g_10, Value.int a0_11, a0g_12, a0g_13, Value.int a0_14, a0g_15, a0g_16, a0g_17, a0g_18, a0g_19, a0g_20, a0g_21, a0g_22, a0g_23, a0g_24, a0g_25, a0g_26, a0g_27, a0g_28, a0g_29, a0g_30, a0g_31, a0g_32, a0g_33, a0g_34, a0g_35, a0g_36, a0g_37, a0g_38, a0g_39]))] [] (fun A _ => True) (fun A => va_Ql (fun (r : Int64) (_ : Unit) => True) (fun (_ : Unit) (t : State) => ∃ na0_0 : Int32, ∃ na0_11 : Int32, ax_B dC dI A [(a0, .inr (8, [Value.int na0_0, a0g_1, a0g_2, a0g_3, a0g_4, a0g_5, a0g_6, a0g_7, a0g_8, a0g_9, a0g_10, Value.int na0_11, a0g_12, a0g_13, Value.int a0_14, a0g_15, a0g_16, a0g_17, a0g_18, a0g_19, a0g_20, a0g_21, a0g_22, a0g_23, a0g_24, a0g_25, a0g_26, a0g_27, a0g_28, a0g_29, a0g_30, a0g_31, a0g_32, a0g_33, a0g_34, a0g_35, a0g_36, a0g_37, a0g_38, a0g_39]))] [] t) A) := by
  refine zh (cc := cX8_mean) (maxL := 5) (ret := (some .long)) zn_RX8 rfl (Nat.le_of_ble_eq_true rfl) (fun p e s m below meth c A ls hx hb hml hr hts (hown : s.vm.findClass RX8 = some m.cls) hlocks hA hS hP hK hD hE (hl : lv_has ls 5 [(0, .ref a0), (1, .int a1), (2, .int a2), (3, .int a3)]) => ?_)
  refine lv_aload_n hx hb dX8_mean_0 rfl (lv_at hl 0 rfl) ?_
  refine va_callv (va_runV (As := []) (rest := []) ⟨hx, hb, hml, hown, hts⟩ (c_X8_good l dC dI s.heap.size a0 a0_0 a0g_1 a0g_2 a0g_3 a0g_4 a0g_5 a0g_6 a0g_7 a0g_8 a0g_9 a0g_10 a0g_12 a0g_13 (Value.int a0_14) a0g_15 a0g_16 a0g_17 a0g_18 a0g_19 a0g_20 a0g_21 a0g_22 a0g_23 a0g_24 a0g_25 a0g_26 a0g_27 a0g_28 a0g_29 a0g_30 a0g_31 a0g_32 a0g_33 a0g_34 a0g_35 a0g_36 a0g_37 a0g_38 a0g_39 a0_11 ) (cwV 0 hts gX8_mean_X8_good rfl rfl rfl zd_X8_good ⟨Nat.le_of_ble_eq_true rfl, Nat.le_of_ble_eq_true rfl⟩) ⟨ax_blind (fun _ _ _ _ _ => trivial), zr_8 (zp_K hK) (zp_P1 hP) (q0 := 0) rfl, ax_pre (zp_P1 hP) (zp_K hK) (zp_D1 hD) (fun _ _ => trivial)⟩ rfl rfl hl.1 rfl (lv_room (Nat.le_of_ble_eq_true rfl)) dX8_mean_1 ⟨Nat.le_of_ble_eq_true rfl, Nat.le_of_ble_eq_true rfl⟩) hS (fun q _ h => zp_F1 hD hS hA q h) (zp_F1 hD hS hA) (fun u t H locs ht hvm hw hB hz1 hk1 hS1 => zx_2 hB (fun v1na0_0 v1na0_11 hB => zo1 hB ht hP hD hk1 (zp_F1 hD hS hA) hS1 (fun hP hK1 hD hS => ?_)))
  refine lv_aload_n hx hb dX8_mean_4 rfl (lv_at hl 0 rfl) ?_
  refine lv_aload_n hx hb dX8_mean_5 rfl (lv_at hl 0 rfl) ?_
  refine lv_iload_n hx hb dX8_mean_6 rfl (lv_at hl 1 rfl) ?_
  refine va_calli (va_runV (As := [.int a1]) (rest := [.ref a0]) ⟨hx, hb, hml, hown, hts⟩ (c0_X8_isFigure l dC dI H.size a0 a1 (Value.int v1na0_0) a0g_1 a0g_2 a0g_3 a0g_4 a0g_5 a0g_6 a0g_7 a0g_8 a0g_9 a0g_10 (Value.int v1na0_11) a0g_12 a0g_13 a0g_15 a0g_16 a0g_17 a0g_18 a0g_19 a0g_20 a0g_21 a0g_22 a0g_23 a0g_24 a0g_25 a0g_26 a0g_27 a0g_28 a0g_29 a0g_30 a0g_31 a0g_32 a0g_33 a0g_34 a0g_35 a0g_36 a0g_37 a0g_38 a0g_39 a0_14 ba0_14_l ba0_14_u) (cwV 1 hts gX8_mean_X8_isFigure rfl rfl rfl zd_X8_isFigure ⟨Nat.le_of_ble_eq_true rfl, Nat.le_of_ble_eq_true rfl⟩) ⟨ax_blind (fun _ _ _ _ _ => trivial), zr_8 (zp_K hK) (zp_P1 hP) (q0 := 0) rfl, ax_pre (zp_P1 hP) (zp_K hK) (zp_D1 hD) (fun _ _ => trivial)⟩ rfl rfl hl.1 rfl (lv_room (Nat.le_of_ble_eq_true rfl)) dX8_mean_7 ⟨Nat.le_of_ble_eq_true rfl, Nat.le_of_ble_eq_true rfl⟩) hS (fun q _ h => zp_F1 hD hS hA q h) (zp_F1 hD hS hA) (fun r7 u t H locs ht hvm hw hB hz1 hk1 hS1 => zo1 hB ht hP hD hk1 (zp_F1 hD hS hA) hS1 (fun hP hK1 hD hS => ?_))
  have hw : r7 = 0 := hw
  have hw := hw.symm
  subst hw
  refine lv_iload_n hx hb dX8_mean_10 rfl (lv_at hl 2 rfl) ?_
  refine lv_iconst (v := 0) hx hb dX8_mean_11 zk_iconst_0 ?_
  refine lv_bipush (v := 8) hx hb dX8_mean_12 zk_bipush_8 ?_
  refine va_calli (va_runS (As := [.int a2, .int 0, .int 8]) (rest := [.int 0, .ref a0]) ⟨hx, hb, hml, hown, hts⟩ (c_X8_in l dC dI H.size a2 0 8 ) (va_cwS 3 hts gX8_mean_X8_in rfl rfl rfl zd_X8_in.2 ⟨Nat.le_of_ble_eq_true rfl, Nat.le_of_ble_eq_true rfl⟩) ⟨ax_blind (fun _ _ _ _ _ => trivial), ax_pre (zp_P0 hP) (zp_K hK) (zp_D0 hD) (fun _ _ => trivial)⟩ rfl rfl hl.1 rfl (lv_room (Nat.le_of_ble_eq_true rfl)) dX8_mean_14 ⟨Nat.le_of_ble_eq_true rfl, Nat.le_of_ble_eq_true rfl⟩) hS (fun q _ h => zp_F0 hD hS hA q h) (zp_F0 hD hS hA) (fun r14 u t H locs ht hvm hw hB hz1 hk1 hS1 => zo0 hB ht hP hD hk1 (zp_F0 hD hS hA) hS1 (fun hP hK1 hD hS => ?_))
  rcases hw with hw | hw
  · obtain ⟨hw, h14⟩ := hw
    subst hw
    have l14k0_a2 : (0 : Int) ≤ a2.toInt := Int.le_trans zq5 h14.1
    have u14k0_a2 : a2.toInt ≤ (8 : Int) := Int.le_trans h14.2 zq28
    refine va_calli (va_runV (As := [.int 0, .int 1]) (rest := []) ⟨hx, hb, hml, hown, hts⟩ (c_X8_whyB l dC dI H.size a0 0 1 (Value.int v1na0_0) a0g_1 a0g_2 a0g_3 a0g_4 a0g_5 a0g_6 a0g_7 a0g_8 a0g_9 a0g_10 (Value.int v1na0_11) a0g_12 a0g_13 (Value.int a0_14) a0g_15 a0g_16 a0g_17 a0g_18 a0g_19 a0g_20 a0g_21 a0g_22 a0g_23 a0g_24 a0g_25 a0g_26 a0g_27 a0g_28 a0g_29 a0g_30 a0g_31 a0g_32 a0g_33 a0g_34 a0g_35 a0g_36 a0g_37 a0g_38 a0g_39 zq5 (Int.le_trans zq6 zq4) (Int.le_trans zq4 zq1) zq0) (cwV 2 hts gX8_mean_X8_why rfl rfl rfl zd_X8_why ⟨Nat.le_of_ble_eq_true rfl, Nat.le_of_ble_eq_true rfl⟩) ⟨ax_blind (fun _ _ _ _ _ => trivial), zr_8 (zp_K hK) (zp_P1 hP) (q0 := 0) rfl, ax_pre (zp_P1 hP) (zp_K hK) (zp_D1 hD) (fun _ _ => trivial)⟩ rfl rfl hl.1 rfl (lv_room (Nat.le_of_ble_eq_true rfl)) dX8_mean_17 ⟨Nat.le_of_ble_eq_true rfl, Nat.le_of_ble_eq_true rfl⟩) hS (fun q _ h => zp_F1 hD hS hA q h) (zp_F1 hD hS hA) (fun r17 u t H locs ht hvm hw hB hz1 hk1 hS1 => zo1 hB ht hP hD hk1 (zp_F1 hD hS hA) hS1 (fun hP hK1 hD hS => ?_))
    rcases hw with hw | hw | hw
    · obtain ⟨hw, h17_0, h17_1, h17_2, h17_3⟩ := hw
      subst hw
      exact absurd h17_0 (by decide)
    · obtain ⟨hw, h17_0, h17_1⟩ := hw
      subst hw
      refine lv_istore (lv' := [(4, .int 1), (0, .ref a0), (1, .int a1), (2, .int a2), (3, .int a3)]) hx hb dX8_mean_20 hl (by decide) rfl (fun ls hl => ?_)
      refine lv_iload hx hb dX8_mean_22 (lv_at hl 0 rfl) ?_
      refine lv_if_eq (tgt := 35) hx hb dX8_mean_24 (by decide) (fun c24 => absurd c24 (by decide +kernel)) (fun _ => ?_)
      refine lv_aload_n hx hb dX8_mean_27 rfl (lv_at hl 1 rfl) ?_
      refine lv_iload hx hb dX8_mean_28 (lv_at hl 0 rfl) ?_
      refine va_calli (va_runV (As := [.int 1]) (rest := []) ⟨hx, hb, hml, hown, hts⟩ (c_X8_no l dC dI H.size a0 1 (Value.int v1na0_0) a0g_1 a0g_2 a0g_3 a0g_4 a0g_5 a0g_6 a0g_7 a0g_8 a0g_9 a0g_10 a0g_12 a0g_13 (Value.int a0_14) a0g_15 a0g_16 a0g_17 a0g_18 a0g_19 a0g_20 a0g_21 a0g_22 a0g_23 a0g_24 a0g_25 a0g_26 a0g_27 a0g_28 a0g_29 a0g_30 a0g_31 a0g_32 a0g_33 a0g_34 a0g_35 a0g_36 a0g_37 a0g_38 a0g_39 v1na0_11 ) (cwV 1 hts gX8_mean_X8_no rfl rfl rfl zd_X8_no ⟨Nat.le_of_ble_eq_true rfl, Nat.le_of_ble_eq_true rfl⟩) ⟨ax_blind (fun _ _ _ _ _ => trivial), zr_8 (zp_K hK) (zp_P1 hP) (q0 := 0) rfl, ax_pre (zp_P1 hP) (zp_K hK) (zp_D1 hD) (fun _ _ => trivial)⟩ rfl rfl hl.1 rfl (lv_room (Nat.le_of_ble_eq_true rfl)) dX8_mean_30 ⟨Nat.le_of_ble_eq_true rfl, Nat.le_of_ble_eq_true rfl⟩) hS (fun q _ h => zp_F1 hD hS hA q h) (zp_F1 hD hS hA) (fun r30 u t H locs ht hvm hw hB hz1 hk1 hS1 => zx_1 hB (fun v30na0_11 hB => zo1 hB ht hP hD hk1 (zp_F1 hD hS hA) hS1 (fun hP hK1 hD hS => ?_)))
      have hw : r30 = (-1) := hw
      have hw := hw.symm
      subst hw
      obtain ⟨x33, ex33⟩ : ∃ y : Int64, y = ((-1) : Int32).toInt64 := ⟨_, rfl⟩
      refine lv_i2l (v := x33) hx hb dX8_mean_33 ex33.symm ?_
      exact W.lret (v := x33) hx hb hr (fun t ht hW => ⟨⟨x33, (), rfl, trivial, v1na0_0, v30na0_11, by rw [ht]; exact hP, va_K.moved hW.alike hK, hD⟩, hS.F ht⟩) hS.2.2 dX8_mean_34
    · obtain ⟨hw, h17_0, h17_1, h17_2, h17_3⟩ := hw
      subst hw
      exact absurd h17_0 (by decide)
  · obtain ⟨hw, h14⟩ := hw
    subst hw
    refine va_calli (va_runV (As := [.int 0, .int 0]) (rest := []) ⟨hx, hb, hml, hown, hts⟩ (c_X8_whyB l dC dI H.size a0 0 0 (Value.int v1na0_0) a0g_1 a0g_2 a0g_3 a0g_4 a0g_5 a0g_6 a0g_7 a0g_8 a0g_9 a0g_10 (Value.int v1na0_11) a0g_12 a0g_13 (Value.int a0_14) a0g_15 a0g_16 a0g_17 a0g_18 a0g_19 a0g_20 a0g_21 a0g_22 a0g_23 a0g_24 a0g_25 a0g_26 a0g_27 a0g_28 a0g_29 a0g_30 a0g_31 a0g_32 a0g_33 a0g_34 a0g_35 a0g_36 a0g_37 a0g_38 a0g_39 zq5 (Int.le_trans zq6 zq4) zq5 (Int.le_trans zq6 zq4)) (cwV 2 hts gX8_mean_X8_why rfl rfl rfl zd_X8_why ⟨Nat.le_of_ble_eq_true rfl, Nat.le_of_ble_eq_true rfl⟩) ⟨ax_blind (fun _ _ _ _ _ => trivial), zr_8 (zp_K hK) (zp_P1 hP) (q0 := 0) rfl, ax_pre (zp_P1 hP) (zp_K hK) (zp_D1 hD) (fun _ _ => trivial)⟩ rfl rfl hl.1 rfl (lv_room (Nat.le_of_ble_eq_true rfl)) dX8_mean_17 ⟨Nat.le_of_ble_eq_true rfl, Nat.le_of_ble_eq_true rfl⟩) hS (fun q _ h => zp_F1 hD hS hA q h) (zp_F1 hD hS hA) (fun r17 u t H locs ht hvm hw hB hz1 hk1 hS1 => zo1 hB ht hP hD hk1 (zp_F1 hD hS hA) hS1 (fun hP hK1 hD hS => ?_))
    rcases hw with hw | hw | hw
    · obtain ⟨hw, h17_0, h17_1, h17_2, h17_3⟩ := hw
      subst hw
      exact absurd h17_0 (by decide)
    · obtain ⟨hw, h17_0, h17_1⟩ := hw
      subst hw
      refine lv_istore (lv' := [(4, .int 1), (0, .ref a0), (1, .int a1), (2, .int a2), (3, .int a3)]) hx hb dX8_mean_20 hl (by decide) rfl (fun ls hl => ?_)
      refine lv_iload hx hb dX8_mean_22 (lv_at hl 0 rfl) ?_
      refine lv_if_eq (tgt := 35) hx hb dX8_mean_24 (by decide) (fun c24 => absurd c24 (by decide +kernel)) (fun _ => ?_)
      refine lv_aload_n hx hb dX8_mean_27 rfl (lv_at hl 1 rfl) ?_
      refine lv_iload hx hb dX8_mean_28 (lv_at hl 0 rfl) ?_
      refine va_calli (va_runV (As := [.int 1]) (rest := []) ⟨hx, hb, hml, hown, hts⟩ (c_X8_no l dC dI H.size a0 1 (Value.int v1na0_0) a0g_1 a0g_2 a0g_3 a0g_4 a0g_5 a0g_6 a0g_7 a0g_8 a0g_9 a0g_10 a0g_12 a0g_13 (Value.int a0_14) a0g_15 a0g_16 a0g_17 a0g_18 a0g_19 a0g_20 a0g_21 a0g_22 a0g_23 a0g_24 a0g_25 a0g_26 a0g_27 a0g_28 a0g_29 a0g_30 a0g_31 a0g_32 a0g_33 a0g_34 a0g_35 a0g_36 a0g_37 a0g_38 a0g_39 v1na0_11 ) (cwV 1 hts gX8_mean_X8_no rfl rfl rfl zd_X8_no ⟨Nat.le_of_ble_eq_true rfl, Nat.le_of_ble_eq_true rfl⟩) ⟨ax_blind (fun _ _ _ _ _ => trivial), zr_8 (zp_K hK) (zp_P1 hP) (q0 := 0) rfl, ax_pre (zp_P1 hP) (zp_K hK) (zp_D1 hD) (fun _ _ => trivial)⟩ rfl rfl hl.1 rfl (lv_room (Nat.le_of_ble_eq_true rfl)) dX8_mean_30 ⟨Nat.le_of_ble_eq_true rfl, Nat.le_of_ble_eq_true rfl⟩) hS (fun q _ h => zp_F1 hD hS hA q h) (zp_F1 hD hS hA) (fun r30 u t H locs ht hvm hw hB hz1 hk1 hS1 => zx_1 hB (fun v30na0_11 hB => zo1 hB ht hP hD hk1 (zp_F1 hD hS hA) hS1 (fun hP hK1 hD hS => ?_)))
      have hw : r30 = (-1) := hw
      have hw := hw.symm
      subst hw
      obtain ⟨x33, ex33⟩ : ∃ y : Int64, y = ((-1) : Int32).toInt64 := ⟨_, rfl⟩
      refine lv_i2l (v := x33) hx hb dX8_mean_33 ex33.symm ?_
      exact W.lret (v := x33) hx hb hr (fun t ht hW => ⟨⟨x33, (), rfl, trivial, v1na0_0, v30na0_11, by rw [ht]; exact hP, va_K.moved hW.alike hK, hD⟩, hS.F ht⟩) hS.2.2 dX8_mean_34
    · obtain ⟨hw, h17_0, h17_1, h17_2, h17_3⟩ := hw
      subst hw
      exact absurd h17_0 (by decide)

set_option maxHeartbeats 4000000 in
set_option maxRecDepth 100000 in
theorem c0_X8_dares (l : Launch) (dC : Nat → ClassId) (dI : Nat → Nat → Nat) (sz : Nat) (a0 : Nat) (a1 : Int32) (a2 : Int32) (a3 : Int32) (a4 : Int32) (a0_0 : Int32) (a0g_1 a0g_2 a0g_3 a0g_4 a0g_5 a0g_6 a0g_7 a0g_8 a0g_9 a0g_10 a0g_12 a0g_13 a0g_15 a0g_16 a0g_17 a0g_18 a0g_19 a0g_20 a0g_21 a0g_22 a0g_23 a0g_24 a0g_25 a0g_26 a0g_27 a0g_28 a0g_29 a0g_30 a0g_31 a0g_32 a0g_33 a0g_34 a0g_35 a0g_36 a0g_37 a0g_38 a0g_39 : Value) (a0_11 : Int32) (a0_14 : Int32) (ba0_14_l : (0 : Int) ≤ a0_14.toInt) (ba0_14_u : a0_14.toInt ≤ (0 : Int)) : zm l yX8_dares wsX8_dares ({ frames := 1, cells := 0, slots := 0, locals := 22 }) [.ref a0, .int a1, .int a2, .int a3, .int a4] dC dI sz [(a0, .inr (8, [Value.int a0_0, a0g_1, a0g_2, a0g_3, a0g_4, a0g_5, a0g_6, a0g_7, a0g_8, a0g_9, a0g_10, Value.int a0_11, a0g_12, a0g_13, Value.int a0_14, a0g_15, a0g_16, a0g_17, a0g_18, a0g_19, a0g_20, a0g_21, a0g_22, a0g_23, a0g_24, a0g_25, a0g_26, a0g_27, a0g_28, a0g_29, a0g_30, a0g_31, a0g_32, a0g_33, a0g_34, a0g_35, a0g_36, a0g_37, a0g_38, a0g_39]))] [] (fun A _ => True) (fun A => va_Qi (fun (r : Int32) (_ : Unit) => r = (-100)) (fun (_ : Unit) (t : State) => ∃ na0_0 : Int32, ∃ na0_11 : Int32, ax_B dC dI A [(a0, .inr (8, [Value.int na0_0, a0g_1, a0g_2, a0g_3, a0g_4, a0g_5, a0g_6, a0g_7, a0g_8, a0g_9, a0g_10, Value.int na0_11, a0g_12, a0g_13, Value.int a0_14, a0g_15, a0g_16, a0g_17, a0g_18, a0g_19, a0g_20, a0g_21, a0g_22, a0g_23, a0g_24, a0g_25, a0g_26, a0g_27, a0g_28, a0g_29, a0g_30, a0g_31, a0g_32, a0g_33, a0g_34, a0g_35, a0g_36, a0g_37, a0g_38, a0g_39]))] [] t) A) := by
  refine zh (cc := cX8_dares) (maxL := 6) (ret := (some .int)) zn_RX8 rfl (Nat.le_of_ble_eq_true rfl) (fun p e s m below meth c A ls hx hb hml hr hts (hown : s.vm.findClass RX8 = some m.cls) hlocks hA hS hP hK hD hE (hl : lv_has ls 6 [(0, .ref a0), (1, .int a1), (2, .int a2), (3, .int a3), (4, .int a4)]) => ?_)
  refine lv_aload_n hx hb dX8_dares_0 rfl (lv_at hl 0 rfl) ?_
  refine va_callv (va_runV (As := []) (rest := []) ⟨hx, hb, hml, hown, hts⟩ (c_X8_good l dC dI s.heap.size a0 a0_0 a0g_1 a0g_2 a0g_3 a0g_4 a0g_5 a0g_6 a0g_7 a0g_8 a0g_9 a0g_10 a0g_12 a0g_13 (Value.int a0_14) a0g_15 a0g_16 a0g_17 a0g_18 a0g_19 a0g_20 a0g_21 a0g_22 a0g_23 a0g_24 a0g_25 a0g_26 a0g_27 a0g_28 a0g_29 a0g_30 a0g_31 a0g_32 a0g_33 a0g_34 a0g_35 a0g_36 a0g_37 a0g_38 a0g_39 a0_11 ) (cwV 0 hts gX8_dares_X8_good rfl rfl rfl zd_X8_good ⟨Nat.le_of_ble_eq_true rfl, Nat.le_of_ble_eq_true rfl⟩) ⟨ax_blind (fun _ _ _ _ _ => trivial), zr_8 (zp_K hK) (zp_P1 hP) (q0 := 0) rfl, ax_pre (zp_P1 hP) (zp_K hK) (zp_D1 hD) (fun _ _ => trivial)⟩ rfl rfl hl.1 rfl (lv_room (Nat.le_of_ble_eq_true rfl)) dX8_dares_1 ⟨Nat.le_of_ble_eq_true rfl, Nat.le_of_ble_eq_true rfl⟩) hS (fun q _ h => zp_F1 hD hS hA q h) (zp_F1 hD hS hA) (fun u t H locs ht hvm hw hB hz1 hk1 hS1 => zx_2 hB (fun v1na0_0 v1na0_11 hB => zo1 hB ht hP hD hk1 (zp_F1 hD hS hA) hS1 (fun hP hK1 hD hS => ?_)))
  refine lv_aload_n hx hb dX8_dares_4 rfl (lv_at hl 0 rfl) ?_
  refine lv_aload_n hx hb dX8_dares_5 rfl (lv_at hl 0 rfl) ?_
  refine va_get (D := (dC, dI)) (ci := 8) (v := .int a0_14) (C := RX8) (T := TX8) (N := 40) hx hb hts zi_X8_dares_8 hown hK hP 0 rfl rfl 14 (by decide) (hts (.fieldLink RX8 173 "WaxTurnsModel" "hasGallery" "Z") (List.mem_cons_of_mem _ (List.mem_append_left _ (List.mem_of_getElem? (i := 0) rfl)))) (fun _ h9 => h9) rfl dX8_dares_6 ?_
  refine lv_iload_n hx hb dX8_dares_9 rfl (lv_at hl 1 rfl) ?_
  refine lv_iconst (v := 0) hx hb dX8_dares_10 zk_iconst_0 ?_
  refine lv_bipush (v := 9) hx hb dX8_dares_11 zk_bipush_9 ?_
  refine va_calli (va_runS (As := [.int a1, .int 0, .int 9]) (rest := [.int a0_14, .ref a0]) ⟨hx, hb, hml, hown, hts⟩ (c_X8_in l dC dI H.size a1 0 9 ) (va_cwS 3 hts gX8_dares_X8_in rfl rfl rfl zd_X8_in.2 ⟨Nat.le_of_ble_eq_true rfl, Nat.le_of_ble_eq_true rfl⟩) ⟨ax_blind (fun _ _ _ _ _ => trivial), ax_pre (zp_P0 hP) (zp_K hK) (zp_D0 hD) (fun _ _ => trivial)⟩ rfl rfl hl.1 rfl (lv_room (Nat.le_of_ble_eq_true rfl)) dX8_dares_13 ⟨Nat.le_of_ble_eq_true rfl, Nat.le_of_ble_eq_true rfl⟩) hS (fun q _ h => zp_F0 hD hS hA q h) (zp_F0 hD hS hA) (fun r13 u t H locs ht hvm hw hB hz1 hk1 hS1 => zo0 hB ht hP hD hk1 (zp_F0 hD hS hA) hS1 (fun hP hK1 hD hS => ?_))
  rcases hw with hw | hw
  · obtain ⟨hw, h13⟩ := hw
    subst hw
    have l13k0_a1 : (0 : Int) ≤ a1.toInt := Int.le_trans zq5 h13.1
    have u13k0_a1 : a1.toInt ≤ (9 : Int) := Int.le_trans h13.2 zq3
    refine va_calli (va_runV (As := [.int a0_14, .int 1]) (rest := []) ⟨hx, hb, hml, hown, hts⟩ (c_X8_whyB l dC dI H.size a0 a0_14 1 (Value.int v1na0_0) a0g_1 a0g_2 a0g_3 a0g_4 a0g_5 a0g_6 a0g_7 a0g_8 a0g_9 a0g_10 (Value.int v1na0_11) a0g_12 a0g_13 (Value.int a0_14) a0g_15 a0g_16 a0g_17 a0g_18 a0g_19 a0g_20 a0g_21 a0g_22 a0g_23 a0g_24 a0g_25 a0g_26 a0g_27 a0g_28 a0g_29 a0g_30 a0g_31 a0g_32 a0g_33 a0g_34 a0g_35 a0g_36 a0g_37 a0g_38 a0g_39 ba0_14_l (Int.le_trans ba0_14_u zq4) (Int.le_trans zq4 zq1) zq0) (cwV 2 hts gX8_dares_X8_why rfl rfl rfl zd_X8_why ⟨Nat.le_of_ble_eq_true rfl, Nat.le_of_ble_eq_true rfl⟩) ⟨ax_blind (fun _ _ _ _ _ => trivial), zr_8 (zp_K hK) (zp_P1 hP) (q0 := 0) rfl, ax_pre (zp_P1 hP) (zp_K hK) (zp_D1 hD) (fun _ _ => trivial)⟩ rfl rfl hl.1 rfl (lv_room (Nat.le_of_ble_eq_true rfl)) dX8_dares_16 ⟨Nat.le_of_ble_eq_true rfl, Nat.le_of_ble_eq_true rfl⟩) hS (fun q _ h => zp_F1 hD hS hA q h) (zp_F1 hD hS hA) (fun r16 u t H locs ht hvm hw hB hz1 hk1 hS1 => zo1 hB ht hP hD hk1 (zp_F1 hD hS hA) hS1 (fun hP hK1 hD hS => ?_))
    rcases hw with hw | hw | hw
    · obtain ⟨hw, h16_0, h16_1, h16_2, h16_3⟩ := hw
      subst hw
      have l16k0_a0_14 : (1 : Int) ≤ a0_14.toInt := h16_0
      have u16k0_a0_14 : a0_14.toInt ≤ (0 : Int) := ba0_14_u
      exact absurd (Int.le_trans l16k0_a0_14 u16k0_a0_14) (by decide)
    · obtain ⟨hw, h16_0, h16_1⟩ := hw
      subst hw
      have l16k1_a0_14 : (0 : Int) ≤ a0_14.toInt := ba0_14_l
      have u16k1_a0_14 : a0_14.toInt ≤ (0 : Int) := ba0_14_u
      refine lv_istore (lv' := [(5, .int 1), (0, .ref a0), (1, .int a1), (2, .int a2), (3, .int a3), (4, .int a4)]) hx hb dX8_dares_19 hl (by decide) rfl (fun ls hl => ?_)
      refine lv_iload hx hb dX8_dares_21 (lv_at hl 0 rfl) ?_
      refine lv_if_ne (tgt := 46) hx hb dX8_dares_23 (by decide) (fun _ => ?_) (fun c23 => absurd c23 (by decide +kernel))
      refine lv_aload_n hx hb dX8_dares_46 rfl (lv_at hl 1 rfl) ?_
      refine lv_iload hx hb dX8_dares_47 (lv_at hl 0 rfl) ?_
      refine va_put (D := (dC, dI)) (ci := 8) (v := .int 1) (ty := .int) (C := RX8) (T := TX8) (N := 40) hx hb hts zi_X8_dares_8 tyX8 tyX8_ok nmX8 hown hK hP hD hS 0 rfl rfl 11 (by decide) (hts (.fieldLink RX8 62 "WaxTurnsModel" "trouble" "I") (List.mem_cons_of_mem _ (List.mem_append_left _ (List.mem_of_getElem? (i := 1) rfl)))) (fun _ h9 => h9) rfl (tyX8_ok 11 (by decide)) rfl rfl (Nat.le_of_ble_eq_true rfl) dX8_dares_49 (fun H locs hP hD hS => ?_)
      refine zs_0 (y := (a0, .inr (8, [Value.int v1na0_0, a0g_1, a0g_2, a0g_3, a0g_4, a0g_5, a0g_6, a0g_7, a0g_8, a0g_9, a0g_10, Value.int 1, a0g_12, a0g_13, Value.int a0_14, a0g_15, a0g_16, a0g_17, a0g_18, a0g_19, a0g_20, a0g_21, a0g_22, a0g_23, a0g_24, a0g_25, a0g_26, a0g_27, a0g_28, a0g_29, a0g_30, a0g_31, a0g_32, a0g_33, a0g_34, a0g_35, a0g_36, a0g_37, a0g_38, a0g_39]))) hP hD rfl (fun hP hD => ?_)
      refine lv_bipush (v := (-100)) hx hb dX8_dares_52 zk_bipush_n100 ?_
      exact W.iret (v := (-100)) hx hb hr (fun t ht hW => ⟨⟨(-100), (), rfl, rfl, v1na0_0, 1, by rw [ht]; exact hP, va_K.moved hW.alike hK, hD⟩, hS.F ht⟩) hS.2.2 dX8_dares_54
    · obtain ⟨hw, h16_0, h16_1, h16_2, h16_3⟩ := hw
      subst hw
      have l16k2_a0_14 : (1 : Int) ≤ a0_14.toInt := h16_0
      have u16k2_a0_14 : a0_14.toInt ≤ (0 : Int) := ba0_14_u
      exact absurd (Int.le_trans l16k2_a0_14 u16k2_a0_14) (by decide)
  · obtain ⟨hw, h13⟩ := hw
    subst hw
    refine va_calli (va_runV (As := [.int a0_14, .int 0]) (rest := []) ⟨hx, hb, hml, hown, hts⟩ (c_X8_whyB l dC dI H.size a0 a0_14 0 (Value.int v1na0_0) a0g_1 a0g_2 a0g_3 a0g_4 a0g_5 a0g_6 a0g_7 a0g_8 a0g_9 a0g_10 (Value.int v1na0_11) a0g_12 a0g_13 (Value.int a0_14) a0g_15 a0g_16 a0g_17 a0g_18 a0g_19 a0g_20 a0g_21 a0g_22 a0g_23 a0g_24 a0g_25 a0g_26 a0g_27 a0g_28 a0g_29 a0g_30 a0g_31 a0g_32 a0g_33 a0g_34 a0g_35 a0g_36 a0g_37 a0g_38 a0g_39 ba0_14_l (Int.le_trans ba0_14_u zq4) zq5 (Int.le_trans zq6 zq4)) (cwV 2 hts gX8_dares_X8_why rfl rfl rfl zd_X8_why ⟨Nat.le_of_ble_eq_true rfl, Nat.le_of_ble_eq_true rfl⟩) ⟨ax_blind (fun _ _ _ _ _ => trivial), zr_8 (zp_K hK) (zp_P1 hP) (q0 := 0) rfl, ax_pre (zp_P1 hP) (zp_K hK) (zp_D1 hD) (fun _ _ => trivial)⟩ rfl rfl hl.1 rfl (lv_room (Nat.le_of_ble_eq_true rfl)) dX8_dares_16 ⟨Nat.le_of_ble_eq_true rfl, Nat.le_of_ble_eq_true rfl⟩) hS (fun q _ h => zp_F1 hD hS hA q h) (zp_F1 hD hS hA) (fun r16 u t H locs ht hvm hw hB hz1 hk1 hS1 => zo1 hB ht hP hD hk1 (zp_F1 hD hS hA) hS1 (fun hP hK1 hD hS => ?_))
    rcases hw with hw | hw | hw
    · obtain ⟨hw, h16_0, h16_1, h16_2, h16_3⟩ := hw
      subst hw
      have l16k0_a0_14 : (1 : Int) ≤ a0_14.toInt := h16_0
      have u16k0_a0_14 : a0_14.toInt ≤ (0 : Int) := ba0_14_u
      exact absurd (Int.le_trans l16k0_a0_14 u16k0_a0_14) (by decide)
    · obtain ⟨hw, h16_0, h16_1⟩ := hw
      subst hw
      have l16k1_a0_14 : (0 : Int) ≤ a0_14.toInt := ba0_14_l
      have u16k1_a0_14 : a0_14.toInt ≤ (0 : Int) := ba0_14_u
      refine lv_istore (lv' := [(5, .int 1), (0, .ref a0), (1, .int a1), (2, .int a2), (3, .int a3), (4, .int a4)]) hx hb dX8_dares_19 hl (by decide) rfl (fun ls hl => ?_)
      refine lv_iload hx hb dX8_dares_21 (lv_at hl 0 rfl) ?_
      refine lv_if_ne (tgt := 46) hx hb dX8_dares_23 (by decide) (fun _ => ?_) (fun c23 => absurd c23 (by decide +kernel))
      refine lv_aload_n hx hb dX8_dares_46 rfl (lv_at hl 1 rfl) ?_
      refine lv_iload hx hb dX8_dares_47 (lv_at hl 0 rfl) ?_
      refine va_put (D := (dC, dI)) (ci := 8) (v := .int 1) (ty := .int) (C := RX8) (T := TX8) (N := 40) hx hb hts zi_X8_dares_8 tyX8 tyX8_ok nmX8 hown hK hP hD hS 0 rfl rfl 11 (by decide) (hts (.fieldLink RX8 62 "WaxTurnsModel" "trouble" "I") (List.mem_cons_of_mem _ (List.mem_append_left _ (List.mem_of_getElem? (i := 1) rfl)))) (fun _ h9 => h9) rfl (tyX8_ok 11 (by decide)) rfl rfl (Nat.le_of_ble_eq_true rfl) dX8_dares_49 (fun H locs hP hD hS => ?_)
      refine zs_0 (y := (a0, .inr (8, [Value.int v1na0_0, a0g_1, a0g_2, a0g_3, a0g_4, a0g_5, a0g_6, a0g_7, a0g_8, a0g_9, a0g_10, Value.int 1, a0g_12, a0g_13, Value.int a0_14, a0g_15, a0g_16, a0g_17, a0g_18, a0g_19, a0g_20, a0g_21, a0g_22, a0g_23, a0g_24, a0g_25, a0g_26, a0g_27, a0g_28, a0g_29, a0g_30, a0g_31, a0g_32, a0g_33, a0g_34, a0g_35, a0g_36, a0g_37, a0g_38, a0g_39]))) hP hD rfl (fun hP hD => ?_)
      refine lv_bipush (v := (-100)) hx hb dX8_dares_52 zk_bipush_n100 ?_
      exact W.iret (v := (-100)) hx hb hr (fun t ht hW => ⟨⟨(-100), (), rfl, rfl, v1na0_0, 1, by rw [ht]; exact hP, va_K.moved hW.alike hK, hD⟩, hS.F ht⟩) hS.2.2 dX8_dares_54
    · obtain ⟨hw, h16_0, h16_1, h16_2, h16_3⟩ := hw
      subst hw
      have l16k2_a0_14 : (1 : Int) ≤ a0_14.toInt := h16_0
      have u16k2_a0_14 : a0_14.toInt ≤ (0 : Int) := ba0_14_u
      exact absurd (Int.le_trans l16k2_a0_14 u16k2_a0_14) (by decide)
end P280_07_safe
section P280_08_safe
set_option maxHeartbeats 4000000 in
set_option maxRecDepth 100000 in
theorem c0_X8_size (l : Launch) (dC : Nat → ClassId) (dI : Nat → Nat → Nat) (sz : Nat) (a0 : Nat) (a1 : Int32) (a0_0 : Int32) (a0g_1 a0g_3 a0g_4 a0g_5 a0g_6 a0g_7 a0g_8 a0g_9 a0g_10 a0g_11 a0g_12 a0g_13 a0g_15 a0g_16 a0g_17 a0g_18 a0g_19 a0g_20 a0g_21 a0g_22 a0g_23 a0g_24 a0g_25 a0g_26 a0g_27 a0g_28 a0g_29 a0g_30 a0g_31 a0g_32 a0g_33 a0g_34 a0g_35 a0g_36 a0g_37 a0g_38 a0g_39 : Value) (a0_2 : Int32) (a0_14 : Int32) (ba0_2_l : (0 : Int) ≤ a0_2.toInt) (ba0_2_u : a0_2.toInt ≤ (900 : Int)) (ba0_14_l : (0 : Int) ≤ a0_14.toInt) (ba0_14_u : a0_14.toInt ≤ (0 : Int)) : zm l yX8_size wsX8_size ({ frames := 1, cells := 0, slots := 0, locals := 22 }) [.ref a0, .int a1] dC dI sz [(a0, .inr (8, [Value.int a0_0, a0g_1, Value.int a0_2, a0g_3, a0g_4, a0g_5, a0g_6, a0g_7, a0g_8, a0g_9, a0g_10, a0g_11, a0g_12, a0g_13, Value.int a0_14, a0g_15, a0g_16, a0g_17, a0g_18, a0g_19, a0g_20, a0g_21, a0g_22, a0g_23, a0g_24, a0g_25, a0g_26, a0g_27, a0g_28, a0g_29, a0g_30, a0g_31, a0g_32, a0g_33, a0g_34, a0g_35, a0g_36, a0g_37, a0g_38, a0g_39]))] [] (fun A _ => True) (fun A => va_Qi (fun (r : Int32) (_ : Unit) => (-1 : Int) ≤ r.toInt ∧ r.toInt ≤ (900 : Int)) (fun (_ : Unit) (t : State) => ∃ na0_0 : Int32, ax_B dC dI A [(a0, .inr (8, [Value.int na0_0, a0g_1, Value.int a0_2, a0g_3, a0g_4, a0g_5, a0g_6, a0g_7, a0g_8, a0g_9, a0g_10, a0g_11, a0g_12, a0g_13, Value.int a0_14, a0g_15, a0g_16, a0g_17, a0g_18, a0g_19, a0g_20, a0g_21, a0g_22, a0g_23, a0g_24, a0g_25, a0g_26, a0g_27, a0g_28, a0g_29, a0g_30, a0g_31, a0g_32, a0g_33, a0g_34, a0g_35, a0g_36, a0g_37, a0g_38, a0g_39]))] [] t) A) := by
  refine zh (cc := cX8_size) (maxL := 2) (ret := (some .int)) zn_RX8 rfl (Nat.le_of_ble_eq_true rfl) (fun p e s m below meth c A ls hx hb hml hr hts (hown : s.vm.findClass RX8 = some m.cls) hlocks hA hS hP hK hD hE (hl : lv_has ls 2 [(0, .ref a0), (1, .int a1)]) => ?_)
  refine lv_aload_n hx hb dX8_size_0 rfl (lv_at hl 0 rfl) ?_
  refine lv_iconst (v := 0) hx hb dX8_size_1 zk_iconst_0 ?_
  refine va_put (D := (dC, dI)) (ci := 8) (v := .int 0) (ty := .int) (C := RX8) (T := TX8) (N := 40) hx hb hts zi_X8_size_8 tyX8 tyX8_ok nmX8 hown hK hP hD hS 0 rfl rfl 0 (by decide) (hts (.fieldLink RX8 59 "WaxTurnsModel" "thrown" "I") (List.mem_cons_of_mem _ (List.mem_append_left _ (List.mem_of_getElem? (i := 0) rfl)))) (fun _ h9 => h9) rfl (tyX8_ok 0 (by decide)) rfl rfl (Nat.le_of_ble_eq_true rfl) dX8_size_2 (fun H locs hP hD hS => ?_)
  refine zs_0 (y := (a0, .inr (8, [Value.int 0, a0g_1, Value.int a0_2, a0g_3, a0g_4, a0g_5, a0g_6, a0g_7, a0g_8, a0g_9, a0g_10, a0g_11, a0g_12, a0g_13, Value.int a0_14, a0g_15, a0g_16, a0g_17, a0g_18, a0g_19, a0g_20, a0g_21, a0g_22, a0g_23, a0g_24, a0g_25, a0g_26, a0g_27, a0g_28, a0g_29, a0g_30, a0g_31, a0g_32, a0g_33, a0g_34, a0g_35, a0g_36, a0g_37, a0g_38, a0g_39]))) hP hD rfl (fun hP hD => ?_)
  refine lv_iload_n hx hb dX8_size_5 rfl (lv_at hl 1 rfl) ?_
  refine lv_bipush (v := 13) hx hb dX8_size_6 zk_bipush_13 ?_
  refine lv_icmp_ne (tgt := 16) hx hb dX8_size_8 (by decide) (fun c8 => ?_) (fun c8 => ?_)
  · have gc8 := ai_ne c8
    refine lv_aload_n hx hb dX8_size_16 rfl (lv_at hl 0 rfl) ?_
    refine va_get (D := (dC, dI)) (ci := 8) (v := .int a0_14) (C := RX8) (T := TX8) (N := 40) hx hb hts zi_X8_size_8 hown hK hP 0 rfl rfl 14 (by decide) (hts (.fieldLink RX8 173 "WaxTurnsModel" "hasGallery" "Z") (List.mem_cons_of_mem _ (List.mem_append_left _ (List.mem_of_getElem? (i := 2) rfl)))) (fun _ h9 => h9) rfl dX8_size_17 ?_
    refine lv_if_ne (tgt := 39) hx hb dX8_size_20 (by decide) (fun c20 => ?_) (fun c20 => ?_)
    · have gc20 := ai_ne c20
      have l20t_a0_14 : (1 : Int) ≤ a0_14.toInt := (by have h1 := ba0_14_l; have h2 : (0 : Int32).toInt = 0 := (by decide); rw [h2] at gc20; omega)
      have u20t_a0_14 : a0_14.toInt ≤ (-1 : Int) := (by have h1 := ba0_14_u; have h2 : (0 : Int32).toInt = 0 := (by decide); rw [h2] at gc20; omega)
      exact absurd (Int.le_trans l20t_a0_14 u20t_a0_14) (by decide)
    · have gc20 := ai_eq c20
      have u20f_a0_14 : a0_14.toInt ≤ (0 : Int) := ba0_14_u
      have l20f_a0_14 : (0 : Int) ≤ a0_14.toInt := ba0_14_l
      refine lv_iload_n hx hb dX8_size_23 rfl (lv_at hl 1 rfl) ?_
      refine lv_iconst (v := 0) hx hb dX8_size_24 zk_iconst_0 ?_
      refine lv_bipush (v := 12) hx hb dX8_size_25 zk_bipush_12 ?_
      refine va_calli (va_runS (As := [.int a1, .int 0, .int 12]) (rest := []) ⟨hx, hb, hml, hown, hts⟩ (c_X8_in l dC dI H.size a1 0 12 ) (va_cwS 3 hts gX8_size_X8_in rfl rfl rfl zd_X8_in.2 ⟨Nat.le_of_ble_eq_true rfl, Nat.le_of_ble_eq_true rfl⟩) ⟨ax_blind (fun _ _ _ _ _ => trivial), ax_pre (zp_P0 hP) (zp_K hK) (zp_D0 hD) (fun _ _ => trivial)⟩ rfl rfl hl.1 rfl (lv_room (Nat.le_of_ble_eq_true rfl)) dX8_size_27 ⟨Nat.le_of_ble_eq_true rfl, Nat.le_of_ble_eq_true rfl⟩) hS (fun q _ h => zp_F0 hD hS hA q h) (zp_F0 hD hS hA) (fun r27 u t H locs ht hvm hw hB hz1 hk1 hS1 => zo0 hB ht hP hD hk1 (zp_F0 hD hS hA) hS1 (fun hP hK1 hD hS => ?_))
      rcases hw with hw | hw
      · obtain ⟨hw, h27⟩ := hw
        subst hw
        have l27k0_a1 : (0 : Int) ≤ a1.toInt := Int.le_trans zq5 h27.1
        have u27k0_a1 : a1.toInt ≤ (12 : Int) := Int.le_trans h27.2 zq120
        refine lv_if_eq (tgt := 37) hx hb dX8_size_30 (by decide) (fun c30 => absurd c30 (by decide +kernel)) (fun _ => ?_)
        refine lv_iconst (v := 0) hx hb dX8_size_33 zk_iconst_0 ?_
        refine lv_goto (tgt := 38) hx hb dX8_size_34 (by decide) ?_
        exact W.iret (v := 0) hx hb hr (fun t ht hW => ⟨⟨0, (), rfl, ⟨(Int.le_trans zq69 zq5), (Int.le_trans zq6 zq40)⟩, 0, by rw [ht]; exact hP, va_K.moved hW.alike hK, hD⟩, hS.F ht⟩) hS.2.2 dX8_size_38
      · obtain ⟨hw, h27⟩ := hw
        subst hw
        refine lv_if_eq (tgt := 37) hx hb dX8_size_30 (by decide) (fun _ => ?_) (fun c30 => absurd (by decide +kernel) c30)
        refine lv_iconst (v := (-1)) hx hb dX8_size_37 zk_iconst_n1 ?_
        exact W.iret (v := (-1)) hx hb hr (fun t ht hW => ⟨⟨(-1), (), rfl, ⟨zq70, (Int.le_trans zq71 zq228)⟩, 0, by rw [ht]; exact hP, va_K.moved hW.alike hK, hD⟩, hS.F ht⟩) hS.2.2 dX8_size_38
  · have gc8 := ai_eq c8
    have u8f_a1 : a1.toInt ≤ (13 : Int) := Int.le_trans (Int.le_of_eq gc8) zq122
    have l8f_a1 : (13 : Int) ≤ a1.toInt := Int.le_trans zq121 (Int.le_of_eq gc8.symm)
    refine lv_aload_n hx hb dX8_size_11 rfl (lv_at hl 0 rfl) ?_
    refine va_get (D := (dC, dI)) (ci := 8) (v := .int a0_2) (C := RX8) (T := TX8) (N := 40) hx hb hts zi_X8_size_8 hown hK hP 0 rfl rfl 2 (by decide) (hts (.fieldLink RX8 65 "WaxTurnsModel" "taped" "I") (List.mem_cons_of_mem _ (List.mem_append_left _ (List.mem_of_getElem? (i := 1) rfl)))) (fun _ h9 => h9) rfl dX8_size_12 ?_
    exact W.iret (v := a0_2) hx hb hr (fun t ht hW => ⟨⟨a0_2, (), rfl, ⟨(Int.le_trans zq69 ba0_2_l), ba0_2_u⟩, 0, by rw [ht]; exact hP, va_K.moved hW.alike hK, hD⟩, hS.F ht⟩) hS.2.2 dX8_size_15

set_option maxHeartbeats 4000000 in
set_option maxRecDepth 100000 in
theorem c0_X8_led (l : Launch) (dC : Nat → ClassId) (dI : Nat → Nat → Nat) (sz : Nat) (a0 : Nat) (a1 : Int32) (a0_0 : Int32) (a0g_1 a0g_2 a0g_3 a0g_4 a0g_5 a0g_6 a0g_7 a0g_8 a0g_9 a0g_10 a0g_11 a0g_12 a0g_13 a0g_15 a0g_16 a0g_17 a0g_18 a0g_19 a0g_20 a0g_21 a0g_22 a0g_23 a0g_24 a0g_25 a0g_26 a0g_27 a0g_28 a0g_29 a0g_30 a0g_31 a0g_32 a0g_33 a0g_34 a0g_35 a0g_36 a0g_37 a0g_38 a0g_39 : Value) (a0_14 : Int32) (ba0_14_l : (0 : Int) ≤ a0_14.toInt) (ba0_14_u : a0_14.toInt ≤ (0 : Int)) : zm l yX8_led wsX8_led ({ frames := 0, cells := 0, slots := 0, locals := 0 }) [.ref a0, .int a1] dC dI sz [(a0, .inr (8, [Value.int a0_0, a0g_1, a0g_2, a0g_3, a0g_4, a0g_5, a0g_6, a0g_7, a0g_8, a0g_9, a0g_10, a0g_11, a0g_12, a0g_13, Value.int a0_14, a0g_15, a0g_16, a0g_17, a0g_18, a0g_19, a0g_20, a0g_21, a0g_22, a0g_23, a0g_24, a0g_25, a0g_26, a0g_27, a0g_28, a0g_29, a0g_30, a0g_31, a0g_32, a0g_33, a0g_34, a0g_35, a0g_36, a0g_37, a0g_38, a0g_39]))] [] (fun A _ => True) (fun A => va_Qi (fun (r : Int32) (_ : Unit) => r = 0) (fun (_ : Unit) (t : State) => ∃ na0_0 : Int32, ax_B dC dI A [(a0, .inr (8, [Value.int na0_0, a0g_1, a0g_2, a0g_3, a0g_4, a0g_5, a0g_6, a0g_7, a0g_8, a0g_9, a0g_10, a0g_11, a0g_12, a0g_13, Value.int a0_14, a0g_15, a0g_16, a0g_17, a0g_18, a0g_19, a0g_20, a0g_21, a0g_22, a0g_23, a0g_24, a0g_25, a0g_26, a0g_27, a0g_28, a0g_29, a0g_30, a0g_31, a0g_32, a0g_33, a0g_34, a0g_35, a0g_36, a0g_37, a0g_38, a0g_39]))] [] t) A) := by
  refine zh (cc := cX8_led) (maxL := 4) (ret := (some .int)) zn_RX8 rfl (Nat.le_of_ble_eq_true rfl) (fun p e s m below meth c A ls hx hb hml hr hts (hown : s.vm.findClass RX8 = some m.cls) hlocks hA hS hP hK hD hE (hl : lv_has ls 4 [(0, .ref a0), (1, .int a1)]) => ?_)
  refine ai_open (fun K hK0 => ?_)
  refine (hK0 _ _ _).mpr ?_
  refine lv_iconst (v := 0) hx hb dX8_led_0 zk_iconst_0 ?_
  refine lv_istore_n (lv' := [(2, .int 0), (0, .ref a0), (1, .int a1)]) hx hb dX8_led_1 rfl hl (by decide) rfl (fun ls hl => ?_)
  refine lv_iconst (v := 0) hx hb dX8_led_2 zk_iconst_0 ?_
  refine lv_istore_n (lv' := [(3, .int 0), (2, .int 0), (0, .ref a0), (1, .int a1)]) hx hb dX8_led_3 rfl hl (by decide) rfl (fun ls hl => ?_)
  refine lv_aload_n hx hb dX8_led_4 rfl (lv_at hl 2 rfl) ?_
  refine va_get (D := (dC, dI)) (ci := 8) (v := .int a0_14) (C := RX8) (T := TX8) (N := 40) hx hb hts zi_X8_led_8 hown hK hP 0 rfl rfl 14 (by decide) (hts (.fieldLink RX8 173 "WaxTurnsModel" "hasGallery" "Z") (List.mem_cons_of_mem _ (List.mem_append_left _ (List.mem_of_getElem? (i := 0) rfl)))) (fun _ h9 => h9) rfl dX8_led_5 ?_
  have J55 : ∀ (H : Heap) (locs : List Loc) (ls : Array Slot), va_P (dC, dI) vwCl [(a0, .inr (8, [Value.int a0_0, a0g_1, a0g_2, a0g_3, a0g_4, a0g_5, a0g_6, a0g_7, a0g_8, a0g_9, a0g_10, a0g_11, a0g_12, a0g_13, Value.int a0_14, a0g_15, a0g_16, a0g_17, a0g_18, a0g_19, a0g_20, a0g_21, a0g_22, a0g_23, a0g_24, a0g_25, a0g_26, a0g_27, a0g_28, a0g_29, a0g_30, a0g_31, a0g_32, a0g_33, a0g_34, a0g_35, a0g_36, a0g_37, a0g_38, a0g_39]))] H → va_D A [(a0, .inr (8, [Value.int a0_0, a0g_1, a0g_2, a0g_3, a0g_4, a0g_5, a0g_6, a0g_7, a0g_8, a0g_9, a0g_10, a0g_11, a0g_12, a0g_13, Value.int a0_14, a0g_15, a0g_16, a0g_17, a0g_18, a0g_19, a0g_20, a0g_21, a0g_22, a0g_23, a0g_24, a0g_25, a0g_26, a0g_27, a0g_28, a0g_29, a0g_30, a0g_31, a0g_32, a0g_33, a0g_34, a0g_35, a0g_36, a0g_37, a0g_38, a0g_39]))] → va_S A s.heap H locs → lv_has ls 4 [(0, .ref a0)] → K H locs (F0 m 55 ls []) := by
    intro  H locs ls   hP hD hS hl
    refine (hK0 _ _ _).mpr ?_
    refine lv_aload_n hx hb dX8_led_55 rfl (lv_at hl 0 rfl) ?_
    refine lv_iconst (v := 1) hx hb dX8_led_56 zk_iconst_1 ?_
    refine va_put (D := (dC, dI)) (ci := 8) (v := .int 1) (ty := .int) (C := RX8) (T := TX8) (N := 40) hx hb hts zi_X8_led_8 tyX8 tyX8_ok nmX8 hown hK hP hD hS 0 rfl rfl 0 (by decide) (hts (.fieldLink RX8 59 "WaxTurnsModel" "thrown" "I") (List.mem_cons_of_mem _ (List.mem_append_left _ (List.mem_of_getElem? (i := 3) rfl)))) (fun _ h9 => h9) rfl (tyX8_ok 0 (by decide)) rfl rfl (Nat.le_of_ble_eq_true rfl) dX8_led_57 (fun H locs hP hD hS => ?_)
    refine zs_0 (y := (a0, .inr (8, [Value.int 1, a0g_1, a0g_2, a0g_3, a0g_4, a0g_5, a0g_6, a0g_7, a0g_8, a0g_9, a0g_10, a0g_11, a0g_12, a0g_13, Value.int a0_14, a0g_15, a0g_16, a0g_17, a0g_18, a0g_19, a0g_20, a0g_21, a0g_22, a0g_23, a0g_24, a0g_25, a0g_26, a0g_27, a0g_28, a0g_29, a0g_30, a0g_31, a0g_32, a0g_33, a0g_34, a0g_35, a0g_36, a0g_37, a0g_38, a0g_39]))) hP hD rfl (fun hP hD => ?_)
    refine lv_iconst (v := 0) hx hb dX8_led_60 zk_iconst_0 ?_
    exact W.iret (v := 0) hx hb hr (fun t ht hW => ⟨⟨0, (), rfl, rfl, 1, by rw [ht]; exact hP, va_K.moved hW.alike hK, hD⟩, hS.F ht⟩) hS.2.2 dX8_led_61
  refine lv_if_eq (tgt := 55) hx hb dX8_led_8 (by decide) (fun c8 => ?_) (fun c8 => ?_)
  · have gc8 := ai_eq c8
    have u8t_a0_14 : a0_14.toInt ≤ (0 : Int) := ba0_14_u
    have l8t_a0_14 : (0 : Int) ≤ a0_14.toInt := ba0_14_l
    exact (hK0 _ _ _).mp (J55  _ _ _   hP hD hS (lv_sub hl [2] rfl))
  · have gc8 := ai_ne c8
    have l8f_a0_14 : (1 : Int) ≤ a0_14.toInt := (by have h1 := ba0_14_l; have h2 : (0 : Int32).toInt = 0 := (by decide); rw [h2] at gc8; omega)
    have u8f_a0_14 : a0_14.toInt ≤ (-1 : Int) := (by have h1 := ba0_14_u; have h2 : (0 : Int32).toInt = 0 := (by decide); rw [h2] at gc8; omega)
    exact absurd (Int.le_trans l8f_a0_14 u8f_a0_14) (by decide)

set_option maxHeartbeats 4000000 in
set_option maxRecDepth 100000 in
theorem c0_X8_routeAt (l : Launch) (dC : Nat → ClassId) (dI : Nat → Nat → Nat) (sz : Nat) (a0 : Nat) (a1 : Int32) (a2 : Int32) (a3 : Int32) (a0_0 : Int32) (a0g_1 a0g_2 a0g_3 a0g_4 a0g_5 a0g_6 a0g_7 a0g_8 a0g_9 a0g_10 a0g_12 a0g_13 a0g_15 a0g_16 a0g_17 a0g_18 a0g_19 a0g_20 a0g_21 a0g_22 a0g_23 a0g_24 a0g_25 a0g_26 a0g_27 a0g_28 a0g_29 a0g_30 a0g_31 a0g_32 a0g_33 a0g_34 a0g_35 a0g_36 a0g_37 a0g_38 a0g_39 : Value) (a0_11 : Int32) (a0_14 : Int32) (ba0_14_l : (0 : Int) ≤ a0_14.toInt) (ba0_14_u : a0_14.toInt ≤ (0 : Int)) : zm l yX8_routeAt wsX8_routeAt ({ frames := 2, cells := 0, slots := 0, locals := 44 }) [.ref a0, .int a1, .int a2, .int a3] dC dI sz [(a0, .inr (8, [Value.int a0_0, a0g_1, a0g_2, a0g_3, a0g_4, a0g_5, a0g_6, a0g_7, a0g_8, a0g_9, a0g_10, Value.int a0_11, a0g_12, a0g_13, Value.int a0_14, a0g_15, a0g_16, a0g_17, a0g_18, a0g_19, a0g_20, a0g_21, a0g_22, a0g_23, a0g_24, a0g_25, a0g_26, a0g_27, a0g_28, a0g_29, a0g_30, a0g_31, a0g_32, a0g_33, a0g_34, a0g_35, a0g_36, a0g_37, a0g_38, a0g_39]))] [] (fun A _ => True) (fun A => va_Qi (fun (r : Int32) (_ : Unit) => r = (-1)) (fun (_ : Unit) (t : State) => ∃ na0_0 : Int32, ∃ na0_11 : Int32, ax_B dC dI A [(a0, .inr (8, [Value.int na0_0, a0g_1, a0g_2, a0g_3, a0g_4, a0g_5, a0g_6, a0g_7, a0g_8, a0g_9, a0g_10, Value.int na0_11, a0g_12, a0g_13, Value.int a0_14, a0g_15, a0g_16, a0g_17, a0g_18, a0g_19, a0g_20, a0g_21, a0g_22, a0g_23, a0g_24, a0g_25, a0g_26, a0g_27, a0g_28, a0g_29, a0g_30, a0g_31, a0g_32, a0g_33, a0g_34, a0g_35, a0g_36, a0g_37, a0g_38, a0g_39]))] [] t) A) := by
  refine zh (cc := cX8_routeAt) (maxL := 7) (ret := (some .int)) zn_RX8 rfl (Nat.le_of_ble_eq_true rfl) (fun p e s m below meth c A ls hx hb hml hr hts (hown : s.vm.findClass RX8 = some m.cls) hlocks hA hS hP hK hD hE (hl : lv_has ls 7 [(0, .ref a0), (1, .int a1), (2, .int a2), (3, .int a3)]) => ?_)
  refine ai_open (fun K hK0 => ?_)
  refine (hK0 _ _ _).mpr ?_
  refine lv_aload_n hx hb dX8_routeAt_0 rfl (lv_at hl 0 rfl) ?_
  refine va_callv (va_runV (As := []) (rest := []) ⟨hx, hb, hml, hown, hts⟩ (c_X8_good l dC dI s.heap.size a0 a0_0 a0g_1 a0g_2 a0g_3 a0g_4 a0g_5 a0g_6 a0g_7 a0g_8 a0g_9 a0g_10 a0g_12 a0g_13 (Value.int a0_14) a0g_15 a0g_16 a0g_17 a0g_18 a0g_19 a0g_20 a0g_21 a0g_22 a0g_23 a0g_24 a0g_25 a0g_26 a0g_27 a0g_28 a0g_29 a0g_30 a0g_31 a0g_32 a0g_33 a0g_34 a0g_35 a0g_36 a0g_37 a0g_38 a0g_39 a0_11 ) (cwV 0 hts gX8_routeAt_X8_good rfl rfl rfl zd_X8_good ⟨Nat.le_of_ble_eq_true rfl, Nat.le_of_ble_eq_true rfl⟩) ⟨ax_blind (fun _ _ _ _ _ => trivial), zr_8 (zp_K hK) (zp_P1 hP) (q0 := 0) rfl, ax_pre (zp_P1 hP) (zp_K hK) (zp_D1 hD) (fun _ _ => trivial)⟩ rfl rfl hl.1 rfl (lv_room (Nat.le_of_ble_eq_true rfl)) dX8_routeAt_1 ⟨Nat.le_of_ble_eq_true rfl, Nat.le_of_ble_eq_true rfl⟩) hS (fun q _ h => zp_F1 hD hS hA q h) (zp_F1 hD hS hA) (fun u t H locs ht hvm hw hB hz1 hk1 hS1 => zx_2 hB (fun v1na0_0 v1na0_11 hB => zo1 hB ht hP hD hk1 (zp_F1 hD hS hA) hS1 (fun hP hK1 hD hS => ?_)))
  refine lv_aload_n hx hb dX8_routeAt_4 rfl (lv_at hl 0 rfl) ?_
  refine lv_iload_n hx hb dX8_routeAt_5 rfl (lv_at hl 1 rfl) ?_
  refine lv_iload_n hx hb dX8_routeAt_6 rfl (lv_at hl 2 rfl) ?_
  refine va_calli (va_runV (As := [.int a1, .int a2]) (rest := []) ⟨hx, hb, hml, hown, hts⟩ (c0_X8_routeWhy l dC dI H.size a0 a1 a2 (Value.int v1na0_0) a0g_1 a0g_2 a0g_3 a0g_4 a0g_5 a0g_6 a0g_7 a0g_8 a0g_9 a0g_10 (Value.int v1na0_11) a0g_12 a0g_13 a0g_15 a0g_16 a0g_17 a0g_18 a0g_19 a0g_20 a0g_21 a0g_22 a0g_23 a0g_24 a0g_25 a0g_26 a0g_27 a0g_28 a0g_29 a0g_30 a0g_31 a0g_32 a0g_33 a0g_34 a0g_35 a0g_36 a0g_37 a0g_38 a0g_39 a0_14 ba0_14_l ba0_14_u) (cwV 2 hts gX8_routeAt_X8_routeWhy rfl rfl rfl zd_X8_routeWhy ⟨Nat.le_of_ble_eq_true rfl, Nat.le_of_ble_eq_true rfl⟩) ⟨ax_blind (fun _ _ _ _ _ => trivial), zr_8 (zp_K hK) (zp_P1 hP) (q0 := 0) rfl, ax_pre (zp_P1 hP) (zp_K hK) (zp_D1 hD) (fun _ _ => trivial)⟩ rfl rfl hl.1 rfl (lv_room (Nat.le_of_ble_eq_true rfl)) dX8_routeAt_7 ⟨Nat.le_of_ble_eq_true rfl, Nat.le_of_ble_eq_true rfl⟩) hS (fun q _ h => zp_F1 hD hS hA q h) (zp_F1 hD hS hA) (fun r7 u t H locs ht hvm hw hB hz1 hk1 hS1 => zo1 hB ht hP hD hk1 (zp_F1 hD hS hA) hS1 (fun hP hK1 hD hS => ?_))
  have hw : r7 = 1 := hw
  have hw := hw.symm
  subst hw
  refine lv_istore (lv' := [(4, .int 1), (0, .ref a0), (1, .int a1), (2, .int a2), (3, .int a3)]) hx hb dX8_routeAt_10 hl (by decide) rfl (fun ls hl => ?_)
  refine lv_iload hx hb dX8_routeAt_12 (lv_at hl 0 rfl) ?_
  refine lv_if_ne (tgt := 29) hx hb dX8_routeAt_14 (by decide) (fun _ => ?_) (fun c14 => absurd c14 (by decide +kernel))
  refine lv_iload hx hb dX8_routeAt_29 (lv_at hl 0 rfl) ?_
  refine lv_if_eq (tgt := 41) hx hb dX8_routeAt_31 (by decide) (fun c31 => absurd c31 (by decide +kernel)) (fun _ => ?_)
  refine lv_aload_n hx hb dX8_routeAt_34 rfl (lv_at hl 1 rfl) ?_
  refine lv_iload hx hb dX8_routeAt_35 (lv_at hl 0 rfl) ?_
  refine va_calli (va_runV (As := [.int 1]) (rest := []) ⟨hx, hb, hml, hown, hts⟩ (c_X8_no l dC dI H.size a0 1 (Value.int v1na0_0) a0g_1 a0g_2 a0g_3 a0g_4 a0g_5 a0g_6 a0g_7 a0g_8 a0g_9 a0g_10 a0g_12 a0g_13 (Value.int a0_14) a0g_15 a0g_16 a0g_17 a0g_18 a0g_19 a0g_20 a0g_21 a0g_22 a0g_23 a0g_24 a0g_25 a0g_26 a0g_27 a0g_28 a0g_29 a0g_30 a0g_31 a0g_32 a0g_33 a0g_34 a0g_35 a0g_36 a0g_37 a0g_38 a0g_39 v1na0_11 ) (cwV 1 hts gX8_routeAt_X8_no rfl rfl rfl zd_X8_no ⟨Nat.le_of_ble_eq_true rfl, Nat.le_of_ble_eq_true rfl⟩) ⟨ax_blind (fun _ _ _ _ _ => trivial), zr_8 (zp_K hK) (zp_P1 hP) (q0 := 0) rfl, ax_pre (zp_P1 hP) (zp_K hK) (zp_D1 hD) (fun _ _ => trivial)⟩ rfl rfl hl.1 rfl (lv_room (Nat.le_of_ble_eq_true rfl)) dX8_routeAt_37 ⟨Nat.le_of_ble_eq_true rfl, Nat.le_of_ble_eq_true rfl⟩) hS (fun q _ h => zp_F1 hD hS hA q h) (zp_F1 hD hS hA) (fun r37 u t H locs ht hvm hw hB hz1 hk1 hS1 => zx_1 hB (fun v37na0_11 hB => zo1 hB ht hP hD hk1 (zp_F1 hD hS hA) hS1 (fun hP hK1 hD hS => ?_)))
  have hw : r37 = (-1) := hw
  have hw := hw.symm
  subst hw
  exact W.iret (v := (-1)) hx hb hr (fun t ht hW => ⟨⟨(-1), (), rfl, rfl, v1na0_0, v37na0_11, by rw [ht]; exact hP, va_K.moved hW.alike hK, hD⟩, hS.F ht⟩) hS.2.2 dX8_routeAt_40
end P280_08_safe
section P305_fg
section FG
theorem fg_o {f : Nat → Int32} {i : Nat} {v : Int32} (h : ((1 : Int) ≤ (f 11).toInt → (2 : Int) ≤ (f 0).toInt ∧ (1 : Int) ≤ (f 1).toInt)) (hi : i ≠ 0 ∧ i ≠ 1 ∧ i ≠ 11) : ((1 : Int) ≤ (upd f i v 11).toInt → (2 : Int) ≤ (upd f i v 0).toInt ∧ (1 : Int) ≤ (upd f i v 1).toInt) := by
  unfold upd; rw [if_neg (by omega), if_neg (by omega), if_neg (by omega)]; exact h
theorem fg_0 {f : Nat → Int32} {i : Nat} {v : Int32} (h : ((1 : Int) ≤ (f 11).toInt → (2 : Int) ≤ (f 0).toInt ∧ (1 : Int) ≤ (f 1).toInt)) (hi : i = 0) (hv : (2 : Int) ≤ v.toInt) : ((1 : Int) ≤ (upd f i v 11).toInt → (2 : Int) ≤ (upd f i v 0).toInt ∧ (1 : Int) ≤ (upd f i v 1).toInt) := by
  subst hi; intro h9; unfold upd at h9 ⊢; rw [if_neg (by omega)] at h9; rw [if_pos rfl, if_neg (by omega)]; exact ⟨hv, (h h9).2⟩
theorem fg_1 {f : Nat → Int32} {i : Nat} {v : Int32} (h : ((1 : Int) ≤ (f 11).toInt → (2 : Int) ≤ (f 0).toInt ∧ (1 : Int) ≤ (f 1).toInt)) (hi : i = 1) (hv : (1 : Int) ≤ v.toInt) : ((1 : Int) ≤ (upd f i v 11).toInt → (2 : Int) ≤ (upd f i v 0).toInt ∧ (1 : Int) ≤ (upd f i v 1).toInt) := by
  subst hi; intro h9; unfold upd at h9 ⊢; rw [if_neg (by omega)] at h9; rw [if_pos rfl, if_neg (by omega)]; exact ⟨(h h9).1, hv⟩
theorem fg_11 {f : Nat → Int32} {i : Nat} {v : Int32} (hi : i = 11) (h0 : (2 : Int) ≤ (f 0).toInt) (h1 : (1 : Int) ≤ (f 1).toInt) : ((1 : Int) ≤ (upd f i v 11).toInt → (2 : Int) ≤ (upd f i v 0).toInt ∧ (1 : Int) ≤ (upd f i v 1).toInt) := by
  subst hi; intro h9; unfold upd; rw [if_neg (by omega), if_neg (by omega)]; exact ⟨h0, h1⟩
theorem fg_ko {f : Nat → Int32} {n : Nat} {v : Int32} (h : (∀ (j i0 i : Int32), (0 : Int) ≤ j.toInt → j.toInt ≤ 8 → i0.toInt = 12 + 2 * j.toInt → i.toInt = 13 + 2 * j.toInt → (f i0.toNatClampNeg).toInt = (1 : Int32).toInt → (1 : Int) ≤ (f i.toNatClampNeg).toInt)) (hn : n < 12 ∨ 29 < n) : (∀ (j i0 i : Int32), (0 : Int) ≤ j.toInt → j.toInt ≤ 8 → i0.toInt = 12 + 2 * j.toInt → i.toInt = 13 + 2 * j.toInt → (upd f n v i0.toNatClampNeg).toInt = (1 : Int32).toInt → (1 : Int) ≤ (upd f n v i.toNatClampNeg).toInt) := by
  intro j i0 i a b e1 e2
  have q1 : i0.toNatClampNeg = i0.toInt.toNat := rfl
  have q2 : i.toNatClampNeg = i.toInt.toNat := rfl
  unfold upd
  rw [if_neg (by omega), if_neg (by omega)]
  exact h j i0 i a b e1 e2
theorem fg_kp {f g : Nat → Int32} {k k2 m v v2 : Int32} (h : (∀ (j i0 i : Int32), (0 : Int) ≤ j.toInt → j.toInt ≤ 8 → i0.toInt = 12 + 2 * j.toInt → i.toInt = 13 + 2 * j.toInt → (f i0.toNatClampNeg).toInt = (1 : Int32).toInt → (1 : Int) ≤ (f i.toNatClampNeg).toInt)) (e : g = upd f k.toNatClampNeg v) (hk : k.toInt = 12 + 2 * m.toInt) (h2 : k2.toInt = 13 + 2 * m.toInt) (hm : 0 ≤ m.toInt) (hm8 : m.toInt ≤ 8) (hv : (1 : Int) ≤ v2.toInt) : (∀ (j i0 i : Int32), (0 : Int) ≤ j.toInt → j.toInt ≤ 8 → i0.toInt = 12 + 2 * j.toInt → i.toInt = 13 + 2 * j.toInt → (upd g k2.toNatClampNeg v2 i0.toNatClampNeg).toInt = (1 : Int32).toInt → (1 : Int) ≤ (upd g k2.toNatClampNeg v2 i.toNatClampNeg).toInt) := by
  subst e
  intro j i0 i a b e1 e2
  have q1 : i0.toNatClampNeg = i0.toInt.toNat := rfl
  have q2 : i.toNatClampNeg = i.toInt.toNat := rfl
  have q3 : k.toNatClampNeg = k.toInt.toNat := rfl
  have q4 : k2.toNatClampNeg = k2.toInt.toNat := rfl
  unfold upd
  by_cases hj : j.toInt = m.toInt
  · intro _; rw [if_pos (by omega)]; exact hv
  · rw [if_neg (by omega), if_neg (by omega), if_neg (by omega), if_neg (by omega)]; exact h j i0 i a b e1 e2
theorem fg_z {f : Nat → Int32} (h : ∀ i : Nat, i < 156 → f i = 0) : ((∀ k : Nat, 0 ≤ k → k ≤ 0 → (0 : Int) ≤ (f k).toInt ∧ (f k).toInt ≤ 9) ∧ (∀ k : Nat, 1 ≤ k → k ≤ 1 → (0 : Int) ≤ (f k).toInt ∧ (f k).toInt ≤ 20) ∧ (∀ k : Nat, 2 ≤ k → k ≤ 2 → (0 : Int) ≤ (f k).toInt ∧ (f k).toInt ≤ 8) ∧ (∀ k : Nat, 3 ≤ k → k ≤ 3 → (0 : Int) ≤ (f k).toInt ∧ (f k).toInt ≤ 100) ∧ (∀ k : Nat, 4 ≤ k → k ≤ 4 → (0 : Int) ≤ (f k).toInt ∧ (f k).toInt ≤ 9) ∧ (∀ k : Nat, 5 ≤ k → k ≤ 5 → (0 : Int) ≤ (f k).toInt ∧ (f k).toInt ≤ 3) ∧ (∀ k : Nat, 6 ≤ k → k ≤ 6 → (0 : Int) ≤ (f k).toInt ∧ (f k).toInt ≤ 6) ∧ (∀ k : Nat, 7 ≤ k → k ≤ 9 → (0 : Int) ≤ (f k).toInt ∧ (f k).toInt ≤ 8) ∧ (∀ k : Nat, 10 ≤ k → k ≤ 11 → (0 : Int) ≤ (f k).toInt ∧ (f k).toInt ≤ 1) ∧ (∀ k : Nat, 12 ≤ k → k ≤ 29 → (0 : Int) ≤ (f k).toInt ∧ (f k).toInt ≤ 20) ∧ (∀ k : Nat, 30 ≤ k → k ≤ 35 → (0 : Int) ≤ (f k).toInt ∧ (f k).toInt ≤ 8) ∧ (∀ k : Nat, 36 ≤ k → k ≤ 47 → (0 : Int) ≤ (f k).toInt ∧ (f k).toInt ≤ 999) ∧ (∀ k : Nat, 48 ≤ k → k ≤ 59 → (0 : Int) ≤ (f k).toInt ∧ (f k).toInt ≤ 8) ∧ ((1 : Int) ≤ (f 11).toInt → (2 : Int) ≤ (f 0).toInt ∧ (1 : Int) ≤ (f 1).toInt) ∧ (∀ (j i0 i : Int32), (0 : Int) ≤ j.toInt → j.toInt ≤ 8 → i0.toInt = 12 + 2 * j.toInt → i.toInt = 13 + 2 * j.toInt → (f i0.toNatClampNeg).toInt = (1 : Int32).toInt → (1 : Int) ≤ (f i.toNatClampNeg).toInt)) := ⟨fun k a b => by rw [h k (by omega)]; decide, fun k a b => by rw [h k (by omega)]; decide, fun k a b => by rw [h k (by omega)]; decide, fun k a b => by rw [h k (by omega)]; decide, fun k a b => by rw [h k (by omega)]; decide, fun k a b => by rw [h k (by omega)]; decide, fun k a b => by rw [h k (by omega)]; decide, fun k a b => by rw [h k (by omega)]; decide, fun k a b => by rw [h k (by omega)]; decide, fun k a b => by rw [h k (by omega)]; decide, fun k a b => by rw [h k (by omega)]; decide, fun k a b => by rw [h k (by omega)]; decide, fun k a b => by rw [h k (by omega)]; decide, fun h9 => by rw [h 11 (by omega)] at h9; exact absurd h9 (by decide), fun j i0 i a b e1 e2 h9 => by
  have q1 : i0.toNatClampNeg = i0.toInt.toNat := rfl
  rw [h _ (by omega)] at h9; exact absurd h9 (by decide)⟩
theorem fg_zs {f g : Nat → Int32} {k k2 : Int32} (h : ∀ i : Nat, i < k.toNatClampNeg → f i = 0) (e : g = upd f k.toNatClampNeg 0) (hk : k2.toInt = k.toInt + 1) (h0 : (0 : Int) ≤ k.toInt) : ∀ i : Nat, i < k2.toNatClampNeg → g i = 0 := by
  intro i a
  rw [cp_k hk h0] at a
  rw [e]; unfold upd; split
  · rfl
  · exact h i (by omega)
theorem fg_z0 {f : Nat → Int32} {n : Nat} (h : n = 0) : ∀ i : Nat, i < n → f i = 0 := fun i a => by omega
theorem fg_ze {f : Nat → Int32} {k : Int32} (h : ∀ i : Nat, i < k.toNatClampNeg → f i = 0) (hk : (156 : Int) ≤ k.toInt) : ∀ i : Nat, i < 156 → f i = 0 := by
  intro i a
  have q1 : k.toNatClampNeg = k.toInt.toNat := rfl
  exact h i (by omega)
theorem fg_r {f g r : Nat → Int32} {sp dp : Nat} (e : r = va_cpy f g sp dp 156) (h1 : sp = 0) (h2 : dp = 0) (hf : ((∀ k : Nat, 0 ≤ k → k ≤ 0 → (0 : Int) ≤ (f k).toInt ∧ (f k).toInt ≤ 9) ∧ (∀ k : Nat, 1 ≤ k → k ≤ 1 → (0 : Int) ≤ (f k).toInt ∧ (f k).toInt ≤ 20) ∧ (∀ k : Nat, 2 ≤ k → k ≤ 2 → (0 : Int) ≤ (f k).toInt ∧ (f k).toInt ≤ 8) ∧ (∀ k : Nat, 3 ≤ k → k ≤ 3 → (0 : Int) ≤ (f k).toInt ∧ (f k).toInt ≤ 100) ∧ (∀ k : Nat, 4 ≤ k → k ≤ 4 → (0 : Int) ≤ (f k).toInt ∧ (f k).toInt ≤ 9) ∧ (∀ k : Nat, 5 ≤ k → k ≤ 5 → (0 : Int) ≤ (f k).toInt ∧ (f k).toInt ≤ 3) ∧ (∀ k : Nat, 6 ≤ k → k ≤ 6 → (0 : Int) ≤ (f k).toInt ∧ (f k).toInt ≤ 6) ∧ (∀ k : Nat, 7 ≤ k → k ≤ 9 → (0 : Int) ≤ (f k).toInt ∧ (f k).toInt ≤ 8) ∧ (∀ k : Nat, 10 ≤ k → k ≤ 11 → (0 : Int) ≤ (f k).toInt ∧ (f k).toInt ≤ 1) ∧ (∀ k : Nat, 12 ≤ k → k ≤ 29 → (0 : Int) ≤ (f k).toInt ∧ (f k).toInt ≤ 20) ∧ (∀ k : Nat, 30 ≤ k → k ≤ 35 → (0 : Int) ≤ (f k).toInt ∧ (f k).toInt ≤ 8) ∧ (∀ k : Nat, 36 ≤ k → k ≤ 47 → (0 : Int) ≤ (f k).toInt ∧ (f k).toInt ≤ 999) ∧ (∀ k : Nat, 48 ≤ k → k ≤ 59 → (0 : Int) ≤ (f k).toInt ∧ (f k).toInt ≤ 8) ∧ ((1 : Int) ≤ (f 11).toInt → (2 : Int) ≤ (f 0).toInt ∧ (1 : Int) ≤ (f 1).toInt) ∧ (∀ (j i0 i : Int32), (0 : Int) ≤ j.toInt → j.toInt ≤ 8 → i0.toInt = 12 + 2 * j.toInt → i.toInt = 13 + 2 * j.toInt → (f i0.toNatClampNeg).toInt = (1 : Int32).toInt → (1 : Int) ≤ (f i.toNatClampNeg).toInt))) (h : (1 : Int) ≤ (f 11).toInt) : ((∀ k : Nat, 0 ≤ k → k ≤ 0 → (2 : Int) ≤ (r k).toInt ∧ (r k).toInt ≤ 9) ∧ (∀ k : Nat, 1 ≤ k → k ≤ 1 → (1 : Int) ≤ (r k).toInt ∧ (r k).toInt ≤ 20) ∧ (∀ k : Nat, 2 ≤ k → k ≤ 2 → (0 : Int) ≤ (r k).toInt ∧ (r k).toInt ≤ 8) ∧ (∀ k : Nat, 3 ≤ k → k ≤ 3 → (0 : Int) ≤ (r k).toInt ∧ (r k).toInt ≤ 100) ∧ (∀ k : Nat, 4 ≤ k → k ≤ 4 → (0 : Int) ≤ (r k).toInt ∧ (r k).toInt ≤ 9) ∧ (∀ k : Nat, 5 ≤ k → k ≤ 5 → (0 : Int) ≤ (r k).toInt ∧ (r k).toInt ≤ 3) ∧ (∀ k : Nat, 6 ≤ k → k ≤ 6 → (0 : Int) ≤ (r k).toInt ∧ (r k).toInt ≤ 6) ∧ (∀ k : Nat, 7 ≤ k → k ≤ 9 → (0 : Int) ≤ (r k).toInt ∧ (r k).toInt ≤ 8) ∧ (∀ k : Nat, 12 ≤ k → k ≤ 29 → (0 : Int) ≤ (r k).toInt ∧ (r k).toInt ≤ 20) ∧ (∀ k : Nat, 30 ≤ k → k ≤ 35 → (0 : Int) ≤ (r k).toInt ∧ (r k).toInt ≤ 8) ∧ (∀ k : Nat, 36 ≤ k → k ≤ 47 → (0 : Int) ≤ (r k).toInt ∧ (r k).toInt ≤ 999)) := by
  have q : ∀ k : Nat, k < 156 → r k = f k := fun k hk => by rw [e, pk_cpy_in (by omega) (by omega)]; exact congrArg f (by omega)
  have h11 := hf.2.2.2.2.2.2.2.2.2.2.2.2.2.1
  exact ⟨fun k a b => by rw [q k (by omega)]; have e : k = 0 := (by omega); subst e; exact ⟨(h11 h).1, (hf.1 0 (by omega) (by omega)).2⟩, fun k a b => by rw [q k (by omega)]; have e : k = 1 := (by omega); subst e; exact ⟨(h11 h).2, (hf.2.1 1 (by omega) (by omega)).2⟩, fun k a b => by rw [q k (by omega)]; exact hf.2.2.1 k (by omega) (by omega), fun k a b => by rw [q k (by omega)]; exact hf.2.2.2.1 k (by omega) (by omega), fun k a b => by rw [q k (by omega)]; exact hf.2.2.2.2.1 k (by omega) (by omega), fun k a b => by rw [q k (by omega)]; exact hf.2.2.2.2.2.1 k (by omega) (by omega), fun k a b => by rw [q k (by omega)]; exact hf.2.2.2.2.2.2.1 k (by omega) (by omega), fun k a b => by rw [q k (by omega)]; exact hf.2.2.2.2.2.2.2.1 k (by omega) (by omega), fun k a b => by rw [q k (by omega)]; exact hf.2.2.2.2.2.2.2.2.2.1 k (by omega) (by omega), fun k a b => by rw [q k (by omega)]; exact hf.2.2.2.2.2.2.2.2.2.2.1 k (by omega) (by omega), fun k a b => by rw [q k (by omega)]; exact hf.2.2.2.2.2.2.2.2.2.2.2.1 k (by omega) (by omega)⟩
theorem fg_rk {f g r : Nat → Int32} {sp dp : Nat} (e : r = va_cpy f g sp dp 156) (h1 : sp = 0) (h2 : dp = 0) (hf : ((∀ k : Nat, 0 ≤ k → k ≤ 0 → (0 : Int) ≤ (f k).toInt ∧ (f k).toInt ≤ 9) ∧ (∀ k : Nat, 1 ≤ k → k ≤ 1 → (0 : Int) ≤ (f k).toInt ∧ (f k).toInt ≤ 20) ∧ (∀ k : Nat, 2 ≤ k → k ≤ 2 → (0 : Int) ≤ (f k).toInt ∧ (f k).toInt ≤ 8) ∧ (∀ k : Nat, 3 ≤ k → k ≤ 3 → (0 : Int) ≤ (f k).toInt ∧ (f k).toInt ≤ 100) ∧ (∀ k : Nat, 4 ≤ k → k ≤ 4 → (0 : Int) ≤ (f k).toInt ∧ (f k).toInt ≤ 9) ∧ (∀ k : Nat, 5 ≤ k → k ≤ 5 → (0 : Int) ≤ (f k).toInt ∧ (f k).toInt ≤ 3) ∧ (∀ k : Nat, 6 ≤ k → k ≤ 6 → (0 : Int) ≤ (f k).toInt ∧ (f k).toInt ≤ 6) ∧ (∀ k : Nat, 7 ≤ k → k ≤ 9 → (0 : Int) ≤ (f k).toInt ∧ (f k).toInt ≤ 8) ∧ (∀ k : Nat, 10 ≤ k → k ≤ 11 → (0 : Int) ≤ (f k).toInt ∧ (f k).toInt ≤ 1) ∧ (∀ k : Nat, 12 ≤ k → k ≤ 29 → (0 : Int) ≤ (f k).toInt ∧ (f k).toInt ≤ 20) ∧ (∀ k : Nat, 30 ≤ k → k ≤ 35 → (0 : Int) ≤ (f k).toInt ∧ (f k).toInt ≤ 8) ∧ (∀ k : Nat, 36 ≤ k → k ≤ 47 → (0 : Int) ≤ (f k).toInt ∧ (f k).toInt ≤ 999) ∧ (∀ k : Nat, 48 ≤ k → k ≤ 59 → (0 : Int) ≤ (f k).toInt ∧ (f k).toInt ≤ 8) ∧ ((1 : Int) ≤ (f 11).toInt → (2 : Int) ≤ (f 0).toInt ∧ (1 : Int) ≤ (f 1).toInt) ∧ (∀ (j i0 i : Int32), (0 : Int) ≤ j.toInt → j.toInt ≤ 8 → i0.toInt = 12 + 2 * j.toInt → i.toInt = 13 + 2 * j.toInt → (f i0.toNatClampNeg).toInt = (1 : Int32).toInt → (1 : Int) ≤ (f i.toNatClampNeg).toInt))) : (∀ (j i0 i : Int32), (0 : Int) ≤ j.toInt → j.toInt ≤ 8 → i0.toInt = 12 + 2 * j.toInt → i.toInt = 13 + 2 * j.toInt → (r i0.toNatClampNeg).toInt = (1 : Int32).toInt → (1 : Int) ≤ (r i.toNatClampNeg).toInt) := by
  have q : ∀ k : Nat, k < 156 → r k = f k := fun k hk => by rw [e, pk_cpy_in (by omega) (by omega)]; exact congrArg f (by omega)
  have hk := hf.2.2.2.2.2.2.2.2.2.2.2.2.2.2
  intro j i0 i a b e1 e2
  have q1 : i0.toNatClampNeg = i0.toInt.toNat := rfl
  have q2 : i.toNatClampNeg = i.toInt.toNat := rfl
  rw [q _ (by omega), q _ (by omega)]
  exact hk j i0 i a b e1 e2
theorem fz_s {f f2 g : Nat → Int32} {i v : Int32} (h : ∀ k : Nat, k < 48 → f k = g k) (e : f2 = upd f i.toNatClampNeg v) (hi : (48 : Int) ≤ i.toInt) : ∀ k : Nat, k < 48 → f2 k = g k := by
  intro k hk
  have q1 : i.toNatClampNeg = i.toInt.toNat := rfl
  rw [e]; unfold upd; rw [if_neg (by omega)]; exact h k hk
theorem fg_u {f g : Nat → Int32} {k v : Int32} {m : Nat} (e : g = upd f k.toNatClampNeg v) (hk : (12 : Int) ≤ k.toInt) (hm : m < 12) : g m = f m := by
  have q1 : k.toNatClampNeg = k.toInt.toNat := rfl
  rw [e]; unfold upd; rw [if_neg (by omega)]
theorem fg_le {f : Nat → Int32} {x : Int32} {m : Nat} {b : Int} (e : x = f m) (h : (f m).toInt ≤ b) : x.toInt ≤ b := by rw [e]; exact h
end FG
end P305_fg
section P306_good
set_option maxRecDepth 20000 in
theorem gX8_next_X8_see : GoodIn wsX8_next (wsV RX8 74 RX8 yX8_see wsX8_see) := goodIn_s _ [(7, 7), (20, 40)] rfl (by decide +kernel)
set_option maxRecDepth 20000 in
theorem gX8_next_X8_isSmall : GoodIn wsX8_next (va_wsS RX8 90 yX8_isSmall wsX8_isSmall) := goodIn_s _ [(14, 2), (10, 1), (16, 1)] rfl (by decide +kernel)
set_option maxRecDepth 20000 in
theorem gX8_next_X8_isDigit : GoodIn wsX8_next (va_wsS RX8 94 yX8_isDigit wsX8_isDigit) := goodIn_s _ [(17, 2), (10, 1), (19, 1)] rfl (by decide +kernel)
set_option maxRecDepth 20000 in
theorem gX8_isWord_J0_length_8abf5 : GoodIn wsX8_isWord (wsV RX8 104 RJ0 yJ0_length_8abf5 wsJ0_length_8abf5) := goodIn_s _ [(5, 9), (8, 1), (14, 3)] rfl (by decide +kernel)
set_option maxRecDepth 20000 in
theorem gX8_isWord_J0_charAt_5068e : GoodIn wsX8_isWord (wsV RX8 110 RJ0 yJ0_charAt_5068e wsJ0_charAt_5068e) := goodIn_s _ [(17, 3), (8, 1), (20, 1), (10, 1), (21, 3), (8, 1), (24, 1), (15, 2), (25, 29)] rfl (by decide +kernel)
set_option maxRecDepth 20000 in
theorem gX8_takesWord_X8_isWord : GoodIn wsX8_takesWord (wsV RX8 114 RX8 yX8_isWord wsX8_isWord) := goodIn_s _ [(1, 58), (78, 40)] rfl (by decide +kernel)
set_option maxRecDepth 20000 in
theorem gX8_takesWord_X8_next : GoodIn wsX8_takesWord (wsV RX8 118 RX8 yX8_next wsX8_next) := goodIn_s _ [(59, 3), (4, 1), (62, 3), (8, 1), (65, 1), (7, 1), (9, 1), (66, 3), (4, 1), (69, 49)] rfl (by decide +kernel)
set_option maxRecDepth 20000 in
theorem gX8_must_X8_takesWord : GoodIn wsX8_must (wsV RX8 121 RX8 yX8_takesWord wsX8_takesWord) := goodIn_s _ [(3, 8), (6, 1), (11, 1), (1, 1), (12, 57), (2, 1), (69, 13), (88, 40)] rfl (by decide +kernel)
set_option maxRecDepth 20000 in
theorem gX8_must_X8_wrong : GoodIn wsX8_must (wsV RX8 124 RX8 yX8_wrong wsX8_wrong) := goodIn_s _ [(82, 3), (6, 1), (85, 1), (1, 1), (86, 42)] rfl (by decide +kernel)
set_option maxRecDepth 20000 in
theorem gX8_newName_X8_isWord : GoodIn wsX8_newName (wsV RX8 114 RX8 yX8_isWord wsX8_isWord) := goodIn_s _ [(7, 5), (1, 2), (4, 1), (6, 1), (12, 49), (89, 40)] rfl (by decide +kernel)
set_option maxRecDepth 20000 in
theorem gX8_newName_X8_wrong : GoodIn wsX8_newName (wsV RX8 124 RX8 yX8_wrong wsX8_wrong) := goodIn_s _ [(61, 3), (10, 1), (64, 1), (1, 1), (65, 2), (89, 40)] rfl (by decide +kernel)
set_option maxRecDepth 20000 in
theorem gX8_newName_X8_isKnown : GoodIn wsX8_newName (wsV RX8 138 RX8 yX8_isKnown wsX8_isKnown) := goodIn_s _ [(67, 3), (10, 1), (70, 1), (5, 1), (4, 1), (6, 1), (89, 40)] rfl (by decide +kernel)
set_option maxRecDepth 20000 in
theorem gX8_newName_X8_next : GoodIn wsX8_newName (wsV RX8 118 RX8 yX8_next wsX8_next) := goodIn_s _ [(71, 3), (10, 1), (74, 2), (3, 2), (76, 1), (2, 1), (6, 1), (77, 3), (10, 1), (80, 49)] rfl (by decide +kernel)
set_option maxRecDepth 20000 in
theorem gX8_pass_X8_next : GoodIn wsX8_pass (wsV RX8 118 RX8 yX8_next wsX8_next) := goodIn_s _ [(2, 14), (5, 1), (16, 49)] rfl (by decide +kernel)
set_option maxRecDepth 20000 in
theorem gX8_numberHere_X8_wrong : GoodIn wsX8_numberHere (wsV RX8 124 RX8 yX8_wrong wsX8_wrong) := goodIn_s _ [(5, 5), (1, 1), (10, 2), (15, 40)] rfl (by decide +kernel)
set_option maxRecDepth 20000 in
theorem gX8_numberHere_X8_in : GoodIn wsX8_numberHere (va_wsS RX8 142 yX8_in wsX8_in) := goodIn_s _ [(12, 2), (8, 1), (14, 1)] rfl (by decide +kernel)
set_option maxRecDepth 20000 in
theorem gX8_number_X8_numberHere : GoodIn wsX8_number (wsV RX8 146 RX8 yX8_numberHere wsX8_numberHere) := goodIn_s _ [(1, 12), (4, 1), (13, 6), (42, 40)] rfl (by decide +kernel)
set_option maxRecDepth 20000 in
theorem gX8_number_X8_pass : GoodIn wsX8_number (wsV RX8 150 RX8 yX8_pass wsX8_pass) := goodIn_s _ [(19, 3), (4, 1), (22, 1), (6, 1), (23, 3), (4, 1), (26, 2), (8, 1), (28, 1), (9, 1), (7, 1), (29, 53)] rfl (by decide +kernel)
set_option maxRecDepth 20000 in
theorem gX8_after_X8_must : GoodIn wsX8_after (wsV RX8 153 RX8 yX8_must wsX8_must) := goodIn_s _ [(1, 10), (4, 1), (11, 81), (107, 40)] rfl (by decide +kernel)
set_option maxRecDepth 20000 in
theorem gX8_after_X8_number : GoodIn wsX8_after (wsV RX8 157 RX8 yX8_number wsX8_number) := goodIn_s _ [(92, 3), (4, 1), (95, 4), (4, 1), (99, 1), (6, 1), (16, 1), (7, 1), (73, 1), (86, 6), (100, 7), (68, 5), (17, 2), (74, 12), (107, 40)] rfl (by decide +kernel)
set_option maxRecDepth 20000 in
theorem gX8_gallery_X8_good : GoodIn wsX8_gallery (wsV RX8 160 RX8 yX8_good wsX8_good) := goodIn_s _ [(14, 7), (171, 40)] rfl (by decide +kernel)
set_option maxRecDepth 20000 in
theorem gX8_gallery_X8_in : GoodIn wsX8_gallery (va_wsS RX8 142 yX8_in wsX8_in) := goodIn_s _ [(21, 2), (17, 1), (23, 1)] rfl (by decide +kernel)
set_option maxRecDepth 20000 in
theorem gX8_gallery_X8_no : GoodIn wsX8_gallery (wsV RX8 163 RX8 yX8_no wsX8_no) := goodIn_s _ [(24, 3), (17, 1), (27, 1), (20, 1), (171, 40)] rfl (by decide +kernel)
set_option maxRecDepth 20000 in
theorem gX8_gallery_X8_next : GoodIn wsX8_gallery (wsV RX8 118 RX8 yX8_next wsX8_next) := goodIn_s _ [(28, 3), (17, 1), (31, 1), (6, 1), (8, 1), (32, 2), (7, 1), (34, 4), (17, 1), (38, 1), (5, 1), (39, 7), (171, 40)] rfl (by decide +kernel)
set_option maxRecDepth 20000 in
theorem gX8_gallery_X8_readLine : GoodIn wsX8_gallery (wsV RX8 166 RX8 yX8_readLine wsX8_readLine) := goodIn_s _ [(46, 3), (17, 1), (49, 1), (4, 1), (8, 1), (50, 3), (17, 1), (53, 1), (3, 1), (7, 1), (32, 1), (34, 1), (54, 57), (2, 1), (111, 1), (28, 4), (6, 1), (33, 1), (35, 4), (5, 1), (39, 7), (112, 20), (21, 3), (132, 36), (171, 40)] rfl (by decide +kernel)
set_option maxRecDepth 20000 in
theorem gX8_gallery_X8_wrong : GoodIn wsX8_gallery (wsV RX8 124 RX8 yX8_wrong wsX8_wrong) := goodIn_s _ [(107, 3), (17, 1), (110, 1), (3, 1), (2, 1), (111, 1), (171, 40)] rfl (by decide +kernel)
set_option maxRecDepth 20000 in
theorem gX8_gallery_X8_copy : GoodIn wsX8_gallery (va_wsS RX8 169 yX8_copy wsX8_copy) := goodIn_s _ [(168, 2), (17, 1), (170, 1)] rfl (by decide +kernel)
set_option maxRecDepth 20000 in
theorem gX8_begins_X8_isWord : GoodIn wsX8_begins (wsV RX8 114 RX8 yX8_isWord wsX8_isWord) := goodIn_s _ [(3, 58), (89, 40)] rfl (by decide +kernel)
set_option maxRecDepth 20000 in
theorem gX8_begins_X8_wrong : GoodIn wsX8_begins (wsV RX8 124 RX8 yX8_wrong wsX8_wrong) := goodIn_s _ [(61, 3), (6, 1), (64, 1), (8, 1), (65, 2), (89, 40)] rfl (by decide +kernel)
set_option maxRecDepth 20000 in
theorem gX8_begins_X8_pass : GoodIn wsX8_begins (wsV RX8 150 RX8 yX8_pass wsX8_pass) := goodIn_s _ [(67, 3), (6, 1), (70, 1), (8, 1), (71, 3), (6, 1), (74, 2), (1, 1), (10, 1), (76, 1), (9, 1), (11, 1), (77, 52)] rfl (by decide +kernel)
end P306_good
section P306_good_1
set_option maxRecDepth 20000 in
theorem gX8_readLine_X8_isWord : GoodIn wsX8_readLine (wsV RX8 114 RX8 yX8_isWord wsX8_isWord) := goodIn_s _ [(3, 58), (148, 40)] rfl (by decide +kernel)
set_option maxRecDepth 20000 in
theorem gX8_readLine_X8_galleryLine : GoodIn wsX8_readLine (wsV RX8 182 RX8 yX8_galleryLine wsX8_galleryLine) := goodIn_s _ [(61, 3), (6, 1), (64, 1), (1, 2), (8, 1), (65, 3), (6, 1), (68, 8), (10, 1), (76, 1), (9, 1), (11, 1), (77, 24), (3, 3), (7, 1), (12, 49), (101, 15), (148, 40)] rfl (by decide +kernel)
set_option maxRecDepth 20000 in
theorem gX8_readLine_X8_lawLine : GoodIn wsX8_readLine (wsV RX8 185 RX8 yX8_lawLine wsX8_lawLine) := goodIn_s _ [(116, 3), (6, 1), (119, 1), (1, 2), (8, 1), (65, 3), (6, 1), (68, 8), (10, 1), (76, 1), (9, 1), (11, 1), (77, 12), (120, 4), (89, 12), (3, 3), (7, 1), (12, 49), (101, 15), (148, 40)] rfl (by decide +kernel)
set_option maxRecDepth 20000 in
theorem gX8_readLine_X8_begins : GoodIn wsX8_readLine (wsV RX8 188 RX8 yX8_begins wsX8_begins) := goodIn_s _ [(124, 3), (6, 1), (127, 1), (2, 1), (1, 1), (3, 58), (65, 6), (112, 4), (71, 18), (148, 40)] rfl (by decide +kernel)
set_option maxRecDepth 20000 in
theorem gX8_readLine_X8_figureLine : GoodIn wsX8_readLine (wsV RX8 192 RX8 yX8_figureLine wsX8_figureLine) := goodIn_s _ [(128, 3), (6, 1), (131, 1), (8, 1), (1, 2), (132, 3), (6, 1), (135, 1), (9, 3), (3, 3), (7, 1), (12, 49), (65, 6), (136, 4), (71, 18), (93, 8), (120, 4), (105, 11), (101, 4), (148, 40)] rfl (by decide +kernel)
set_option maxRecDepth 20000 in
theorem gX8_readLine_X8_watcherLine : GoodIn wsX8_readLine (wsV RX8 195 RX8 yX8_watcherLine wsX8_watcherLine) := goodIn_s _ [(140, 3), (6, 1), (143, 1), (8, 1), (1, 1), (132, 3), (6, 1), (135, 1), (9, 1), (2, 1), (10, 2), (3, 3), (7, 1), (12, 49), (65, 6), (136, 4), (71, 18), (120, 4), (89, 27), (148, 40)] rfl (by decide +kernel)
set_option maxRecDepth 20000 in
theorem gX8_readLine_X8_seenLine : GoodIn wsX8_readLine (wsV RX8 198 RX8 yX8_seenLine wsX8_seenLine) := goodIn_s _ [(144, 3), (6, 1), (147, 1), (8, 1), (1, 2), (120, 3), (6, 1), (123, 1), (101, 8), (9, 1), (76, 1), (65, 6), (109, 7), (71, 5), (10, 2), (77, 12), (93, 8), (3, 3), (7, 1), (12, 49), (148, 40)] rfl (by decide +kernel)
set_option maxRecDepth 20000 in
theorem gX8_readLine_X8_wrong : GoodIn wsX8_readLine (wsV RX8 124 RX8 yX8_wrong wsX8_wrong) := goodIn_s _ [(65, 3), (6, 1), (68, 1), (8, 1), (69, 2), (148, 40)] rfl (by decide +kernel)
set_option maxRecDepth 20000 in
theorem gX8_galleryLine_X8_wrong : GoodIn wsX8_galleryLine (wsV RX8 124 RX8 yX8_wrong wsX8_wrong) := goodIn_s _ [(4, 5), (3, 1), (9, 2), (112, 40)] rfl (by decide +kernel)
set_option maxRecDepth 20000 in
theorem gX8_galleryLine_X8_next : GoodIn wsX8_galleryLine (wsV RX8 118 RX8 yX8_next wsX8_next) := goodIn_s _ [(11, 3), (7, 1), (14, 2), (2, 1), (16, 7), (7, 1), (23, 9), (112, 40)] rfl (by decide +kernel)
set_option maxRecDepth 20000 in
theorem gX8_galleryLine_X8_after : GoodIn wsX8_galleryLine (wsV RX8 203 RX8 yX8_after wsX8_after) := goodIn_s _ [(32, 3), (7, 1), (35, 4), (7, 1), (39, 1), (3, 1), (2, 1), (40, 8), (18, 1), (16, 1), (19, 1), (48, 49), (11, 5), (17, 1), (20, 12), (4, 3), (8, 3), (97, 55)] rfl (by decide +kernel)
set_option maxRecDepth 20000 in
theorem gX8_lawLine_X8_wrong : GoodIn wsX8_lawLine (wsV RX8 124 RX8 yX8_wrong wsX8_wrong) := goodIn_s _ [(4, 5), (3, 1), (9, 2), (116, 40)] rfl (by decide +kernel)
set_option maxRecDepth 20000 in
theorem gX8_lawLine_X8_next : GoodIn wsX8_lawLine (wsV RX8 118 RX8 yX8_next wsX8_next) := goodIn_s _ [(11, 3), (7, 1), (14, 2), (2, 1), (16, 7), (7, 1), (23, 9), (116, 40)] rfl (by decide +kernel)
set_option maxRecDepth 20000 in
theorem gX8_lawLine_X8_last : GoodIn wsX8_lawLine (wsV RX8 215 RX8 yX8_last wsX8_last) := goodIn_s _ [(32, 3), (7, 1), (35, 1), (1, 1), (116, 40)] rfl (by decide +kernel)
set_option maxRecDepth 20000 in
theorem gX8_lawLine_X8_after : GoodIn wsX8_lawLine (wsV RX8 203 RX8 yX8_after wsX8_after) := goodIn_s _ [(36, 3), (7, 1), (39, 4), (7, 1), (43, 1), (3, 1), (2, 1), (44, 8), (18, 1), (16, 1), (19, 1), (52, 49), (11, 5), (17, 1), (20, 12), (4, 3), (8, 3), (101, 55)] rfl (by decide +kernel)
set_option maxRecDepth 20000 in
theorem gX8_figureLine_X8_newName : GoodIn wsX8_figureLine (wsV RX8 222 RX8 yX8_newName wsX8_newName) := goodIn_s _ [(4, 5), (1, 1), (9, 1), (3, 1), (10, 1), (2, 1), (11, 4), (7, 1), (15, 78), (120, 40)] rfl (by decide +kernel)
set_option maxRecDepth 20000 in
theorem gX8_figureLine_X8_must : GoodIn wsX8_figureLine (wsV RX8 153 RX8 yX8_must wsX8_must) := goodIn_s _ [(93, 3), (7, 1), (96, 1), (1, 1), (3, 1), (97, 3), (7, 1), (100, 1), (12, 4), (9, 3), (16, 49), (75, 18), (65, 6), (120, 40)] rfl (by decide +kernel)
set_option maxRecDepth 20000 in
theorem gX8_figureLine_X8_last : GoodIn wsX8_figureLine (wsV RX8 215 RX8 yX8_last wsX8_last) := goodIn_s _ [(101, 3), (7, 1), (104, 1), (2, 1), (120, 40)] rfl (by decide +kernel)
set_option maxRecDepth 20000 in
theorem gX8_figureLine_X8_numberHere : GoodIn wsX8_figureLine (wsV RX8 146 RX8 yX8_numberHere wsX8_numberHere) := goodIn_s _ [(105, 3), (7, 1), (108, 1), (1, 1), (9, 1), (3, 1), (80, 1), (65, 3), (7, 1), (68, 3), (109, 3), (120, 40)] rfl (by decide +kernel)
set_option maxRecDepth 20000 in
theorem gX8_figureLine_X8_wrong : GoodIn wsX8_figureLine (wsV RX8 124 RX8 yX8_wrong wsX8_wrong) := goodIn_s _ [(65, 3), (7, 1), (68, 1), (1, 1), (69, 2), (120, 40)] rfl (by decide +kernel)
set_option maxRecDepth 20000 in
theorem gX8_figureLine_X8_pass : GoodIn wsX8_figureLine (wsV RX8 150 RX8 yX8_pass wsX8_pass) := goodIn_s _ [(112, 3), (7, 1), (115, 1), (1, 1), (75, 3), (7, 1), (78, 2), (3, 1), (10, 1), (80, 1), (9, 1), (11, 1), (81, 12), (120, 40)] rfl (by decide +kernel)
set_option maxRecDepth 20000 in
theorem gX8_figureLine_X8_isWord : GoodIn wsX8_figureLine (wsV RX8 114 RX8 yX8_isWord wsX8_isWord) := goodIn_s _ [(12, 3), (7, 1), (15, 1), (1, 1), (9, 3), (16, 49), (120, 40)] rfl (by decide +kernel)
set_option maxRecDepth 20000 in
theorem gX8_figureLine_X8_number : GoodIn wsX8_figureLine (wsV RX8 157 RX8 yX8_number wsX8_number) := goodIn_s _ [(116, 3), (7, 1), (119, 1), (105, 3), (7, 1), (108, 1), (1, 1), (9, 1), (3, 1), (80, 1), (65, 6), (109, 7), (75, 5), (10, 2), (81, 12), (120, 40)] rfl (by decide +kernel)
set_option maxRecDepth 20000 in
theorem gX8_watcherLine_X8_newName : GoodIn wsX8_watcherLine (wsV RX8 222 RX8 yX8_newName wsX8_newName) := goodIn_s _ [(3, 5), (1, 1), (8, 3), (2, 1), (11, 4), (6, 1), (15, 78), (124, 40)] rfl (by decide +kernel)
set_option maxRecDepth 20000 in
theorem gX8_watcherLine_X8_last : GoodIn wsX8_watcherLine (wsV RX8 215 RX8 yX8_last wsX8_last) := goodIn_s _ [(93, 3), (6, 1), (96, 1), (2, 1), (124, 40)] rfl (by decide +kernel)
set_option maxRecDepth 20000 in
theorem gX8_watcherLine_X8_after : GoodIn wsX8_watcherLine (wsV RX8 203 RX8 yX8_after wsX8_after) := goodIn_s _ [(97, 3), (6, 1), (100, 4), (6, 1), (104, 1), (1, 1), (9, 1), (105, 4), (12, 4), (8, 1), (10, 2), (16, 49), (75, 18), (65, 6), (109, 55)] rfl (by decide +kernel)
set_option maxRecDepth 20000 in
theorem gX8_seenLine_X8_last : GoodIn wsX8_seenLine (wsV RX8 215 RX8 yX8_last wsX8_last) := goodIn_s _ [(4, 5), (2, 1), (112, 40)] rfl (by decide +kernel)
set_option maxRecDepth 20000 in
theorem gX8_seenLine_X8_number : GoodIn wsX8_seenLine (wsV RX8 157 RX8 yX8_number wsX8_number) := goodIn_s _ [(9, 3), (7, 1), (12, 4), (7, 1), (16, 1), (1, 1), (17, 1), (3, 1), (18, 33), (112, 40)] rfl (by decide +kernel)
set_option maxRecDepth 20000 in
theorem gX8_seenLine_X8_must : GoodIn wsX8_seenLine (wsV RX8 153 RX8 yX8_must wsX8_must) := goodIn_s _ [(51, 3), (7, 1), (54, 1), (1, 1), (3, 1), (55, 3), (7, 1), (58, 5), (17, 1), (37, 2), (63, 49), (32, 5), (18, 1), (39, 12), (19, 6), (112, 40)] rfl (by decide +kernel)
set_option maxRecDepth 20000 in
theorem gX8_seenLine_X8_numberHere : GoodIn wsX8_seenLine (wsV RX8 146 RX8 yX8_numberHere wsX8_numberHere) := goodIn_s _ [(13, 3), (7, 1), (16, 1), (1, 1), (17, 1), (3, 1), (18, 4), (7, 1), (22, 6), (112, 40)] rfl (by decide +kernel)
set_option maxRecDepth 20000 in
theorem gX8_seenLine_X8_wrong : GoodIn wsX8_seenLine (wsV RX8 124 RX8 yX8_wrong wsX8_wrong) := goodIn_s _ [(19, 3), (7, 1), (22, 1), (1, 1), (23, 2), (112, 40)] rfl (by decide +kernel)
set_option maxRecDepth 20000 in
theorem gX8_seenLine_X8_pass : GoodIn wsX8_seenLine (wsV RX8 150 RX8 yX8_pass wsX8_pass) := goodIn_s _ [(28, 3), (7, 1), (31, 1), (1, 1), (32, 3), (7, 1), (35, 2), (3, 1), (37, 1), (18, 1), (17, 1), (38, 13), (112, 40)] rfl (by decide +kernel)
end P306_good_1
section P311_00_f
set_option maxHeartbeats 4000000 in
set_option maxRecDepth 100000 in
theorem f_X7_within (l : Launch) (dC : Nat → ClassId) (dI : Nat → Nat → Nat) (sz : Nat) (a1 : Int32) (a2 : Int32) (a3 : Int32)  : zm l yX7_within wsX7_within ({ frames := 0, cells := 0, slots := 0, locals := 0 }) [.int a1, .int a2, .int a3] dC dI sz [] [] (fun A _ => True) (fun A => va_Qi (fun (r : Int32) (_ : Unit) => ((r = 1 ∧ a2.toInt ≤ a1.toInt ∧ a1.toInt ≤ a3.toInt) ∨ (r = 0 ∧ (a1.toInt < a2.toInt ∨ a3.toInt < a1.toInt))) ∧ r.toInt = Ff_X7_within a1.toInt a2.toInt a3.toInt) (fun (_ : Unit) (t : State) => ax_B dC dI A [] [] t) A) := by
  refine zh (cc := cX7_within) (maxL := 3) (ret := (some .boolean)) zn_RX7 rfl (Nat.le_of_ble_eq_true rfl) (fun p e s m below meth c A ls hx hb hml hr hts (hown : s.vm.findClass RX7 = some m.cls) hlocks hA hS hP hK hD hE (hl : lv_has ls 3 [(0, .int a1), (1, .int a2), (2, .int a3)]) => ?_)
  generalize hFX : Ff_X7_within a1.toInt a2.toInt a3.toInt = FX at ⊢
  have hF0 := hFX.symm.trans (Ff_X7_within.eq_1 a1.toInt a2.toInt a3.toInt)
  refine lv_iload_n hx hb dX7_within_0 rfl (lv_at hl 0 rfl) ?_
  refine lv_iload_n hx hb dX7_within_1 rfl (lv_at hl 1 rfl) ?_
  refine lv_icmp_lt (tgt := 14) hx hb dX7_within_2 (by decide) (fun c2 => ?_) (fun c2 => ?_)
  · have gc2 := ai_lt c2
    have u2t_a1 : a1.toInt ≤ (2147483646 : Int) := ai_lthi gc2 (ai_max a2)
    have l2t_a2 : (-2147483647 : Int) ≤ a2.toInt := ai_ltlo gc2 (ai_min a1)
    have hF0 := hF0.trans (if_pos (show a1.toInt < a2.toInt from gc2))
    refine lv_iconst (v := 0) hx hb dX7_within_14 zk_iconst_0 ?_
    have hFe : FX = 0 := hF0
    exact W.zret (v := 0) hx hb hr rfl (fun t ht hW => ⟨⟨0, (), rfl, ⟨(Or.inr ⟨rfl, Or.inl gc2⟩), hFe.symm⟩, by rw [ht]; exact hP, va_K.moved hW.alike hK, hD⟩, hS.F ht⟩) hS.2.2 dX7_within_15
  · have gc2 := ai_nlt c2
    have hF0 := hF0.trans (if_neg (show ¬ (a1.toInt < a2.toInt) from Int.not_lt.mpr gc2))
    refine lv_iload_n hx hb dX7_within_5 rfl (lv_at hl 0 rfl) ?_
    refine lv_iload_n hx hb dX7_within_6 rfl (lv_at hl 2 rfl) ?_
    refine lv_icmp_gt (tgt := 14) hx hb dX7_within_7 (by decide) (fun c7 => ?_) (fun c7 => ?_)
    · have gc7 := ai_lt c7
      have u7t_a3 : a3.toInt ≤ (2147483646 : Int) := ai_lthi gc7 (ai_max a1)
      have l7t_a1 : (-2147483647 : Int) ≤ a1.toInt := ai_ltlo gc7 (ai_min a3)
      have hF0 := hF0.trans (if_pos (show a3.toInt < a1.toInt from gc7))
      refine lv_iconst (v := 0) hx hb dX7_within_14 zk_iconst_0 ?_
      have hFe : FX = 0 := hF0
      exact W.zret (v := 0) hx hb hr rfl (fun t ht hW => ⟨⟨0, (), rfl, ⟨(Or.inr ⟨rfl, Or.inr gc7⟩), hFe.symm⟩, by rw [ht]; exact hP, va_K.moved hW.alike hK, hD⟩, hS.F ht⟩) hS.2.2 dX7_within_15
    · have gc7 := ai_nlt c7
      have hF0 := hF0.trans (if_neg (show ¬ (a3.toInt < a1.toInt) from Int.not_lt.mpr gc7))
      refine lv_iconst (v := 1) hx hb dX7_within_10 zk_iconst_1 ?_
      refine lv_goto (tgt := 15) hx hb dX7_within_11 (by decide) ?_
      have hFe : FX = 1 := hF0
      exact W.zret (v := 1) hx hb hr rfl (fun t ht hW => ⟨⟨1, (), rfl, ⟨(Or.inl ⟨rfl, gc2, gc7⟩), hFe.symm⟩, by rw [ht]; exact hP, va_K.moved hW.alike hK, hD⟩, hS.F ht⟩) hS.2.2 dX7_within_15

set_option maxHeartbeats 4000000 in
set_option maxRecDepth 100000 in
theorem f_X7_hasBit (l : Launch) (dC : Nat → ClassId) (dI : Nat → Nat → Nat) (sz : Nat) (a1 : Int32) (a2 : Int32)  : zm l yX7_hasBit wsX7_hasBit ({ frames := 0, cells := 0, slots := 0, locals := 0 }) [.int a1, .int a2] dC dI sz [] [] (fun A _ => True) (fun A => va_Qi (fun (r : Int32) (_ : Unit) => ((r = 1) ∨ (r = 0)) ∧ r.toInt = Ff_X7_hasBit a1.toInt a2.toInt) (fun (_ : Unit) (t : State) => ax_B dC dI A [] [] t) A) := by
  refine zh (cc := cX7_hasBit) (maxL := 2) (ret := (some .boolean)) zn_RX7 rfl (Nat.le_of_ble_eq_true rfl) (fun p e s m below meth c A ls hx hb hml hr hts (hown : s.vm.findClass RX7 = some m.cls) hlocks hA hS hP hK hD hE (hl : lv_has ls 2 [(0, .int a1), (1, .int a2)]) => ?_)
  generalize hFX : Ff_X7_hasBit a1.toInt a2.toInt = FX at ⊢
  have hF0 := hFX.symm.trans (Ff_X7_hasBit.eq_1 a1.toInt a2.toInt)
  refine lv_iload_n hx hb dX7_hasBit_0 rfl (lv_at hl 0 rfl) ?_
  refine lv_iload_n hx hb dX7_hasBit_1 rfl (lv_at hl 1 rfl) ?_
  refine lv_ishr hx hb dX7_hasBit_2 ?_
  refine lv_topi (fun x2 ex2 => ?_)
  have fqx2 := fl_shr_eq ex2
  have hF0 := hF0.trans (fl_lt_eq (show x2.toInt = fl_shr a1.toInt a2.toInt from fqx2))
  refine lv_iconst (v := 1) hx hb dX7_hasBit_3 zk_iconst_1 ?_
  refine lv_iand hx hb dX7_hasBit_4 ?_
  refine lv_topi (fun x4 ex4 => ?_)
  have fqx4 := fl_and_eq ex4
  have hF0 := hF0.trans (fl_lt_eq (show x4.toInt = fl_and x2.toInt 1 from fqx4))
  refine lv_iconst (v := 1) hx hb dX7_hasBit_5 zk_iconst_1 ?_
  refine lv_icmp_ne (tgt := 13) hx hb dX7_hasBit_6 (by decide) (fun c6 => ?_) (fun c6 => ?_)
  · have gc6 := ai_ne c6
    have hF0 := hF0.trans (if_neg (show ¬ (x4.toInt = 1) from  gc6))
    refine lv_iconst (v := 0) hx hb dX7_hasBit_13 zk_iconst_0 ?_
    have hFe : FX = 0 := hF0
    exact W.zret (v := 0) hx hb hr rfl (fun t ht hW => ⟨⟨0, (), rfl, ⟨(Or.inr (rfl)), hFe.symm⟩, by rw [ht]; exact hP, va_K.moved hW.alike hK, hD⟩, hS.F ht⟩) hS.2.2 dX7_hasBit_14
  · have gc6 := ai_eq c6
    have u6f_x4 : x4.toInt ≤ (1 : Int) := Int.le_trans (Int.le_of_eq gc6) zq0
    have l6f_x4 : (1 : Int) ≤ x4.toInt := Int.le_trans zq1 (Int.le_of_eq gc6.symm)
    have hF0 := hF0.trans (if_pos (show x4.toInt = 1 from gc6))
    refine lv_iconst (v := 1) hx hb dX7_hasBit_9 zk_iconst_1 ?_
    refine lv_goto (tgt := 14) hx hb dX7_hasBit_10 (by decide) ?_
    have hFe : FX = 1 := hF0
    exact W.zret (v := 1) hx hb hr rfl (fun t ht hW => ⟨⟨1, (), rfl, ⟨(Or.inl (rfl)), hFe.symm⟩, by rw [ht]; exact hP, va_K.moved hW.alike hK, hD⟩, hS.F ht⟩) hS.2.2 dX7_hasBit_14

set_option maxHeartbeats 4000000 in
set_option maxRecDepth 100000 in
theorem f_J6_bitCount_0f7a4 (l : Launch) (dC : Nat → ClassId) (dI : Nat → Nat → Nat) (sz : Nat) (a1 : Int32)  : zm l yJ6_bitCount_0f7a4 wsJ6_bitCount_0f7a4 ({ frames := 0, cells := 0, slots := 0, locals := 0 }) [.int a1] dC dI sz [] [] (fun A _ => True) (fun A => va_Qi (fun (r : Int32) (_ : Unit) => (True) ∧ r.toInt = Ff_J6_bitCount_0f7a4 a1.toInt) (fun (_ : Unit) (t : State) => ax_B dC dI A [] [] t) A) := by
  refine zh (cc := cJ6_bitCount_0f7a4) (maxL := 1) (ret := (some .int)) zn_RJ6 rfl (Nat.le_of_ble_eq_true rfl) (fun p e s m below meth c A ls hx hb hml hr hts (hown : s.vm.findClass RJ6 = some m.cls) hlocks hA hS hP hK hD hE (hl : lv_has ls 1 [(0, .int a1)]) => ?_)
  generalize hFX : Ff_J6_bitCount_0f7a4 a1.toInt = FX at ⊢
  have hF0 := hFX.symm.trans (Ff_J6_bitCount_0f7a4.eq_1 a1.toInt)
  refine lv_iload_n hx hb dJ6_bitCount_0f7a4_0 rfl (lv_at hl 0 rfl) ?_
  refine lv_iload_n hx hb dJ6_bitCount_0f7a4_1 rfl (lv_at hl 0 rfl) ?_
  refine lv_iconst (v := 1) hx hb dJ6_bitCount_0f7a4_2 zk_iconst_1 ?_
  refine lv_iushr hx hb dJ6_bitCount_0f7a4_3 rfl ?_
  refine lv_topi (fun x3 ex3 => ?_)
  have fqx3 := fl_ushr_eq ex3
  have hF0 := hF0.trans (fl_lt_eq (show x3.toInt = fl_ushr a1.toInt 1 from fqx3))
  refine lv_ldcw (v := 1431655765) hx hb hown (hts (.constant RJ6 265 (1431655765)) (List.mem_cons_of_mem _ (List.mem_of_getElem? (i := 0) rfl))) dJ6_bitCount_0f7a4_4 ?_
  refine lv_iand hx hb dJ6_bitCount_0f7a4_7 ?_
  refine lv_topi (fun x7 ex7 => ?_)
  have fqx7 := fl_and_eq ex7
  have hF0 := hF0.trans (fl_lt_eq (show x7.toInt = fl_and x3.toInt 1431655765 from fqx7))
  refine lv_isub hx hb dJ6_bitCount_0f7a4_8 ?_
  refine lv_topi (fun x8 ex8 => ?_)
  have fqx8 := fl_isub_eq ex8
  have hF0 := hF0.trans (fl_lt_eq (show x8.toInt = fl_isub a1.toInt x7.toInt from fqx8))
  refine lv_istore_n (lv' := [(0, .int x8)]) hx hb dJ6_bitCount_0f7a4_9 rfl hl (by decide) rfl (fun ls hl => ?_)
  refine lv_iload_n hx hb dJ6_bitCount_0f7a4_10 rfl (lv_at hl 0 rfl) ?_
  refine lv_ldcw (v := 858993459) hx hb hown (hts (.constant RJ6 266 (858993459)) (List.mem_cons_of_mem _ (List.mem_of_getElem? (i := 1) rfl))) dJ6_bitCount_0f7a4_11 ?_
  refine lv_iand hx hb dJ6_bitCount_0f7a4_14 ?_
  refine lv_topi (fun x14 ex14 => ?_)
  have fqx14 := fl_and_eq ex14
  have hF0 := hF0.trans (fl_lt_eq (show x14.toInt = fl_and x8.toInt 858993459 from fqx14))
  refine lv_iload_n hx hb dJ6_bitCount_0f7a4_15 rfl (lv_at hl 0 rfl) ?_
  refine lv_iconst (v := 2) hx hb dJ6_bitCount_0f7a4_16 zk_iconst_2 ?_
  refine lv_iushr hx hb dJ6_bitCount_0f7a4_17 rfl ?_
  refine lv_topi (fun x17 ex17 => ?_)
  have fqx17 := fl_ushr_eq ex17
  have hF0 := hF0.trans (fl_lt_eq (show x17.toInt = fl_ushr x8.toInt 2 from fqx17))
  refine lv_ldcw (v := 858993459) hx hb hown (hts (.constant RJ6 266 (858993459)) (List.mem_cons_of_mem _ (List.mem_of_getElem? (i := 1) rfl))) dJ6_bitCount_0f7a4_18 ?_
  refine lv_iand hx hb dJ6_bitCount_0f7a4_21 ?_
  refine lv_topi (fun x21 ex21 => ?_)
  have fqx21 := fl_and_eq ex21
  have hF0 := hF0.trans (fl_lt_eq (show x21.toInt = fl_and x17.toInt 858993459 from fqx21))
  refine lv_iadd hx hb dJ6_bitCount_0f7a4_22 ?_
  refine lv_topi (fun x22 ex22 => ?_)
  have fqx22 := fl_iadd_eq ex22
  have hF0 := hF0.trans (fl_lt_eq (show x22.toInt = fl_iadd x14.toInt x21.toInt from fqx22))
  refine lv_istore_n (lv' := [(0, .int x22)]) hx hb dJ6_bitCount_0f7a4_23 rfl hl (by decide) rfl (fun ls hl => ?_)
  refine lv_iload_n hx hb dJ6_bitCount_0f7a4_24 rfl (lv_at hl 0 rfl) ?_
  refine lv_iload_n hx hb dJ6_bitCount_0f7a4_25 rfl (lv_at hl 0 rfl) ?_
  refine lv_iconst (v := 4) hx hb dJ6_bitCount_0f7a4_26 zk_iconst_4 ?_
  refine lv_iushr hx hb dJ6_bitCount_0f7a4_27 rfl ?_
  refine lv_topi (fun x27 ex27 => ?_)
  have fqx27 := fl_ushr_eq ex27
  have hF0 := hF0.trans (fl_lt_eq (show x27.toInt = fl_ushr x22.toInt 4 from fqx27))
  refine lv_iadd hx hb dJ6_bitCount_0f7a4_28 ?_
  refine lv_topi (fun x28 ex28 => ?_)
  have fqx28 := fl_iadd_eq ex28
  have hF0 := hF0.trans (fl_lt_eq (show x28.toInt = fl_iadd x22.toInt x27.toInt from fqx28))
  refine lv_ldcw (v := 252645135) hx hb hown (hts (.constant RJ6 267 (252645135)) (List.mem_cons_of_mem _ (List.mem_of_getElem? (i := 2) rfl))) dJ6_bitCount_0f7a4_29 ?_
  refine lv_iand hx hb dJ6_bitCount_0f7a4_32 ?_
  refine lv_topi (fun x32 ex32 => ?_)
  have fqx32 := fl_and_eq ex32
  have hF0 := hF0.trans (fl_lt_eq (show x32.toInt = fl_and x28.toInt 252645135 from fqx32))
  refine lv_istore_n (lv' := [(0, .int x32)]) hx hb dJ6_bitCount_0f7a4_33 rfl hl (by decide) rfl (fun ls hl => ?_)
  refine lv_iload_n hx hb dJ6_bitCount_0f7a4_34 rfl (lv_at hl 0 rfl) ?_
  refine lv_iload_n hx hb dJ6_bitCount_0f7a4_35 rfl (lv_at hl 0 rfl) ?_
  refine lv_bipush (v := 8) hx hb dJ6_bitCount_0f7a4_36 zk_bipush_8 ?_
  refine lv_iushr hx hb dJ6_bitCount_0f7a4_38 rfl ?_
  refine lv_topi (fun x38 ex38 => ?_)
  have fqx38 := fl_ushr_eq ex38
  have hF0 := hF0.trans (fl_lt_eq (show x38.toInt = fl_ushr x32.toInt 8 from fqx38))
  refine lv_iadd hx hb dJ6_bitCount_0f7a4_39 ?_
  refine lv_topi (fun x39 ex39 => ?_)
  have fqx39 := fl_iadd_eq ex39
  have hF0 := hF0.trans (fl_lt_eq (show x39.toInt = fl_iadd x32.toInt x38.toInt from fqx39))
  refine lv_istore_n (lv' := [(0, .int x39)]) hx hb dJ6_bitCount_0f7a4_40 rfl hl (by decide) rfl (fun ls hl => ?_)
  refine lv_iload_n hx hb dJ6_bitCount_0f7a4_41 rfl (lv_at hl 0 rfl) ?_
  refine lv_iload_n hx hb dJ6_bitCount_0f7a4_42 rfl (lv_at hl 0 rfl) ?_
  refine lv_bipush (v := 16) hx hb dJ6_bitCount_0f7a4_43 zk_bipush_16 ?_
  refine lv_iushr hx hb dJ6_bitCount_0f7a4_45 rfl ?_
  refine lv_topi (fun x45 ex45 => ?_)
  have fqx45 := fl_ushr_eq ex45
  have hF0 := hF0.trans (fl_lt_eq (show x45.toInt = fl_ushr x39.toInt 16 from fqx45))
  refine lv_iadd hx hb dJ6_bitCount_0f7a4_46 ?_
  refine lv_topi (fun x46 ex46 => ?_)
  have fqx46 := fl_iadd_eq ex46
  have hF0 := hF0.trans (fl_lt_eq (show x46.toInt = fl_iadd x39.toInt x45.toInt from fqx46))
  refine lv_istore_n (lv' := [(0, .int x46)]) hx hb dJ6_bitCount_0f7a4_47 rfl hl (by decide) rfl (fun ls hl => ?_)
  refine lv_iload_n hx hb dJ6_bitCount_0f7a4_48 rfl (lv_at hl 0 rfl) ?_
  refine lv_bipush (v := 63) hx hb dJ6_bitCount_0f7a4_49 zk_bipush_63 ?_
  refine lv_iand hx hb dJ6_bitCount_0f7a4_51 ?_
  refine lv_topi (fun x51 ex51 => ?_)
  have fqx51 := fl_and_eq ex51
  have hF0 := hF0.trans (fl_lt_eq (show x51.toInt = fl_and x46.toInt 63 from fqx51))
  have hFe : FX = x51.toInt := hF0
  exact W.iret (v := x51) hx hb hr (fun t ht hW => ⟨⟨x51, (), rfl, ⟨trivial, hFe.symm⟩, by rw [ht]; exact hP, va_K.moved hW.alike hK, hD⟩, hS.F ht⟩) hS.2.2 dJ6_bitCount_0f7a4_52

set_option maxHeartbeats 4000000 in
set_option maxRecDepth 100000 in
theorem f_X6_add (l : Launch) (dC : Nat → ClassId) (dI : Nat → Nat → Nat) (sz : Nat) (a0 : Nat) (a1 : Int32) (a2 : Int32) (a0_0 : Int32) (a0g_1 : Value) (a0_2 : Nat) (a0_3 : Nat) (ka0_2 : ClassId) (fa0_2 : Nat → Int32) (ka0_3 : ClassId) (fa0_3 : Nat → Int32) (ba1_l : (0 : Int) ≤ a1.toInt) (ba1_u : a1.toInt ≤ (8 : Int)) (ba2_l : (0 : Int) ≤ a2.toInt) (ba2_u : a2.toInt ≤ (8 : Int)) (ba0_0_l : (0 : Int) ≤ a0_0.toInt) (ba0_0_u : a0_0.toInt ≤ (3 : Int)) (bfa0_2 : (∀ k, (0 : Int) ≤ (fa0_2 k).toInt ∧ (fa0_2 k).toInt ≤ 80)) (bfa0_3 : (∀ k, (0 : Int) ≤ (fa0_3 k).toInt ∧ (fa0_3 k).toInt ≤ 80)) : zm l yX6_add wsX6_add ({ frames := 0, cells := 0, slots := 0, locals := 0 }) [.ref a0, .int a1, .int a2] dC dI sz [(a0, .inr (6, [.int a0_0, a0g_1, .ref a0_2, .ref a0_3])), (a0_2, .inl (ka0_2, 3, .inl (fa0_2))), (a0_3, .inl (ka0_3, 3, .inl (fa0_3)))] [(ka0_2, .int), (ka0_3, .int)] (fun A _ => True) (fun A => va_Qv (fun (_ : Unit) => True) (fun (_ : Unit) (t : State) => ∃ na0_0 : Int32, ∃ nfa0_2 : Nat → Int32, ∃ nfa0_3 : Nat → Int32, ((0 : Int) ≤ na0_0.toInt ∧ na0_0.toInt ≤ 3) ∧ (∀ k, (0 : Int) ≤ (nfa0_2 k).toInt ∧ (nfa0_2 k).toInt ≤ 80) ∧ (∀ k, (0 : Int) ≤ (nfa0_3 k).toInt ∧ (nfa0_3 k).toInt ≤ 80) ∧ (Ff_X6_add a1.toInt a2.toInt a0_0.toInt (fl_A fa0_2) (fl_A fa0_3) = (na0_0.toInt, (fl_A nfa0_2), (fl_A nfa0_3))) ∧ ax_B dC dI A [(a0, .inr (6, [.int na0_0, a0g_1, .ref a0_2, .ref a0_3])), (a0_2, .inl (ka0_2, 3, .inl (nfa0_2))), (a0_3, .inl (ka0_3, 3, .inl (nfa0_3)))] [(ka0_2, .int), (ka0_3, .int)] t) A) := by
  refine zh (cc := cX6_add) (maxL := 3) (ret := none) zn_RX6 rfl (Nat.le_of_ble_eq_true rfl) (fun p e s m below meth c A ls hx hb hml hr hts (hown : s.vm.findClass RX6 = some m.cls) hlocks hA hS hP hK hD hE (hl : lv_has ls 3 [(0, .ref a0), (1, .int a1), (2, .int a2)]) => ?_)
  generalize hFX : Ff_X6_add a1.toInt a2.toInt a0_0.toInt (fl_A fa0_2) (fl_A fa0_3) = FX at ⊢
  have hF0 := hFX.symm.trans (Ff_X6_add.eq_1 a1.toInt a2.toInt a0_0.toInt (fl_A fa0_2) (fl_A fa0_3))
  refine lv_aload_n hx hb dX6_add_0 rfl (lv_at hl 0 rfl) ?_
  refine va_get (D := (dC, dI)) (ci := 6) (v := .int a0_0) (C := RX6) (T := TX6) (N := 4) hx hb hts zi_X6_add_6 hown hK hP 0 rfl rfl 0 (by decide) (hts (.fieldLink RX6 18 "WaxTurns$Watchers" "count" "I") (List.mem_cons_of_mem _ (List.mem_append_left _ (List.mem_of_getElem? (i := 0) rfl)))) (fun _ h9 => h9) rfl dX6_add_1 ?_
  refine lv_iconst (v := 3) hx hb dX6_add_4 zk_iconst_3 ?_
  refine lv_icmp_ge (tgt := 38) hx hb dX6_add_5 (by decide) (fun c5 => ?_) (fun c5 => ?_)
  · have gc5 := ai_le c5
    have l5t_a0_0 : (3 : Int) ≤ a0_0.toInt := Int.le_trans zq8 gc5
    have hF0 := hF0.trans (if_pos (show 3 ≤ a0_0.toInt from gc5))
    have hFe : FX = (a0_0.toInt, (fl_A fa0_2), (fl_A fa0_3)) := hF0
    exact W.vret hx hb hr (fun t ht hW => ⟨⟨(), rfl, trivial, a0_0, fa0_2, fa0_3, ⟨Int.le_trans (by decide) l5t_a0_0, ba0_0_u⟩, bfa0_2, bfa0_3, hFe, by rw [ht]; exact hP, va_K.moved hW.alike hK, hD⟩, hS.F ht⟩) hS.2.2 dX6_add_38
  · have gc5 := ai_nle c5
    have u5f_a0_0 : a0_0.toInt ≤ (2 : Int) := ai_lthi gc5 zq9
    have hF0 := hF0.trans (if_neg (show ¬ (3 ≤ a0_0.toInt) from Int.not_le.mpr gc5))
    refine lv_aload_n hx hb dX6_add_8 rfl (lv_at hl 0 rfl) ?_
    refine va_get (D := (dC, dI)) (ci := 6) (v := .ref a0_2) (C := RX6) (T := TX6) (N := 4) hx hb hts zi_X6_add_6 hown hK hP 0 rfl rfl 2 (by decide) (hts (.fieldLink RX6 9 "WaxTurns$Watchers" "from" "[I") (List.mem_cons_of_mem _ (List.mem_append_left _ (List.mem_of_getElem? (i := 1) rfl)))) (fun _ h9 => h9) rfl dX6_add_9 ?_
    refine lv_aload_n hx hb dX6_add_12 rfl (lv_at hl 0 rfl) ?_
    refine va_get (D := (dC, dI)) (ci := 6) (v := .int a0_0) (C := RX6) (T := TX6) (N := 4) hx hb hts zi_X6_add_6 hown hK hP 0 rfl rfl 0 (by decide) (hts (.fieldLink RX6 18 "WaxTurns$Watchers" "count" "I") (List.mem_cons_of_mem _ (List.mem_append_left _ (List.mem_of_getElem? (i := 0) rfl)))) (fun _ h9 => h9) rfl dX6_add_13 ?_
    refine lv_iload_n hx hb dX6_add_16 rfl (lv_at hl 1 rfl) ?_
    refine va_iast hx hb hK hP hD hS 1 0 rfl rfl (ai_in ba0_0_l u5f_a0_0 (by decide) (by decide)) dX6_add_17 (fun H locs hP hD hS => ?_)
    obtain ⟨f17, ef17⟩ : ∃ g9 : Nat → Int32, g9 = upd fa0_2 (a0_0 : Int32).toNatClampNeg a1 := ⟨_, rfl⟩
    refine zs_1 (y := (a0_2, .inl (ka0_2, 3, .inl (f17)))) hP hD (by rw [ef17]) (fun hP hD => ?_)
    have bf17 : (∀ k, (0 : Int) ≤ (f17 k).toInt ∧ (f17 k).toInt ≤ 80) := by rw [ef17]; exact ai_upd bfa0_2 _ ⟨ba1_l, (Int.le_trans ba1_u zq10)⟩
    have fqf17 := fl_up_eq ef17
    have hF0 := hF0.trans (fl_lt_eq (show (fl_A f17) = fl_up (fl_A fa0_2) (a0_0.toInt.toNat) a1.toInt from fqf17))
    refine lv_aload_n hx hb dX6_add_18 rfl (lv_at hl 0 rfl) ?_
    refine va_get (D := (dC, dI)) (ci := 6) (v := .ref a0_3) (C := RX6) (T := TX6) (N := 4) hx hb hts zi_X6_add_6 hown hK hP 0 rfl rfl 3 (by decide) (hts (.fieldLink RX6 15 "WaxTurns$Watchers" "to" "[I") (List.mem_cons_of_mem _ (List.mem_append_left _ (List.mem_of_getElem? (i := 2) rfl)))) (fun _ h9 => h9) rfl dX6_add_19 ?_
    refine lv_aload_n hx hb dX6_add_22 rfl (lv_at hl 0 rfl) ?_
    refine va_get (D := (dC, dI)) (ci := 6) (v := .int a0_0) (C := RX6) (T := TX6) (N := 4) hx hb hts zi_X6_add_6 hown hK hP 0 rfl rfl 0 (by decide) (hts (.fieldLink RX6 18 "WaxTurns$Watchers" "count" "I") (List.mem_cons_of_mem _ (List.mem_append_left _ (List.mem_of_getElem? (i := 0) rfl)))) (fun _ h9 => h9) rfl dX6_add_23 ?_
    refine lv_iload_n hx hb dX6_add_26 rfl (lv_at hl 2 rfl) ?_
    refine va_iast hx hb hK hP hD hS 2 1 rfl rfl (ai_in ba0_0_l u5f_a0_0 (by decide) (by decide)) dX6_add_27 (fun H locs hP hD hS => ?_)
    obtain ⟨f27, ef27⟩ : ∃ g9 : Nat → Int32, g9 = upd fa0_3 (a0_0 : Int32).toNatClampNeg a2 := ⟨_, rfl⟩
    refine zs_2 (y := (a0_3, .inl (ka0_3, 3, .inl (f27)))) hP hD (by rw [ef27]) (fun hP hD => ?_)
    have bf27 : (∀ k, (0 : Int) ≤ (f27 k).toInt ∧ (f27 k).toInt ≤ 80) := by rw [ef27]; exact ai_upd bfa0_3 _ ⟨ba2_l, (Int.le_trans ba2_u zq10)⟩
    have fqf27 := fl_up_eq ef27
    have hF0 := hF0.trans (fl_lt_eq (show (fl_A f27) = fl_up (fl_A fa0_3) (a0_0.toInt.toNat) a2.toInt from fqf27))
    refine lv_aload_n hx hb dX6_add_28 rfl (lv_at hl 0 rfl) ?_
    refine lv_dup hx hb dX6_add_29 rfl ?_
    refine va_get (D := (dC, dI)) (ci := 6) (v := .int a0_0) (C := RX6) (T := TX6) (N := 4) hx hb hts zi_X6_add_6 hown hK hP 0 rfl rfl 0 (by decide) (hts (.fieldLink RX6 18 "WaxTurns$Watchers" "count" "I") (List.mem_cons_of_mem _ (List.mem_append_left _ (List.mem_of_getElem? (i := 0) rfl)))) (fun _ h9 => h9) rfl dX6_add_30 ?_
    refine lv_iconst (v := 1) hx hb dX6_add_33 zk_iconst_1 ?_
    refine lv_iadd hx hb dX6_add_34 ?_
    refine lv_topi (fun x34 ex34 => ?_)
    have qx34 : x34.toInt = a0_0.toInt + (1 : Int32).toInt := ai_add ex34 ⟨ba0_0_l, u5f_a0_0⟩ ⟨zq1, zq0⟩ (by decide) (by decide)
    have bx34 : (1 : Int) ≤ x34.toInt ∧ x34.toInt ≤ 3 := ⟨by rw [qx34]; exact Int.add_le_add ba0_0_l zq1, by rw [qx34]; exact Int.add_le_add u5f_a0_0 zq0⟩
    have wx34 : x34.toInt = a0_0.toInt + 1 := qx34
    have hF0 := hF0.trans (fl_lt_eq (show x34.toInt = a0_0.toInt + 1 from qx34))
    refine va_put (D := (dC, dI)) (ci := 6) (v := .int x34) (ty := .int) (C := RX6) (T := TX6) (N := 4) hx hb hts zi_X6_add_6 tyX6 tyX6_ok nmX6 hown hK hP hD hS 0 rfl rfl 0 (by decide) (hts (.fieldLink RX6 18 "WaxTurns$Watchers" "count" "I") (List.mem_cons_of_mem _ (List.mem_append_left _ (List.mem_of_getElem? (i := 0) rfl)))) (fun _ h9 => h9) rfl (tyX6_ok 0 (by decide)) rfl rfl (Nat.le_of_ble_eq_true rfl) dX6_add_35 (fun H locs hP hD hS => ?_)
    refine zs_0 (y := (a0, .inr (6, [.int x34, a0g_1, .ref a0_2, .ref a0_3]))) hP hD rfl (fun hP hD => ?_)
    have hFe : FX = (x34.toInt, (fl_A f17), (fl_A f27)) := hF0
    exact W.vret hx hb hr (fun t ht hW => ⟨⟨(), rfl, trivial, x34, f17, f27, ⟨Int.le_trans (by decide) bx34.1, bx34.2⟩, bf17, bf27, hFe, by rw [ht]; exact hP, va_K.moved hW.alike hK, hD⟩, hS.F ht⟩) hS.2.2 dX6_add_38

set_option maxHeartbeats 4000000 in
set_option maxRecDepth 100000 in
theorem f_X0_clear (l : Launch) (dC : Nat → ClassId) (dI : Nat → Nat → Nat) (sz : Nat) (a0 : Nat) (a0_0 : Int32) (a0g_1 a0g_2 a0g_3 a0g_5 a0g_6 a0g_7 a0g_12 a0g_13 : Value) (a0_4 : Int32) (a0_8 : Int32) (a0_9 : Int32) (a0_10 : Nat) (a0_11 : Nat) (a0_14 : Nat) (a0_14_0 : Int32) (a0_14g_1 a0_14g_2 a0_14g_3 : Value) (ka0_10 : ClassId) (fa0_10 : Nat → Int32) (ka0_11 : ClassId) (fa0_11 : Nat → Int32) (ba0_0_l : (0 : Int) ≤ a0_0.toInt) (ba0_0_u : a0_0.toInt ≤ (9 : Int)) (ba0_4_l : (0 : Int) ≤ a0_4.toInt) (ba0_4_u : a0_4.toInt ≤ (1 : Int)) (ba0_9_l : (0 : Int) ≤ a0_9.toInt) (ba0_9_u : a0_9.toInt ≤ (6 : Int)) (ba0_14_0_l : (0 : Int) ≤ a0_14_0.toInt) (ba0_14_0_u : a0_14_0.toInt ≤ (3 : Int)) : zm l yX0_clear wsX0_clear ({ frames := 0, cells := 0, slots := 0, locals := 0 }) [.ref a0] dC dI sz [(a0, .inr (0, [.int a0_0, a0g_1, a0g_2, a0g_3, .int a0_4, a0g_5, a0g_6, a0g_7, .int a0_8, .int a0_9, .ref a0_10, .ref a0_11, a0g_12, a0g_13, .ref a0_14])), (a0_14, .inr (6, [.int a0_14_0, a0_14g_1, a0_14g_2, a0_14g_3])), (a0_10, .inl (ka0_10, 9, .inl (fa0_10))), (a0_11, .inl (ka0_11, 9, .inl (fa0_11)))] [(ka0_10, .int), (ka0_11, .int)] (fun A _ => True) (fun A => va_Qv (fun (_ : Unit) => True) (fun (_ : Unit) (t : State) => ∃ na0_0 : Int32, ∃ na0_4 : Int32, ∃ na0_8 : Int32, ∃ na0_9 : Int32, ∃ na0_14_0 : Int32, ∃ nfa0_10 : Nat → Int32, ∃ nfa0_11 : Nat → Int32, ((0 : Int) ≤ na0_0.toInt ∧ na0_0.toInt ≤ 9) ∧ ((0 : Int) ≤ na0_4.toInt ∧ na0_4.toInt ≤ 1) ∧ ((0 : Int) ≤ na0_9.toInt ∧ na0_9.toInt ≤ 6) ∧ ((0 : Int) ≤ na0_14_0.toInt ∧ na0_14_0.toInt ≤ 3) ∧ (Ff_X0_clear (fl_A fa0_10) (fl_A fa0_11) = (na0_0.toInt, na0_4.toInt, na0_8.toInt, na0_9.toInt, na0_14_0.toInt, (fl_A nfa0_10), (fl_A nfa0_11))) ∧ ax_B dC dI A [(a0, .inr (0, [.int na0_0, a0g_1, a0g_2, a0g_3, .int na0_4, a0g_5, a0g_6, a0g_7, .int na0_8, .int na0_9, .ref a0_10, .ref a0_11, a0g_12, a0g_13, .ref a0_14])), (a0_14, .inr (6, [.int na0_14_0, a0_14g_1, a0_14g_2, a0_14g_3])), (a0_10, .inl (ka0_10, 9, .inl (nfa0_10))), (a0_11, .inl (ka0_11, 9, .inl (nfa0_11)))] [(ka0_10, .int), (ka0_11, .int)] t) A) := by
  refine zh (cc := cX0_clear) (maxL := 2) (ret := none) zn_RX0 rfl (Nat.le_of_ble_eq_true rfl) (fun p e s m below meth c A ls hx hb hml hr hts (hown : s.vm.findClass RX0 = some m.cls) hlocks hA hS hP hK hD hE (hl : lv_has ls 2 [(0, .ref a0)]) => ?_)
  generalize hFX : Ff_X0_clear (fl_A fa0_10) (fl_A fa0_11) = FX at ⊢
  have hF0 := hFX.symm.trans (Ff_X0_clear.eq_1 (fl_A fa0_10) (fl_A fa0_11))
  refine ai_open (fun K hK0 => ?_)
  refine (hK0 _ _ _).mpr ?_
  refine lv_aload_n hx hb dX0_clear_0 rfl (lv_at hl 0 rfl) ?_
  refine lv_iconst (v := 0) hx hb dX0_clear_1 zk_iconst_0 ?_
  refine va_put (D := (dC, dI)) (ci := 0) (v := .int 0) (ty := .int) (C := RX0) (T := TX0) (N := 15) hx hb hts zi_X0_clear_0 tyX0 tyX0_ok nmX0 hown hK hP hD hS 0 rfl rfl 0 (by decide) (hts (.fieldLink RX0 31 "WaxTurns$Hall" "figures" "I") (List.mem_cons_of_mem _ (List.mem_append_left _ (List.mem_append_left _ (List.mem_of_getElem? (i := 0) rfl))))) (fun _ h9 => h9) rfl (tyX0_ok 0 (by decide)) rfl rfl (Nat.le_of_ble_eq_true rfl) dX0_clear_2 (fun H locs hP hD hS => ?_)
  refine zs_0 (y := (a0, .inr (0, [.int 0, a0g_1, a0g_2, a0g_3, .int a0_4, a0g_5, a0g_6, a0g_7, .int a0_8, .int a0_9, .ref a0_10, .ref a0_11, a0g_12, a0g_13, .ref a0_14]))) hP hD rfl (fun hP hD => ?_)
  refine lv_aload_n hx hb dX0_clear_5 rfl (lv_at hl 0 rfl) ?_
  refine lv_iconst (v := 0) hx hb dX0_clear_6 zk_iconst_0 ?_
  refine va_put (D := (dC, dI)) (ci := 0) (v := .int 0) (ty := .boolean) (C := RX0) (T := TX0) (N := 15) hx hb hts zi_X0_clear_0 tyX0 tyX0_ok nmX0 hown hK hP hD hS 0 rfl rfl 4 (by decide) (hts (.fieldLink RX0 35 "WaxTurns$Hall" "lawTold" "Z") (List.mem_cons_of_mem _ (List.mem_append_left _ (List.mem_append_left _ (List.mem_of_getElem? (i := 1) rfl))))) (fun _ h9 => h9) rfl (tyX0_ok 4 (by decide)) rfl rfl (Nat.le_of_ble_eq_true rfl) dX0_clear_7 (fun H locs hP hD hS => ?_)
  refine zs_0 (y := (a0, .inr (0, [.int 0, a0g_1, a0g_2, a0g_3, .int 0, a0g_5, a0g_6, a0g_7, .int a0_8, .int a0_9, .ref a0_10, .ref a0_11, a0g_12, a0g_13, .ref a0_14]))) hP hD rfl (fun hP hD => ?_)
  refine lv_aload_n hx hb dX0_clear_10 rfl (lv_at hl 0 rfl) ?_
  refine lv_iconst (v := 0) hx hb dX0_clear_11 zk_iconst_0 ?_
  refine va_put (D := (dC, dI)) (ci := 0) (v := .int 0) (ty := .int) (C := RX0) (T := TX0) (N := 15) hx hb hts zi_X0_clear_0 tyX0 tyX0_ok nmX0 hown hK hP hD hS 0 rfl rfl 8 (by decide) (hts (.fieldLink RX0 39 "WaxTurns$Hall" "toldBits" "I") (List.mem_cons_of_mem _ (List.mem_append_left _ (List.mem_append_left _ (List.mem_of_getElem? (i := 2) rfl))))) (fun _ h9 => h9) rfl (tyX0_ok 8 (by decide)) rfl rfl (Nat.le_of_ble_eq_true rfl) dX0_clear_12 (fun H locs hP hD hS => ?_)
  refine zs_0 (y := (a0, .inr (0, [.int 0, a0g_1, a0g_2, a0g_3, .int 0, a0g_5, a0g_6, a0g_7, .int 0, .int a0_9, .ref a0_10, .ref a0_11, a0g_12, a0g_13, .ref a0_14]))) hP hD rfl (fun hP hD => ?_)
  refine lv_aload_n hx hb dX0_clear_15 rfl (lv_at hl 0 rfl) ?_
  refine lv_iconst (v := 0) hx hb dX0_clear_16 zk_iconst_0 ?_
  refine va_put (D := (dC, dI)) (ci := 0) (v := .int 0) (ty := .int) (C := RX0) (T := TX0) (N := 15) hx hb hts zi_X0_clear_0 tyX0 tyX0_ok nmX0 hown hK hP hD hS 0 rfl rfl 9 (by decide) (hts (.fieldLink RX0 42 "WaxTurns$Hall" "seenCount" "I") (List.mem_cons_of_mem _ (List.mem_append_left _ (List.mem_append_left _ (List.mem_of_getElem? (i := 3) rfl))))) (fun _ h9 => h9) rfl (tyX0_ok 9 (by decide)) rfl rfl (Nat.le_of_ble_eq_true rfl) dX0_clear_17 (fun H locs hP hD hS => ?_)
  refine zs_0 (y := (a0, .inr (0, [.int 0, a0g_1, a0g_2, a0g_3, .int 0, a0g_5, a0g_6, a0g_7, .int 0, .int 0, .ref a0_10, .ref a0_11, a0g_12, a0g_13, .ref a0_14]))) hP hD rfl (fun hP hD => ?_)
  refine lv_aload_n hx hb dX0_clear_20 rfl (lv_at hl 0 rfl) ?_
  refine va_get (D := (dC, dI)) (ci := 0) (v := .ref a0_14) (C := RX0) (T := TX0) (N := 15) hx hb hts zi_X0_clear_0 hown hK hP 0 rfl rfl 14 (by decide) (hts (.fieldLink RX0 27 "WaxTurns$Hall" "watchers" "LWaxTurns$Watchers;") (List.mem_cons_of_mem _ (List.mem_append_left _ (List.mem_append_left _ (List.mem_of_getElem? (i := 4) rfl))))) (fun _ h9 => h9) rfl dX0_clear_21 ?_
  refine lv_iconst (v := 0) hx hb dX0_clear_24 zk_iconst_0 ?_
  refine va_put (D := (dC, dI)) (ci := 6) (v := .int 0) (ty := .int) (C := RX6) (T := TX6) (N := 4) hx hb hts zi_X0_clear_6 tyX6 tyX6_ok nmX6 hown hK hP hD hS 1 rfl rfl 0 (by decide) (hts (.fieldLink RX0 45 "WaxTurns$Watchers" "count" "I") (List.mem_cons_of_mem _ (List.mem_append_left _ (List.mem_append_left _ (List.mem_of_getElem? (i := 5) rfl))))) (fun _ h9 => h9) rfl (tyX6_ok 0 (by decide)) rfl rfl (Nat.le_of_ble_eq_true rfl) dX0_clear_25 (fun H locs hP hD hS => ?_)
  refine zs_1 (y := (a0_14, .inr (6, [.int 0, a0_14g_1, a0_14g_2, a0_14g_3]))) hP hD rfl (fun hP hD => ?_)
  refine lv_iconst (v := 0) hx hb dX0_clear_28 zk_iconst_0 ?_
  refine lv_istore_n (lv' := [(1, .int 0), (0, .ref a0)]) hx hb dX0_clear_29 rfl hl (by decide) rfl (fun ls hl => ?_)
  have J30 : ∀ (n : Nat) (j30l1 : Int32) (j30a0_10_a : Nat → Int32) (j30a0_11_a : Nat → Int32) (H : Heap) (locs : List Loc) (ls : Array Slot), (10 : Int) - j30l1.toInt ≤ (n : Int) → (0 : Int) ≤ j30l1.toInt → j30l1.toInt ≤ (9 : Int) → (FX = fl_wh (fun t9 => Sf_X0_clear_30_1  t9.1 t9.2.1 t9.2.2) (0, 0, 0, 0, 0, (fun _ => 0), (fun _ => 0)) n (j30l1.toInt, (fl_A j30a0_10_a), (fl_A j30a0_11_a))) → va_P (dC, dI) vwCl [(a0, .inr (0, [.int 0, a0g_1, a0g_2, a0g_3, .int 0, a0g_5, a0g_6, a0g_7, .int 0, .int 0, .ref a0_10, .ref a0_11, a0g_12, a0g_13, .ref a0_14])), (a0_14, .inr (6, [.int 0, a0_14g_1, a0_14g_2, a0_14g_3])), (a0_10, .inl (ka0_10, 9, .inl (j30a0_10_a))), (a0_11, .inl (ka0_11, 9, .inl (j30a0_11_a)))] H → va_D A [(a0, .inr (0, [.int 0, a0g_1, a0g_2, a0g_3, .int 0, a0g_5, a0g_6, a0g_7, .int 0, .int 0, .ref a0_10, .ref a0_11, a0g_12, a0g_13, .ref a0_14])), (a0_14, .inr (6, [.int 0, a0_14g_1, a0_14g_2, a0_14g_3])), (a0_10, .inl (ka0_10, 9, .inl (j30a0_10_a))), (a0_11, .inl (ka0_11, 9, .inl (j30a0_11_a)))] → va_S A s.heap H locs → lv_has ls 2 [(0, .ref a0), (1, .int j30l1)] → K H locs (F0 m 30 ls []) := by
    intro n
    induction n with
    | zero =>
      intro j30l1 j30a0_10_a j30a0_11_a H locs ls hm bj30l1_l bj30l1_u hF0 hP hD hS hl
      have h8 := ai_min j30l1
      have h9 := ai_max j30l1
      exact absurd hm (by omega)
    | succ n ih30 =>
      intro j30l1 j30a0_10_a j30a0_11_a H locs ls hm bj30l1_l bj30l1_u hF0 hP hD hS hl
      refine (hK0 _ _ _).mpr ?_
      have hm30 := hm
      obtain ⟨SX30, hSX30⟩ : ∃ q9, Sf_X0_clear_30_1  j30l1.toInt (fl_A j30a0_10_a) (fl_A j30a0_11_a) = q9 := ⟨_, rfl⟩
      have hF1 := hSX30.symm.trans (Sf_X0_clear_30_1.eq_1  j30l1.toInt (fl_A j30a0_10_a) (fl_A j30a0_11_a))
      refine lv_iload_n hx hb dX0_clear_30 rfl (lv_at hl 1 rfl) ?_
      refine lv_bipush (v := 9) hx hb dX0_clear_31 zk_bipush_9 ?_
      refine lv_icmp_ge (tgt := 56) hx hb dX0_clear_33 (by decide) (fun c33 => ?_) (fun c33 => ?_)
      · have gc33 := ai_le c33
        have l33t_j30l1 : (9 : Int) ≤ j30l1.toInt := Int.le_trans zq2 gc33
        have hF1 := hF1.trans (if_pos (show 9 ≤ j30l1.toInt from gc33))
        have hF0 := hF0.trans (fl_wh_r (hSX30.trans hF1))
        have hFe : FX = (0, 0, 0, 0, 0, (fl_A j30a0_10_a), (fl_A j30a0_11_a)) := hF0
        exact W.vret hx hb hr (fun t ht hW => ⟨⟨(), rfl, trivial, 0, 0, 0, 0, 0, j30a0_10_a, j30a0_11_a, ⟨zq5, Int.le_trans zq6 (by decide)⟩, ⟨zq5, Int.le_trans zq6 (by decide)⟩, ⟨zq5, Int.le_trans zq6 (by decide)⟩, ⟨zq5, Int.le_trans zq6 (by decide)⟩, hFe, by rw [ht]; exact hP, va_K.moved hW.alike hK, hD⟩, hS.F ht⟩) hS.2.2 dX0_clear_56
      · have gc33 := ai_nle c33
        have u33f_j30l1 : j30l1.toInt ≤ (8 : Int) := ai_lthi gc33 zq3
        have hF1 := hF1.trans (if_neg (show ¬ (9 ≤ j30l1.toInt) from Int.not_le.mpr gc33))
        refine lv_aload_n hx hb dX0_clear_36 rfl (lv_at hl 0 rfl) ?_
        refine va_get (D := (dC, dI)) (ci := 0) (v := .ref a0_10) (C := RX0) (T := TX0) (N := 15) hx hb hts zi_X0_clear_0 hown hK hP 0 rfl rfl 10 (by decide) (hts (.fieldLink RX0 9 "WaxTurns$Hall" "kinds" "[I") (List.mem_cons_of_mem _ (List.mem_append_left _ (List.mem_append_left _ (List.mem_of_getElem? (i := 6) rfl))))) (fun _ h9 => h9) rfl dX0_clear_37 ?_
        refine lv_iload_n hx hb dX0_clear_40 rfl (lv_at hl 1 rfl) ?_
        refine lv_iconst (v := 0) hx hb dX0_clear_41 zk_iconst_0 ?_
        refine va_iast hx hb hK hP hD hS 2 0 rfl rfl (ai_in bj30l1_l u33f_j30l1 (by decide) (by decide)) dX0_clear_42 (fun H locs hP hD hS => ?_)
        obtain ⟨f42, ef42⟩ : ∃ g9 : Nat → Int32, g9 = upd j30a0_10_a (j30l1 : Int32).toNatClampNeg (0 : Int32) := ⟨_, rfl⟩
        refine zs_2 (y := (a0_10, .inl (ka0_10, 9, .inl (f42)))) hP hD (by rw [ef42]) (fun hP hD => ?_)
        have fqf42 := fl_up_eq ef42
        have hF1 := hF1.trans (fl_lt_eq (show (fl_A f42) = fl_up (fl_A j30a0_10_a) (j30l1.toInt.toNat) 0 from fqf42))
        refine lv_aload_n hx hb dX0_clear_43 rfl (lv_at hl 0 rfl) ?_
        refine va_get (D := (dC, dI)) (ci := 0) (v := .ref a0_11) (C := RX0) (T := TX0) (N := 15) hx hb hts zi_X0_clear_0 hown hK hP 0 rfl rfl 11 (by decide) (hts (.fieldLink RX0 15 "WaxTurns$Hall" "measures" "[I") (List.mem_cons_of_mem _ (List.mem_append_left _ (List.mem_append_left _ (List.mem_of_getElem? (i := 7) rfl))))) (fun _ h9 => h9) rfl dX0_clear_44 ?_
        refine lv_iload_n hx hb dX0_clear_47 rfl (lv_at hl 1 rfl) ?_
        refine lv_iconst (v := 0) hx hb dX0_clear_48 zk_iconst_0 ?_
        refine va_iast hx hb hK hP hD hS 3 1 rfl rfl (ai_in bj30l1_l u33f_j30l1 (by decide) (by decide)) dX0_clear_49 (fun H locs hP hD hS => ?_)
        obtain ⟨f49, ef49⟩ : ∃ g9 : Nat → Int32, g9 = upd j30a0_11_a (j30l1 : Int32).toNatClampNeg (0 : Int32) := ⟨_, rfl⟩
        refine zs_3 (y := (a0_11, .inl (ka0_11, 9, .inl (f49)))) hP hD (by rw [ef49]) (fun hP hD => ?_)
        have fqf49 := fl_up_eq ef49
        have hF1 := hF1.trans (fl_lt_eq (show (fl_A f49) = fl_up (fl_A j30a0_11_a) (j30l1.toInt.toNat) 0 from fqf49))
        obtain ⟨x50, ex50⟩ : ∃ y : Int32, y = j30l1 + Int32.ofInt 1 := ⟨_, rfl⟩
        have qx50 : x50.toInt = j30l1.toInt + 1 := ai_inc ex50 (by decide) (by decide) u33f_j30l1 (by decide)
        have bx50 : (1 : Int) ≤ x50.toInt ∧ x50.toInt ≤ 9 := ⟨by rw [qx50]; exact Int.add_le_add bj30l1_l (Int.le_refl _), by rw [qx50]; exact Int.add_le_add u33f_j30l1 (Int.le_refl _)⟩
        refine lv_iinc (v := x50) (lv' := [(1, .int x50), (0, .ref a0)]) hx hb dX0_clear_50 hl (k := 1) rfl ex50.symm (by decide) rfl (fun ls hl => ?_)
        have hF1 := hF1.trans (fl_lt_eq (show x50.toInt = j30l1.toInt + 1 from qx50))
        refine lv_goto (tgt := 30) hx hb dX0_clear_53 (by decide) ?_
        exact (hK0 _ _ _).mp (ih30 x50 f42 f49 _ _ _ (by have h0 := qx50; omega) (Int.le_trans zq4 bx50.1) bx50.2 (hF0.trans (fl_wh_l (hSX30.trans hF1))) hP hD hS (lv_sub hl [1, 0] rfl))
  exact (hK0 _ _ _).mp (J30 10 0 fa0_10 fa0_11 _ _ _ (by have h1 : (0 : Int) ≤ (0 : Int32).toInt := zq5; have h2 : (0 : Int32).toInt ≤ (0 : Int) := zq6; omega) zq5 (Int.le_trans zq6 zq7) (by rw [show (0 : Int32).toInt = 0 from by decide]; exact hF0) hP hD hS (lv_sub hl [1, 0] rfl))

set_option maxHeartbeats 4000000 in
set_option maxRecDepth 100000 in
theorem f_X0_addFigure (l : Launch) (dC : Nat → ClassId) (dI : Nat → Nat → Nat) (sz : Nat) (a0 : Nat) (a1 : Int32) (a2 : Int32) (a3 : Int32) (a0g_0 a0g_1 a0g_2 a0g_3 a0g_4 a0g_5 a0g_6 a0g_7 a0g_9 a0g_12 a0g_13 a0g_14 : Value) (a0_8 : Int32) (a0_10 : Nat) (a0_11 : Nat) (ka0_10 : ClassId) (fa0_10 : Nat → Int32) (ka0_11 : ClassId) (fa0_11 : Nat → Int32)  : zm l yX0_addFigure wsX0_addFigure ({ frames := 0, cells := 0, slots := 0, locals := 0 }) [.ref a0, .int a1, .int a2, .int a3] dC dI sz [(a0, .inr (0, [a0g_0, a0g_1, a0g_2, a0g_3, a0g_4, a0g_5, a0g_6, a0g_7, .int a0_8, a0g_9, .ref a0_10, .ref a0_11, a0g_12, a0g_13, a0g_14])), (a0_10, .inl (ka0_10, 9, .inl (fa0_10))), (a0_11, .inl (ka0_11, 9, .inl (fa0_11)))] [(ka0_10, .int), (ka0_11, .int)] (fun A _ => True) (fun A => va_Qv (fun (_ : Unit) => True) (fun (_ : Unit) (t : State) => ∃ na0_8 : Int32, ∃ nfa0_10 : Nat → Int32, ∃ nfa0_11 : Nat → Int32, (Ff_X0_addFigure a1.toInt a2.toInt a3.toInt a0_8.toInt (fl_A fa0_10) (fl_A fa0_11) = (na0_8.toInt, (fl_A nfa0_10), (fl_A nfa0_11))) ∧ ax_B dC dI A [(a0, .inr (0, [a0g_0, a0g_1, a0g_2, a0g_3, a0g_4, a0g_5, a0g_6, a0g_7, .int na0_8, a0g_9, .ref a0_10, .ref a0_11, a0g_12, a0g_13, a0g_14])), (a0_10, .inl (ka0_10, 9, .inl (nfa0_10))), (a0_11, .inl (ka0_11, 9, .inl (nfa0_11)))] [(ka0_10, .int), (ka0_11, .int)] t) A) := by
  refine zh (cc := cX0_addFigure) (maxL := 4) (ret := none) zn_RX0 rfl (Nat.le_of_ble_eq_true rfl) (fun p e s m below meth c A ls hx hb hml hr hts (hown : s.vm.findClass RX0 = some m.cls) hlocks hA hS hP hK hD hE (hl : lv_has ls 4 [(0, .ref a0), (1, .int a1), (2, .int a2), (3, .int a3)]) => ?_)
  generalize hFX : Ff_X0_addFigure a1.toInt a2.toInt a3.toInt a0_8.toInt (fl_A fa0_10) (fl_A fa0_11) = FX at ⊢
  have hF0 := hFX.symm.trans (Ff_X0_addFigure.eq_1 a1.toInt a2.toInt a3.toInt a0_8.toInt (fl_A fa0_10) (fl_A fa0_11))
  refine lv_iload_n hx hb dX0_addFigure_0 rfl (lv_at hl 1 rfl) ?_
  refine lv_if_lt (tgt := 36) hx hb dX0_addFigure_1 (by decide) (fun c1 => ?_) (fun c1 => ?_)
  · have gc1 := ai_lt c1
    have u1t_a1 : a1.toInt ≤ (-1 : Int) := ai_lthi gc1 zq6
    have hF0 := hF0.trans (if_pos (show a1.toInt < 0 from gc1))
    have hFe : FX = (a0_8.toInt, (fl_A fa0_10), (fl_A fa0_11)) := hF0
    exact W.vret hx hb hr (fun t ht hW => ⟨⟨(), rfl, trivial, a0_8, fa0_10, fa0_11, hFe, by rw [ht]; exact hP, va_K.moved hW.alike hK, hD⟩, hS.F ht⟩) hS.2.2 dX0_addFigure_36
  · have gc1 := ai_nlt c1
    have l1f_a1 : (0 : Int) ≤ a1.toInt := Int.le_trans zq5 gc1
    have hF0 := hF0.trans (if_neg (show ¬ (a1.toInt < 0) from Int.not_lt.mpr gc1))
    refine lv_iload_n hx hb dX0_addFigure_4 rfl (lv_at hl 1 rfl) ?_
    refine lv_bipush (v := 9) hx hb dX0_addFigure_5 zk_bipush_9 ?_
    refine lv_icmp_ge (tgt := 36) hx hb dX0_addFigure_7 (by decide) (fun c7 => ?_) (fun c7 => ?_)
    · have gc7 := ai_le c7
      have l7t_a1 : (9 : Int) ≤ a1.toInt := Int.le_trans zq2 gc7
      have hF0 := hF0.trans (if_pos (show 9 ≤ a1.toInt from gc7))
      have hFe : FX = (a0_8.toInt, (fl_A fa0_10), (fl_A fa0_11)) := hF0
      exact W.vret hx hb hr (fun t ht hW => ⟨⟨(), rfl, trivial, a0_8, fa0_10, fa0_11, hFe, by rw [ht]; exact hP, va_K.moved hW.alike hK, hD⟩, hS.F ht⟩) hS.2.2 dX0_addFigure_36
    · have gc7 := ai_nle c7
      have u7f_a1 : a1.toInt ≤ (8 : Int) := ai_lthi gc7 zq3
      have hF0 := hF0.trans (if_neg (show ¬ (9 ≤ a1.toInt) from Int.not_le.mpr gc7))
      refine lv_aload_n hx hb dX0_addFigure_10 rfl (lv_at hl 0 rfl) ?_
      refine lv_dup hx hb dX0_addFigure_11 rfl ?_
      refine va_get (D := (dC, dI)) (ci := 0) (v := .int a0_8) (C := RX0) (T := TX0) (N := 15) hx hb hts zi_X0_addFigure_0 hown hK hP 0 rfl rfl 8 (by decide) (hts (.fieldLink RX0 39 "WaxTurns$Hall" "toldBits" "I") (List.mem_cons_of_mem _ (List.mem_append_left _ (List.mem_of_getElem? (i := 0) rfl)))) (fun _ h9 => h9) rfl dX0_addFigure_12 ?_
      refine lv_iconst (v := 1) hx hb dX0_addFigure_15 zk_iconst_1 ?_
      refine lv_iload_n hx hb dX0_addFigure_16 rfl (lv_at hl 1 rfl) ?_
      refine lv_ishl hx hb dX0_addFigure_17 ?_
      refine lv_topi (fun x17 ex17 => ?_)
      have bx17 : (1 : Int) ≤ x17.toInt ∧ x17.toInt ≤ 512 := sh_1 ex17 l1f_a1 (Int.le_trans u7f_a1 zq22)
      have fqx17 := fl_shl_eq ex17
      have hF0 := hF0.trans (fl_lt_eq (show x17.toInt = fl_shl 1 a1.toInt from fqx17))
      refine lv_ior hx hb dX0_addFigure_18 ?_
      refine lv_topi (fun x18 ex18 => ?_)
      have fqx18 := fl_or_eq ex18
      have hF0 := hF0.trans (fl_lt_eq (show x18.toInt = fl_or a0_8.toInt x17.toInt from fqx18))
      refine va_put (D := (dC, dI)) (ci := 0) (v := .int x18) (ty := .int) (C := RX0) (T := TX0) (N := 15) hx hb hts zi_X0_addFigure_0 tyX0 tyX0_ok nmX0 hown hK hP hD hS 0 rfl rfl 8 (by decide) (hts (.fieldLink RX0 39 "WaxTurns$Hall" "toldBits" "I") (List.mem_cons_of_mem _ (List.mem_append_left _ (List.mem_of_getElem? (i := 0) rfl)))) (fun _ h9 => h9) rfl (tyX0_ok 8 (by decide)) rfl rfl (Nat.le_of_ble_eq_true rfl) dX0_addFigure_19 (fun H locs hP hD hS => ?_)
      refine zs_0 (y := (a0, .inr (0, [a0g_0, a0g_1, a0g_2, a0g_3, a0g_4, a0g_5, a0g_6, a0g_7, .int x18, a0g_9, .ref a0_10, .ref a0_11, a0g_12, a0g_13, a0g_14]))) hP hD rfl (fun hP hD => ?_)
      refine lv_aload_n hx hb dX0_addFigure_22 rfl (lv_at hl 0 rfl) ?_
      refine va_get (D := (dC, dI)) (ci := 0) (v := .ref a0_10) (C := RX0) (T := TX0) (N := 15) hx hb hts zi_X0_addFigure_0 hown hK hP 0 rfl rfl 10 (by decide) (hts (.fieldLink RX0 9 "WaxTurns$Hall" "kinds" "[I") (List.mem_cons_of_mem _ (List.mem_append_left _ (List.mem_of_getElem? (i := 1) rfl)))) (fun _ h9 => h9) rfl dX0_addFigure_23 ?_
      refine lv_iload_n hx hb dX0_addFigure_26 rfl (lv_at hl 1 rfl) ?_
      refine lv_iload_n hx hb dX0_addFigure_27 rfl (lv_at hl 2 rfl) ?_
      refine va_iast hx hb hK hP hD hS 1 0 rfl rfl (ai_in l1f_a1 u7f_a1 (by decide) (by decide)) dX0_addFigure_28 (fun H locs hP hD hS => ?_)
      obtain ⟨f28, ef28⟩ : ∃ g9 : Nat → Int32, g9 = upd fa0_10 (a1 : Int32).toNatClampNeg a2 := ⟨_, rfl⟩
      refine zs_1 (y := (a0_10, .inl (ka0_10, 9, .inl (f28)))) hP hD (by rw [ef28]) (fun hP hD => ?_)
      have fqf28 := fl_up_eq ef28
      have hF0 := hF0.trans (fl_lt_eq (show (fl_A f28) = fl_up (fl_A fa0_10) (a1.toInt.toNat) a2.toInt from fqf28))
      refine lv_aload_n hx hb dX0_addFigure_29 rfl (lv_at hl 0 rfl) ?_
      refine va_get (D := (dC, dI)) (ci := 0) (v := .ref a0_11) (C := RX0) (T := TX0) (N := 15) hx hb hts zi_X0_addFigure_0 hown hK hP 0 rfl rfl 11 (by decide) (hts (.fieldLink RX0 15 "WaxTurns$Hall" "measures" "[I") (List.mem_cons_of_mem _ (List.mem_append_left _ (List.mem_of_getElem? (i := 2) rfl)))) (fun _ h9 => h9) rfl dX0_addFigure_30 ?_
      refine lv_iload_n hx hb dX0_addFigure_33 rfl (lv_at hl 1 rfl) ?_
      refine lv_iload_n hx hb dX0_addFigure_34 rfl (lv_at hl 3 rfl) ?_
      refine va_iast hx hb hK hP hD hS 2 1 rfl rfl (ai_in l1f_a1 u7f_a1 (by decide) (by decide)) dX0_addFigure_35 (fun H locs hP hD hS => ?_)
      obtain ⟨f35, ef35⟩ : ∃ g9 : Nat → Int32, g9 = upd fa0_11 (a1 : Int32).toNatClampNeg a3 := ⟨_, rfl⟩
      refine zs_2 (y := (a0_11, .inl (ka0_11, 9, .inl (f35)))) hP hD (by rw [ef35]) (fun hP hD => ?_)
      have fqf35 := fl_up_eq ef35
      have hF0 := hF0.trans (fl_lt_eq (show (fl_A f35) = fl_up (fl_A fa0_11) (a1.toInt.toNat) a3.toInt from fqf35))
      have hFe : FX = (x18.toInt, (fl_A f28), (fl_A f35)) := hF0
      exact W.vret hx hb hr (fun t ht hW => ⟨⟨(), rfl, trivial, x18, f28, f35, hFe, by rw [ht]; exact hP, va_K.moved hW.alike hK, hD⟩, hS.F ht⟩) hS.2.2 dX0_addFigure_36

set_option maxHeartbeats 4000000 in
set_option maxRecDepth 100000 in
theorem f_X0_addSeen (l : Launch) (dC : Nat → ClassId) (dI : Nat → Nat → Nat) (sz : Nat) (a0 : Nat) (a1 : Int32) (a2 : Int32) (a0g_0 a0g_1 a0g_2 a0g_3 a0g_4 a0g_5 a0g_6 a0g_7 a0g_8 a0g_10 a0g_11 a0g_14 : Value) (a0_9 : Int32) (a0_12 : Nat) (a0_13 : Nat) (ka0_12 : ClassId) (fa0_12 : Nat → Int32) (ka0_13 : ClassId) (fa0_13 : Nat → Int32) (ba2_l : (0 : Int) ≤ a2.toInt) (ba2_u : a2.toInt ≤ (999 : Int)) (ba0_9_l : (0 : Int) ≤ a0_9.toInt) (ba0_9_u : a0_9.toInt ≤ (6 : Int)) (bfa0_13 : (∀ k, (0 : Int) ≤ (fa0_13 k).toInt ∧ (fa0_13 k).toInt ≤ 999)) : zm l yX0_addSeen wsX0_addSeen ({ frames := 0, cells := 0, slots := 0, locals := 0 }) [.ref a0, .int a1, .int a2] dC dI sz [(a0, .inr (0, [a0g_0, a0g_1, a0g_2, a0g_3, a0g_4, a0g_5, a0g_6, a0g_7, a0g_8, .int a0_9, a0g_10, a0g_11, .ref a0_12, .ref a0_13, a0g_14])), (a0_12, .inl (ka0_12, 6, .inl (fa0_12))), (a0_13, .inl (ka0_13, 6, .inl (fa0_13)))] [(ka0_12, .int), (ka0_13, .int)] (fun A _ => True) (fun A => va_Qv (fun (_ : Unit) => True) (fun (_ : Unit) (t : State) => ∃ na0_9 : Int32, ∃ nfa0_12 : Nat → Int32, ∃ nfa0_13 : Nat → Int32, ((0 : Int) ≤ na0_9.toInt ∧ na0_9.toInt ≤ 6) ∧ (∀ k, (0 : Int) ≤ (nfa0_13 k).toInt ∧ (nfa0_13 k).toInt ≤ 999) ∧ (Ff_X0_addSeen a1.toInt a2.toInt a0_9.toInt (fl_A fa0_12) (fl_A fa0_13) = (na0_9.toInt, (fl_A nfa0_12), (fl_A nfa0_13))) ∧ ax_B dC dI A [(a0, .inr (0, [a0g_0, a0g_1, a0g_2, a0g_3, a0g_4, a0g_5, a0g_6, a0g_7, a0g_8, .int na0_9, a0g_10, a0g_11, .ref a0_12, .ref a0_13, a0g_14])), (a0_12, .inl (ka0_12, 6, .inl (nfa0_12))), (a0_13, .inl (ka0_13, 6, .inl (nfa0_13)))] [(ka0_12, .int), (ka0_13, .int)] t) A) := by
  refine zh (cc := cX0_addSeen) (maxL := 3) (ret := none) zn_RX0 rfl (Nat.le_of_ble_eq_true rfl) (fun p e s m below meth c A ls hx hb hml hr hts (hown : s.vm.findClass RX0 = some m.cls) hlocks hA hS hP hK hD hE (hl : lv_has ls 3 [(0, .ref a0), (1, .int a1), (2, .int a2)]) => ?_)
  generalize hFX : Ff_X0_addSeen a1.toInt a2.toInt a0_9.toInt (fl_A fa0_12) (fl_A fa0_13) = FX at ⊢
  have hF0 := hFX.symm.trans (Ff_X0_addSeen.eq_1 a1.toInt a2.toInt a0_9.toInt (fl_A fa0_12) (fl_A fa0_13))
  refine lv_aload_n hx hb dX0_addSeen_0 rfl (lv_at hl 0 rfl) ?_
  refine va_get (D := (dC, dI)) (ci := 0) (v := .int a0_9) (C := RX0) (T := TX0) (N := 15) hx hb hts zi_X0_addSeen_0 hown hK hP 0 rfl rfl 9 (by decide) (hts (.fieldLink RX0 42 "WaxTurns$Hall" "seenCount" "I") (List.mem_cons_of_mem _ (List.mem_append_left _ (List.mem_of_getElem? (i := 0) rfl)))) (fun _ h9 => h9) rfl dX0_addSeen_1 ?_
  refine lv_bipush (v := 6) hx hb dX0_addSeen_4 zk_bipush_6 ?_
  refine lv_icmp_ge (tgt := 39) hx hb dX0_addSeen_6 (by decide) (fun c6 => ?_) (fun c6 => ?_)
  · have gc6 := ai_le c6
    have l6t_a0_9 : (6 : Int) ≤ a0_9.toInt := Int.le_trans zq15 gc6
    have hF0 := hF0.trans (if_pos (show 6 ≤ a0_9.toInt from gc6))
    have hFe : FX = (a0_9.toInt, (fl_A fa0_12), (fl_A fa0_13)) := hF0
    exact W.vret hx hb hr (fun t ht hW => ⟨⟨(), rfl, trivial, a0_9, fa0_12, fa0_13, ⟨Int.le_trans (by decide) l6t_a0_9, ba0_9_u⟩, bfa0_13, hFe, by rw [ht]; exact hP, va_K.moved hW.alike hK, hD⟩, hS.F ht⟩) hS.2.2 dX0_addSeen_39
  · have gc6 := ai_nle c6
    have u6f_a0_9 : a0_9.toInt ≤ (5 : Int) := ai_lthi gc6 zq16
    have hF0 := hF0.trans (if_neg (show ¬ (6 ≤ a0_9.toInt) from Int.not_le.mpr gc6))
    refine lv_aload_n hx hb dX0_addSeen_9 rfl (lv_at hl 0 rfl) ?_
    refine va_get (D := (dC, dI)) (ci := 0) (v := .ref a0_12) (C := RX0) (T := TX0) (N := 15) hx hb hts zi_X0_addSeen_0 hown hK hP 0 rfl rfl 12 (by decide) (hts (.fieldLink RX0 18 "WaxTurns$Hall" "seenFigures" "[I") (List.mem_cons_of_mem _ (List.mem_append_left _ (List.mem_of_getElem? (i := 1) rfl)))) (fun _ h9 => h9) rfl dX0_addSeen_10 ?_
    refine lv_aload_n hx hb dX0_addSeen_13 rfl (lv_at hl 0 rfl) ?_
    refine va_get (D := (dC, dI)) (ci := 0) (v := .int a0_9) (C := RX0) (T := TX0) (N := 15) hx hb hts zi_X0_addSeen_0 hown hK hP 0 rfl rfl 9 (by decide) (hts (.fieldLink RX0 42 "WaxTurns$Hall" "seenCount" "I") (List.mem_cons_of_mem _ (List.mem_append_left _ (List.mem_of_getElem? (i := 0) rfl)))) (fun _ h9 => h9) rfl dX0_addSeen_14 ?_
    refine lv_iload_n hx hb dX0_addSeen_17 rfl (lv_at hl 1 rfl) ?_
    refine va_iast hx hb hK hP hD hS 1 0 rfl rfl (ai_in ba0_9_l u6f_a0_9 (by decide) (by decide)) dX0_addSeen_18 (fun H locs hP hD hS => ?_)
    obtain ⟨f18, ef18⟩ : ∃ g9 : Nat → Int32, g9 = upd fa0_12 (a0_9 : Int32).toNatClampNeg a1 := ⟨_, rfl⟩
    refine zs_1 (y := (a0_12, .inl (ka0_12, 6, .inl (f18)))) hP hD (by rw [ef18]) (fun hP hD => ?_)
    have fqf18 := fl_up_eq ef18
    have hF0 := hF0.trans (fl_lt_eq (show (fl_A f18) = fl_up (fl_A fa0_12) (a0_9.toInt.toNat) a1.toInt from fqf18))
    refine lv_aload_n hx hb dX0_addSeen_19 rfl (lv_at hl 0 rfl) ?_
    refine va_get (D := (dC, dI)) (ci := 0) (v := .ref a0_13) (C := RX0) (T := TX0) (N := 15) hx hb hts zi_X0_addSeen_0 hown hK hP 0 rfl rfl 13 (by decide) (hts (.fieldLink RX0 21 "WaxTurns$Hall" "seenMinutes" "[I") (List.mem_cons_of_mem _ (List.mem_append_left _ (List.mem_of_getElem? (i := 2) rfl)))) (fun _ h9 => h9) rfl dX0_addSeen_20 ?_
    refine lv_aload_n hx hb dX0_addSeen_23 rfl (lv_at hl 0 rfl) ?_
    refine va_get (D := (dC, dI)) (ci := 0) (v := .int a0_9) (C := RX0) (T := TX0) (N := 15) hx hb hts zi_X0_addSeen_0 hown hK hP 0 rfl rfl 9 (by decide) (hts (.fieldLink RX0 42 "WaxTurns$Hall" "seenCount" "I") (List.mem_cons_of_mem _ (List.mem_append_left _ (List.mem_of_getElem? (i := 0) rfl)))) (fun _ h9 => h9) rfl dX0_addSeen_24 ?_
    refine lv_iload_n hx hb dX0_addSeen_27 rfl (lv_at hl 2 rfl) ?_
    refine va_iast hx hb hK hP hD hS 2 1 rfl rfl (ai_in ba0_9_l u6f_a0_9 (by decide) (by decide)) dX0_addSeen_28 (fun H locs hP hD hS => ?_)
    obtain ⟨f28, ef28⟩ : ∃ g9 : Nat → Int32, g9 = upd fa0_13 (a0_9 : Int32).toNatClampNeg a2 := ⟨_, rfl⟩
    refine zs_2 (y := (a0_13, .inl (ka0_13, 6, .inl (f28)))) hP hD (by rw [ef28]) (fun hP hD => ?_)
    have bf28 : (∀ k, (0 : Int) ≤ (f28 k).toInt ∧ (f28 k).toInt ≤ 999) := by rw [ef28]; exact ai_upd bfa0_13 _ ⟨ba2_l, ba2_u⟩
    have fqf28 := fl_up_eq ef28
    have hF0 := hF0.trans (fl_lt_eq (show (fl_A f28) = fl_up (fl_A fa0_13) (a0_9.toInt.toNat) a2.toInt from fqf28))
    refine lv_aload_n hx hb dX0_addSeen_29 rfl (lv_at hl 0 rfl) ?_
    refine lv_dup hx hb dX0_addSeen_30 rfl ?_
    refine va_get (D := (dC, dI)) (ci := 0) (v := .int a0_9) (C := RX0) (T := TX0) (N := 15) hx hb hts zi_X0_addSeen_0 hown hK hP 0 rfl rfl 9 (by decide) (hts (.fieldLink RX0 42 "WaxTurns$Hall" "seenCount" "I") (List.mem_cons_of_mem _ (List.mem_append_left _ (List.mem_of_getElem? (i := 0) rfl)))) (fun _ h9 => h9) rfl dX0_addSeen_31 ?_
    refine lv_iconst (v := 1) hx hb dX0_addSeen_34 zk_iconst_1 ?_
    refine lv_iadd hx hb dX0_addSeen_35 ?_
    refine lv_topi (fun x35 ex35 => ?_)
    have qx35 : x35.toInt = a0_9.toInt + (1 : Int32).toInt := ai_add ex35 ⟨ba0_9_l, u6f_a0_9⟩ ⟨zq1, zq0⟩ (by decide) (by decide)
    have bx35 : (1 : Int) ≤ x35.toInt ∧ x35.toInt ≤ 6 := ⟨by rw [qx35]; exact Int.add_le_add ba0_9_l zq1, by rw [qx35]; exact Int.add_le_add u6f_a0_9 zq0⟩
    have wx35 : x35.toInt = a0_9.toInt + 1 := qx35
    have hF0 := hF0.trans (fl_lt_eq (show x35.toInt = a0_9.toInt + 1 from qx35))
    refine va_put (D := (dC, dI)) (ci := 0) (v := .int x35) (ty := .int) (C := RX0) (T := TX0) (N := 15) hx hb hts zi_X0_addSeen_0 tyX0 tyX0_ok nmX0 hown hK hP hD hS 0 rfl rfl 9 (by decide) (hts (.fieldLink RX0 42 "WaxTurns$Hall" "seenCount" "I") (List.mem_cons_of_mem _ (List.mem_append_left _ (List.mem_of_getElem? (i := 0) rfl)))) (fun _ h9 => h9) rfl (tyX0_ok 9 (by decide)) rfl rfl (Nat.le_of_ble_eq_true rfl) dX0_addSeen_36 (fun H locs hP hD hS => ?_)
    refine zs_0 (y := (a0, .inr (0, [a0g_0, a0g_1, a0g_2, a0g_3, a0g_4, a0g_5, a0g_6, a0g_7, a0g_8, .int x35, a0g_10, a0g_11, .ref a0_12, .ref a0_13, a0g_14]))) hP hD rfl (fun hP hD => ?_)
    have hFe : FX = (x35.toInt, (fl_A f18), (fl_A f28)) := hF0
    exact W.vret hx hb hr (fun t ht hW => ⟨⟨(), rfl, trivial, x35, f18, f28, ⟨Int.le_trans (by decide) bx35.1, bx35.2⟩, bf28, hFe, by rw [ht]; exact hP, va_K.moved hW.alike hK, hD⟩, hS.F ht⟩) hS.2.2 dX0_addSeen_39

set_option maxHeartbeats 4000000 in
set_option maxRecDepth 100000 in
theorem f_X0_isSeenMinute (l : Launch) (dC : Nat → ClassId) (dI : Nat → Nat → Nat) (sz : Nat) (a0 : Nat) (a1 : Int32) (a0g_0 a0g_1 a0g_2 a0g_3 a0g_4 a0g_5 a0g_6 a0g_7 a0g_8 a0g_10 a0g_11 a0g_12 a0g_14 : Value) (a0_9 : Int32) (a0_13 : Nat) (ka0_13 : ClassId) (fa0_13 : Nat → Int32) (ba0_9_l : (0 : Int) ≤ a0_9.toInt) (ba0_9_u : a0_9.toInt ≤ (6 : Int)) (bfa0_13 : (∀ k, (0 : Int) ≤ (fa0_13 k).toInt ∧ (fa0_13 k).toInt ≤ 999)) : zm l yX0_isSeenMinute wsX0_isSeenMinute ({ frames := 0, cells := 0, slots := 0, locals := 0 }) [.ref a0, .int a1] dC dI sz [(a0, .inr (0, [a0g_0, a0g_1, a0g_2, a0g_3, a0g_4, a0g_5, a0g_6, a0g_7, a0g_8, .int a0_9, a0g_10, a0g_11, a0g_12, .ref a0_13, a0g_14])), (a0_13, .inl (ka0_13, 6, .inl (fa0_13)))] [(ka0_13, .int)] (fun A _ => True) (fun A => va_Qi (fun (r : Int32) (_ : Unit) => ((r = 1 ∧ (0 : Int) ≤ a1.toInt ∧ a1.toInt ≤ (999 : Int) ∧ (1 : Int) ≤ a0_9.toInt ∧ a0_9.toInt ≤ (6 : Int)) ∨ (r = 0)) ∧ r.toInt = Ff_X0_isSeenMinute a1.toInt a0_9.toInt (fl_A fa0_13)) (fun (_ : Unit) (t : State) => ax_B dC dI A [(a0, .inr (0, [a0g_0, a0g_1, a0g_2, a0g_3, a0g_4, a0g_5, a0g_6, a0g_7, a0g_8, .int a0_9, a0g_10, a0g_11, a0g_12, .ref a0_13, a0g_14])), (a0_13, .inl (ka0_13, 6, .inl (fa0_13)))] [(ka0_13, .int)] t) A) := by
  refine zh (cc := cX0_isSeenMinute) (maxL := 3) (ret := (some .boolean)) zn_RX0 rfl (Nat.le_of_ble_eq_true rfl) (fun p e s m below meth c A ls hx hb hml hr hts (hown : s.vm.findClass RX0 = some m.cls) hlocks hA hS hP hK hD hE (hl : lv_has ls 3 [(0, .ref a0), (1, .int a1)]) => ?_)
  generalize hFX : Ff_X0_isSeenMinute a1.toInt a0_9.toInt (fl_A fa0_13) = FX at ⊢
  have hF0 := hFX.symm.trans (Ff_X0_isSeenMinute.eq_1 a1.toInt a0_9.toInt (fl_A fa0_13))
  refine ai_open (fun K hK0 => ?_)
  refine (hK0 _ _ _).mpr ?_
  refine lv_iconst (v := 0) hx hb dX0_isSeenMinute_0 zk_iconst_0 ?_
  refine lv_istore_n (lv' := [(2, .int 0), (0, .ref a0), (1, .int a1)]) hx hb dX0_isSeenMinute_1 rfl hl (by decide) rfl (fun ls hl => ?_)
  have J2 : ∀ (n : Nat) (j2l2 : Int32) (H : Heap) (locs : List Loc) (ls : Array Slot), (7 : Int) - j2l2.toInt ≤ (n : Int) → (0 : Int) ≤ j2l2.toInt → j2l2.toInt ≤ (6 : Int) → (FX = fl_wh (Sf_X0_isSeenMinute_2_1 a1.toInt a0_9.toInt (fl_A fa0_13)) 0 n j2l2.toInt) → va_P (dC, dI) vwCl [(a0, .inr (0, [a0g_0, a0g_1, a0g_2, a0g_3, a0g_4, a0g_5, a0g_6, a0g_7, a0g_8, .int a0_9, a0g_10, a0g_11, a0g_12, .ref a0_13, a0g_14])), (a0_13, .inl (ka0_13, 6, .inl (fa0_13)))] H → va_D A [(a0, .inr (0, [a0g_0, a0g_1, a0g_2, a0g_3, a0g_4, a0g_5, a0g_6, a0g_7, a0g_8, .int a0_9, a0g_10, a0g_11, a0g_12, .ref a0_13, a0g_14])), (a0_13, .inl (ka0_13, 6, .inl (fa0_13)))] → va_S A s.heap H locs → lv_has ls 3 [(0, .ref a0), (1, .int a1), (2, .int j2l2)] → K H locs (F0 m 2 ls []) := by
    intro n
    induction n with
    | zero =>
      intro j2l2 H locs ls hm bj2l2_l bj2l2_u hF0 hP hD hS hl
      have h8 := ai_min j2l2
      have h9 := ai_max j2l2
      exact absurd hm (by omega)
    | succ n ih2 =>
      intro j2l2 H locs ls hm bj2l2_l bj2l2_u hF0 hP hD hS hl
      refine (hK0 _ _ _).mpr ?_
      have hm2 := hm
      obtain ⟨SX2, hSX2⟩ : ∃ q9, Sf_X0_isSeenMinute_2_1 a1.toInt a0_9.toInt (fl_A fa0_13) j2l2.toInt = q9 := ⟨_, rfl⟩
      have hF1 := hSX2.symm.trans (Sf_X0_isSeenMinute_2_1.eq_1 a1.toInt a0_9.toInt (fl_A fa0_13) j2l2.toInt)
      refine lv_iload_n hx hb dX0_isSeenMinute_2 rfl (lv_at hl 2 rfl) ?_
      refine lv_aload_n hx hb dX0_isSeenMinute_3 rfl (lv_at hl 0 rfl) ?_
      refine va_get (D := (dC, dI)) (ci := 0) (v := .int a0_9) (C := RX0) (T := TX0) (N := 15) hx hb hts zi_X0_isSeenMinute_0 hown hK hP 0 rfl rfl 9 (by decide) (hts (.fieldLink RX0 42 "WaxTurns$Hall" "seenCount" "I") (List.mem_cons_of_mem _ (List.mem_append_left _ (List.mem_of_getElem? (i := 0) rfl)))) (fun _ h9 => h9) rfl dX0_isSeenMinute_4 ?_
      refine lv_icmp_ge (tgt := 28) hx hb dX0_isSeenMinute_7 (by decide) (fun c7 => ?_) (fun c7 => ?_)
      · have gc7 := ai_le c7
        have u7t_a0_9 : a0_9.toInt ≤ (6 : Int) := ba0_9_u
        have l7t_j2l2 : (0 : Int) ≤ j2l2.toInt := bj2l2_l
        have hF1 := hF1.trans (if_pos (show a0_9.toInt ≤ j2l2.toInt from gc7))
        have hF0 := hF0.trans (fl_wh_r (hSX2.trans hF1))
        refine lv_iconst (v := 0) hx hb dX0_isSeenMinute_28 zk_iconst_0 ?_
        have hFe : FX = 0 := hF0
        exact W.zret (v := 0) hx hb hr rfl (fun t ht hW => ⟨⟨0, (), rfl, ⟨(Or.inr (rfl)), hFe.symm⟩, by rw [ht]; exact hP, va_K.moved hW.alike hK, hD⟩, hS.F ht⟩) hS.2.2 dX0_isSeenMinute_29
      · have gc7 := ai_nle c7
        have u7f_j2l2 : j2l2.toInt ≤ (5 : Int) := ai_lthi gc7 ba0_9_u
        have l7f_a0_9 : (1 : Int) ≤ a0_9.toInt := ai_ltlo gc7 bj2l2_l
        have hF1 := hF1.trans (if_neg (show ¬ (a0_9.toInt ≤ j2l2.toInt) from Int.not_le.mpr gc7))
        refine lv_aload_n hx hb dX0_isSeenMinute_10 rfl (lv_at hl 0 rfl) ?_
        refine va_get (D := (dC, dI)) (ci := 0) (v := .ref a0_13) (C := RX0) (T := TX0) (N := 15) hx hb hts zi_X0_isSeenMinute_0 hown hK hP 0 rfl rfl 13 (by decide) (hts (.fieldLink RX0 21 "WaxTurns$Hall" "seenMinutes" "[I") (List.mem_cons_of_mem _ (List.mem_append_left _ (List.mem_of_getElem? (i := 1) rfl)))) (fun _ h9 => h9) rfl dX0_isSeenMinute_11 ?_
        refine lv_iload_n hx hb dX0_isSeenMinute_14 rfl (lv_at hl 2 rfl) ?_
        refine va_iald hx hb hK hP 1 0 rfl rfl (ai_in bj2l2_l u7f_j2l2 (by decide) (by decide)) dX0_isSeenMinute_15 ?_
        refine lv_topi (fun x15 ex15 => ?_)
        have bx15 : (0 : Int) ≤ x15.toInt ∧ x15.toInt ≤ 999 := by rw [ex15]; exact bfa0_13 _
        have fqx15 := congrArg Int32.toInt ex15
        have hF1 := hF1.trans (fl_lt_eq (show x15.toInt = (fl_A fa0_13) (j2l2.toInt.toNat) from fqx15))
        refine lv_iload_n hx hb dX0_isSeenMinute_16 rfl (lv_at hl 1 rfl) ?_
        refine lv_icmp_ne (tgt := 22) hx hb dX0_isSeenMinute_17 (by decide) (fun c17 => ?_) (fun c17 => ?_)
        · have gc17 := ai_ne c17
          have hF1 := hF1.trans (if_neg (show ¬ (x15.toInt = a1.toInt) from  gc17))
          obtain ⟨x22, ex22⟩ : ∃ y : Int32, y = j2l2 + Int32.ofInt 1 := ⟨_, rfl⟩
          have qx22 : x22.toInt = j2l2.toInt + 1 := ai_inc ex22 (by decide) (by decide) u7f_j2l2 (by decide)
          have bx22 : (1 : Int) ≤ x22.toInt ∧ x22.toInt ≤ 6 := ⟨by rw [qx22]; exact Int.add_le_add bj2l2_l (Int.le_refl _), by rw [qx22]; exact Int.add_le_add u7f_j2l2 (Int.le_refl _)⟩
          refine lv_iinc (v := x22) (lv' := [(2, .int x22), (0, .ref a0), (1, .int a1)]) hx hb dX0_isSeenMinute_22 hl (k := 2) rfl ex22.symm (by decide) rfl (fun ls hl => ?_)
          have hF1 := hF1.trans (fl_lt_eq (show x22.toInt = j2l2.toInt + 1 from qx22))
          refine lv_goto (tgt := 2) hx hb dX0_isSeenMinute_25 (by decide) ?_
          exact (hK0 _ _ _).mp (ih2 x22 _ _ _ (by have h0 := qx22; omega) (Int.le_trans zq4 bx22.1) bx22.2 (hF0.trans (fl_wh_l (hSX2.trans hF1))) hP hD hS (lv_sub hl [1, 2, 0] rfl))
        · have gc17 := ai_eq c17
          have u17f_a1 : a1.toInt ≤ (999 : Int) := Int.le_trans (Int.le_of_eq gc17.symm) bx15.2
          have l17f_a1 : (0 : Int) ≤ a1.toInt := Int.le_trans bx15.1 (Int.le_of_eq gc17)
          have hF1 := hF1.trans (if_pos (show x15.toInt = a1.toInt from gc17))
          have hF0 := hF0.trans (fl_wh_r (hSX2.trans hF1))
          refine lv_iconst (v := 1) hx hb dX0_isSeenMinute_20 zk_iconst_1 ?_
          have hFe : FX = 1 := hF0
          exact W.zret (v := 1) hx hb hr rfl (fun t ht hW => ⟨⟨1, (), rfl, ⟨(Or.inl ⟨rfl, l17f_a1, u17f_a1, l7f_a0_9, ba0_9_u⟩), hFe.symm⟩, by rw [ht]; exact hP, va_K.moved hW.alike hK, hD⟩, hS.F ht⟩) hS.2.2 dX0_isSeenMinute_21
  exact (hK0 _ _ _).mp (J2 7 0 _ _ _ (by have h1 : (0 : Int) ≤ (0 : Int32).toInt := zq5; have h2 : (0 : Int32).toInt ≤ (0 : Int) := zq6; omega) zq5 (Int.le_trans zq6 zq17) (by rw [show (0 : Int32).toInt = 0 from by decide]; exact hF0) hP hD hS (lv_sub hl [1, 2, 0] rfl))

set_option maxHeartbeats 4000000 in
set_option maxRecDepth 100000 in
theorem f_X3_fails (l : Launch) (dC : Nat → ClassId) (dI : Nat → Nat → Nat) (sz : Nat) (a0 : Nat) (a1 : Int32) (a0g_0 a0g_3 a0g_4 a0g_5 a0g_6 a0g_7 a0g_9 a0g_10 a0g_11 a0g_12 a0g_13 : Value) (a0_1 : Int32) (a0_2 : Int32) (a0_8 : Int32) (ba0_8_l : (0 : Int) ≤ a0_8.toInt) (ba0_8_u : a0_8.toInt ≤ (900 : Int)) : zm l yX3_fails wsX3_fails ({ frames := 0, cells := 0, slots := 0, locals := 0 }) [.ref a0, .int a1] dC dI sz [(a0, .inr (3, [a0g_0, .int a0_1, .int a0_2, a0g_3, a0g_4, a0g_5, a0g_6, a0g_7, .int a0_8, a0g_9, a0g_10, a0g_11, a0g_12, a0g_13]))] [] (fun A _ => True) (fun A => va_Qi (fun (r : Int32) (_ : Unit) => (r = 0) ∧ r.toInt = (Ff_X3_fails a1.toInt a0_8.toInt).1) (fun (_ : Unit) (t : State) => ∃ na0_1 : Int32, ∃ na0_2 : Int32, ((Ff_X3_fails a1.toInt a0_8.toInt).2 = (na0_1.toInt, na0_2.toInt)) ∧ ax_B dC dI A [(a0, .inr (3, [a0g_0, .int na0_1, .int na0_2, a0g_3, a0g_4, a0g_5, a0g_6, a0g_7, .int a0_8, a0g_9, a0g_10, a0g_11, a0g_12, a0g_13]))] [] t) A) := by
  refine zh (cc := cX3_fails) (maxL := 2) (ret := (some .boolean)) zn_RX3 rfl (Nat.le_of_ble_eq_true rfl) (fun p e s m below meth c A ls hx hb hml hr hts (hown : s.vm.findClass RX3 = some m.cls) hlocks hA hS hP hK hD hE (hl : lv_has ls 2 [(0, .ref a0), (1, .int a1)]) => ?_)
  generalize hFX : Ff_X3_fails a1.toInt a0_8.toInt = FX at ⊢
  have hF0 := hFX.symm.trans (Ff_X3_fails.eq_1 a1.toInt a0_8.toInt)
  refine lv_aload_n hx hb dX3_fails_0 rfl (lv_at hl 0 rfl) ?_
  refine lv_iload_n hx hb dX3_fails_1 rfl (lv_at hl 1 rfl) ?_
  refine va_put (D := (dC, dI)) (ci := 3) (v := .int a1) (ty := .int) (C := RX3) (T := TX3) (N := 14) hx hb hts zi_X3_fails_3 tyX3 tyX3_ok nmX3 hown hK hP hD hS 0 rfl rfl 1 (by decide) (hts (.fieldLink RX3 45 "WaxTurns$Reade\x72" "faultNumbe\x72" "I") (List.mem_cons_of_mem _ (List.mem_append_left _ (List.mem_of_getElem? (i := 0) rfl)))) (fun _ h9 => h9) rfl (tyX3_ok 1 (by decide)) rfl rfl (Nat.le_of_ble_eq_true rfl) dX3_fails_2 (fun H locs hP hD hS => ?_)
  refine zs_0 (y := (a0, .inr (3, [a0g_0, .int a1, .int a0_2, a0g_3, a0g_4, a0g_5, a0g_6, a0g_7, .int a0_8, a0g_9, a0g_10, a0g_11, a0g_12, a0g_13]))) hP hD rfl (fun hP hD => ?_)
  refine lv_aload_n hx hb dX3_fails_5 rfl (lv_at hl 0 rfl) ?_
  refine lv_aload_n hx hb dX3_fails_6 rfl (lv_at hl 0 rfl) ?_
  refine va_get (D := (dC, dI)) (ci := 3) (v := .int a0_8) (C := RX3) (T := TX3) (N := 14) hx hb hts zi_X3_fails_3 hown hK hP 0 rfl rfl 8 (by decide) (hts (.fieldLink RX3 72 "WaxTurns$Reade\x72" "start" "I") (List.mem_cons_of_mem _ (List.mem_append_left _ (List.mem_of_getElem? (i := 1) rfl)))) (fun _ h9 => h9) rfl dX3_fails_7 ?_
  refine va_put (D := (dC, dI)) (ci := 3) (v := .int a0_8) (ty := .int) (C := RX3) (T := TX3) (N := 14) hx hb hts zi_X3_fails_3 tyX3 tyX3_ok nmX3 hown hK hP hD hS 0 rfl rfl 2 (by decide) (hts (.fieldLink RX3 48 "WaxTurns$Reade\x72" "faultPlace" "I") (List.mem_cons_of_mem _ (List.mem_append_left _ (List.mem_of_getElem? (i := 2) rfl)))) (fun _ h9 => h9) rfl (tyX3_ok 2 (by decide)) rfl rfl (Nat.le_of_ble_eq_true rfl) dX3_fails_10 (fun H locs hP hD hS => ?_)
  refine zs_0 (y := (a0, .inr (3, [a0g_0, .int a1, .int a0_8, a0g_3, a0g_4, a0g_5, a0g_6, a0g_7, .int a0_8, a0g_9, a0g_10, a0g_11, a0g_12, a0g_13]))) hP hD rfl (fun hP hD => ?_)
  refine lv_iconst (v := 0) hx hb dX3_fails_13 zk_iconst_0 ?_
  have hFe : FX = (0, a1.toInt, a0_8.toInt) := hF0
  exact W.zret (v := 0) hx hb hr rfl (fun t ht hW => ⟨⟨0, (), rfl, ⟨rfl, (congrArg Prod.fst hFe).symm⟩, a1, a0_8, (congrArg Prod.snd hFe), by rw [ht]; exact hP, va_K.moved hW.alike hK, hD⟩, hS.F ht⟩) hS.2.2 dX3_fails_14

set_option maxHeartbeats 4000000 in
set_option maxRecDepth 100000 in
theorem f_X3_scanWord (l : Launch) (dC : Nat → ClassId) (dI : Nat → Nat → Nat) (sz : Nat) (a0 : Nat) (a0g_0 a0g_1 a0g_2 a0g_4 a0g_5 a0g_6 a0g_12 a0g_13 : Value) (a0_3 : Nat) (a0_7 : Int32) (a0_8 : Int32) (a0_9 : Int32) (a0_10 : Int32) (a0_11 : Int64) (ka0_3 : ClassId) (fa0_3 : Nat → Int32) (ba0_7_l : (0 : Int) ≤ a0_7.toInt) (ba0_7_u : a0_7.toInt ≤ (900 : Int)) (ba0_8_l : (0 : Int) ≤ a0_8.toInt) (ba0_8_u : a0_8.toInt ≤ (900 : Int)) (ba0_9_l : (0 : Int) ≤ a0_9.toInt) (ba0_9_u : a0_9.toInt ≤ (900 : Int)) (ba0_10_l : (0 : Int) ≤ a0_10.toInt) (ba0_10_u : a0_10.toInt ≤ (4 : Int)) : zm l yX3_scanWord wsX3_scanWord ({ frames := 0, cells := 0, slots := 0, locals := 0 }) [.ref a0] dC dI sz [(a0, .inr (3, [a0g_0, a0g_1, a0g_2, .ref a0_3, a0g_4, a0g_5, a0g_6, .int a0_7, .int a0_8, .int a0_9, .int a0_10, .long a0_11, a0g_12, a0g_13])), (a0_3, .inl (ka0_3, 900, .inl (fa0_3)))] [(ka0_3, .byte)] (fun A _ => True) (fun A => va_Qv (fun (_ : Unit) => True) (fun (_ : Unit) (t : State) => ∃ na0_9 : Int32, ∃ na0_10 : Int32, ∃ na0_11 : Int64, ((0 : Int) ≤ na0_9.toInt ∧ na0_9.toInt ≤ 900) ∧ ((0 : Int) ≤ na0_10.toInt ∧ na0_10.toInt ≤ 4) ∧ (Ff_X3_scanWord a0_7.toInt a0_8.toInt a0_9.toInt (fl_A fa0_3) = (na0_9.toInt, na0_10.toInt, na0_11.toInt)) ∧ ax_B dC dI A [(a0, .inr (3, [a0g_0, a0g_1, a0g_2, .ref a0_3, a0g_4, a0g_5, a0g_6, .int a0_7, .int a0_8, .int na0_9, .int na0_10, .long na0_11, a0g_12, a0g_13])), (a0_3, .inl (ka0_3, 900, .inl (fa0_3)))] [(ka0_3, .byte)] t) A) := by
  refine zh (cc := cX3_scanWord) (maxL := 1) (ret := none) zn_RX3 rfl (Nat.le_of_ble_eq_true rfl) (fun p e s m below meth c A ls hx hb hml hr hts (hown : s.vm.findClass RX3 = some m.cls) hlocks hA hS hP hK hD hE (hl : lv_has ls 1 [(0, .ref a0)]) => ?_)
  generalize hFX : Ff_X3_scanWord a0_7.toInt a0_8.toInt a0_9.toInt (fl_A fa0_3) = FX at ⊢
  have hF0 := hFX.symm.trans (Ff_X3_scanWord.eq_1 a0_7.toInt a0_8.toInt a0_9.toInt (fl_A fa0_3))
  refine ai_open (fun K hK0 => ?_)
  refine (hK0 _ _ _).mpr ?_
  refine lv_aload_n hx hb dX3_scanWord_0 rfl (lv_at hl 0 rfl) ?_
  refine lv_lconst (v := 0) hx hb dX3_scanWord_1 (by decide) ?_
  refine va_put (D := (dC, dI)) (ci := 3) (v := .long 0) (ty := .long) (C := RX3) (T := TX3) (N := 14) hx hb hts zi_X3_scanWord_3 tyX3 tyX3_ok nmX3 hown hK hP hD hS 0 rfl rfl 11 (by decide) (hts (.fieldLink RX3 81 "WaxTurns$Reade\x72" "word" "J") (List.mem_cons_of_mem _ (List.mem_append_left _ (List.mem_of_getElem? (i := 0) rfl)))) (fun _ h9 => h9) rfl (tyX3_ok 11 (by decide)) rfl rfl (Nat.le_of_ble_eq_true rfl) dX3_scanWord_2 (fun H locs hP hD hS => ?_)
  refine zs_0 (y := (a0, .inr (3, [a0g_0, a0g_1, a0g_2, .ref a0_3, a0g_4, a0g_5, a0g_6, .int a0_7, .int a0_8, .int a0_9, .int a0_10, .long 0, a0g_12, a0g_13]))) hP hD rfl (fun hP hD => ?_)
  have J5 : ∀ (n : Nat) (j5a0_9 : Int32) (j5a0_11 : Int64) (H : Heap) (locs : List Loc) (ls : Array Slot), (901 : Int) - j5a0_9.toInt ≤ (n : Int) → (0 : Int) ≤ j5a0_9.toInt → j5a0_9.toInt ≤ (900 : Int) → (FX = fl_wh (fun t9 => Sf_X3_scanWord_5_1 a0_7.toInt a0_8.toInt (fl_A fa0_3) t9.1 t9.2) (0, 0, 0) n (j5a0_9.toInt, j5a0_11.toInt)) → va_P (dC, dI) vwCl [(a0, .inr (3, [a0g_0, a0g_1, a0g_2, .ref a0_3, a0g_4, a0g_5, a0g_6, .int a0_7, .int a0_8, .int j5a0_9, .int a0_10, .long j5a0_11, a0g_12, a0g_13])), (a0_3, .inl (ka0_3, 900, .inl (fa0_3)))] H → va_D A [(a0, .inr (3, [a0g_0, a0g_1, a0g_2, .ref a0_3, a0g_4, a0g_5, a0g_6, .int a0_7, .int a0_8, .int j5a0_9, .int a0_10, .long j5a0_11, a0g_12, a0g_13])), (a0_3, .inl (ka0_3, 900, .inl (fa0_3)))] → va_S A s.heap H locs → lv_has ls 1 [(0, .ref a0)] → K H locs (F0 m 5 ls []) := by
    intro n
    induction n with
    | zero =>
      intro j5a0_9 j5a0_11 H locs ls hm bj5a0_9_l bj5a0_9_u hF0 hP hD hS hl
      have h8 := ai_min j5a0_9
      have h9 := ai_max j5a0_9
      exact absurd hm (by omega)
    | succ n ih5 =>
      intro j5a0_9 j5a0_11 H locs ls hm bj5a0_9_l bj5a0_9_u hF0 hP hD hS hl
      refine (hK0 _ _ _).mpr ?_
      have hm5 := hm
      obtain ⟨SX5, hSX5⟩ : ∃ q9, Sf_X3_scanWord_5_1 a0_7.toInt a0_8.toInt (fl_A fa0_3) j5a0_9.toInt j5a0_11.toInt = q9 := ⟨_, rfl⟩
      have hF1 := hSX5.symm.trans (Sf_X3_scanWord_5_1.eq_1 a0_7.toInt a0_8.toInt (fl_A fa0_3) j5a0_9.toInt j5a0_11.toInt)
      refine lv_aload_n hx hb dX3_scanWord_5 rfl (lv_at hl 0 rfl) ?_
      refine va_get (D := (dC, dI)) (ci := 3) (v := .int j5a0_9) (C := RX3) (T := TX3) (N := 14) hx hb hts zi_X3_scanWord_3 hown hK hP 0 rfl rfl 9 (by decide) (hts (.fieldLink RX3 51 "WaxTurns$Reade\x72" "behind" "I") (List.mem_cons_of_mem _ (List.mem_append_left _ (List.mem_of_getElem? (i := 1) rfl)))) (fun _ h9 => h9) rfl dX3_scanWord_6 ?_
      refine lv_aload_n hx hb dX3_scanWord_9 rfl (lv_at hl 0 rfl) ?_
      refine va_get (D := (dC, dI)) (ci := 3) (v := .int a0_7) (C := RX3) (T := TX3) (N := 14) hx hb hts zi_X3_scanWord_3 hown hK hP 0 rfl rfl 7 (by decide) (hts (.fieldLink RX3 36 "WaxTurns$Reade\x72" "end" "I") (List.mem_cons_of_mem _ (List.mem_append_left _ (List.mem_of_getElem? (i := 2) rfl)))) (fun _ h9 => h9) rfl dX3_scanWord_10 ?_
      have J79 : ∀ (H : Heap) (locs : List Loc) (ls : Array Slot), (FX = Gf_X3_scanWord_79_1 a0_8.toInt j5a0_9.toInt j5a0_11.toInt) → va_P (dC, dI) vwCl [(a0, .inr (3, [a0g_0, a0g_1, a0g_2, .ref a0_3, a0g_4, a0g_5, a0g_6, .int a0_7, .int a0_8, .int j5a0_9, .int a0_10, .long j5a0_11, a0g_12, a0g_13])), (a0_3, .inl (ka0_3, 900, .inl (fa0_3)))] H → va_D A [(a0, .inr (3, [a0g_0, a0g_1, a0g_2, .ref a0_3, a0g_4, a0g_5, a0g_6, .int a0_7, .int a0_8, .int j5a0_9, .int a0_10, .long j5a0_11, a0g_12, a0g_13])), (a0_3, .inl (ka0_3, 900, .inl (fa0_3)))] → va_S A s.heap H locs → lv_has ls 1 [(0, .ref a0)] → K H locs (F0 m 79 ls []) := by
        intro  H locs ls  hF0 hP hD hS hl
        refine (hK0 _ _ _).mpr ?_
        have hF0 := hF0.trans (Gf_X3_scanWord_79_1.eq_1 a0_8.toInt j5a0_9.toInt j5a0_11.toInt)
        refine lv_aload_n hx hb dX3_scanWord_79 rfl (lv_at hl 0 rfl) ?_
        refine lv_aload_n hx hb dX3_scanWord_80 rfl (lv_at hl 0 rfl) ?_
        refine va_get (D := (dC, dI)) (ci := 3) (v := .int j5a0_9) (C := RX3) (T := TX3) (N := 14) hx hb hts zi_X3_scanWord_3 hown hK hP 0 rfl rfl 9 (by decide) (hts (.fieldLink RX3 51 "WaxTurns$Reade\x72" "behind" "I") (List.mem_cons_of_mem _ (List.mem_append_left _ (List.mem_of_getElem? (i := 1) rfl)))) (fun _ h9 => h9) rfl dX3_scanWord_81 ?_
        refine lv_aload_n hx hb dX3_scanWord_84 rfl (lv_at hl 0 rfl) ?_
        refine va_get (D := (dC, dI)) (ci := 3) (v := .int a0_8) (C := RX3) (T := TX3) (N := 14) hx hb hts zi_X3_scanWord_3 hown hK hP 0 rfl rfl 8 (by decide) (hts (.fieldLink RX3 72 "WaxTurns$Reade\x72" "start" "I") (List.mem_cons_of_mem _ (List.mem_append_left _ (List.mem_of_getElem? (i := 4) rfl)))) (fun _ h9 => h9) rfl dX3_scanWord_85 ?_
        refine lv_isub hx hb dX3_scanWord_88 ?_
        refine lv_topi (fun x88 ex88 => ?_)
        have qx88 : x88.toInt = j5a0_9.toInt - a0_8.toInt := ai_sub ex88 ⟨bj5a0_9_l, bj5a0_9_u⟩ ⟨ba0_8_l, ba0_8_u⟩ (by decide) (by decide)
        have bx88 : (-900 : Int) ≤ x88.toInt ∧ x88.toInt ≤ 900 := ⟨by rw [qx88]; exact Int.sub_le_sub bj5a0_9_l ba0_8_u, by rw [qx88]; exact Int.sub_le_sub bj5a0_9_u ba0_8_l⟩
        have hF0 := hF0.trans (fl_lt_eq (show x88.toInt = j5a0_9.toInt - a0_8.toInt from qx88))
        refine lv_bipush (v := 8) hx hb dX3_scanWord_89 zk_bipush_8 ?_
        have J99 : ∀ (j99s0 : Int32) (H : Heap) (locs : List Loc) (ls : Array Slot), (1 : Int) ≤ j99s0.toInt → j99s0.toInt ≤ (4 : Int) → (FX = Gf_X3_scanWord_99_1 j5a0_9.toInt j5a0_11.toInt j99s0.toInt) → va_P (dC, dI) vwCl [(a0, .inr (3, [a0g_0, a0g_1, a0g_2, .ref a0_3, a0g_4, a0g_5, a0g_6, .int a0_7, .int a0_8, .int j5a0_9, .int a0_10, .long j5a0_11, a0g_12, a0g_13])), (a0_3, .inl (ka0_3, 900, .inl (fa0_3)))] H → va_D A [(a0, .inr (3, [a0g_0, a0g_1, a0g_2, .ref a0_3, a0g_4, a0g_5, a0g_6, .int a0_7, .int a0_8, .int j5a0_9, .int a0_10, .long j5a0_11, a0g_12, a0g_13])), (a0_3, .inl (ka0_3, 900, .inl (fa0_3)))] → va_S A s.heap H locs → lv_has ls 1 [] → K H locs (F0 m 99 ls [.int j99s0, .ref a0]) := by
          intro j99s0 H locs ls  bj99s0_l bj99s0_u hF0 hP hD hS hl
          refine (hK0 _ _ _).mpr ?_
          have hF0 := hF0.trans (Gf_X3_scanWord_99_1.eq_1 j5a0_9.toInt j5a0_11.toInt j99s0.toInt)
          refine va_put (D := (dC, dI)) (ci := 3) (v := .int j99s0) (ty := .int) (C := RX3) (T := TX3) (N := 14) hx hb hts zi_X3_scanWord_3 tyX3 tyX3_ok nmX3 hown hK hP hD hS 0 rfl rfl 10 (by decide) (hts (.fieldLink RX3 61 "WaxTurns$Reade\x72" "token" "I") (List.mem_cons_of_mem _ (List.mem_append_left _ (List.mem_of_getElem? (i := 5) rfl)))) (fun _ h9 => h9) rfl (tyX3_ok 10 (by decide)) rfl rfl (Nat.le_of_ble_eq_true rfl) dX3_scanWord_99 (fun H locs hP hD hS => ?_)
          refine zs_0 (y := (a0, .inr (3, [a0g_0, a0g_1, a0g_2, .ref a0_3, a0g_4, a0g_5, a0g_6, .int a0_7, .int a0_8, .int j5a0_9, .int j99s0, .long j5a0_11, a0g_12, a0g_13]))) hP hD rfl (fun hP hD => ?_)
          have hFe : FX = (j5a0_9.toInt, j99s0.toInt, j5a0_11.toInt) := hF0
          exact W.vret hx hb hr (fun t ht hW => ⟨⟨(), rfl, trivial, j5a0_9, j99s0, j5a0_11, ⟨bj5a0_9_l, bj5a0_9_u⟩, ⟨Int.le_trans (by decide) bj99s0_l, bj99s0_u⟩, hFe, by rw [ht]; exact hP, va_K.moved hW.alike hK, hD⟩, hS.F ht⟩) hS.2.2 dX3_scanWord_102
        refine lv_icmp_gt (tgt := 98) hx hb dX3_scanWord_91 (by decide) (fun c91 => ?_) (fun c91 => ?_)
        · have gc91 := ai_lt c91
          have l91t_x88 : (9 : Int) ≤ x88.toInt := ai_ltlo gc91 zq116
          have hF0 := hF0.trans (if_pos (show 8 < x88.toInt from gc91))
          refine lv_iconst (v := 4) hx hb dX3_scanWord_98 zk_iconst_4 ?_
          exact (hK0 _ _ _).mp (J99 4 _ _ _  (Int.le_trans zq135 zq68) zq67 (by rw [show (4 : Int32).toInt = 4 from by decide]; exact hF0) hP hD hS (lv_sub hl [] rfl))
        · have gc91 := ai_nlt c91
          have u91f_x88 : x88.toInt ≤ (8 : Int) := Int.le_trans gc91 zq28
          have hF0 := hF0.trans (if_neg (show ¬ (8 < x88.toInt) from Int.not_lt.mpr gc91))
          refine lv_iconst (v := 1) hx hb dX3_scanWord_94 zk_iconst_1 ?_
          refine lv_goto (tgt := 99) hx hb dX3_scanWord_95 (by decide) ?_
          exact (hK0 _ _ _).mp (J99 1 _ _ _  zq1 (Int.le_trans zq0 zq135) (by rw [show (1 : Int32).toInt = 1 from by decide]; exact hF0) hP hD hS (lv_sub hl [] rfl))
      refine lv_icmp_ge (tgt := 79) hx hb dX3_scanWord_13 (by decide) (fun c13 => ?_) (fun c13 => ?_)
      · have gc13 := ai_le c13
        have u13t_a0_7 : a0_7.toInt ≤ (900 : Int) := ba0_7_u
        have l13t_j5a0_9 : (0 : Int) ≤ j5a0_9.toInt := bj5a0_9_l
        have hF1 := hF1.trans (if_pos (show a0_7.toInt ≤ j5a0_9.toInt from gc13))
        have hF0 := hF0.trans (fl_wh_r (hSX5.trans hF1))
        exact (hK0 _ _ _).mp (J79  _ _ _   hF0 hP hD hS (lv_sub hl [0] rfl))
      · have gc13 := ai_nle c13
        have u13f_j5a0_9 : j5a0_9.toInt ≤ (899 : Int) := ai_lthi gc13 ba0_7_u
        have l13f_a0_7 : (1 : Int) ≤ a0_7.toInt := ai_ltlo gc13 bj5a0_9_l
        have hF1 := hF1.trans (if_neg (show ¬ (a0_7.toInt ≤ j5a0_9.toInt) from Int.not_le.mpr gc13))
        refine lv_aload_n hx hb dX3_scanWord_16 rfl (lv_at hl 0 rfl) ?_
        refine va_get (D := (dC, dI)) (ci := 3) (v := .ref a0_3) (C := RX3) (T := TX3) (N := 14) hx hb hts zi_X3_scanWord_3 hown hK hP 0 rfl rfl 3 (by decide) (hts (.fieldLink RX3 9 "WaxTurns$Reade\x72" "tape" "[B") (List.mem_cons_of_mem _ (List.mem_append_left _ (List.mem_of_getElem? (i := 3) rfl)))) (fun _ h9 => h9) rfl dX3_scanWord_17 ?_
        refine lv_aload_n hx hb dX3_scanWord_20 rfl (lv_at hl 0 rfl) ?_
        refine va_get (D := (dC, dI)) (ci := 3) (v := .int j5a0_9) (C := RX3) (T := TX3) (N := 14) hx hb hts zi_X3_scanWord_3 hown hK hP 0 rfl rfl 9 (by decide) (hts (.fieldLink RX3 51 "WaxTurns$Reade\x72" "behind" "I") (List.mem_cons_of_mem _ (List.mem_append_left _ (List.mem_of_getElem? (i := 1) rfl)))) (fun _ h9 => h9) rfl dX3_scanWord_21 ?_
        refine va_bald hx hb hK hP 1 0 rfl rfl (ai_in bj5a0_9_l u13f_j5a0_9 (by decide) (by decide)) dX3_scanWord_24 ?_
        refine lv_topi (fun x24 ex24 => ?_)
        have fqx24 := congrArg Int32.toInt ex24
        have hF1 := hF1.trans (fl_lt_eq (show x24.toInt = (fl_A fa0_3) (j5a0_9.toInt.toNat) from fqx24))
        refine lv_bipush (v := 97) hx hb dX3_scanWord_25 zk_bipush_97 ?_
        refine lv_icmp_lt (tgt := 79) hx hb dX3_scanWord_27 (by decide) (fun c27 => ?_) (fun c27 => ?_)
        · have gc27 := ai_lt c27
          have u27t_x24 : x24.toInt ≤ (96 : Int) := ai_lthi gc27 zq136
          have hF1 := hF1.trans (if_pos (show x24.toInt < 97 from gc27))
          have hF0 := hF0.trans (fl_wh_r (hSX5.trans hF1))
          exact (hK0 _ _ _).mp (J79  _ _ _   hF0 hP hD hS (lv_sub hl [0] rfl))
        · have gc27 := ai_nlt c27
          have l27f_x24 : (97 : Int) ≤ x24.toInt := Int.le_trans zq137 gc27
          have hF1 := hF1.trans (if_neg (show ¬ (x24.toInt < 97) from Int.not_lt.mpr gc27))
          refine lv_aload_n hx hb dX3_scanWord_30 rfl (lv_at hl 0 rfl) ?_
          refine va_get (D := (dC, dI)) (ci := 3) (v := .ref a0_3) (C := RX3) (T := TX3) (N := 14) hx hb hts zi_X3_scanWord_3 hown hK hP 0 rfl rfl 3 (by decide) (hts (.fieldLink RX3 9 "WaxTurns$Reade\x72" "tape" "[B") (List.mem_cons_of_mem _ (List.mem_append_left _ (List.mem_of_getElem? (i := 3) rfl)))) (fun _ h9 => h9) rfl dX3_scanWord_31 ?_
          refine lv_aload_n hx hb dX3_scanWord_34 rfl (lv_at hl 0 rfl) ?_
          refine va_get (D := (dC, dI)) (ci := 3) (v := .int j5a0_9) (C := RX3) (T := TX3) (N := 14) hx hb hts zi_X3_scanWord_3 hown hK hP 0 rfl rfl 9 (by decide) (hts (.fieldLink RX3 51 "WaxTurns$Reade\x72" "behind" "I") (List.mem_cons_of_mem _ (List.mem_append_left _ (List.mem_of_getElem? (i := 1) rfl)))) (fun _ h9 => h9) rfl dX3_scanWord_35 ?_
          refine va_bald hx hb hK hP 1 0 rfl rfl (ai_in bj5a0_9_l u13f_j5a0_9 (by decide) (by decide)) dX3_scanWord_38 ?_
          refine ax_ti x24 ex24.symm ?_
          refine lv_bipush (v := 122) hx hb dX3_scanWord_39 zk_bipush_122 ?_
          refine lv_icmp_gt (tgt := 79) hx hb dX3_scanWord_41 (by decide) (fun c41 => ?_) (fun c41 => ?_)
          · have gc41 := ai_lt c41
            have l41t_x24 : (123 : Int) ≤ x24.toInt := ai_ltlo gc41 zq138
            have hF1 := hF1.trans (if_pos (show 122 < x24.toInt from gc41))
            have hF0 := hF0.trans (fl_wh_r (hSX5.trans hF1))
            exact (hK0 _ _ _).mp (J79  _ _ _   hF0 hP hD hS (lv_sub hl [0] rfl))
          · have gc41 := ai_nlt c41
            have u41f_x24 : x24.toInt ≤ (122 : Int) := Int.le_trans gc41 zq139
            have hF1 := hF1.trans (if_neg (show ¬ (122 < x24.toInt) from Int.not_lt.mpr gc41))
            refine lv_aload_n hx hb dX3_scanWord_44 rfl (lv_at hl 0 rfl) ?_
            refine lv_aload_n hx hb dX3_scanWord_45 rfl (lv_at hl 0 rfl) ?_
            refine va_get (D := (dC, dI)) (ci := 3) (v := .long j5a0_11) (C := RX3) (T := TX3) (N := 14) hx hb hts zi_X3_scanWord_3 hown hK hP 0 rfl rfl 11 (by decide) (hts (.fieldLink RX3 81 "WaxTurns$Reade\x72" "word" "J") (List.mem_cons_of_mem _ (List.mem_append_left _ (List.mem_of_getElem? (i := 0) rfl)))) (fun _ h9 => h9) rfl dX3_scanWord_46 ?_
            refine lv_bipush (v := 8) hx hb dX3_scanWord_49 zk_bipush_8 ?_
            refine lv_lshl hx hb dX3_scanWord_51 rfl ?_
            refine lv_topl (fun x51 ex51 => ?_)
            have fqx51 := fl_lshl_eq ex51
            have hF1 := hF1.trans (fl_lt_eq (show x51.toInt = fl_lshl j5a0_11.toInt 8 from fqx51))
            refine lv_aload_n hx hb dX3_scanWord_52 rfl (lv_at hl 0 rfl) ?_
            refine va_get (D := (dC, dI)) (ci := 3) (v := .ref a0_3) (C := RX3) (T := TX3) (N := 14) hx hb hts zi_X3_scanWord_3 hown hK hP 0 rfl rfl 3 (by decide) (hts (.fieldLink RX3 9 "WaxTurns$Reade\x72" "tape" "[B") (List.mem_cons_of_mem _ (List.mem_append_left _ (List.mem_of_getElem? (i := 3) rfl)))) (fun _ h9 => h9) rfl dX3_scanWord_53 ?_
            refine lv_aload_n hx hb dX3_scanWord_56 rfl (lv_at hl 0 rfl) ?_
            refine va_get (D := (dC, dI)) (ci := 3) (v := .int j5a0_9) (C := RX3) (T := TX3) (N := 14) hx hb hts zi_X3_scanWord_3 hown hK hP 0 rfl rfl 9 (by decide) (hts (.fieldLink RX3 51 "WaxTurns$Reade\x72" "behind" "I") (List.mem_cons_of_mem _ (List.mem_append_left _ (List.mem_of_getElem? (i := 1) rfl)))) (fun _ h9 => h9) rfl dX3_scanWord_57 ?_
            refine va_bald hx hb hK hP 1 0 rfl rfl (ai_in bj5a0_9_l u13f_j5a0_9 (by decide) (by decide)) dX3_scanWord_60 ?_
            refine ax_ti x24 ex24.symm ?_
            obtain ⟨x61, ex61⟩ : ∃ y : Int64, y = (x24 : Int32).toInt64 := ⟨_, rfl⟩
            refine lv_i2l (v := x61) hx hb dX3_scanWord_61 ex61.symm ?_
            have fqx61 := fl_i2l_eq ex61
            have hF1 := hF1.trans (fl_lt_eq (show x61.toInt = x24.toInt from fqx61))
            refine lv_lor hx hb dX3_scanWord_62 ?_
            refine lv_topl (fun x62 ex62 => ?_)
            have fqx62 := fl_lor_eq ex62
            have hF1 := hF1.trans (fl_lt_eq (show x62.toInt = fl_lor x51.toInt x61.toInt from fqx62))
            refine va_put (D := (dC, dI)) (ci := 3) (v := .long x62) (ty := .long) (C := RX3) (T := TX3) (N := 14) hx hb hts zi_X3_scanWord_3 tyX3 tyX3_ok nmX3 hown hK hP hD hS 0 rfl rfl 11 (by decide) (hts (.fieldLink RX3 81 "WaxTurns$Reade\x72" "word" "J") (List.mem_cons_of_mem _ (List.mem_append_left _ (List.mem_of_getElem? (i := 0) rfl)))) (fun _ h9 => h9) rfl (tyX3_ok 11 (by decide)) rfl rfl (Nat.le_of_ble_eq_true rfl) dX3_scanWord_63 (fun H locs hP hD hS => ?_)
            refine zs_0 (y := (a0, .inr (3, [a0g_0, a0g_1, a0g_2, .ref a0_3, a0g_4, a0g_5, a0g_6, .int a0_7, .int a0_8, .int j5a0_9, .int a0_10, .long x62, a0g_12, a0g_13]))) hP hD rfl (fun hP hD => ?_)
            refine lv_aload_n hx hb dX3_scanWord_66 rfl (lv_at hl 0 rfl) ?_
            refine lv_dup hx hb dX3_scanWord_67 rfl ?_
            refine va_get (D := (dC, dI)) (ci := 3) (v := .int j5a0_9) (C := RX3) (T := TX3) (N := 14) hx hb hts zi_X3_scanWord_3 hown hK hP 0 rfl rfl 9 (by decide) (hts (.fieldLink RX3 51 "WaxTurns$Reade\x72" "behind" "I") (List.mem_cons_of_mem _ (List.mem_append_left _ (List.mem_of_getElem? (i := 1) rfl)))) (fun _ h9 => h9) rfl dX3_scanWord_68 ?_
            refine lv_iconst (v := 1) hx hb dX3_scanWord_71 zk_iconst_1 ?_
            refine lv_iadd hx hb dX3_scanWord_72 ?_
            refine lv_topi (fun x72 ex72 => ?_)
            have qx72 : x72.toInt = j5a0_9.toInt + (1 : Int32).toInt := ai_add ex72 ⟨bj5a0_9_l, u13f_j5a0_9⟩ ⟨zq1, zq0⟩ (by decide) (by decide)
            have bx72 : (1 : Int) ≤ x72.toInt ∧ x72.toInt ≤ 900 := ⟨by rw [qx72]; exact Int.add_le_add bj5a0_9_l zq1, by rw [qx72]; exact Int.add_le_add u13f_j5a0_9 zq0⟩
            have wx72 : x72.toInt = j5a0_9.toInt + 1 := qx72
            have hF1 := hF1.trans (fl_lt_eq (show x72.toInt = j5a0_9.toInt + 1 from qx72))
            refine va_put (D := (dC, dI)) (ci := 3) (v := .int x72) (ty := .int) (C := RX3) (T := TX3) (N := 14) hx hb hts zi_X3_scanWord_3 tyX3 tyX3_ok nmX3 hown hK hP hD hS 0 rfl rfl 9 (by decide) (hts (.fieldLink RX3 51 "WaxTurns$Reade\x72" "behind" "I") (List.mem_cons_of_mem _ (List.mem_append_left _ (List.mem_of_getElem? (i := 1) rfl)))) (fun _ h9 => h9) rfl (tyX3_ok 9 (by decide)) rfl rfl (Nat.le_of_ble_eq_true rfl) dX3_scanWord_73 (fun H locs hP hD hS => ?_)
            refine zs_0 (y := (a0, .inr (3, [a0g_0, a0g_1, a0g_2, .ref a0_3, a0g_4, a0g_5, a0g_6, .int a0_7, .int a0_8, .int x72, .int a0_10, .long x62, a0g_12, a0g_13]))) hP hD rfl (fun hP hD => ?_)
            refine lv_goto (tgt := 5) hx hb dX3_scanWord_76 (by decide) ?_
            exact (hK0 _ _ _).mp (ih5 x72 x62 _ _ _ (by have h0 := qx72; omega) (Int.le_trans zq4 bx72.1) bx72.2 (hF0.trans (fl_wh_l (hSX5.trans hF1))) hP hD hS (lv_sub hl [0] rfl))
  exact (hK0 _ _ _).mp (J5 901 a0_9 0 _ _ _ (by have h1 : (0 : Int) ≤ a0_9.toInt := ba0_9_l; have h2 : a0_9.toInt ≤ (900 : Int) := ba0_9_u; omega) ba0_9_l ba0_9_u (by rw [show (0 : Int64).toInt = 0 from by decide]; exact hF0) hP hD hS (lv_sub hl [0] rfl))

set_option maxHeartbeats 4000000 in
set_option maxRecDepth 100000 in
theorem f_X3_scanWhole (l : Launch) (dC : Nat → ClassId) (dI : Nat → Nat → Nat) (sz : Nat) (a0 : Nat) (a0g_0 a0g_1 a0g_2 a0g_4 a0g_5 a0g_6 a0g_11 a0g_13 : Value) (a0_3 : Nat) (a0_7 : Int32) (a0_8 : Int32) (a0_9 : Int32) (a0_10 : Int32) (a0_12 : Int32) (ka0_3 : ClassId) (fa0_3 : Nat → Int32) (ba0_7_l : (0 : Int) ≤ a0_7.toInt) (ba0_7_u : a0_7.toInt ≤ (900 : Int)) (ba0_8_l : (0 : Int) ≤ a0_8.toInt) (ba0_8_u : a0_8.toInt ≤ (900 : Int)) (ba0_9_l : (0 : Int) ≤ a0_9.toInt) (ba0_9_u : a0_9.toInt ≤ (900 : Int)) (ba0_10_l : (0 : Int) ≤ a0_10.toInt) (ba0_10_u : a0_10.toInt ≤ (4 : Int)) : zm l yX3_scanWhole wsX3_scanWhole ({ frames := 0, cells := 0, slots := 0, locals := 0 }) [.ref a0] dC dI sz [(a0, .inr (3, [a0g_0, a0g_1, a0g_2, .ref a0_3, a0g_4, a0g_5, a0g_6, .int a0_7, .int a0_8, .int a0_9, .int a0_10, a0g_11, .int a0_12, a0g_13])), (a0_3, .inl (ka0_3, 900, .inl (fa0_3)))] [(ka0_3, .byte)] (fun A _ => True) (fun A => va_Qv (fun (_ : Unit) => True) (fun (_ : Unit) (t : State) => ∃ na0_9 : Int32, ∃ na0_10 : Int32, ∃ na0_12 : Int32, ((0 : Int) ≤ na0_9.toInt ∧ na0_9.toInt ≤ 900) ∧ ((0 : Int) ≤ na0_10.toInt ∧ na0_10.toInt ≤ 4) ∧ (Ff_X3_scanWhole a0_7.toInt a0_8.toInt a0_9.toInt (fl_A fa0_3) = (na0_9.toInt, na0_10.toInt, na0_12.toInt)) ∧ ax_B dC dI A [(a0, .inr (3, [a0g_0, a0g_1, a0g_2, .ref a0_3, a0g_4, a0g_5, a0g_6, .int a0_7, .int a0_8, .int na0_9, .int na0_10, a0g_11, .int na0_12, a0g_13])), (a0_3, .inl (ka0_3, 900, .inl (fa0_3)))] [(ka0_3, .byte)] t) A) := by
  refine zh (cc := cX3_scanWhole) (maxL := 1) (ret := none) zn_RX3 rfl (Nat.le_of_ble_eq_true rfl) (fun p e s m below meth c A ls hx hb hml hr hts (hown : s.vm.findClass RX3 = some m.cls) hlocks hA hS hP hK hD hE (hl : lv_has ls 1 [(0, .ref a0)]) => ?_)
  generalize hFX : Ff_X3_scanWhole a0_7.toInt a0_8.toInt a0_9.toInt (fl_A fa0_3) = FX at ⊢
  have hF0 := hFX.symm.trans (Ff_X3_scanWhole.eq_1 a0_7.toInt a0_8.toInt a0_9.toInt (fl_A fa0_3))
  refine ai_open (fun K hK0 => ?_)
  refine (hK0 _ _ _).mpr ?_
  refine lv_aload_n hx hb dX3_scanWhole_0 rfl (lv_at hl 0 rfl) ?_
  refine lv_iconst (v := 0) hx hb dX3_scanWhole_1 zk_iconst_0 ?_
  refine va_put (D := (dC, dI)) (ci := 3) (v := .int 0) (ty := .int) (C := RX3) (T := TX3) (N := 14) hx hb hts zi_X3_scanWhole_3 tyX3 tyX3_ok nmX3 hown hK hP hD hS 0 rfl rfl 12 (by decide) (hts (.fieldLink RX3 85 "WaxTurns$Reade\x72" "whole" "I") (List.mem_cons_of_mem _ (List.mem_append_left _ (List.mem_of_getElem? (i := 0) rfl)))) (fun _ h9 => h9) rfl (tyX3_ok 12 (by decide)) rfl rfl (Nat.le_of_ble_eq_true rfl) dX3_scanWhole_2 (fun H locs hP hD hS => ?_)
  refine zs_0 (y := (a0, .inr (3, [a0g_0, a0g_1, a0g_2, .ref a0_3, a0g_4, a0g_5, a0g_6, .int a0_7, .int a0_8, .int a0_9, .int a0_10, a0g_11, .int 0, a0g_13]))) hP hD rfl (fun hP hD => ?_)
  have J5 : ∀ (n : Nat) (j5a0_9 : Int32) (j5a0_12 : Int32) (H : Heap) (locs : List Loc) (ls : Array Slot), (901 : Int) - j5a0_9.toInt ≤ (n : Int) → (0 : Int) ≤ j5a0_9.toInt → j5a0_9.toInt ≤ (900 : Int) → (FX = fl_wh (fun t9 => Sf_X3_scanWhole_5_1 a0_7.toInt a0_8.toInt (fl_A fa0_3) t9.1 t9.2) (0, 0, 0) n (j5a0_9.toInt, j5a0_12.toInt)) → va_P (dC, dI) vwCl [(a0, .inr (3, [a0g_0, a0g_1, a0g_2, .ref a0_3, a0g_4, a0g_5, a0g_6, .int a0_7, .int a0_8, .int j5a0_9, .int a0_10, a0g_11, .int j5a0_12, a0g_13])), (a0_3, .inl (ka0_3, 900, .inl (fa0_3)))] H → va_D A [(a0, .inr (3, [a0g_0, a0g_1, a0g_2, .ref a0_3, a0g_4, a0g_5, a0g_6, .int a0_7, .int a0_8, .int j5a0_9, .int a0_10, a0g_11, .int j5a0_12, a0g_13])), (a0_3, .inl (ka0_3, 900, .inl (fa0_3)))] → va_S A s.heap H locs → lv_has ls 1 [(0, .ref a0)] → K H locs (F0 m 5 ls []) := by
    intro n
    induction n with
    | zero =>
      intro j5a0_9 j5a0_12 H locs ls hm bj5a0_9_l bj5a0_9_u hF0 hP hD hS hl
      have h8 := ai_min j5a0_9
      have h9 := ai_max j5a0_9
      exact absurd hm (by omega)
    | succ n ih5 =>
      intro j5a0_9 j5a0_12 H locs ls hm bj5a0_9_l bj5a0_9_u hF0 hP hD hS hl
      refine (hK0 _ _ _).mpr ?_
      have hm5 := hm
      obtain ⟨SX5, hSX5⟩ : ∃ q9, Sf_X3_scanWhole_5_1 a0_7.toInt a0_8.toInt (fl_A fa0_3) j5a0_9.toInt j5a0_12.toInt = q9 := ⟨_, rfl⟩
      have hF1 := hSX5.symm.trans (Sf_X3_scanWhole_5_1.eq_1 a0_7.toInt a0_8.toInt (fl_A fa0_3) j5a0_9.toInt j5a0_12.toInt)
      refine lv_aload_n hx hb dX3_scanWhole_5 rfl (lv_at hl 0 rfl) ?_
      refine va_get (D := (dC, dI)) (ci := 3) (v := .int j5a0_9) (C := RX3) (T := TX3) (N := 14) hx hb hts zi_X3_scanWhole_3 hown hK hP 0 rfl rfl 9 (by decide) (hts (.fieldLink RX3 51 "WaxTurns$Reade\x72" "behind" "I") (List.mem_cons_of_mem _ (List.mem_append_left _ (List.mem_of_getElem? (i := 1) rfl)))) (fun _ h9 => h9) rfl dX3_scanWhole_6 ?_
      refine lv_aload_n hx hb dX3_scanWhole_9 rfl (lv_at hl 0 rfl) ?_
      refine va_get (D := (dC, dI)) (ci := 3) (v := .int a0_7) (C := RX3) (T := TX3) (N := 14) hx hb hts zi_X3_scanWhole_3 hown hK hP 0 rfl rfl 7 (by decide) (hts (.fieldLink RX3 36 "WaxTurns$Reade\x72" "end" "I") (List.mem_cons_of_mem _ (List.mem_append_left _ (List.mem_of_getElem? (i := 2) rfl)))) (fun _ h9 => h9) rfl dX3_scanWhole_10 ?_
      have J81 : ∀ (H : Heap) (locs : List Loc) (ls : Array Slot), (FX = Gf_X3_scanWhole_81_1 a0_8.toInt j5a0_9.toInt j5a0_12.toInt) → va_P (dC, dI) vwCl [(a0, .inr (3, [a0g_0, a0g_1, a0g_2, .ref a0_3, a0g_4, a0g_5, a0g_6, .int a0_7, .int a0_8, .int j5a0_9, .int a0_10, a0g_11, .int j5a0_12, a0g_13])), (a0_3, .inl (ka0_3, 900, .inl (fa0_3)))] H → va_D A [(a0, .inr (3, [a0g_0, a0g_1, a0g_2, .ref a0_3, a0g_4, a0g_5, a0g_6, .int a0_7, .int a0_8, .int j5a0_9, .int a0_10, a0g_11, .int j5a0_12, a0g_13])), (a0_3, .inl (ka0_3, 900, .inl (fa0_3)))] → va_S A s.heap H locs → lv_has ls 1 [(0, .ref a0)] → K H locs (F0 m 81 ls []) := by
        intro  H locs ls  hF0 hP hD hS hl
        refine (hK0 _ _ _).mpr ?_
        have hF0 := hF0.trans (Gf_X3_scanWhole_81_1.eq_1 a0_8.toInt j5a0_9.toInt j5a0_12.toInt)
        refine lv_aload_n hx hb dX3_scanWhole_81 rfl (lv_at hl 0 rfl) ?_
        refine lv_aload_n hx hb dX3_scanWhole_82 rfl (lv_at hl 0 rfl) ?_
        refine va_get (D := (dC, dI)) (ci := 3) (v := .int j5a0_9) (C := RX3) (T := TX3) (N := 14) hx hb hts zi_X3_scanWhole_3 hown hK hP 0 rfl rfl 9 (by decide) (hts (.fieldLink RX3 51 "WaxTurns$Reade\x72" "behind" "I") (List.mem_cons_of_mem _ (List.mem_append_left _ (List.mem_of_getElem? (i := 1) rfl)))) (fun _ h9 => h9) rfl dX3_scanWhole_83 ?_
        refine lv_aload_n hx hb dX3_scanWhole_86 rfl (lv_at hl 0 rfl) ?_
        refine va_get (D := (dC, dI)) (ci := 3) (v := .int a0_8) (C := RX3) (T := TX3) (N := 14) hx hb hts zi_X3_scanWhole_3 hown hK hP 0 rfl rfl 8 (by decide) (hts (.fieldLink RX3 72 "WaxTurns$Reade\x72" "start" "I") (List.mem_cons_of_mem _ (List.mem_append_left _ (List.mem_of_getElem? (i := 4) rfl)))) (fun _ h9 => h9) rfl dX3_scanWhole_87 ?_
        refine lv_isub hx hb dX3_scanWhole_90 ?_
        refine lv_topi (fun x90 ex90 => ?_)
        have qx90 : x90.toInt = j5a0_9.toInt - a0_8.toInt := ai_sub ex90 ⟨bj5a0_9_l, bj5a0_9_u⟩ ⟨ba0_8_l, ba0_8_u⟩ (by decide) (by decide)
        have bx90 : (-900 : Int) ≤ x90.toInt ∧ x90.toInt ≤ 900 := ⟨by rw [qx90]; exact Int.sub_le_sub bj5a0_9_l ba0_8_u, by rw [qx90]; exact Int.sub_le_sub bj5a0_9_u ba0_8_l⟩
        have hF0 := hF0.trans (fl_lt_eq (show x90.toInt = j5a0_9.toInt - a0_8.toInt from qx90))
        refine lv_iconst (v := 3) hx hb dX3_scanWhole_91 zk_iconst_3 ?_
        have J100 : ∀ (j100s0 : Int32) (H : Heap) (locs : List Loc) (ls : Array Slot), (2 : Int) ≤ j100s0.toInt → j100s0.toInt ≤ (4 : Int) → (FX = Gf_X3_scanWhole_100_1 j5a0_9.toInt j5a0_12.toInt j100s0.toInt) → va_P (dC, dI) vwCl [(a0, .inr (3, [a0g_0, a0g_1, a0g_2, .ref a0_3, a0g_4, a0g_5, a0g_6, .int a0_7, .int a0_8, .int j5a0_9, .int a0_10, a0g_11, .int j5a0_12, a0g_13])), (a0_3, .inl (ka0_3, 900, .inl (fa0_3)))] H → va_D A [(a0, .inr (3, [a0g_0, a0g_1, a0g_2, .ref a0_3, a0g_4, a0g_5, a0g_6, .int a0_7, .int a0_8, .int j5a0_9, .int a0_10, a0g_11, .int j5a0_12, a0g_13])), (a0_3, .inl (ka0_3, 900, .inl (fa0_3)))] → va_S A s.heap H locs → lv_has ls 1 [] → K H locs (F0 m 100 ls [.int j100s0, .ref a0]) := by
          intro j100s0 H locs ls  bj100s0_l bj100s0_u hF0 hP hD hS hl
          refine (hK0 _ _ _).mpr ?_
          have hF0 := hF0.trans (Gf_X3_scanWhole_100_1.eq_1 j5a0_9.toInt j5a0_12.toInt j100s0.toInt)
          refine va_put (D := (dC, dI)) (ci := 3) (v := .int j100s0) (ty := .int) (C := RX3) (T := TX3) (N := 14) hx hb hts zi_X3_scanWhole_3 tyX3 tyX3_ok nmX3 hown hK hP hD hS 0 rfl rfl 10 (by decide) (hts (.fieldLink RX3 61 "WaxTurns$Reade\x72" "token" "I") (List.mem_cons_of_mem _ (List.mem_append_left _ (List.mem_of_getElem? (i := 5) rfl)))) (fun _ h9 => h9) rfl (tyX3_ok 10 (by decide)) rfl rfl (Nat.le_of_ble_eq_true rfl) dX3_scanWhole_100 (fun H locs hP hD hS => ?_)
          refine zs_0 (y := (a0, .inr (3, [a0g_0, a0g_1, a0g_2, .ref a0_3, a0g_4, a0g_5, a0g_6, .int a0_7, .int a0_8, .int j5a0_9, .int j100s0, a0g_11, .int j5a0_12, a0g_13]))) hP hD rfl (fun hP hD => ?_)
          have hFe : FX = (j5a0_9.toInt, j100s0.toInt, j5a0_12.toInt) := hF0
          exact W.vret hx hb hr (fun t ht hW => ⟨⟨(), rfl, trivial, j5a0_9, j100s0, j5a0_12, ⟨bj5a0_9_l, bj5a0_9_u⟩, ⟨Int.le_trans (by decide) bj100s0_l, bj100s0_u⟩, hFe, by rw [ht]; exact hP, va_K.moved hW.alike hK, hD⟩, hS.F ht⟩) hS.2.2 dX3_scanWhole_103
        refine lv_icmp_gt (tgt := 99) hx hb dX3_scanWhole_92 (by decide) (fun c92 => ?_) (fun c92 => ?_)
        · have gc92 := ai_lt c92
          have l92t_x90 : (4 : Int) ≤ x90.toInt := ai_ltlo gc92 zq8
          have hF0 := hF0.trans (if_pos (show 3 < x90.toInt from gc92))
          refine lv_iconst (v := 4) hx hb dX3_scanWhole_99 zk_iconst_4 ?_
          exact (hK0 _ _ _).mp (J100 4 _ _ _  (Int.le_trans zq140 zq68) zq67 (by rw [show (4 : Int32).toInt = 4 from by decide]; exact hF0) hP hD hS (lv_sub hl [] rfl))
        · have gc92 := ai_nlt c92
          have u92f_x90 : x90.toInt ≤ (3 : Int) := Int.le_trans gc92 zq9
          have hF0 := hF0.trans (if_neg (show ¬ (3 < x90.toInt) from Int.not_lt.mpr gc92))
          refine lv_iconst (v := 2) hx hb dX3_scanWhole_95 zk_iconst_2 ?_
          refine lv_goto (tgt := 100) hx hb dX3_scanWhole_96 (by decide) ?_
          exact (hK0 _ _ _).mp (J100 2 _ _ _  zq12 (Int.le_trans zq13 zq140) (by rw [show (2 : Int32).toInt = 2 from by decide]; exact hF0) hP hD hS (lv_sub hl [] rfl))
      refine lv_icmp_ge (tgt := 81) hx hb dX3_scanWhole_13 (by decide) (fun c13 => ?_) (fun c13 => ?_)
      · have gc13 := ai_le c13
        have u13t_a0_7 : a0_7.toInt ≤ (900 : Int) := ba0_7_u
        have l13t_j5a0_9 : (0 : Int) ≤ j5a0_9.toInt := bj5a0_9_l
        have hF1 := hF1.trans (if_pos (show a0_7.toInt ≤ j5a0_9.toInt from gc13))
        have hF0 := hF0.trans (fl_wh_r (hSX5.trans hF1))
        exact (hK0 _ _ _).mp (J81  _ _ _   hF0 hP hD hS (lv_sub hl [0] rfl))
      · have gc13 := ai_nle c13
        have u13f_j5a0_9 : j5a0_9.toInt ≤ (899 : Int) := ai_lthi gc13 ba0_7_u
        have l13f_a0_7 : (1 : Int) ≤ a0_7.toInt := ai_ltlo gc13 bj5a0_9_l
        have hF1 := hF1.trans (if_neg (show ¬ (a0_7.toInt ≤ j5a0_9.toInt) from Int.not_le.mpr gc13))
        refine lv_aload_n hx hb dX3_scanWhole_16 rfl (lv_at hl 0 rfl) ?_
        refine va_get (D := (dC, dI)) (ci := 3) (v := .ref a0_3) (C := RX3) (T := TX3) (N := 14) hx hb hts zi_X3_scanWhole_3 hown hK hP 0 rfl rfl 3 (by decide) (hts (.fieldLink RX3 9 "WaxTurns$Reade\x72" "tape" "[B") (List.mem_cons_of_mem _ (List.mem_append_left _ (List.mem_of_getElem? (i := 3) rfl)))) (fun _ h9 => h9) rfl dX3_scanWhole_17 ?_
        refine lv_aload_n hx hb dX3_scanWhole_20 rfl (lv_at hl 0 rfl) ?_
        refine va_get (D := (dC, dI)) (ci := 3) (v := .int j5a0_9) (C := RX3) (T := TX3) (N := 14) hx hb hts zi_X3_scanWhole_3 hown hK hP 0 rfl rfl 9 (by decide) (hts (.fieldLink RX3 51 "WaxTurns$Reade\x72" "behind" "I") (List.mem_cons_of_mem _ (List.mem_append_left _ (List.mem_of_getElem? (i := 1) rfl)))) (fun _ h9 => h9) rfl dX3_scanWhole_21 ?_
        refine va_bald hx hb hK hP 1 0 rfl rfl (ai_in bj5a0_9_l u13f_j5a0_9 (by decide) (by decide)) dX3_scanWhole_24 ?_
        refine lv_topi (fun x24 ex24 => ?_)
        have fqx24 := congrArg Int32.toInt ex24
        have hF1 := hF1.trans (fl_lt_eq (show x24.toInt = (fl_A fa0_3) (j5a0_9.toInt.toNat) from fqx24))
        refine lv_bipush (v := 48) hx hb dX3_scanWhole_25 zk_bipush_48 ?_
        refine lv_icmp_lt (tgt := 81) hx hb dX3_scanWhole_27 (by decide) (fun c27 => ?_) (fun c27 => ?_)
        · have gc27 := ai_lt c27
          have u27t_x24 : x24.toInt ≤ (47 : Int) := ai_lthi gc27 zq141
          have hF1 := hF1.trans (if_pos (show x24.toInt < 48 from gc27))
          have hF0 := hF0.trans (fl_wh_r (hSX5.trans hF1))
          exact (hK0 _ _ _).mp (J81  _ _ _   hF0 hP hD hS (lv_sub hl [0] rfl))
        · have gc27 := ai_nlt c27
          have l27f_x24 : (48 : Int) ≤ x24.toInt := Int.le_trans zq142 gc27
          have hF1 := hF1.trans (if_neg (show ¬ (x24.toInt < 48) from Int.not_lt.mpr gc27))
          refine lv_aload_n hx hb dX3_scanWhole_30 rfl (lv_at hl 0 rfl) ?_
          refine va_get (D := (dC, dI)) (ci := 3) (v := .ref a0_3) (C := RX3) (T := TX3) (N := 14) hx hb hts zi_X3_scanWhole_3 hown hK hP 0 rfl rfl 3 (by decide) (hts (.fieldLink RX3 9 "WaxTurns$Reade\x72" "tape" "[B") (List.mem_cons_of_mem _ (List.mem_append_left _ (List.mem_of_getElem? (i := 3) rfl)))) (fun _ h9 => h9) rfl dX3_scanWhole_31 ?_
          refine lv_aload_n hx hb dX3_scanWhole_34 rfl (lv_at hl 0 rfl) ?_
          refine va_get (D := (dC, dI)) (ci := 3) (v := .int j5a0_9) (C := RX3) (T := TX3) (N := 14) hx hb hts zi_X3_scanWhole_3 hown hK hP 0 rfl rfl 9 (by decide) (hts (.fieldLink RX3 51 "WaxTurns$Reade\x72" "behind" "I") (List.mem_cons_of_mem _ (List.mem_append_left _ (List.mem_of_getElem? (i := 1) rfl)))) (fun _ h9 => h9) rfl dX3_scanWhole_35 ?_
          refine va_bald hx hb hK hP 1 0 rfl rfl (ai_in bj5a0_9_l u13f_j5a0_9 (by decide) (by decide)) dX3_scanWhole_38 ?_
          refine ax_ti x24 ex24.symm ?_
          refine lv_bipush (v := 57) hx hb dX3_scanWhole_39 zk_bipush_57 ?_
          refine lv_icmp_gt (tgt := 81) hx hb dX3_scanWhole_41 (by decide) (fun c41 => ?_) (fun c41 => ?_)
          · have gc41 := ai_lt c41
            have l41t_x24 : (58 : Int) ≤ x24.toInt := ai_ltlo gc41 zq143
            have hF1 := hF1.trans (if_pos (show 57 < x24.toInt from gc41))
            have hF0 := hF0.trans (fl_wh_r (hSX5.trans hF1))
            exact (hK0 _ _ _).mp (J81  _ _ _   hF0 hP hD hS (lv_sub hl [0] rfl))
          · have gc41 := ai_nlt c41
            have u41f_x24 : x24.toInt ≤ (57 : Int) := Int.le_trans gc41 zq144
            have hF1 := hF1.trans (if_neg (show ¬ (57 < x24.toInt) from Int.not_lt.mpr gc41))
            refine lv_aload_n hx hb dX3_scanWhole_44 rfl (lv_at hl 0 rfl) ?_
            refine lv_bipush (v := 10) hx hb dX3_scanWhole_45 zk_bipush_10 ?_
            refine lv_aload_n hx hb dX3_scanWhole_47 rfl (lv_at hl 0 rfl) ?_
            refine va_get (D := (dC, dI)) (ci := 3) (v := .int j5a0_12) (C := RX3) (T := TX3) (N := 14) hx hb hts zi_X3_scanWhole_3 hown hK hP 0 rfl rfl 12 (by decide) (hts (.fieldLink RX3 85 "WaxTurns$Reade\x72" "whole" "I") (List.mem_cons_of_mem _ (List.mem_append_left _ (List.mem_of_getElem? (i := 0) rfl)))) (fun _ h9 => h9) rfl dX3_scanWhole_48 ?_
            refine lv_imul hx hb dX3_scanWhole_51 ?_
            refine lv_topi (fun x51 ex51 => ?_)
            have fqx51 := fl_imul_eq ex51
            have hF1 := hF1.trans (fl_lt_eq (show x51.toInt = fl_imul 10 j5a0_12.toInt from fqx51))
            refine lv_aload_n hx hb dX3_scanWhole_52 rfl (lv_at hl 0 rfl) ?_
            refine va_get (D := (dC, dI)) (ci := 3) (v := .ref a0_3) (C := RX3) (T := TX3) (N := 14) hx hb hts zi_X3_scanWhole_3 hown hK hP 0 rfl rfl 3 (by decide) (hts (.fieldLink RX3 9 "WaxTurns$Reade\x72" "tape" "[B") (List.mem_cons_of_mem _ (List.mem_append_left _ (List.mem_of_getElem? (i := 3) rfl)))) (fun _ h9 => h9) rfl dX3_scanWhole_53 ?_
            refine lv_aload_n hx hb dX3_scanWhole_56 rfl (lv_at hl 0 rfl) ?_
            refine va_get (D := (dC, dI)) (ci := 3) (v := .int j5a0_9) (C := RX3) (T := TX3) (N := 14) hx hb hts zi_X3_scanWhole_3 hown hK hP 0 rfl rfl 9 (by decide) (hts (.fieldLink RX3 51 "WaxTurns$Reade\x72" "behind" "I") (List.mem_cons_of_mem _ (List.mem_append_left _ (List.mem_of_getElem? (i := 1) rfl)))) (fun _ h9 => h9) rfl dX3_scanWhole_57 ?_
            refine va_bald hx hb hK hP 1 0 rfl rfl (ai_in bj5a0_9_l u13f_j5a0_9 (by decide) (by decide)) dX3_scanWhole_60 ?_
            refine ax_ti x24 ex24.symm ?_
            refine lv_iadd hx hb dX3_scanWhole_61 ?_
            refine lv_topi (fun x61 ex61 => ?_)
            have fqx61 := fl_iadd_eq ex61
            have hF1 := hF1.trans (fl_lt_eq (show x61.toInt = fl_iadd x51.toInt x24.toInt from fqx61))
            refine lv_bipush (v := 48) hx hb dX3_scanWhole_62 zk_bipush_48 ?_
            refine lv_isub hx hb dX3_scanWhole_64 ?_
            refine lv_topi (fun x64 ex64 => ?_)
            have fqx64 := fl_isub_eq ex64
            have hF1 := hF1.trans (fl_lt_eq (show x64.toInt = fl_isub x61.toInt 48 from fqx64))
            refine va_put (D := (dC, dI)) (ci := 3) (v := .int x64) (ty := .int) (C := RX3) (T := TX3) (N := 14) hx hb hts zi_X3_scanWhole_3 tyX3 tyX3_ok nmX3 hown hK hP hD hS 0 rfl rfl 12 (by decide) (hts (.fieldLink RX3 85 "WaxTurns$Reade\x72" "whole" "I") (List.mem_cons_of_mem _ (List.mem_append_left _ (List.mem_of_getElem? (i := 0) rfl)))) (fun _ h9 => h9) rfl (tyX3_ok 12 (by decide)) rfl rfl (Nat.le_of_ble_eq_true rfl) dX3_scanWhole_65 (fun H locs hP hD hS => ?_)
            refine zs_0 (y := (a0, .inr (3, [a0g_0, a0g_1, a0g_2, .ref a0_3, a0g_4, a0g_5, a0g_6, .int a0_7, .int a0_8, .int j5a0_9, .int a0_10, a0g_11, .int x64, a0g_13]))) hP hD rfl (fun hP hD => ?_)
            refine lv_aload_n hx hb dX3_scanWhole_68 rfl (lv_at hl 0 rfl) ?_
            refine lv_dup hx hb dX3_scanWhole_69 rfl ?_
            refine va_get (D := (dC, dI)) (ci := 3) (v := .int j5a0_9) (C := RX3) (T := TX3) (N := 14) hx hb hts zi_X3_scanWhole_3 hown hK hP 0 rfl rfl 9 (by decide) (hts (.fieldLink RX3 51 "WaxTurns$Reade\x72" "behind" "I") (List.mem_cons_of_mem _ (List.mem_append_left _ (List.mem_of_getElem? (i := 1) rfl)))) (fun _ h9 => h9) rfl dX3_scanWhole_70 ?_
            refine lv_iconst (v := 1) hx hb dX3_scanWhole_73 zk_iconst_1 ?_
            refine lv_iadd hx hb dX3_scanWhole_74 ?_
            refine lv_topi (fun x74 ex74 => ?_)
            have qx74 : x74.toInt = j5a0_9.toInt + (1 : Int32).toInt := ai_add ex74 ⟨bj5a0_9_l, u13f_j5a0_9⟩ ⟨zq1, zq0⟩ (by decide) (by decide)
            have bx74 : (1 : Int) ≤ x74.toInt ∧ x74.toInt ≤ 900 := ⟨by rw [qx74]; exact Int.add_le_add bj5a0_9_l zq1, by rw [qx74]; exact Int.add_le_add u13f_j5a0_9 zq0⟩
            have wx74 : x74.toInt = j5a0_9.toInt + 1 := qx74
            have hF1 := hF1.trans (fl_lt_eq (show x74.toInt = j5a0_9.toInt + 1 from qx74))
            refine va_put (D := (dC, dI)) (ci := 3) (v := .int x74) (ty := .int) (C := RX3) (T := TX3) (N := 14) hx hb hts zi_X3_scanWhole_3 tyX3 tyX3_ok nmX3 hown hK hP hD hS 0 rfl rfl 9 (by decide) (hts (.fieldLink RX3 51 "WaxTurns$Reade\x72" "behind" "I") (List.mem_cons_of_mem _ (List.mem_append_left _ (List.mem_of_getElem? (i := 1) rfl)))) (fun _ h9 => h9) rfl (tyX3_ok 9 (by decide)) rfl rfl (Nat.le_of_ble_eq_true rfl) dX3_scanWhole_75 (fun H locs hP hD hS => ?_)
            refine zs_0 (y := (a0, .inr (3, [a0g_0, a0g_1, a0g_2, .ref a0_3, a0g_4, a0g_5, a0g_6, .int a0_7, .int a0_8, .int x74, .int a0_10, a0g_11, .int x64, a0g_13]))) hP hD rfl (fun hP hD => ?_)
            refine lv_goto (tgt := 5) hx hb dX3_scanWhole_78 (by decide) ?_
            exact (hK0 _ _ _).mp (ih5 x74 x64 _ _ _ (by have h0 := qx74; omega) (Int.le_trans zq4 bx74.1) bx74.2 (hF0.trans (fl_wh_l (hSX5.trans hF1))) hP hD hS (lv_sub hl [0] rfl))
  exact (hK0 _ _ _).mp (J5 901 a0_9 0 _ _ _ (by have h1 : (0 : Int) ≤ a0_9.toInt := ba0_9_l; have h2 : a0_9.toInt ≤ (900 : Int) := ba0_9_u; omega) ba0_9_l ba0_9_u (by rw [show (0 : Int32).toInt = 0 from by decide]; exact hF0) hP hD hS (lv_sub hl [0] rfl))
end P311_00_f
