section P280_02_safe
set_option maxHeartbeats 4000000 in
set_option maxRecDepth 100000 in
theorem c0_X8_stairs (l : Launch) (dC : Nat → ClassId) (dI : Nat → Nat → Nat) (sz : Nat) (a0 : Nat) (a0_0 : Int32) (a0g_1 a0g_2 a0g_3 a0g_4 a0g_5 a0g_6 a0g_7 a0g_8 a0g_9 a0g_10 a0g_12 a0g_13 a0g_15 a0g_16 a0g_17 a0g_18 a0g_19 a0g_20 a0g_21 a0g_22 a0g_23 a0g_24 a0g_25 a0g_26 a0g_27 a0g_28 a0g_29 a0g_30 a0g_31 a0g_32 a0g_33 a0g_34 a0g_35 a0g_36 a0g_37 a0g_38 a0g_39 : Value) (a0_11 : Int32) (a0_14 : Int32) (ba0_14_l : (0 : Int) ≤ a0_14.toInt) (ba0_14_u : a0_14.toInt ≤ (0 : Int)) : zm l yX8_stairs wsX8_stairs ({ frames := 1, cells := 0, slots := 0, locals := 21 }) [.ref a0] dC dI sz [(a0, .inr (8, [Value.int a0_0, a0g_1, a0g_2, a0g_3, a0g_4, a0g_5, a0g_6, a0g_7, a0g_8, a0g_9, a0g_10, Value.int a0_11, a0g_12, a0g_13, Value.int a0_14, a0g_15, a0g_16, a0g_17, a0g_18, a0g_19, a0g_20, a0g_21, a0g_22, a0g_23, a0g_24, a0g_25, a0g_26, a0g_27, a0g_28, a0g_29, a0g_30, a0g_31, a0g_32, a0g_33, a0g_34, a0g_35, a0g_36, a0g_37, a0g_38, a0g_39]))] [] (fun A _ => True) (fun A => va_Qi (fun (r : Int32) (_ : Unit) => r = (-1)) (fun (_ : Unit) (t : State) => ∃ na0_0 : Int32, ∃ na0_11 : Int32, ax_B dC dI A [(a0, .inr (8, [Value.int na0_0, a0g_1, a0g_2, a0g_3, a0g_4, a0g_5, a0g_6, a0g_7, a0g_8, a0g_9, a0g_10, Value.int na0_11, a0g_12, a0g_13, Value.int a0_14, a0g_15, a0g_16, a0g_17, a0g_18, a0g_19, a0g_20, a0g_21, a0g_22, a0g_23, a0g_24, a0g_25, a0g_26, a0g_27, a0g_28, a0g_29, a0g_30, a0g_31, a0g_32, a0g_33, a0g_34, a0g_35, a0g_36, a0g_37, a0g_38, a0g_39]))] [] t) A) := by
  refine zh (cc := cX8_stairs) (maxL := 1) (ret := (some .int)) zn_RX8 rfl (Nat.le_of_ble_eq_true rfl) (fun p e s m below meth c A ls hx hb hml hr hts (hown : s.vm.findClass RX8 = some m.cls) hlocks hA hS hP hK hD hE (hl : lv_has ls 1 [(0, .ref a0)]) => ?_)
  refine lv_aload_n hx hb dX8_stairs_0 rfl (lv_at hl 0 rfl) ?_
  refine va_callv (va_runV (As := []) (rest := []) ⟨hx, hb, hml, hown, hts⟩ (c_X8_good l dC dI s.heap.size a0 a0_0 a0g_1 a0g_2 a0g_3 a0g_4 a0g_5 a0g_6 a0g_7 a0g_8 a0g_9 a0g_10 a0g_12 a0g_13 (Value.int a0_14) a0g_15 a0g_16 a0g_17 a0g_18 a0g_19 a0g_20 a0g_21 a0g_22 a0g_23 a0g_24 a0g_25 a0g_26 a0g_27 a0g_28 a0g_29 a0g_30 a0g_31 a0g_32 a0g_33 a0g_34 a0g_35 a0g_36 a0g_37 a0g_38 a0g_39 a0_11 ) (cwV 0 hts gX8_stairs_X8_good rfl rfl rfl zd_X8_good ⟨Nat.le_of_ble_eq_true rfl, Nat.le_of_ble_eq_true rfl⟩) ⟨ax_blind (fun _ _ _ _ _ => trivial), zr_8 (zp_K hK) (zp_P1 hP) (q0 := 0) rfl, ax_pre (zp_P1 hP) (zp_K hK) (zp_D1 hD) (fun _ _ => trivial)⟩ rfl rfl hl.1 rfl (lv_room (Nat.le_of_ble_eq_true rfl)) dX8_stairs_1 ⟨Nat.le_of_ble_eq_true rfl, Nat.le_of_ble_eq_true rfl⟩) hS (fun q _ h => zp_F1 hD hS hA q h) (zp_F1 hD hS hA) (fun u t H locs ht hvm hw => zx_2 (fun v1na0_0 v1na0_11 hB hz1 hk1 hS1 => zo1 hB ht hP hD hk1 (zp_F1 hD hS hA) hS1 (fun hP hK1 hD hS => ?_)))
  refine lv_aload_n hx hb dX8_stairs_4 rfl (lv_at hl 0 rfl) ?_
  refine va_get (D := (dC, dI)) (ci := 8) (v := .int a0_14) (C := RX8) (T := TX8) (N := 40) hx hb hts zi_X8_stairs_8 hown hK hP 0 rfl rfl 14 (by decide) (hts (.fieldLink RX8 173 "WaxTurnsModel" "hasGallery" "Z") (zm_X8_stairs_r1 (List.mem_of_getElem? (i := 0) rfl))) (fun _ h9 => h9) rfl dX8_stairs_5 ?_
  refine lv_if_ne (tgt := 17) hx hb dX8_stairs_8 (by decide) (fun c8 => ?_) (fun c8 => ?_)
  · have gc8 := ai_ne c8
    have l8t_a0_14 : (1 : Int) ≤ a0_14.toInt := (by first | exact zg_l ba0_14_l gc8 (by decide) (by decide) | (have h1 := ba0_14_l; have h2 : (0 : Int32).toInt = 0 := (by decide); rw [h2] at gc8; omega))
    have u8t_a0_14 : a0_14.toInt ≤ (-1 : Int) := (by first | exact zg_u ba0_14_u gc8 (by decide) (by decide) | (have h1 := ba0_14_u; have h2 : (0 : Int32).toInt = 0 := (by decide); rw [h2] at gc8; omega))
    exact absurd (Int.le_trans l8t_a0_14 u8t_a0_14) (by decide)
  · have gc8 := ai_eq c8
    have u8f_a0_14 : a0_14.toInt ≤ (0 : Int) := ba0_14_u
    have l8f_a0_14 : (0 : Int) ≤ a0_14.toInt := ba0_14_l
    refine lv_aload_n hx hb dX8_stairs_11 rfl (lv_at hl 0 rfl) ?_
    refine lv_iconst (v := 1) hx hb dX8_stairs_12 zk_iconst_1 ?_
    refine va_calli (va_runV (As := [.int 1]) (rest := []) ⟨hx, hb, hml, hown, hts⟩ (c_X8_no l dC dI H.size a0 1 (Value.int v1na0_0) a0g_1 a0g_2 a0g_3 a0g_4 a0g_5 a0g_6 a0g_7 a0g_8 a0g_9 a0g_10 a0g_12 a0g_13 (Value.int a0_14) a0g_15 a0g_16 a0g_17 a0g_18 a0g_19 a0g_20 a0g_21 a0g_22 a0g_23 a0g_24 a0g_25 a0g_26 a0g_27 a0g_28 a0g_29 a0g_30 a0g_31 a0g_32 a0g_33 a0g_34 a0g_35 a0g_36 a0g_37 a0g_38 a0g_39 v1na0_11 ) (cwV 1 hts gX8_stairs_X8_no rfl rfl rfl zd_X8_no ⟨Nat.le_of_ble_eq_true rfl, Nat.le_of_ble_eq_true rfl⟩) ⟨ax_blind (fun _ _ _ _ _ => trivial), zr_8 (zp_K hK) (zp_P1 hP) (q0 := 0) rfl, ax_pre (zp_P1 hP) (zp_K hK) (zp_D1 hD) (fun _ _ => trivial)⟩ rfl rfl hl.1 rfl (lv_room (Nat.le_of_ble_eq_true rfl)) dX8_stairs_13 ⟨Nat.le_of_ble_eq_true rfl, Nat.le_of_ble_eq_true rfl⟩) hS (fun q _ h => zp_F1 hD hS hA q h) (zp_F1 hD hS hA) (fun r13 u t H locs ht hvm hw => zx_1 (fun v13na0_11 hB hz1 hk1 hS1 => zo1 hB ht hP hD hk1 (zp_F1 hD hS hA) hS1 (fun hP hK1 hD hS => ?_)))
    have hw : r13 = (-1) := hw
    have hw := hw.symm
    subst hw
    exact W.iret (v := (-1)) hx hb hr (fun t ht hW => ⟨⟨(-1), (), rfl, rfl, v1na0_0, v13na0_11, by rw [ht]; exact hP, va_K.moved hW.alike hK, hD⟩, hS.F ht⟩) hS.2.2 dX8_stairs_16

set_option maxHeartbeats 4000000 in
set_option maxRecDepth 100000 in
theorem c0_X8_catches (l : Launch) (dC : Nat → ClassId) (dI : Nat → Nat → Nat) (sz : Nat) (a0 : Nat) (a1 : Int32) (a0_0 : Int32) (a0g_1 a0g_2 a0g_3 a0g_4 a0g_5 a0g_6 a0g_7 a0g_8 a0g_9 a0g_10 a0g_12 a0g_13 a0g_15 a0g_16 a0g_17 a0g_18 a0g_19 a0g_20 a0g_21 a0g_22 a0g_23 a0g_24 a0g_25 a0g_26 a0g_27 a0g_28 a0g_29 a0g_30 a0g_31 a0g_32 a0g_33 a0g_34 a0g_35 a0g_36 a0g_37 a0g_38 a0g_39 : Value) (a0_11 : Int32) (a0_14 : Int32) (ba0_14_l : (0 : Int) ≤ a0_14.toInt) (ba0_14_u : a0_14.toInt ≤ (0 : Int)) : zm l yX8_catches wsX8_catches ({ frames := 2, cells := 0, slots := 0, locals := 45 }) [.ref a0, .int a1] dC dI sz [(a0, .inr (8, [Value.int a0_0, a0g_1, a0g_2, a0g_3, a0g_4, a0g_5, a0g_6, a0g_7, a0g_8, a0g_9, a0g_10, Value.int a0_11, a0g_12, a0g_13, Value.int a0_14, a0g_15, a0g_16, a0g_17, a0g_18, a0g_19, a0g_20, a0g_21, a0g_22, a0g_23, a0g_24, a0g_25, a0g_26, a0g_27, a0g_28, a0g_29, a0g_30, a0g_31, a0g_32, a0g_33, a0g_34, a0g_35, a0g_36, a0g_37, a0g_38, a0g_39]))] [] (fun A _ => True) (fun A => va_Qi (fun (r : Int32) (_ : Unit) => r = (-1)) (fun (_ : Unit) (t : State) => ∃ na0_0 : Int32, ∃ na0_11 : Int32, ax_B dC dI A [(a0, .inr (8, [Value.int na0_0, a0g_1, a0g_2, a0g_3, a0g_4, a0g_5, a0g_6, a0g_7, a0g_8, a0g_9, a0g_10, Value.int na0_11, a0g_12, a0g_13, Value.int a0_14, a0g_15, a0g_16, a0g_17, a0g_18, a0g_19, a0g_20, a0g_21, a0g_22, a0g_23, a0g_24, a0g_25, a0g_26, a0g_27, a0g_28, a0g_29, a0g_30, a0g_31, a0g_32, a0g_33, a0g_34, a0g_35, a0g_36, a0g_37, a0g_38, a0g_39]))] [] t) A) := by
  refine zh (cc := cX8_catches) (maxL := 3) (ret := (some .int)) zn_RX8 rfl (Nat.le_of_ble_eq_true rfl) (fun p e s m below meth c A ls hx hb hml hr hts (hown : s.vm.findClass RX8 = some m.cls) hlocks hA hS hP hK hD hE (hl : lv_has ls 3 [(0, .ref a0), (1, .int a1)]) => ?_)
  refine lv_aload_n hx hb dX8_catches_0 rfl (lv_at hl 0 rfl) ?_
  refine va_callv (va_runV (As := []) (rest := []) ⟨hx, hb, hml, hown, hts⟩ (c_X8_good l dC dI s.heap.size a0 a0_0 a0g_1 a0g_2 a0g_3 a0g_4 a0g_5 a0g_6 a0g_7 a0g_8 a0g_9 a0g_10 a0g_12 a0g_13 (Value.int a0_14) a0g_15 a0g_16 a0g_17 a0g_18 a0g_19 a0g_20 a0g_21 a0g_22 a0g_23 a0g_24 a0g_25 a0g_26 a0g_27 a0g_28 a0g_29 a0g_30 a0g_31 a0g_32 a0g_33 a0g_34 a0g_35 a0g_36 a0g_37 a0g_38 a0g_39 a0_11 ) (cwV 0 hts gX8_catches_X8_good rfl rfl rfl zd_X8_good ⟨Nat.le_of_ble_eq_true rfl, Nat.le_of_ble_eq_true rfl⟩) ⟨ax_blind (fun _ _ _ _ _ => trivial), zr_8 (zp_K hK) (zp_P1 hP) (q0 := 0) rfl, ax_pre (zp_P1 hP) (zp_K hK) (zp_D1 hD) (fun _ _ => trivial)⟩ rfl rfl hl.1 rfl (lv_room (Nat.le_of_ble_eq_true rfl)) dX8_catches_1 ⟨Nat.le_of_ble_eq_true rfl, Nat.le_of_ble_eq_true rfl⟩) hS (fun q _ h => zp_F1 hD hS hA q h) (zp_F1 hD hS hA) (fun u t H locs ht hvm hw => zx_2 (fun v1na0_0 v1na0_11 hB hz1 hk1 hS1 => zo1 hB ht hP hD hk1 (zp_F1 hD hS hA) hS1 (fun hP hK1 hD hS => ?_)))
  refine lv_aload_n hx hb dX8_catches_4 rfl (lv_at hl 0 rfl) ?_
  refine lv_aload_n hx hb dX8_catches_5 rfl (lv_at hl 0 rfl) ?_
  refine va_get (D := (dC, dI)) (ci := 8) (v := .int a0_14) (C := RX8) (T := TX8) (N := 40) hx hb hts zi_X8_catches_8 hown hK hP 0 rfl rfl 14 (by decide) (hts (.fieldLink RX8 173 "WaxTurnsModel" "hasGallery" "Z") (zm_X8_catches_r1 (List.mem_of_getElem? (i := 0) rfl))) (fun _ h9 => h9) rfl dX8_catches_6 ?_
  refine lv_iconst (v := 0) hx hb dX8_catches_9 zk_iconst_0 ?_
  refine lv_iload_n hx hb dX8_catches_10 rfl (lv_at hl 1 rfl) ?_
  refine va_calli (va_runV (As := [.int a0_14, .int 0, .int a1]) (rest := []) ⟨hx, hb, hml, hown, hts⟩ (c_X8_aheadWhy l dC dI H.size a0 a0_14 0 a1 (Value.int v1na0_0) a0g_1 a0g_2 a0g_3 a0g_4 a0g_5 a0g_6 a0g_7 a0g_8 a0g_9 a0g_10 (Value.int v1na0_11) a0g_12 a0g_13 (Value.int a0_14) a0g_15 a0g_16 a0g_17 a0g_18 a0g_19 a0g_20 a0g_21 a0g_22 a0g_23 a0g_24 a0g_25 a0g_26 a0g_27 a0g_28 a0g_29 a0g_30 a0g_31 a0g_32 a0g_33 a0g_34 a0g_35 a0g_36 a0g_37 a0g_38 a0g_39 ba0_14_l (Int.le_trans ba0_14_u zq4) zq5 (Int.le_trans zq6 zq4)) (cwV 3 hts gX8_catches_X8_aheadWhy rfl rfl rfl zd_X8_aheadWhy ⟨Nat.le_of_ble_eq_true rfl, Nat.le_of_ble_eq_true rfl⟩) ⟨ax_blind (fun _ _ _ _ _ => trivial), zr_8 (zp_K hK) (zp_P1 hP) (q0 := 0) rfl, ax_pre (zp_P1 hP) (zp_K hK) (zp_D1 hD) (fun _ _ => trivial)⟩ rfl rfl hl.1 rfl (lv_room (Nat.le_of_ble_eq_true rfl)) dX8_catches_11 ⟨Nat.le_of_ble_eq_true rfl, Nat.le_of_ble_eq_true rfl⟩) hS (fun q _ h => zp_F1 hD hS hA q h) (zp_F1 hD hS hA) (fun r11 u t H locs ht hvm hw hB hz1 hk1 hS1 => zo1 hB ht hP hD hk1 (zp_F1 hD hS hA) hS1 (fun hP hK1 hD hS => ?_))
  rcases hw with hw | hw | hw
  · obtain ⟨hw, h11_0, h11_1⟩ := hw
    subst hw
    have l11k0_a0_14 : (1 : Int) ≤ a0_14.toInt := h11_0
    have u11k0_a0_14 : a0_14.toInt ≤ (0 : Int) := ba0_14_u
    exact absurd (Int.le_trans l11k0_a0_14 u11k0_a0_14) (by decide)
  · obtain ⟨hw, h11_0, h11_1⟩ := hw
    subst hw
    have l11k1_a0_14 : (0 : Int) ≤ a0_14.toInt := ba0_14_l
    have u11k1_a0_14 : a0_14.toInt ≤ (0 : Int) := ba0_14_u
    refine lv_istore_n (lv' := [(2, .int 1), (0, .ref a0), (1, .int a1)]) hx hb dX8_catches_14 rfl hl (by decide) rfl (fun ls hl => ?_)
    refine lv_iload_n hx hb dX8_catches_15 rfl (lv_at hl 0 rfl) ?_
    refine lv_if_eq (tgt := 25) hx hb dX8_catches_16 (by decide) (fun c16 => absurd c16 (by decide +kernel)) (fun _ => ?_)
    refine lv_aload_n hx hb dX8_catches_19 rfl (lv_at hl 1 rfl) ?_
    refine lv_iload_n hx hb dX8_catches_20 rfl (lv_at hl 0 rfl) ?_
    refine va_calli (va_runV (As := [.int 1]) (rest := []) ⟨hx, hb, hml, hown, hts⟩ (c_X8_no l dC dI H.size a0 1 (Value.int v1na0_0) a0g_1 a0g_2 a0g_3 a0g_4 a0g_5 a0g_6 a0g_7 a0g_8 a0g_9 a0g_10 a0g_12 a0g_13 (Value.int a0_14) a0g_15 a0g_16 a0g_17 a0g_18 a0g_19 a0g_20 a0g_21 a0g_22 a0g_23 a0g_24 a0g_25 a0g_26 a0g_27 a0g_28 a0g_29 a0g_30 a0g_31 a0g_32 a0g_33 a0g_34 a0g_35 a0g_36 a0g_37 a0g_38 a0g_39 v1na0_11 ) (cwV 1 hts gX8_catches_X8_no rfl rfl rfl zd_X8_no ⟨Nat.le_of_ble_eq_true rfl, Nat.le_of_ble_eq_true rfl⟩) ⟨ax_blind (fun _ _ _ _ _ => trivial), zr_8 (zp_K hK) (zp_P1 hP) (q0 := 0) rfl, ax_pre (zp_P1 hP) (zp_K hK) (zp_D1 hD) (fun _ _ => trivial)⟩ rfl rfl hl.1 rfl (lv_room (Nat.le_of_ble_eq_true rfl)) dX8_catches_21 ⟨Nat.le_of_ble_eq_true rfl, Nat.le_of_ble_eq_true rfl⟩) hS (fun q _ h => zp_F1 hD hS hA q h) (zp_F1 hD hS hA) (fun r21 u t H locs ht hvm hw => zx_1 (fun v21na0_11 hB hz1 hk1 hS1 => zo1 hB ht hP hD hk1 (zp_F1 hD hS hA) hS1 (fun hP hK1 hD hS => ?_)))
    have hw : r21 = (-1) := hw
    have hw := hw.symm
    subst hw
    exact W.iret (v := (-1)) hx hb hr (fun t ht hW => ⟨⟨(-1), (), rfl, rfl, v1na0_0, v21na0_11, by rw [ht]; exact hP, va_K.moved hW.alike hK, hD⟩, hS.F ht⟩) hS.2.2 dX8_catches_24
  · obtain ⟨hw, h11_0, h11_1, h11_2, h11_3⟩ := hw
    subst hw
    have l11k2_a0_14 : (1 : Int) ≤ a0_14.toInt := h11_0
    have u11k2_a0_14 : a0_14.toInt ≤ (0 : Int) := ba0_14_u
    exact absurd (Int.le_trans l11k2_a0_14 u11k2_a0_14) (by decide)

set_option maxHeartbeats 4000000 in
set_option maxRecDepth 100000 in
theorem c0_X8_heard (l : Launch) (dC : Nat → ClassId) (dI : Nat → Nat → Nat) (sz : Nat) (a0 : Nat) (a1 : Int32) (a2 : Int32) (a0_0 : Int32) (a0g_1 a0g_2 a0g_3 a0g_4 a0g_5 a0g_6 a0g_7 a0g_8 a0g_9 a0g_10 a0g_12 a0g_13 a0g_15 a0g_16 a0g_17 a0g_18 a0g_19 a0g_20 a0g_21 a0g_22 a0g_23 a0g_24 a0g_25 a0g_26 a0g_27 a0g_28 a0g_29 a0g_30 a0g_31 a0g_32 a0g_33 a0g_34 a0g_35 a0g_36 a0g_37 a0g_38 a0g_39 : Value) (a0_11 : Int32) (a0_14 : Int32) (ba0_14_l : (0 : Int) ≤ a0_14.toInt) (ba0_14_u : a0_14.toInt ≤ (0 : Int)) : zm l yX8_heard wsX8_heard ({ frames := 2, cells := 0, slots := 0, locals := 45 }) [.ref a0, .int a1, .int a2] dC dI sz [(a0, .inr (8, [Value.int a0_0, a0g_1, a0g_2, a0g_3, a0g_4, a0g_5, a0g_6, a0g_7, a0g_8, a0g_9, a0g_10, Value.int a0_11, a0g_12, a0g_13, Value.int a0_14, a0g_15, a0g_16, a0g_17, a0g_18, a0g_19, a0g_20, a0g_21, a0g_22, a0g_23, a0g_24, a0g_25, a0g_26, a0g_27, a0g_28, a0g_29, a0g_30, a0g_31, a0g_32, a0g_33, a0g_34, a0g_35, a0g_36, a0g_37, a0g_38, a0g_39]))] [] (fun A _ => True) (fun A => va_Qi (fun (r : Int32) (_ : Unit) => r = (-1)) (fun (_ : Unit) (t : State) => ∃ na0_0 : Int32, ∃ na0_11 : Int32, ax_B dC dI A [(a0, .inr (8, [Value.int na0_0, a0g_1, a0g_2, a0g_3, a0g_4, a0g_5, a0g_6, a0g_7, a0g_8, a0g_9, a0g_10, Value.int na0_11, a0g_12, a0g_13, Value.int a0_14, a0g_15, a0g_16, a0g_17, a0g_18, a0g_19, a0g_20, a0g_21, a0g_22, a0g_23, a0g_24, a0g_25, a0g_26, a0g_27, a0g_28, a0g_29, a0g_30, a0g_31, a0g_32, a0g_33, a0g_34, a0g_35, a0g_36, a0g_37, a0g_38, a0g_39]))] [] t) A) := by
  refine zh (cc := cX8_heard) (maxL := 5) (ret := (some .int)) zn_RX8 rfl (Nat.le_of_ble_eq_true rfl) (fun p e s m below meth c A ls hx hb hml hr hts (hown : s.vm.findClass RX8 = some m.cls) hlocks hA hS hP hK hD hE (hl : lv_has ls 5 [(0, .ref a0), (1, .int a1), (2, .int a2)]) => ?_)
  refine ai_open (fun K hK0 => ?_)
  refine (hK0 _ _ _).mpr ?_
  refine lv_aload_n hx hb dX8_heard_0 rfl (lv_at hl 0 rfl) ?_
  refine va_callv (va_runV (As := []) (rest := []) ⟨hx, hb, hml, hown, hts⟩ (c_X8_good l dC dI s.heap.size a0 a0_0 a0g_1 a0g_2 a0g_3 a0g_4 a0g_5 a0g_6 a0g_7 a0g_8 a0g_9 a0g_10 a0g_12 a0g_13 (Value.int a0_14) a0g_15 a0g_16 a0g_17 a0g_18 a0g_19 a0g_20 a0g_21 a0g_22 a0g_23 a0g_24 a0g_25 a0g_26 a0g_27 a0g_28 a0g_29 a0g_30 a0g_31 a0g_32 a0g_33 a0g_34 a0g_35 a0g_36 a0g_37 a0g_38 a0g_39 a0_11 ) (cwV 0 hts gX8_heard_X8_good rfl rfl rfl zd_X8_good ⟨Nat.le_of_ble_eq_true rfl, Nat.le_of_ble_eq_true rfl⟩) ⟨ax_blind (fun _ _ _ _ _ => trivial), zr_8 (zp_K hK) (zp_P1 hP) (q0 := 0) rfl, ax_pre (zp_P1 hP) (zp_K hK) (zp_D1 hD) (fun _ _ => trivial)⟩ rfl rfl hl.1 rfl (lv_room (Nat.le_of_ble_eq_true rfl)) dX8_heard_1 ⟨Nat.le_of_ble_eq_true rfl, Nat.le_of_ble_eq_true rfl⟩) hS (fun q _ h => zp_F1 hD hS hA q h) (zp_F1 hD hS hA) (fun u t H locs ht hvm hw => zx_2 (fun v1na0_0 v1na0_11 hB hz1 hk1 hS1 => zo1 hB ht hP hD hk1 (zp_F1 hD hS hA) hS1 (fun hP hK1 hD hS => ?_)))
  refine lv_aload_n hx hb dX8_heard_4 rfl (lv_at hl 0 rfl) ?_
  refine lv_aload_n hx hb dX8_heard_5 rfl (lv_at hl 0 rfl) ?_
  refine lv_iload_n hx hb dX8_heard_6 rfl (lv_at hl 1 rfl) ?_
  refine va_calli (va_runV (As := [.int a1]) (rest := [.ref a0]) ⟨hx, hb, hml, hown, hts⟩ (c0_X8_isFigure l dC dI H.size a0 a1 (Value.int v1na0_0) a0g_1 a0g_2 a0g_3 a0g_4 a0g_5 a0g_6 a0g_7 a0g_8 a0g_9 a0g_10 (Value.int v1na0_11) a0g_12 a0g_13 a0g_15 a0g_16 a0g_17 a0g_18 a0g_19 a0g_20 a0g_21 a0g_22 a0g_23 a0g_24 a0g_25 a0g_26 a0g_27 a0g_28 a0g_29 a0g_30 a0g_31 a0g_32 a0g_33 a0g_34 a0g_35 a0g_36 a0g_37 a0g_38 a0g_39 a0_14 ba0_14_l ba0_14_u) (cwV 1 hts gX8_heard_X8_isFigure rfl rfl rfl zd_X8_isFigure ⟨Nat.le_of_ble_eq_true rfl, Nat.le_of_ble_eq_true rfl⟩) ⟨ax_blind (fun _ _ _ _ _ => trivial), zr_8 (zp_K hK) (zp_P1 hP) (q0 := 0) rfl, ax_pre (zp_P1 hP) (zp_K hK) (zp_D1 hD) (fun _ _ => trivial)⟩ rfl rfl hl.1 rfl (lv_room (Nat.le_of_ble_eq_true rfl)) dX8_heard_7 ⟨Nat.le_of_ble_eq_true rfl, Nat.le_of_ble_eq_true rfl⟩) hS (fun q _ h => zp_F1 hD hS hA q h) (zp_F1 hD hS hA) (fun r7 u t H locs ht hvm hw hB hz1 hk1 hS1 => zo1 hB ht hP hD hk1 (zp_F1 hD hS hA) hS1 (fun hP hK1 hD hS => ?_))
  have hw : r7 = 0 := hw
  have hw := hw.symm
  subst hw
  refine lv_iconst (v := 0) hx hb dX8_heard_10 zk_iconst_0 ?_
  refine lv_iload_n hx hb dX8_heard_11 rfl (lv_at hl 2 rfl) ?_
  refine va_calli (va_runV (As := [.int 0, .int 0, .int a2]) (rest := []) ⟨hx, hb, hml, hown, hts⟩ (c_X8_aheadWhy l dC dI H.size a0 0 0 a2 (Value.int v1na0_0) a0g_1 a0g_2 a0g_3 a0g_4 a0g_5 a0g_6 a0g_7 a0g_8 a0g_9 a0g_10 (Value.int v1na0_11) a0g_12 a0g_13 (Value.int a0_14) a0g_15 a0g_16 a0g_17 a0g_18 a0g_19 a0g_20 a0g_21 a0g_22 a0g_23 a0g_24 a0g_25 a0g_26 a0g_27 a0g_28 a0g_29 a0g_30 a0g_31 a0g_32 a0g_33 a0g_34 a0g_35 a0g_36 a0g_37 a0g_38 a0g_39 zq5 (Int.le_trans zq6 zq4) zq5 (Int.le_trans zq6 zq4)) (cwV 3 hts gX8_heard_X8_aheadWhy rfl rfl rfl zd_X8_aheadWhy ⟨Nat.le_of_ble_eq_true rfl, Nat.le_of_ble_eq_true rfl⟩) ⟨ax_blind (fun _ _ _ _ _ => trivial), zr_8 (zp_K hK) (zp_P1 hP) (q0 := 0) rfl, ax_pre (zp_P1 hP) (zp_K hK) (zp_D1 hD) (fun _ _ => trivial)⟩ rfl rfl hl.1 rfl (lv_room (Nat.le_of_ble_eq_true rfl)) dX8_heard_12 ⟨Nat.le_of_ble_eq_true rfl, Nat.le_of_ble_eq_true rfl⟩) hS (fun q _ h => zp_F1 hD hS hA q h) (zp_F1 hD hS hA) (fun r12 u t H locs ht hvm hw hB hz1 hk1 hS1 => zo1 hB ht hP hD hk1 (zp_F1 hD hS hA) hS1 (fun hP hK1 hD hS => ?_))
  rcases hw with hw | hw | hw
  · obtain ⟨hw, h12_0, h12_1⟩ := hw
    subst hw
    exact absurd h12_0 (by decide)
  · obtain ⟨hw, h12_0, h12_1⟩ := hw
    subst hw
    refine lv_istore_n (lv' := [(3, .int 1), (0, .ref a0), (1, .int a1), (2, .int a2)]) hx hb dX8_heard_15 rfl hl (by decide) rfl (fun ls hl => ?_)
    refine lv_iload_n hx hb dX8_heard_16 rfl (lv_at hl 0 rfl) ?_
    refine lv_if_eq (tgt := 26) hx hb dX8_heard_17 (by decide) (fun c17 => absurd c17 (by decide +kernel)) (fun _ => ?_)
    refine lv_aload_n hx hb dX8_heard_20 rfl (lv_at hl 1 rfl) ?_
    refine lv_iload_n hx hb dX8_heard_21 rfl (lv_at hl 0 rfl) ?_
    refine va_calli (va_runV (As := [.int 1]) (rest := []) ⟨hx, hb, hml, hown, hts⟩ (c_X8_no l dC dI H.size a0 1 (Value.int v1na0_0) a0g_1 a0g_2 a0g_3 a0g_4 a0g_5 a0g_6 a0g_7 a0g_8 a0g_9 a0g_10 a0g_12 a0g_13 (Value.int a0_14) a0g_15 a0g_16 a0g_17 a0g_18 a0g_19 a0g_20 a0g_21 a0g_22 a0g_23 a0g_24 a0g_25 a0g_26 a0g_27 a0g_28 a0g_29 a0g_30 a0g_31 a0g_32 a0g_33 a0g_34 a0g_35 a0g_36 a0g_37 a0g_38 a0g_39 v1na0_11 ) (cwV 1 hts gX8_heard_X8_no rfl rfl rfl zd_X8_no ⟨Nat.le_of_ble_eq_true rfl, Nat.le_of_ble_eq_true rfl⟩) ⟨ax_blind (fun _ _ _ _ _ => trivial), zr_8 (zp_K hK) (zp_P1 hP) (q0 := 0) rfl, ax_pre (zp_P1 hP) (zp_K hK) (zp_D1 hD) (fun _ _ => trivial)⟩ rfl rfl hl.1 rfl (lv_room (Nat.le_of_ble_eq_true rfl)) dX8_heard_22 ⟨Nat.le_of_ble_eq_true rfl, Nat.le_of_ble_eq_true rfl⟩) hS (fun q _ h => zp_F1 hD hS hA q h) (zp_F1 hD hS hA) (fun r22 u t H locs ht hvm hw => zx_1 (fun v22na0_11 hB hz1 hk1 hS1 => zo1 hB ht hP hD hk1 (zp_F1 hD hS hA) hS1 (fun hP hK1 hD hS => ?_)))
    have hw : r22 = (-1) := hw
    have hw := hw.symm
    subst hw
    exact W.iret (v := (-1)) hx hb hr (fun t ht hW => ⟨⟨(-1), (), rfl, rfl, v1na0_0, v22na0_11, by rw [ht]; exact hP, va_K.moved hW.alike hK, hD⟩, hS.F ht⟩) hS.2.2 dX8_heard_25
  · obtain ⟨hw, h12_0, h12_1, h12_2, h12_3⟩ := hw
    subst hw
    exact absurd h12_0 (by decide)

set_option maxHeartbeats 4000000 in
set_option maxRecDepth 100000 in
theorem c0_X8_allIn (l : Launch) (dC : Nat → ClassId) (dI : Nat → Nat → Nat) (sz : Nat) (a0 : Nat) (a1 : Int32) (a0_0 : Int32) (a0g_1 a0g_2 a0g_3 a0g_4 a0g_5 a0g_6 a0g_7 a0g_8 a0g_9 a0g_10 a0g_12 a0g_13 a0g_15 a0g_16 a0g_17 a0g_18 a0g_19 a0g_20 a0g_21 a0g_22 a0g_23 a0g_24 a0g_25 a0g_26 a0g_27 a0g_28 a0g_29 a0g_30 a0g_31 a0g_32 a0g_33 a0g_34 a0g_35 a0g_36 a0g_37 a0g_38 a0g_39 : Value) (a0_11 : Int32) (a0_14 : Int32) (ba0_14_l : (0 : Int) ≤ a0_14.toInt) (ba0_14_u : a0_14.toInt ≤ (0 : Int)) : zm l yX8_allIn wsX8_allIn ({ frames := 1, cells := 0, slots := 0, locals := 21 }) [.ref a0, .int a1] dC dI sz [(a0, .inr (8, [Value.int a0_0, a0g_1, a0g_2, a0g_3, a0g_4, a0g_5, a0g_6, a0g_7, a0g_8, a0g_9, a0g_10, Value.int a0_11, a0g_12, a0g_13, Value.int a0_14, a0g_15, a0g_16, a0g_17, a0g_18, a0g_19, a0g_20, a0g_21, a0g_22, a0g_23, a0g_24, a0g_25, a0g_26, a0g_27, a0g_28, a0g_29, a0g_30, a0g_31, a0g_32, a0g_33, a0g_34, a0g_35, a0g_36, a0g_37, a0g_38, a0g_39]))] [] (fun A _ => True) (fun A => va_Qi (fun (r : Int32) (_ : Unit) => r = (-1)) (fun (_ : Unit) (t : State) => ∃ na0_0 : Int32, ∃ na0_11 : Int32, ax_B dC dI A [(a0, .inr (8, [Value.int na0_0, a0g_1, a0g_2, a0g_3, a0g_4, a0g_5, a0g_6, a0g_7, a0g_8, a0g_9, a0g_10, Value.int na0_11, a0g_12, a0g_13, Value.int a0_14, a0g_15, a0g_16, a0g_17, a0g_18, a0g_19, a0g_20, a0g_21, a0g_22, a0g_23, a0g_24, a0g_25, a0g_26, a0g_27, a0g_28, a0g_29, a0g_30, a0g_31, a0g_32, a0g_33, a0g_34, a0g_35, a0g_36, a0g_37, a0g_38, a0g_39]))] [] t) A) := by
  refine zh (cc := cX8_allIn) (maxL := 4) (ret := (some .int)) zn_RX8 rfl (Nat.le_of_ble_eq_true rfl) (fun p e s m below meth c A ls hx hb hml hr hts (hown : s.vm.findClass RX8 = some m.cls) hlocks hA hS hP hK hD hE (hl : lv_has ls 4 [(0, .ref a0), (1, .int a1)]) => ?_)
  refine ai_open (fun K hK0 => ?_)
  refine (hK0 _ _ _).mpr ?_
  refine lv_aload_n hx hb dX8_allIn_0 rfl (lv_at hl 0 rfl) ?_
  refine va_callv (va_runV (As := []) (rest := []) ⟨hx, hb, hml, hown, hts⟩ (c_X8_good l dC dI s.heap.size a0 a0_0 a0g_1 a0g_2 a0g_3 a0g_4 a0g_5 a0g_6 a0g_7 a0g_8 a0g_9 a0g_10 a0g_12 a0g_13 (Value.int a0_14) a0g_15 a0g_16 a0g_17 a0g_18 a0g_19 a0g_20 a0g_21 a0g_22 a0g_23 a0g_24 a0g_25 a0g_26 a0g_27 a0g_28 a0g_29 a0g_30 a0g_31 a0g_32 a0g_33 a0g_34 a0g_35 a0g_36 a0g_37 a0g_38 a0g_39 a0_11 ) (cwV 0 hts gX8_allIn_X8_good rfl rfl rfl zd_X8_good ⟨Nat.le_of_ble_eq_true rfl, Nat.le_of_ble_eq_true rfl⟩) ⟨ax_blind (fun _ _ _ _ _ => trivial), zr_8 (zp_K hK) (zp_P1 hP) (q0 := 0) rfl, ax_pre (zp_P1 hP) (zp_K hK) (zp_D1 hD) (fun _ _ => trivial)⟩ rfl rfl hl.1 rfl (lv_room (Nat.le_of_ble_eq_true rfl)) dX8_allIn_1 ⟨Nat.le_of_ble_eq_true rfl, Nat.le_of_ble_eq_true rfl⟩) hS (fun q _ h => zp_F1 hD hS hA q h) (zp_F1 hD hS hA) (fun u t H locs ht hvm hw => zx_2 (fun v1na0_0 v1na0_11 hB hz1 hk1 hS1 => zo1 hB ht hP hD hk1 (zp_F1 hD hS hA) hS1 (fun hP hK1 hD hS => ?_)))
  refine lv_aload_n hx hb dX8_allIn_4 rfl (lv_at hl 0 rfl) ?_
  refine lv_iload_n hx hb dX8_allIn_5 rfl (lv_at hl 1 rfl) ?_
  refine va_calli (va_runV (As := [.int a1]) (rest := []) ⟨hx, hb, hml, hown, hts⟩ (c0_X8_isFigure l dC dI H.size a0 a1 (Value.int v1na0_0) a0g_1 a0g_2 a0g_3 a0g_4 a0g_5 a0g_6 a0g_7 a0g_8 a0g_9 a0g_10 (Value.int v1na0_11) a0g_12 a0g_13 a0g_15 a0g_16 a0g_17 a0g_18 a0g_19 a0g_20 a0g_21 a0g_22 a0g_23 a0g_24 a0g_25 a0g_26 a0g_27 a0g_28 a0g_29 a0g_30 a0g_31 a0g_32 a0g_33 a0g_34 a0g_35 a0g_36 a0g_37 a0g_38 a0g_39 a0_14 ba0_14_l ba0_14_u) (cwV 1 hts gX8_allIn_X8_isFigure rfl rfl rfl zd_X8_isFigure ⟨Nat.le_of_ble_eq_true rfl, Nat.le_of_ble_eq_true rfl⟩) ⟨ax_blind (fun _ _ _ _ _ => trivial), zr_8 (zp_K hK) (zp_P1 hP) (q0 := 0) rfl, ax_pre (zp_P1 hP) (zp_K hK) (zp_D1 hD) (fun _ _ => trivial)⟩ rfl rfl hl.1 rfl (lv_room (Nat.le_of_ble_eq_true rfl)) dX8_allIn_6 ⟨Nat.le_of_ble_eq_true rfl, Nat.le_of_ble_eq_true rfl⟩) hS (fun q _ h => zp_F1 hD hS hA q h) (zp_F1 hD hS hA) (fun r6 u t H locs ht hvm hw hB hz1 hk1 hS1 => zo1 hB ht hP hD hk1 (zp_F1 hD hS hA) hS1 (fun hP hK1 hD hS => ?_))
  have hw : r6 = 0 := hw
  have hw := hw.symm
  subst hw
  refine lv_if_ne (tgt := 18) hx hb dX8_allIn_9 (by decide) (fun c9 => absurd (by decide +kernel) c9) (fun _ => ?_)
  refine lv_aload_n hx hb dX8_allIn_12 rfl (lv_at hl 0 rfl) ?_
  refine lv_iconst (v := 1) hx hb dX8_allIn_13 zk_iconst_1 ?_
  refine va_calli (va_runV (As := [.int 1]) (rest := []) ⟨hx, hb, hml, hown, hts⟩ (c_X8_no l dC dI H.size a0 1 (Value.int v1na0_0) a0g_1 a0g_2 a0g_3 a0g_4 a0g_5 a0g_6 a0g_7 a0g_8 a0g_9 a0g_10 a0g_12 a0g_13 (Value.int a0_14) a0g_15 a0g_16 a0g_17 a0g_18 a0g_19 a0g_20 a0g_21 a0g_22 a0g_23 a0g_24 a0g_25 a0g_26 a0g_27 a0g_28 a0g_29 a0g_30 a0g_31 a0g_32 a0g_33 a0g_34 a0g_35 a0g_36 a0g_37 a0g_38 a0g_39 v1na0_11 ) (cwV 1 hts gX8_allIn_X8_no rfl rfl rfl zd_X8_no ⟨Nat.le_of_ble_eq_true rfl, Nat.le_of_ble_eq_true rfl⟩) ⟨ax_blind (fun _ _ _ _ _ => trivial), zr_8 (zp_K hK) (zp_P1 hP) (q0 := 0) rfl, ax_pre (zp_P1 hP) (zp_K hK) (zp_D1 hD) (fun _ _ => trivial)⟩ rfl rfl hl.1 rfl (lv_room (Nat.le_of_ble_eq_true rfl)) dX8_allIn_14 ⟨Nat.le_of_ble_eq_true rfl, Nat.le_of_ble_eq_true rfl⟩) hS (fun q _ h => zp_F1 hD hS hA q h) (zp_F1 hD hS hA) (fun r14 u t H locs ht hvm hw => zx_1 (fun v14na0_11 hB hz1 hk1 hS1 => zo1 hB ht hP hD hk1 (zp_F1 hD hS hA) hS1 (fun hP hK1 hD hS => ?_)))
  have hw : r14 = (-1) := hw
  have hw := hw.symm
  subst hw
  exact W.iret (v := (-1)) hx hb hr (fun t ht hW => ⟨⟨(-1), (), rfl, rfl, v1na0_0, v14na0_11, by rw [ht]; exact hP, va_K.moved hW.alike hK, hD⟩, hS.F ht⟩) hS.2.2 dX8_allIn_17

set_option maxHeartbeats 4000000 in
set_option maxRecDepth 100000 in
theorem c0_X8_crowd (l : Launch) (dC : Nat → ClassId) (dI : Nat → Nat → Nat) (sz : Nat) (a0 : Nat) (a1 : Int32) (a0_0 : Int32) (a0g_1 a0g_2 a0g_3 a0g_4 a0g_5 a0g_6 a0g_7 a0g_8 a0g_9 a0g_10 a0g_12 a0g_13 a0g_15 a0g_16 a0g_17 a0g_18 a0g_19 a0g_20 a0g_21 a0g_22 a0g_23 a0g_24 a0g_25 a0g_26 a0g_27 a0g_28 a0g_29 a0g_30 a0g_31 a0g_32 a0g_33 a0g_34 a0g_35 a0g_36 a0g_37 a0g_38 a0g_39 : Value) (a0_11 : Int32) (a0_14 : Int32) (ba0_14_l : (0 : Int) ≤ a0_14.toInt) (ba0_14_u : a0_14.toInt ≤ (0 : Int)) : zm l yX8_crowd wsX8_crowd ({ frames := 2, cells := 0, slots := 0, locals := 45 }) [.ref a0, .int a1] dC dI sz [(a0, .inr (8, [Value.int a0_0, a0g_1, a0g_2, a0g_3, a0g_4, a0g_5, a0g_6, a0g_7, a0g_8, a0g_9, a0g_10, Value.int a0_11, a0g_12, a0g_13, Value.int a0_14, a0g_15, a0g_16, a0g_17, a0g_18, a0g_19, a0g_20, a0g_21, a0g_22, a0g_23, a0g_24, a0g_25, a0g_26, a0g_27, a0g_28, a0g_29, a0g_30, a0g_31, a0g_32, a0g_33, a0g_34, a0g_35, a0g_36, a0g_37, a0g_38, a0g_39]))] [] (fun A _ => True) (fun A => va_Qi (fun (r : Int32) (_ : Unit) => r = (-1)) (fun (_ : Unit) (t : State) => ∃ na0_0 : Int32, ∃ na0_11 : Int32, ax_B dC dI A [(a0, .inr (8, [Value.int na0_0, a0g_1, a0g_2, a0g_3, a0g_4, a0g_5, a0g_6, a0g_7, a0g_8, a0g_9, a0g_10, Value.int na0_11, a0g_12, a0g_13, Value.int a0_14, a0g_15, a0g_16, a0g_17, a0g_18, a0g_19, a0g_20, a0g_21, a0g_22, a0g_23, a0g_24, a0g_25, a0g_26, a0g_27, a0g_28, a0g_29, a0g_30, a0g_31, a0g_32, a0g_33, a0g_34, a0g_35, a0g_36, a0g_37, a0g_38, a0g_39]))] [] t) A) := by
  refine zh (cc := cX8_crowd) (maxL := 8) (ret := (some .int)) zn_RX8 rfl (Nat.le_of_ble_eq_true rfl) (fun p e s m below meth c A ls hx hb hml hr hts (hown : s.vm.findClass RX8 = some m.cls) hlocks hA hS hP hK hD hE (hl : lv_has ls 8 [(0, .ref a0), (1, .int a1)]) => ?_)
  refine ai_open (fun K hK0 => ?_)
  refine (hK0 _ _ _).mpr ?_
  refine lv_aload_n hx hb dX8_crowd_0 rfl (lv_at hl 0 rfl) ?_
  refine va_callv (va_runV (As := []) (rest := []) ⟨hx, hb, hml, hown, hts⟩ (c_X8_good l dC dI s.heap.size a0 a0_0 a0g_1 a0g_2 a0g_3 a0g_4 a0g_5 a0g_6 a0g_7 a0g_8 a0g_9 a0g_10 a0g_12 a0g_13 (Value.int a0_14) a0g_15 a0g_16 a0g_17 a0g_18 a0g_19 a0g_20 a0g_21 a0g_22 a0g_23 a0g_24 a0g_25 a0g_26 a0g_27 a0g_28 a0g_29 a0g_30 a0g_31 a0g_32 a0g_33 a0g_34 a0g_35 a0g_36 a0g_37 a0g_38 a0g_39 a0_11 ) (cwV 0 hts gX8_crowd_X8_good rfl rfl rfl zd_X8_good ⟨Nat.le_of_ble_eq_true rfl, Nat.le_of_ble_eq_true rfl⟩) ⟨ax_blind (fun _ _ _ _ _ => trivial), zr_8 (zp_K hK) (zp_P1 hP) (q0 := 0) rfl, ax_pre (zp_P1 hP) (zp_K hK) (zp_D1 hD) (fun _ _ => trivial)⟩ rfl rfl hl.1 rfl (lv_room (Nat.le_of_ble_eq_true rfl)) dX8_crowd_1 ⟨Nat.le_of_ble_eq_true rfl, Nat.le_of_ble_eq_true rfl⟩) hS (fun q _ h => zp_F1 hD hS hA q h) (zp_F1 hD hS hA) (fun u t H locs ht hvm hw => zx_2 (fun v1na0_0 v1na0_11 hB hz1 hk1 hS1 => zo1 hB ht hP hD hk1 (zp_F1 hD hS hA) hS1 (fun hP hK1 hD hS => ?_)))
  refine lv_aload_n hx hb dX8_crowd_4 rfl (lv_at hl 0 rfl) ?_
  refine lv_aload_n hx hb dX8_crowd_5 rfl (lv_at hl 0 rfl) ?_
  refine va_get (D := (dC, dI)) (ci := 8) (v := .int a0_14) (C := RX8) (T := TX8) (N := 40) hx hb hts zi_X8_crowd_8 hown hK hP 0 rfl rfl 14 (by decide) (hts (.fieldLink RX8 173 "WaxTurnsModel" "hasGallery" "Z") (zm_X8_crowd_r1 (List.mem_of_getElem? (i := 0) rfl))) (fun _ h9 => h9) rfl dX8_crowd_6 ?_
  refine lv_iconst (v := 0) hx hb dX8_crowd_9 zk_iconst_0 ?_
  refine lv_iload_n hx hb dX8_crowd_10 rfl (lv_at hl 1 rfl) ?_
  refine va_calli (va_runV (As := [.int a0_14, .int 0, .int a1]) (rest := []) ⟨hx, hb, hml, hown, hts⟩ (c_X8_aheadWhy l dC dI H.size a0 a0_14 0 a1 (Value.int v1na0_0) a0g_1 a0g_2 a0g_3 a0g_4 a0g_5 a0g_6 a0g_7 a0g_8 a0g_9 a0g_10 (Value.int v1na0_11) a0g_12 a0g_13 (Value.int a0_14) a0g_15 a0g_16 a0g_17 a0g_18 a0g_19 a0g_20 a0g_21 a0g_22 a0g_23 a0g_24 a0g_25 a0g_26 a0g_27 a0g_28 a0g_29 a0g_30 a0g_31 a0g_32 a0g_33 a0g_34 a0g_35 a0g_36 a0g_37 a0g_38 a0g_39 ba0_14_l (Int.le_trans ba0_14_u zq4) zq5 (Int.le_trans zq6 zq4)) (cwV 3 hts gX8_crowd_X8_aheadWhy rfl rfl rfl zd_X8_aheadWhy ⟨Nat.le_of_ble_eq_true rfl, Nat.le_of_ble_eq_true rfl⟩) ⟨ax_blind (fun _ _ _ _ _ => trivial), zr_8 (zp_K hK) (zp_P1 hP) (q0 := 0) rfl, ax_pre (zp_P1 hP) (zp_K hK) (zp_D1 hD) (fun _ _ => trivial)⟩ rfl rfl hl.1 rfl (lv_room (Nat.le_of_ble_eq_true rfl)) dX8_crowd_11 ⟨Nat.le_of_ble_eq_true rfl, Nat.le_of_ble_eq_true rfl⟩) hS (fun q _ h => zp_F1 hD hS hA q h) (zp_F1 hD hS hA) (fun r11 u t H locs ht hvm hw hB hz1 hk1 hS1 => zo1 hB ht hP hD hk1 (zp_F1 hD hS hA) hS1 (fun hP hK1 hD hS => ?_))
  rcases hw with hw | hw | hw
  · obtain ⟨hw, h11_0, h11_1⟩ := hw
    subst hw
    have l11k0_a0_14 : (1 : Int) ≤ a0_14.toInt := h11_0
    have u11k0_a0_14 : a0_14.toInt ≤ (0 : Int) := ba0_14_u
    exact absurd (Int.le_trans l11k0_a0_14 u11k0_a0_14) (by decide)
  · obtain ⟨hw, h11_0, h11_1⟩ := hw
    subst hw
    have l11k1_a0_14 : (0 : Int) ≤ a0_14.toInt := ba0_14_l
    have u11k1_a0_14 : a0_14.toInt ≤ (0 : Int) := ba0_14_u
    refine lv_istore_n (lv' := [(2, .int 1), (0, .ref a0), (1, .int a1)]) hx hb dX8_crowd_14 rfl hl (by decide) rfl (fun ls hl => ?_)
    refine lv_iload_n hx hb dX8_crowd_15 rfl (lv_at hl 0 rfl) ?_
    refine lv_if_eq (tgt := 25) hx hb dX8_crowd_16 (by decide) (fun c16 => absurd c16 (by decide +kernel)) (fun _ => ?_)
    refine lv_aload_n hx hb dX8_crowd_19 rfl (lv_at hl 1 rfl) ?_
    refine lv_iload_n hx hb dX8_crowd_20 rfl (lv_at hl 0 rfl) ?_
    refine va_calli (va_runV (As := [.int 1]) (rest := []) ⟨hx, hb, hml, hown, hts⟩ (c_X8_no l dC dI H.size a0 1 (Value.int v1na0_0) a0g_1 a0g_2 a0g_3 a0g_4 a0g_5 a0g_6 a0g_7 a0g_8 a0g_9 a0g_10 a0g_12 a0g_13 (Value.int a0_14) a0g_15 a0g_16 a0g_17 a0g_18 a0g_19 a0g_20 a0g_21 a0g_22 a0g_23 a0g_24 a0g_25 a0g_26 a0g_27 a0g_28 a0g_29 a0g_30 a0g_31 a0g_32 a0g_33 a0g_34 a0g_35 a0g_36 a0g_37 a0g_38 a0g_39 v1na0_11 ) (cwV 1 hts gX8_crowd_X8_no rfl rfl rfl zd_X8_no ⟨Nat.le_of_ble_eq_true rfl, Nat.le_of_ble_eq_true rfl⟩) ⟨ax_blind (fun _ _ _ _ _ => trivial), zr_8 (zp_K hK) (zp_P1 hP) (q0 := 0) rfl, ax_pre (zp_P1 hP) (zp_K hK) (zp_D1 hD) (fun _ _ => trivial)⟩ rfl rfl hl.1 rfl (lv_room (Nat.le_of_ble_eq_true rfl)) dX8_crowd_21 ⟨Nat.le_of_ble_eq_true rfl, Nat.le_of_ble_eq_true rfl⟩) hS (fun q _ h => zp_F1 hD hS hA q h) (zp_F1 hD hS hA) (fun r21 u t H locs ht hvm hw => zx_1 (fun v21na0_11 hB hz1 hk1 hS1 => zo1 hB ht hP hD hk1 (zp_F1 hD hS hA) hS1 (fun hP hK1 hD hS => ?_)))
    have hw : r21 = (-1) := hw
    have hw := hw.symm
    subst hw
    exact W.iret (v := (-1)) hx hb hr (fun t ht hW => ⟨⟨(-1), (), rfl, rfl, v1na0_0, v21na0_11, by rw [ht]; exact hP, va_K.moved hW.alike hK, hD⟩, hS.F ht⟩) hS.2.2 dX8_crowd_24
  · obtain ⟨hw, h11_0, h11_1, h11_2, h11_3⟩ := hw
    subst hw
    have l11k2_a0_14 : (1 : Int) ≤ a0_14.toInt := h11_0
    have u11k2_a0_14 : a0_14.toInt ≤ (0 : Int) := ba0_14_u
    exact absurd (Int.le_trans l11k2_a0_14 u11k2_a0_14) (by decide)

set_option maxHeartbeats 4000000 in
set_option maxRecDepth 100000 in
theorem c0_X8_farthest (l : Launch) (dC : Nat → ClassId) (dI : Nat → Nat → Nat) (sz : Nat) (a0 : Nat) (a1 : Int32) (a0_0 : Int32) (a0g_1 a0g_2 a0g_3 a0g_4 a0g_5 a0g_6 a0g_7 a0g_8 a0g_9 a0g_10 a0g_12 a0g_13 a0g_15 a0g_16 a0g_17 a0g_18 a0g_19 a0g_20 a0g_21 a0g_22 a0g_23 a0g_24 a0g_25 a0g_26 a0g_27 a0g_28 a0g_29 a0g_30 a0g_31 a0g_32 a0g_33 a0g_34 a0g_35 a0g_36 a0g_37 a0g_38 a0g_39 : Value) (a0_11 : Int32) (a0_14 : Int32) (ba0_14_l : (0 : Int) ≤ a0_14.toInt) (ba0_14_u : a0_14.toInt ≤ (0 : Int)) : zm l yX8_farthest wsX8_farthest ({ frames := 2, cells := 0, slots := 0, locals := 45 }) [.ref a0, .int a1] dC dI sz [(a0, .inr (8, [Value.int a0_0, a0g_1, a0g_2, a0g_3, a0g_4, a0g_5, a0g_6, a0g_7, a0g_8, a0g_9, a0g_10, Value.int a0_11, a0g_12, a0g_13, Value.int a0_14, a0g_15, a0g_16, a0g_17, a0g_18, a0g_19, a0g_20, a0g_21, a0g_22, a0g_23, a0g_24, a0g_25, a0g_26, a0g_27, a0g_28, a0g_29, a0g_30, a0g_31, a0g_32, a0g_33, a0g_34, a0g_35, a0g_36, a0g_37, a0g_38, a0g_39]))] [] (fun A _ => True) (fun A => va_Qi (fun (r : Int32) (_ : Unit) => r = (-1)) (fun (_ : Unit) (t : State) => ∃ na0_0 : Int32, ∃ na0_11 : Int32, ax_B dC dI A [(a0, .inr (8, [Value.int na0_0, a0g_1, a0g_2, a0g_3, a0g_4, a0g_5, a0g_6, a0g_7, a0g_8, a0g_9, a0g_10, Value.int na0_11, a0g_12, a0g_13, Value.int a0_14, a0g_15, a0g_16, a0g_17, a0g_18, a0g_19, a0g_20, a0g_21, a0g_22, a0g_23, a0g_24, a0g_25, a0g_26, a0g_27, a0g_28, a0g_29, a0g_30, a0g_31, a0g_32, a0g_33, a0g_34, a0g_35, a0g_36, a0g_37, a0g_38, a0g_39]))] [] t) A) := by
  refine zh (cc := cX8_farthest) (maxL := 5) (ret := (some .int)) zn_RX8 rfl (Nat.le_of_ble_eq_true rfl) (fun p e s m below meth c A ls hx hb hml hr hts (hown : s.vm.findClass RX8 = some m.cls) hlocks hA hS hP hK hD hE (hl : lv_has ls 5 [(0, .ref a0), (1, .int a1)]) => ?_)
  refine ai_open (fun K hK0 => ?_)
  refine (hK0 _ _ _).mpr ?_
  refine lv_aload_n hx hb dX8_farthest_0 rfl (lv_at hl 0 rfl) ?_
  refine va_callv (va_runV (As := []) (rest := []) ⟨hx, hb, hml, hown, hts⟩ (c_X8_good l dC dI s.heap.size a0 a0_0 a0g_1 a0g_2 a0g_3 a0g_4 a0g_5 a0g_6 a0g_7 a0g_8 a0g_9 a0g_10 a0g_12 a0g_13 (Value.int a0_14) a0g_15 a0g_16 a0g_17 a0g_18 a0g_19 a0g_20 a0g_21 a0g_22 a0g_23 a0g_24 a0g_25 a0g_26 a0g_27 a0g_28 a0g_29 a0g_30 a0g_31 a0g_32 a0g_33 a0g_34 a0g_35 a0g_36 a0g_37 a0g_38 a0g_39 a0_11 ) (cwV 0 hts gX8_farthest_X8_good rfl rfl rfl zd_X8_good ⟨Nat.le_of_ble_eq_true rfl, Nat.le_of_ble_eq_true rfl⟩) ⟨ax_blind (fun _ _ _ _ _ => trivial), zr_8 (zp_K hK) (zp_P1 hP) (q0 := 0) rfl, ax_pre (zp_P1 hP) (zp_K hK) (zp_D1 hD) (fun _ _ => trivial)⟩ rfl rfl hl.1 rfl (lv_room (Nat.le_of_ble_eq_true rfl)) dX8_farthest_1 ⟨Nat.le_of_ble_eq_true rfl, Nat.le_of_ble_eq_true rfl⟩) hS (fun q _ h => zp_F1 hD hS hA q h) (zp_F1 hD hS hA) (fun u t H locs ht hvm hw => zx_2 (fun v1na0_0 v1na0_11 hB hz1 hk1 hS1 => zo1 hB ht hP hD hk1 (zp_F1 hD hS hA) hS1 (fun hP hK1 hD hS => ?_)))
  refine lv_aload_n hx hb dX8_farthest_4 rfl (lv_at hl 0 rfl) ?_
  refine lv_aload_n hx hb dX8_farthest_5 rfl (lv_at hl 0 rfl) ?_
  refine va_get (D := (dC, dI)) (ci := 8) (v := .int a0_14) (C := RX8) (T := TX8) (N := 40) hx hb hts zi_X8_farthest_8 hown hK hP 0 rfl rfl 14 (by decide) (hts (.fieldLink RX8 173 "WaxTurnsModel" "hasGallery" "Z") (zm_X8_farthest_r1 (List.mem_of_getElem? (i := 0) rfl))) (fun _ h9 => h9) rfl dX8_farthest_6 ?_
  refine lv_iconst (v := 0) hx hb dX8_farthest_9 zk_iconst_0 ?_
  refine lv_iload_n hx hb dX8_farthest_10 rfl (lv_at hl 1 rfl) ?_
  refine va_calli (va_runV (As := [.int a0_14, .int 0, .int a1]) (rest := []) ⟨hx, hb, hml, hown, hts⟩ (c_X8_aheadWhy l dC dI H.size a0 a0_14 0 a1 (Value.int v1na0_0) a0g_1 a0g_2 a0g_3 a0g_4 a0g_5 a0g_6 a0g_7 a0g_8 a0g_9 a0g_10 (Value.int v1na0_11) a0g_12 a0g_13 (Value.int a0_14) a0g_15 a0g_16 a0g_17 a0g_18 a0g_19 a0g_20 a0g_21 a0g_22 a0g_23 a0g_24 a0g_25 a0g_26 a0g_27 a0g_28 a0g_29 a0g_30 a0g_31 a0g_32 a0g_33 a0g_34 a0g_35 a0g_36 a0g_37 a0g_38 a0g_39 ba0_14_l (Int.le_trans ba0_14_u zq4) zq5 (Int.le_trans zq6 zq4)) (cwV 3 hts gX8_farthest_X8_aheadWhy rfl rfl rfl zd_X8_aheadWhy ⟨Nat.le_of_ble_eq_true rfl, Nat.le_of_ble_eq_true rfl⟩) ⟨ax_blind (fun _ _ _ _ _ => trivial), zr_8 (zp_K hK) (zp_P1 hP) (q0 := 0) rfl, ax_pre (zp_P1 hP) (zp_K hK) (zp_D1 hD) (fun _ _ => trivial)⟩ rfl rfl hl.1 rfl (lv_room (Nat.le_of_ble_eq_true rfl)) dX8_farthest_11 ⟨Nat.le_of_ble_eq_true rfl, Nat.le_of_ble_eq_true rfl⟩) hS (fun q _ h => zp_F1 hD hS hA q h) (zp_F1 hD hS hA) (fun r11 u t H locs ht hvm hw hB hz1 hk1 hS1 => zo1 hB ht hP hD hk1 (zp_F1 hD hS hA) hS1 (fun hP hK1 hD hS => ?_))
  rcases hw with hw | hw | hw
  · obtain ⟨hw, h11_0, h11_1⟩ := hw
    subst hw
    have l11k0_a0_14 : (1 : Int) ≤ a0_14.toInt := h11_0
    have u11k0_a0_14 : a0_14.toInt ≤ (0 : Int) := ba0_14_u
    exact absurd (Int.le_trans l11k0_a0_14 u11k0_a0_14) (by decide)
  · obtain ⟨hw, h11_0, h11_1⟩ := hw
    subst hw
    have l11k1_a0_14 : (0 : Int) ≤ a0_14.toInt := ba0_14_l
    have u11k1_a0_14 : a0_14.toInt ≤ (0 : Int) := ba0_14_u
    refine lv_istore_n (lv' := [(2, .int 1), (0, .ref a0), (1, .int a1)]) hx hb dX8_farthest_14 rfl hl (by decide) rfl (fun ls hl => ?_)
    refine lv_iload_n hx hb dX8_farthest_15 rfl (lv_at hl 0 rfl) ?_
    refine lv_if_eq (tgt := 25) hx hb dX8_farthest_16 (by decide) (fun c16 => absurd c16 (by decide +kernel)) (fun _ => ?_)
    refine lv_aload_n hx hb dX8_farthest_19 rfl (lv_at hl 1 rfl) ?_
    refine lv_iload_n hx hb dX8_farthest_20 rfl (lv_at hl 0 rfl) ?_
    refine va_calli (va_runV (As := [.int 1]) (rest := []) ⟨hx, hb, hml, hown, hts⟩ (c_X8_no l dC dI H.size a0 1 (Value.int v1na0_0) a0g_1 a0g_2 a0g_3 a0g_4 a0g_5 a0g_6 a0g_7 a0g_8 a0g_9 a0g_10 a0g_12 a0g_13 (Value.int a0_14) a0g_15 a0g_16 a0g_17 a0g_18 a0g_19 a0g_20 a0g_21 a0g_22 a0g_23 a0g_24 a0g_25 a0g_26 a0g_27 a0g_28 a0g_29 a0g_30 a0g_31 a0g_32 a0g_33 a0g_34 a0g_35 a0g_36 a0g_37 a0g_38 a0g_39 v1na0_11 ) (cwV 1 hts gX8_farthest_X8_no rfl rfl rfl zd_X8_no ⟨Nat.le_of_ble_eq_true rfl, Nat.le_of_ble_eq_true rfl⟩) ⟨ax_blind (fun _ _ _ _ _ => trivial), zr_8 (zp_K hK) (zp_P1 hP) (q0 := 0) rfl, ax_pre (zp_P1 hP) (zp_K hK) (zp_D1 hD) (fun _ _ => trivial)⟩ rfl rfl hl.1 rfl (lv_room (Nat.le_of_ble_eq_true rfl)) dX8_farthest_21 ⟨Nat.le_of_ble_eq_true rfl, Nat.le_of_ble_eq_true rfl⟩) hS (fun q _ h => zp_F1 hD hS hA q h) (zp_F1 hD hS hA) (fun r21 u t H locs ht hvm hw => zx_1 (fun v21na0_11 hB hz1 hk1 hS1 => zo1 hB ht hP hD hk1 (zp_F1 hD hS hA) hS1 (fun hP hK1 hD hS => ?_)))
    have hw : r21 = (-1) := hw
    have hw := hw.symm
    subst hw
    exact W.iret (v := (-1)) hx hb hr (fun t ht hW => ⟨⟨(-1), (), rfl, rfl, v1na0_0, v21na0_11, by rw [ht]; exact hP, va_K.moved hW.alike hK, hD⟩, hS.F ht⟩) hS.2.2 dX8_farthest_24
  · obtain ⟨hw, h11_0, h11_1, h11_2, h11_3⟩ := hw
    subst hw
    have l11k2_a0_14 : (1 : Int) ≤ a0_14.toInt := h11_0
    have u11k2_a0_14 : a0_14.toInt ≤ (0 : Int) := ba0_14_u
    exact absurd (Int.le_trans l11k2_a0_14 u11k2_a0_14) (by decide)

set_option maxHeartbeats 4000000 in
set_option maxRecDepth 100000 in
theorem c0_X8_nearBy (l : Launch) (dC : Nat → ClassId) (dI : Nat → Nat → Nat) (sz : Nat) (a0 : Nat) (a1 : Int32) (a2 : Int32) (a0_0 : Int32) (a0g_1 a0g_2 a0g_3 a0g_4 a0g_5 a0g_6 a0g_7 a0g_8 a0g_9 a0g_10 a0g_12 a0g_13 a0g_15 a0g_16 a0g_17 a0g_18 a0g_19 a0g_20 a0g_21 a0g_22 a0g_23 a0g_24 a0g_25 a0g_26 a0g_27 a0g_28 a0g_29 a0g_30 a0g_31 a0g_32 a0g_33 a0g_34 a0g_35 a0g_36 a0g_37 a0g_38 a0g_39 : Value) (a0_11 : Int32) (a0_14 : Int32) (ba0_14_l : (0 : Int) ≤ a0_14.toInt) (ba0_14_u : a0_14.toInt ≤ (0 : Int)) : zm l yX8_nearBy wsX8_nearBy ({ frames := 2, cells := 0, slots := 0, locals := 45 }) [.ref a0, .int a1, .int a2] dC dI sz [(a0, .inr (8, [Value.int a0_0, a0g_1, a0g_2, a0g_3, a0g_4, a0g_5, a0g_6, a0g_7, a0g_8, a0g_9, a0g_10, Value.int a0_11, a0g_12, a0g_13, Value.int a0_14, a0g_15, a0g_16, a0g_17, a0g_18, a0g_19, a0g_20, a0g_21, a0g_22, a0g_23, a0g_24, a0g_25, a0g_26, a0g_27, a0g_28, a0g_29, a0g_30, a0g_31, a0g_32, a0g_33, a0g_34, a0g_35, a0g_36, a0g_37, a0g_38, a0g_39]))] [] (fun A _ => True) (fun A => va_Qi (fun (r : Int32) (_ : Unit) => r = (-1)) (fun (_ : Unit) (t : State) => ∃ na0_0 : Int32, ∃ na0_11 : Int32, ax_B dC dI A [(a0, .inr (8, [Value.int na0_0, a0g_1, a0g_2, a0g_3, a0g_4, a0g_5, a0g_6, a0g_7, a0g_8, a0g_9, a0g_10, Value.int na0_11, a0g_12, a0g_13, Value.int a0_14, a0g_15, a0g_16, a0g_17, a0g_18, a0g_19, a0g_20, a0g_21, a0g_22, a0g_23, a0g_24, a0g_25, a0g_26, a0g_27, a0g_28, a0g_29, a0g_30, a0g_31, a0g_32, a0g_33, a0g_34, a0g_35, a0g_36, a0g_37, a0g_38, a0g_39]))] [] t) A) := by
  refine zh (cc := cX8_nearBy) (maxL := 7) (ret := (some .int)) zn_RX8 rfl (Nat.le_of_ble_eq_true rfl) (fun p e s m below meth c A ls hx hb hml hr hts (hown : s.vm.findClass RX8 = some m.cls) hlocks hA hS hP hK hD hE (hl : lv_has ls 7 [(0, .ref a0), (1, .int a1), (2, .int a2)]) => ?_)
  refine ai_open (fun K hK0 => ?_)
  refine (hK0 _ _ _).mpr ?_
  refine lv_aload_n hx hb dX8_nearBy_0 rfl (lv_at hl 0 rfl) ?_
  refine va_callv (va_runV (As := []) (rest := []) ⟨hx, hb, hml, hown, hts⟩ (c_X8_good l dC dI s.heap.size a0 a0_0 a0g_1 a0g_2 a0g_3 a0g_4 a0g_5 a0g_6 a0g_7 a0g_8 a0g_9 a0g_10 a0g_12 a0g_13 (Value.int a0_14) a0g_15 a0g_16 a0g_17 a0g_18 a0g_19 a0g_20 a0g_21 a0g_22 a0g_23 a0g_24 a0g_25 a0g_26 a0g_27 a0g_28 a0g_29 a0g_30 a0g_31 a0g_32 a0g_33 a0g_34 a0g_35 a0g_36 a0g_37 a0g_38 a0g_39 a0_11 ) (cwV 0 hts gX8_nearBy_X8_good rfl rfl rfl zd_X8_good ⟨Nat.le_of_ble_eq_true rfl, Nat.le_of_ble_eq_true rfl⟩) ⟨ax_blind (fun _ _ _ _ _ => trivial), zr_8 (zp_K hK) (zp_P1 hP) (q0 := 0) rfl, ax_pre (zp_P1 hP) (zp_K hK) (zp_D1 hD) (fun _ _ => trivial)⟩ rfl rfl hl.1 rfl (lv_room (Nat.le_of_ble_eq_true rfl)) dX8_nearBy_1 ⟨Nat.le_of_ble_eq_true rfl, Nat.le_of_ble_eq_true rfl⟩) hS (fun q _ h => zp_F1 hD hS hA q h) (zp_F1 hD hS hA) (fun u t H locs ht hvm hw => zx_2 (fun v1na0_0 v1na0_11 hB hz1 hk1 hS1 => zo1 hB ht hP hD hk1 (zp_F1 hD hS hA) hS1 (fun hP hK1 hD hS => ?_)))
  refine lv_aload_n hx hb dX8_nearBy_4 rfl (lv_at hl 0 rfl) ?_
  refine lv_aload_n hx hb dX8_nearBy_5 rfl (lv_at hl 0 rfl) ?_
  refine lv_iload_n hx hb dX8_nearBy_6 rfl (lv_at hl 1 rfl) ?_
  refine va_calli (va_runV (As := [.int a1]) (rest := [.ref a0]) ⟨hx, hb, hml, hown, hts⟩ (c0_X8_isFigure l dC dI H.size a0 a1 (Value.int v1na0_0) a0g_1 a0g_2 a0g_3 a0g_4 a0g_5 a0g_6 a0g_7 a0g_8 a0g_9 a0g_10 (Value.int v1na0_11) a0g_12 a0g_13 a0g_15 a0g_16 a0g_17 a0g_18 a0g_19 a0g_20 a0g_21 a0g_22 a0g_23 a0g_24 a0g_25 a0g_26 a0g_27 a0g_28 a0g_29 a0g_30 a0g_31 a0g_32 a0g_33 a0g_34 a0g_35 a0g_36 a0g_37 a0g_38 a0g_39 a0_14 ba0_14_l ba0_14_u) (cwV 1 hts gX8_nearBy_X8_isFigure rfl rfl rfl zd_X8_isFigure ⟨Nat.le_of_ble_eq_true rfl, Nat.le_of_ble_eq_true rfl⟩) ⟨ax_blind (fun _ _ _ _ _ => trivial), zr_8 (zp_K hK) (zp_P1 hP) (q0 := 0) rfl, ax_pre (zp_P1 hP) (zp_K hK) (zp_D1 hD) (fun _ _ => trivial)⟩ rfl rfl hl.1 rfl (lv_room (Nat.le_of_ble_eq_true rfl)) dX8_nearBy_7 ⟨Nat.le_of_ble_eq_true rfl, Nat.le_of_ble_eq_true rfl⟩) hS (fun q _ h => zp_F1 hD hS hA q h) (zp_F1 hD hS hA) (fun r7 u t H locs ht hvm hw hB hz1 hk1 hS1 => zo1 hB ht hP hD hk1 (zp_F1 hD hS hA) hS1 (fun hP hK1 hD hS => ?_))
  have hw : r7 = 0 := hw
  have hw := hw.symm
  subst hw
  refine lv_iconst (v := 0) hx hb dX8_nearBy_10 zk_iconst_0 ?_
  refine lv_iload_n hx hb dX8_nearBy_11 rfl (lv_at hl 2 rfl) ?_
  refine va_calli (va_runV (As := [.int 0, .int 0, .int a2]) (rest := []) ⟨hx, hb, hml, hown, hts⟩ (c_X8_aheadWhy l dC dI H.size a0 0 0 a2 (Value.int v1na0_0) a0g_1 a0g_2 a0g_3 a0g_4 a0g_5 a0g_6 a0g_7 a0g_8 a0g_9 a0g_10 (Value.int v1na0_11) a0g_12 a0g_13 (Value.int a0_14) a0g_15 a0g_16 a0g_17 a0g_18 a0g_19 a0g_20 a0g_21 a0g_22 a0g_23 a0g_24 a0g_25 a0g_26 a0g_27 a0g_28 a0g_29 a0g_30 a0g_31 a0g_32 a0g_33 a0g_34 a0g_35 a0g_36 a0g_37 a0g_38 a0g_39 zq5 (Int.le_trans zq6 zq4) zq5 (Int.le_trans zq6 zq4)) (cwV 3 hts gX8_nearBy_X8_aheadWhy rfl rfl rfl zd_X8_aheadWhy ⟨Nat.le_of_ble_eq_true rfl, Nat.le_of_ble_eq_true rfl⟩) ⟨ax_blind (fun _ _ _ _ _ => trivial), zr_8 (zp_K hK) (zp_P1 hP) (q0 := 0) rfl, ax_pre (zp_P1 hP) (zp_K hK) (zp_D1 hD) (fun _ _ => trivial)⟩ rfl rfl hl.1 rfl (lv_room (Nat.le_of_ble_eq_true rfl)) dX8_nearBy_12 ⟨Nat.le_of_ble_eq_true rfl, Nat.le_of_ble_eq_true rfl⟩) hS (fun q _ h => zp_F1 hD hS hA q h) (zp_F1 hD hS hA) (fun r12 u t H locs ht hvm hw hB hz1 hk1 hS1 => zo1 hB ht hP hD hk1 (zp_F1 hD hS hA) hS1 (fun hP hK1 hD hS => ?_))
  rcases hw with hw | hw | hw
  · obtain ⟨hw, h12_0, h12_1⟩ := hw
    subst hw
    exact absurd h12_0 (by decide)
  · obtain ⟨hw, h12_0, h12_1⟩ := hw
    subst hw
    refine lv_istore_n (lv' := [(3, .int 1), (0, .ref a0), (1, .int a1), (2, .int a2)]) hx hb dX8_nearBy_15 rfl hl (by decide) rfl (fun ls hl => ?_)
    refine lv_iload_n hx hb dX8_nearBy_16 rfl (lv_at hl 0 rfl) ?_
    refine lv_if_eq (tgt := 26) hx hb dX8_nearBy_17 (by decide) (fun c17 => absurd c17 (by decide +kernel)) (fun _ => ?_)
    refine lv_aload_n hx hb dX8_nearBy_20 rfl (lv_at hl 1 rfl) ?_
    refine lv_iload_n hx hb dX8_nearBy_21 rfl (lv_at hl 0 rfl) ?_
    refine va_calli (va_runV (As := [.int 1]) (rest := []) ⟨hx, hb, hml, hown, hts⟩ (c_X8_no l dC dI H.size a0 1 (Value.int v1na0_0) a0g_1 a0g_2 a0g_3 a0g_4 a0g_5 a0g_6 a0g_7 a0g_8 a0g_9 a0g_10 a0g_12 a0g_13 (Value.int a0_14) a0g_15 a0g_16 a0g_17 a0g_18 a0g_19 a0g_20 a0g_21 a0g_22 a0g_23 a0g_24 a0g_25 a0g_26 a0g_27 a0g_28 a0g_29 a0g_30 a0g_31 a0g_32 a0g_33 a0g_34 a0g_35 a0g_36 a0g_37 a0g_38 a0g_39 v1na0_11 ) (cwV 1 hts gX8_nearBy_X8_no rfl rfl rfl zd_X8_no ⟨Nat.le_of_ble_eq_true rfl, Nat.le_of_ble_eq_true rfl⟩) ⟨ax_blind (fun _ _ _ _ _ => trivial), zr_8 (zp_K hK) (zp_P1 hP) (q0 := 0) rfl, ax_pre (zp_P1 hP) (zp_K hK) (zp_D1 hD) (fun _ _ => trivial)⟩ rfl rfl hl.1 rfl (lv_room (Nat.le_of_ble_eq_true rfl)) dX8_nearBy_22 ⟨Nat.le_of_ble_eq_true rfl, Nat.le_of_ble_eq_true rfl⟩) hS (fun q _ h => zp_F1 hD hS hA q h) (zp_F1 hD hS hA) (fun r22 u t H locs ht hvm hw => zx_1 (fun v22na0_11 hB hz1 hk1 hS1 => zo1 hB ht hP hD hk1 (zp_F1 hD hS hA) hS1 (fun hP hK1 hD hS => ?_)))
    have hw : r22 = (-1) := hw
    have hw := hw.symm
    subst hw
    exact W.iret (v := (-1)) hx hb hr (fun t ht hW => ⟨⟨(-1), (), rfl, rfl, v1na0_0, v22na0_11, by rw [ht]; exact hP, va_K.moved hW.alike hK, hD⟩, hS.F ht⟩) hS.2.2 dX8_nearBy_25
  · obtain ⟨hw, h12_0, h12_1, h12_2, h12_3⟩ := hw
    subst hw
    exact absurd h12_0 (by decide)
end P280_02_safe
section P280_03_safe
set_option maxHeartbeats 4000000 in
set_option maxRecDepth 100000 in
theorem c0_X8_spoken (l : Launch) (dC : Nat → ClassId) (dI : Nat → Nat → Nat) (sz : Nat) (a0 : Nat) (a1 : Int32) (a2 : Int32) (a0_0 : Int32) (a0g_1 a0g_2 a0g_3 a0g_4 a0g_5 a0g_6 a0g_7 a0g_8 a0g_9 a0g_10 a0g_12 a0g_13 a0g_15 a0g_16 a0g_17 a0g_18 a0g_19 a0g_20 a0g_21 a0g_22 a0g_23 a0g_24 a0g_25 a0g_26 a0g_27 a0g_28 a0g_29 a0g_30 a0g_31 a0g_32 a0g_33 a0g_34 a0g_35 a0g_36 a0g_37 a0g_38 a0g_39 : Value) (a0_11 : Int32) (a0_14 : Int32) (ba0_14_l : (0 : Int) ≤ a0_14.toInt) (ba0_14_u : a0_14.toInt ≤ (0 : Int)) : zm l yX8_spoken wsX8_spoken ({ frames := 2, cells := 0, slots := 0, locals := 45 }) [.ref a0, .int a1, .int a2] dC dI sz [(a0, .inr (8, [Value.int a0_0, a0g_1, a0g_2, a0g_3, a0g_4, a0g_5, a0g_6, a0g_7, a0g_8, a0g_9, a0g_10, Value.int a0_11, a0g_12, a0g_13, Value.int a0_14, a0g_15, a0g_16, a0g_17, a0g_18, a0g_19, a0g_20, a0g_21, a0g_22, a0g_23, a0g_24, a0g_25, a0g_26, a0g_27, a0g_28, a0g_29, a0g_30, a0g_31, a0g_32, a0g_33, a0g_34, a0g_35, a0g_36, a0g_37, a0g_38, a0g_39]))] [] (fun A _ => True) (fun A => va_Qi (fun (r : Int32) (_ : Unit) => r = (-1)) (fun (_ : Unit) (t : State) => ∃ na0_0 : Int32, ∃ na0_11 : Int32, ax_B dC dI A [(a0, .inr (8, [Value.int na0_0, a0g_1, a0g_2, a0g_3, a0g_4, a0g_5, a0g_6, a0g_7, a0g_8, a0g_9, a0g_10, Value.int na0_11, a0g_12, a0g_13, Value.int a0_14, a0g_15, a0g_16, a0g_17, a0g_18, a0g_19, a0g_20, a0g_21, a0g_22, a0g_23, a0g_24, a0g_25, a0g_26, a0g_27, a0g_28, a0g_29, a0g_30, a0g_31, a0g_32, a0g_33, a0g_34, a0g_35, a0g_36, a0g_37, a0g_38, a0g_39]))] [] t) A) := by
  refine zh (cc := cX8_spoken) (maxL := 6) (ret := (some .int)) zn_RX8 rfl (Nat.le_of_ble_eq_true rfl) (fun p e s m below meth c A ls hx hb hml hr hts (hown : s.vm.findClass RX8 = some m.cls) hlocks hA hS hP hK hD hE (hl : lv_has ls 6 [(0, .ref a0), (1, .int a1), (2, .int a2)]) => ?_)
  refine ai_open (fun K hK0 => ?_)
  refine (hK0 _ _ _).mpr ?_
  refine lv_aload_n hx hb dX8_spoken_0 rfl (lv_at hl 0 rfl) ?_
  refine va_callv (va_runV (As := []) (rest := []) ⟨hx, hb, hml, hown, hts⟩ (c_X8_good l dC dI s.heap.size a0 a0_0 a0g_1 a0g_2 a0g_3 a0g_4 a0g_5 a0g_6 a0g_7 a0g_8 a0g_9 a0g_10 a0g_12 a0g_13 (Value.int a0_14) a0g_15 a0g_16 a0g_17 a0g_18 a0g_19 a0g_20 a0g_21 a0g_22 a0g_23 a0g_24 a0g_25 a0g_26 a0g_27 a0g_28 a0g_29 a0g_30 a0g_31 a0g_32 a0g_33 a0g_34 a0g_35 a0g_36 a0g_37 a0g_38 a0g_39 a0_11 ) (cwV 0 hts gX8_spoken_X8_good rfl rfl rfl zd_X8_good ⟨Nat.le_of_ble_eq_true rfl, Nat.le_of_ble_eq_true rfl⟩) ⟨ax_blind (fun _ _ _ _ _ => trivial), zr_8 (zp_K hK) (zp_P1 hP) (q0 := 0) rfl, ax_pre (zp_P1 hP) (zp_K hK) (zp_D1 hD) (fun _ _ => trivial)⟩ rfl rfl hl.1 rfl (lv_room (Nat.le_of_ble_eq_true rfl)) dX8_spoken_1 ⟨Nat.le_of_ble_eq_true rfl, Nat.le_of_ble_eq_true rfl⟩) hS (fun q _ h => zp_F1 hD hS hA q h) (zp_F1 hD hS hA) (fun u t H locs ht hvm hw => zx_2 (fun v1na0_0 v1na0_11 hB hz1 hk1 hS1 => zo1 hB ht hP hD hk1 (zp_F1 hD hS hA) hS1 (fun hP hK1 hD hS => ?_)))
  refine lv_aload_n hx hb dX8_spoken_4 rfl (lv_at hl 0 rfl) ?_
  refine lv_aload_n hx hb dX8_spoken_5 rfl (lv_at hl 0 rfl) ?_
  refine lv_iload_n hx hb dX8_spoken_6 rfl (lv_at hl 1 rfl) ?_
  refine va_calli (va_runV (As := [.int a1]) (rest := [.ref a0]) ⟨hx, hb, hml, hown, hts⟩ (c0_X8_isFigure l dC dI H.size a0 a1 (Value.int v1na0_0) a0g_1 a0g_2 a0g_3 a0g_4 a0g_5 a0g_6 a0g_7 a0g_8 a0g_9 a0g_10 (Value.int v1na0_11) a0g_12 a0g_13 a0g_15 a0g_16 a0g_17 a0g_18 a0g_19 a0g_20 a0g_21 a0g_22 a0g_23 a0g_24 a0g_25 a0g_26 a0g_27 a0g_28 a0g_29 a0g_30 a0g_31 a0g_32 a0g_33 a0g_34 a0g_35 a0g_36 a0g_37 a0g_38 a0g_39 a0_14 ba0_14_l ba0_14_u) (cwV 1 hts gX8_spoken_X8_isFigure rfl rfl rfl zd_X8_isFigure ⟨Nat.le_of_ble_eq_true rfl, Nat.le_of_ble_eq_true rfl⟩) ⟨ax_blind (fun _ _ _ _ _ => trivial), zr_8 (zp_K hK) (zp_P1 hP) (q0 := 0) rfl, ax_pre (zp_P1 hP) (zp_K hK) (zp_D1 hD) (fun _ _ => trivial)⟩ rfl rfl hl.1 rfl (lv_room (Nat.le_of_ble_eq_true rfl)) dX8_spoken_7 ⟨Nat.le_of_ble_eq_true rfl, Nat.le_of_ble_eq_true rfl⟩) hS (fun q _ h => zp_F1 hD hS hA q h) (zp_F1 hD hS hA) (fun r7 u t H locs ht hvm hw hB hz1 hk1 hS1 => zo1 hB ht hP hD hk1 (zp_F1 hD hS hA) hS1 (fun hP hK1 hD hS => ?_))
  have hw : r7 = 0 := hw
  have hw := hw.symm
  subst hw
  refine lv_iconst (v := 0) hx hb dX8_spoken_10 zk_iconst_0 ?_
  refine lv_iload_n hx hb dX8_spoken_11 rfl (lv_at hl 2 rfl) ?_
  refine va_calli (va_runV (As := [.int 0, .int 0, .int a2]) (rest := []) ⟨hx, hb, hml, hown, hts⟩ (c_X8_aheadWhy l dC dI H.size a0 0 0 a2 (Value.int v1na0_0) a0g_1 a0g_2 a0g_3 a0g_4 a0g_5 a0g_6 a0g_7 a0g_8 a0g_9 a0g_10 (Value.int v1na0_11) a0g_12 a0g_13 (Value.int a0_14) a0g_15 a0g_16 a0g_17 a0g_18 a0g_19 a0g_20 a0g_21 a0g_22 a0g_23 a0g_24 a0g_25 a0g_26 a0g_27 a0g_28 a0g_29 a0g_30 a0g_31 a0g_32 a0g_33 a0g_34 a0g_35 a0g_36 a0g_37 a0g_38 a0g_39 zq5 (Int.le_trans zq6 zq4) zq5 (Int.le_trans zq6 zq4)) (cwV 3 hts gX8_spoken_X8_aheadWhy rfl rfl rfl zd_X8_aheadWhy ⟨Nat.le_of_ble_eq_true rfl, Nat.le_of_ble_eq_true rfl⟩) ⟨ax_blind (fun _ _ _ _ _ => trivial), zr_8 (zp_K hK) (zp_P1 hP) (q0 := 0) rfl, ax_pre (zp_P1 hP) (zp_K hK) (zp_D1 hD) (fun _ _ => trivial)⟩ rfl rfl hl.1 rfl (lv_room (Nat.le_of_ble_eq_true rfl)) dX8_spoken_12 ⟨Nat.le_of_ble_eq_true rfl, Nat.le_of_ble_eq_true rfl⟩) hS (fun q _ h => zp_F1 hD hS hA q h) (zp_F1 hD hS hA) (fun r12 u t H locs ht hvm hw hB hz1 hk1 hS1 => zo1 hB ht hP hD hk1 (zp_F1 hD hS hA) hS1 (fun hP hK1 hD hS => ?_))
  rcases hw with hw | hw | hw
  · obtain ⟨hw, h12_0, h12_1⟩ := hw
    subst hw
    exact absurd h12_0 (by decide)
  · obtain ⟨hw, h12_0, h12_1⟩ := hw
    subst hw
    refine lv_istore_n (lv' := [(3, .int 1), (0, .ref a0), (1, .int a1), (2, .int a2)]) hx hb dX8_spoken_15 rfl hl (by decide) rfl (fun ls hl => ?_)
    refine lv_iload_n hx hb dX8_spoken_16 rfl (lv_at hl 0 rfl) ?_
    refine lv_if_eq (tgt := 26) hx hb dX8_spoken_17 (by decide) (fun c17 => absurd c17 (by decide +kernel)) (fun _ => ?_)
    refine lv_aload_n hx hb dX8_spoken_20 rfl (lv_at hl 1 rfl) ?_
    refine lv_iload_n hx hb dX8_spoken_21 rfl (lv_at hl 0 rfl) ?_
    refine va_calli (va_runV (As := [.int 1]) (rest := []) ⟨hx, hb, hml, hown, hts⟩ (c_X8_no l dC dI H.size a0 1 (Value.int v1na0_0) a0g_1 a0g_2 a0g_3 a0g_4 a0g_5 a0g_6 a0g_7 a0g_8 a0g_9 a0g_10 a0g_12 a0g_13 (Value.int a0_14) a0g_15 a0g_16 a0g_17 a0g_18 a0g_19 a0g_20 a0g_21 a0g_22 a0g_23 a0g_24 a0g_25 a0g_26 a0g_27 a0g_28 a0g_29 a0g_30 a0g_31 a0g_32 a0g_33 a0g_34 a0g_35 a0g_36 a0g_37 a0g_38 a0g_39 v1na0_11 ) (cwV 1 hts gX8_spoken_X8_no rfl rfl rfl zd_X8_no ⟨Nat.le_of_ble_eq_true rfl, Nat.le_of_ble_eq_true rfl⟩) ⟨ax_blind (fun _ _ _ _ _ => trivial), zr_8 (zp_K hK) (zp_P1 hP) (q0 := 0) rfl, ax_pre (zp_P1 hP) (zp_K hK) (zp_D1 hD) (fun _ _ => trivial)⟩ rfl rfl hl.1 rfl (lv_room (Nat.le_of_ble_eq_true rfl)) dX8_spoken_22 ⟨Nat.le_of_ble_eq_true rfl, Nat.le_of_ble_eq_true rfl⟩) hS (fun q _ h => zp_F1 hD hS hA q h) (zp_F1 hD hS hA) (fun r22 u t H locs ht hvm hw => zx_1 (fun v22na0_11 hB hz1 hk1 hS1 => zo1 hB ht hP hD hk1 (zp_F1 hD hS hA) hS1 (fun hP hK1 hD hS => ?_)))
    have hw : r22 = (-1) := hw
    have hw := hw.symm
    subst hw
    exact W.iret (v := (-1)) hx hb hr (fun t ht hW => ⟨⟨(-1), (), rfl, rfl, v1na0_0, v22na0_11, by rw [ht]; exact hP, va_K.moved hW.alike hK, hD⟩, hS.F ht⟩) hS.2.2 dX8_spoken_25
  · obtain ⟨hw, h12_0, h12_1, h12_2, h12_3⟩ := hw
    subst hw
    exact absurd h12_0 (by decide)

set_option maxHeartbeats 4000000 in
set_option maxRecDepth 100000 in
theorem c0_X8_route (l : Launch) (dC : Nat → ClassId) (dI : Nat → Nat → Nat) (sz : Nat) (a0 : Nat) (a1 : Int32) (a2 : Int32) (a0_0 : Int32) (a0g_1 a0g_2 a0g_3 a0g_4 a0g_5 a0g_6 a0g_7 a0g_8 a0g_9 a0g_10 a0g_12 a0g_13 a0g_15 a0g_16 a0g_17 a0g_18 a0g_19 a0g_20 a0g_21 a0g_22 a0g_23 a0g_24 a0g_25 a0g_26 a0g_27 a0g_28 a0g_29 a0g_30 a0g_31 a0g_32 a0g_33 a0g_34 a0g_35 a0g_36 a0g_37 a0g_38 a0g_39 : Value) (a0_11 : Int32) (a0_14 : Int32) (ba0_14_l : (0 : Int) ≤ a0_14.toInt) (ba0_14_u : a0_14.toInt ≤ (0 : Int)) : zm l yX8_route wsX8_route ({ frames := 2, cells := 0, slots := 0, locals := 44 }) [.ref a0, .int a1, .int a2] dC dI sz [(a0, .inr (8, [Value.int a0_0, a0g_1, a0g_2, a0g_3, a0g_4, a0g_5, a0g_6, a0g_7, a0g_8, a0g_9, a0g_10, Value.int a0_11, a0g_12, a0g_13, Value.int a0_14, a0g_15, a0g_16, a0g_17, a0g_18, a0g_19, a0g_20, a0g_21, a0g_22, a0g_23, a0g_24, a0g_25, a0g_26, a0g_27, a0g_28, a0g_29, a0g_30, a0g_31, a0g_32, a0g_33, a0g_34, a0g_35, a0g_36, a0g_37, a0g_38, a0g_39]))] [] (fun A _ => True) (fun A => va_Qi (fun (r : Int32) (_ : Unit) => r = (-1)) (fun (_ : Unit) (t : State) => ∃ na0_0 : Int32, ∃ na0_11 : Int32, ax_B dC dI A [(a0, .inr (8, [Value.int na0_0, a0g_1, a0g_2, a0g_3, a0g_4, a0g_5, a0g_6, a0g_7, a0g_8, a0g_9, a0g_10, Value.int na0_11, a0g_12, a0g_13, Value.int a0_14, a0g_15, a0g_16, a0g_17, a0g_18, a0g_19, a0g_20, a0g_21, a0g_22, a0g_23, a0g_24, a0g_25, a0g_26, a0g_27, a0g_28, a0g_29, a0g_30, a0g_31, a0g_32, a0g_33, a0g_34, a0g_35, a0g_36, a0g_37, a0g_38, a0g_39]))] [] t) A) := by
  refine zh (cc := cX8_route) (maxL := 4) (ret := (some .int)) zn_RX8 rfl (Nat.le_of_ble_eq_true rfl) (fun p e s m below meth c A ls hx hb hml hr hts (hown : s.vm.findClass RX8 = some m.cls) hlocks hA hS hP hK hD hE (hl : lv_has ls 4 [(0, .ref a0), (1, .int a1), (2, .int a2)]) => ?_)
  refine lv_aload_n hx hb dX8_route_0 rfl (lv_at hl 0 rfl) ?_
  refine va_callv (va_runV (As := []) (rest := []) ⟨hx, hb, hml, hown, hts⟩ (c_X8_good l dC dI s.heap.size a0 a0_0 a0g_1 a0g_2 a0g_3 a0g_4 a0g_5 a0g_6 a0g_7 a0g_8 a0g_9 a0g_10 a0g_12 a0g_13 (Value.int a0_14) a0g_15 a0g_16 a0g_17 a0g_18 a0g_19 a0g_20 a0g_21 a0g_22 a0g_23 a0g_24 a0g_25 a0g_26 a0g_27 a0g_28 a0g_29 a0g_30 a0g_31 a0g_32 a0g_33 a0g_34 a0g_35 a0g_36 a0g_37 a0g_38 a0g_39 a0_11 ) (cwV 0 hts gX8_route_X8_good rfl rfl rfl zd_X8_good ⟨Nat.le_of_ble_eq_true rfl, Nat.le_of_ble_eq_true rfl⟩) ⟨ax_blind (fun _ _ _ _ _ => trivial), zr_8 (zp_K hK) (zp_P1 hP) (q0 := 0) rfl, ax_pre (zp_P1 hP) (zp_K hK) (zp_D1 hD) (fun _ _ => trivial)⟩ rfl rfl hl.1 rfl (lv_room (Nat.le_of_ble_eq_true rfl)) dX8_route_1 ⟨Nat.le_of_ble_eq_true rfl, Nat.le_of_ble_eq_true rfl⟩) hS (fun q _ h => zp_F1 hD hS hA q h) (zp_F1 hD hS hA) (fun u t H locs ht hvm hw => zx_2 (fun v1na0_0 v1na0_11 hB hz1 hk1 hS1 => zo1 hB ht hP hD hk1 (zp_F1 hD hS hA) hS1 (fun hP hK1 hD hS => ?_)))
  refine lv_aload_n hx hb dX8_route_4 rfl (lv_at hl 0 rfl) ?_
  refine lv_iload_n hx hb dX8_route_5 rfl (lv_at hl 1 rfl) ?_
  refine lv_iload_n hx hb dX8_route_6 rfl (lv_at hl 2 rfl) ?_
  refine va_calli (va_runV (As := [.int a1, .int a2]) (rest := []) ⟨hx, hb, hml, hown, hts⟩ (c0_X8_routeWhy l dC dI H.size a0 a1 a2 (Value.int v1na0_0) a0g_1 a0g_2 a0g_3 a0g_4 a0g_5 a0g_6 a0g_7 a0g_8 a0g_9 a0g_10 (Value.int v1na0_11) a0g_12 a0g_13 a0g_15 a0g_16 a0g_17 a0g_18 a0g_19 a0g_20 a0g_21 a0g_22 a0g_23 a0g_24 a0g_25 a0g_26 a0g_27 a0g_28 a0g_29 a0g_30 a0g_31 a0g_32 a0g_33 a0g_34 a0g_35 a0g_36 a0g_37 a0g_38 a0g_39 a0_14 ba0_14_l ba0_14_u) (cwV 2 hts gX8_route_X8_routeWhy rfl rfl rfl zd_X8_routeWhy ⟨Nat.le_of_ble_eq_true rfl, Nat.le_of_ble_eq_true rfl⟩) ⟨ax_blind (fun _ _ _ _ _ => trivial), zr_8 (zp_K hK) (zp_P1 hP) (q0 := 0) rfl, ax_pre (zp_P1 hP) (zp_K hK) (zp_D1 hD) (fun _ _ => trivial)⟩ rfl rfl hl.1 rfl (lv_room (Nat.le_of_ble_eq_true rfl)) dX8_route_7 ⟨Nat.le_of_ble_eq_true rfl, Nat.le_of_ble_eq_true rfl⟩) hS (fun q _ h => zp_F1 hD hS hA q h) (zp_F1 hD hS hA) (fun r7 u t H locs ht hvm hw hB hz1 hk1 hS1 => zo1 hB ht hP hD hk1 (zp_F1 hD hS hA) hS1 (fun hP hK1 hD hS => ?_))
  have hw : r7 = 1 := hw
  have hw := hw.symm
  subst hw
  refine lv_istore_n (lv' := [(3, .int 1), (0, .ref a0), (1, .int a1), (2, .int a2)]) hx hb dX8_route_10 rfl hl (by decide) rfl (fun ls hl => ?_)
  refine lv_iload_n hx hb dX8_route_11 rfl (lv_at hl 0 rfl) ?_
  refine lv_if_eq (tgt := 21) hx hb dX8_route_12 (by decide) (fun c12 => absurd c12 (by decide +kernel)) (fun _ => ?_)
  refine lv_aload_n hx hb dX8_route_15 rfl (lv_at hl 1 rfl) ?_
  refine lv_iload_n hx hb dX8_route_16 rfl (lv_at hl 0 rfl) ?_
  refine va_calli (va_runV (As := [.int 1]) (rest := []) ⟨hx, hb, hml, hown, hts⟩ (c_X8_no l dC dI H.size a0 1 (Value.int v1na0_0) a0g_1 a0g_2 a0g_3 a0g_4 a0g_5 a0g_6 a0g_7 a0g_8 a0g_9 a0g_10 a0g_12 a0g_13 (Value.int a0_14) a0g_15 a0g_16 a0g_17 a0g_18 a0g_19 a0g_20 a0g_21 a0g_22 a0g_23 a0g_24 a0g_25 a0g_26 a0g_27 a0g_28 a0g_29 a0g_30 a0g_31 a0g_32 a0g_33 a0g_34 a0g_35 a0g_36 a0g_37 a0g_38 a0g_39 v1na0_11 ) (cwV 1 hts gX8_route_X8_no rfl rfl rfl zd_X8_no ⟨Nat.le_of_ble_eq_true rfl, Nat.le_of_ble_eq_true rfl⟩) ⟨ax_blind (fun _ _ _ _ _ => trivial), zr_8 (zp_K hK) (zp_P1 hP) (q0 := 0) rfl, ax_pre (zp_P1 hP) (zp_K hK) (zp_D1 hD) (fun _ _ => trivial)⟩ rfl rfl hl.1 rfl (lv_room (Nat.le_of_ble_eq_true rfl)) dX8_route_17 ⟨Nat.le_of_ble_eq_true rfl, Nat.le_of_ble_eq_true rfl⟩) hS (fun q _ h => zp_F1 hD hS hA q h) (zp_F1 hD hS hA) (fun r17 u t H locs ht hvm hw => zx_1 (fun v17na0_11 hB hz1 hk1 hS1 => zo1 hB ht hP hD hk1 (zp_F1 hD hS hA) hS1 (fun hP hK1 hD hS => ?_)))
  have hw : r17 = (-1) := hw
  have hw := hw.symm
  subst hw
  exact W.iret (v := (-1)) hx hb hr (fun t ht hW => ⟨⟨(-1), (), rfl, rfl, v1na0_0, v17na0_11, by rw [ht]; exact hP, va_K.moved hW.alike hK, hD⟩, hS.F ht⟩) hS.2.2 dX8_route_20

set_option maxHeartbeats 4000000 in
set_option maxRecDepth 100000 in
theorem c0_X8_stand (l : Launch) (dC : Nat → ClassId) (dI : Nat → Nat → Nat) (sz : Nat) (a0 : Nat) (a1 : Int32) (a0_0 : Int32) (a0g_1 a0g_2 a0g_3 a0g_4 a0g_5 a0g_6 a0g_7 a0g_8 a0g_9 a0g_10 a0g_12 a0g_13 a0g_15 a0g_16 a0g_17 a0g_18 a0g_19 a0g_20 a0g_21 a0g_22 a0g_23 a0g_24 a0g_25 a0g_26 a0g_27 a0g_28 a0g_29 a0g_30 a0g_31 a0g_32 a0g_33 a0g_34 a0g_35 a0g_36 a0g_37 a0g_38 a0g_39 : Value) (a0_11 : Int32) (a0_14 : Int32) (ba0_14_l : (0 : Int) ≤ a0_14.toInt) (ba0_14_u : a0_14.toInt ≤ (0 : Int)) : zm l yX8_stand wsX8_stand ({ frames := 1, cells := 0, slots := 0, locals := 22 }) [.ref a0, .int a1] dC dI sz [(a0, .inr (8, [Value.int a0_0, a0g_1, a0g_2, a0g_3, a0g_4, a0g_5, a0g_6, a0g_7, a0g_8, a0g_9, a0g_10, Value.int a0_11, a0g_12, a0g_13, Value.int a0_14, a0g_15, a0g_16, a0g_17, a0g_18, a0g_19, a0g_20, a0g_21, a0g_22, a0g_23, a0g_24, a0g_25, a0g_26, a0g_27, a0g_28, a0g_29, a0g_30, a0g_31, a0g_32, a0g_33, a0g_34, a0g_35, a0g_36, a0g_37, a0g_38, a0g_39]))] [] (fun A _ => True) (fun A => va_Qi (fun (r : Int32) (_ : Unit) => r = (-1)) (fun (_ : Unit) (t : State) => ∃ na0_0 : Int32, ∃ na0_11 : Int32, ax_B dC dI A [(a0, .inr (8, [Value.int na0_0, a0g_1, a0g_2, a0g_3, a0g_4, a0g_5, a0g_6, a0g_7, a0g_8, a0g_9, a0g_10, Value.int na0_11, a0g_12, a0g_13, Value.int a0_14, a0g_15, a0g_16, a0g_17, a0g_18, a0g_19, a0g_20, a0g_21, a0g_22, a0g_23, a0g_24, a0g_25, a0g_26, a0g_27, a0g_28, a0g_29, a0g_30, a0g_31, a0g_32, a0g_33, a0g_34, a0g_35, a0g_36, a0g_37, a0g_38, a0g_39]))] [] t) A) := by
  refine zh (cc := cX8_stand) (maxL := 5) (ret := (some .int)) zn_RX8 rfl (Nat.le_of_ble_eq_true rfl) (fun p e s m below meth c A ls hx hb hml hr hts (hown : s.vm.findClass RX8 = some m.cls) hlocks hA hS hP hK hD hE (hl : lv_has ls 5 [(0, .ref a0), (1, .int a1)]) => ?_)
  refine ai_open (fun K hK0 => ?_)
  refine (hK0 _ _ _).mpr ?_
  refine lv_aload_n hx hb dX8_stand_0 rfl (lv_at hl 0 rfl) ?_
  refine va_callv (va_runV (As := []) (rest := []) ⟨hx, hb, hml, hown, hts⟩ (c_X8_good l dC dI s.heap.size a0 a0_0 a0g_1 a0g_2 a0g_3 a0g_4 a0g_5 a0g_6 a0g_7 a0g_8 a0g_9 a0g_10 a0g_12 a0g_13 (Value.int a0_14) a0g_15 a0g_16 a0g_17 a0g_18 a0g_19 a0g_20 a0g_21 a0g_22 a0g_23 a0g_24 a0g_25 a0g_26 a0g_27 a0g_28 a0g_29 a0g_30 a0g_31 a0g_32 a0g_33 a0g_34 a0g_35 a0g_36 a0g_37 a0g_38 a0g_39 a0_11 ) (cwV 0 hts gX8_stand_X8_good rfl rfl rfl zd_X8_good ⟨Nat.le_of_ble_eq_true rfl, Nat.le_of_ble_eq_true rfl⟩) ⟨ax_blind (fun _ _ _ _ _ => trivial), zr_8 (zp_K hK) (zp_P1 hP) (q0 := 0) rfl, ax_pre (zp_P1 hP) (zp_K hK) (zp_D1 hD) (fun _ _ => trivial)⟩ rfl rfl hl.1 rfl (lv_room (Nat.le_of_ble_eq_true rfl)) dX8_stand_1 ⟨Nat.le_of_ble_eq_true rfl, Nat.le_of_ble_eq_true rfl⟩) hS (fun q _ h => zp_F1 hD hS hA q h) (zp_F1 hD hS hA) (fun u t H locs ht hvm hw => zx_2 (fun v1na0_0 v1na0_11 hB hz1 hk1 hS1 => zo1 hB ht hP hD hk1 (zp_F1 hD hS hA) hS1 (fun hP hK1 hD hS => ?_)))
  refine lv_aload_n hx hb dX8_stand_4 rfl (lv_at hl 0 rfl) ?_
  refine lv_aload_n hx hb dX8_stand_5 rfl (lv_at hl 0 rfl) ?_
  refine va_get (D := (dC, dI)) (ci := 8) (v := .int a0_14) (C := RX8) (T := TX8) (N := 40) hx hb hts zi_X8_stand_8 hown hK hP 0 rfl rfl 14 (by decide) (hts (.fieldLink RX8 173 "WaxTurnsModel" "hasGallery" "Z") (zm_X8_stand_r1 (List.mem_of_getElem? (i := 0) rfl))) (fun _ h9 => h9) rfl dX8_stand_6 ?_
  refine lv_iload_n hx hb dX8_stand_9 rfl (lv_at hl 1 rfl) ?_
  refine lv_iconst (v := 1) hx hb dX8_stand_10 zk_iconst_1 ?_
  refine lv_bipush (v := 60) hx hb dX8_stand_11 zk_bipush_60 ?_
  refine va_calli (va_runS (As := [.int a1, .int 1, .int 60]) (rest := [.int a0_14, .ref a0]) ⟨hx, hb, hml, hown, hts⟩ (c_X8_in l dC dI H.size a1 1 60 ) (va_cwS 3 hts gX8_stand_X8_in rfl rfl rfl zd_X8_in.2 ⟨Nat.le_of_ble_eq_true rfl, Nat.le_of_ble_eq_true rfl⟩) ⟨ax_blind (fun _ _ _ _ _ => trivial), ax_pre (zp_P0 hP) (zp_K hK) (zp_D0 hD) (fun _ _ => trivial)⟩ rfl rfl hl.1 rfl (lv_room (Nat.le_of_ble_eq_true rfl)) dX8_stand_13 ⟨Nat.le_of_ble_eq_true rfl, Nat.le_of_ble_eq_true rfl⟩) hS (fun q _ h => zp_F0 hD hS hA q h) (zp_F0 hD hS hA) (fun r13 u t H locs ht hvm hw hB hz1 hk1 hS1 => zo0 hB ht hP hD hk1 (zp_F0 hD hS hA) hS1 (fun hP hK1 hD hS => ?_))
  rcases hw with hw | hw
  · obtain ⟨hw, h13⟩ := hw
    subst hw
    have l13k0_a1 : (1 : Int) ≤ a1.toInt := Int.le_trans zq1 h13.1
    have u13k0_a1 : a1.toInt ≤ (60 : Int) := Int.le_trans h13.2 zq46
    refine va_calli (va_runV (As := [.int a0_14, .int 1]) (rest := []) ⟨hx, hb, hml, hown, hts⟩ (c_X8_whyB l dC dI H.size a0 a0_14 1 (Value.int v1na0_0) a0g_1 a0g_2 a0g_3 a0g_4 a0g_5 a0g_6 a0g_7 a0g_8 a0g_9 a0g_10 (Value.int v1na0_11) a0g_12 a0g_13 (Value.int a0_14) a0g_15 a0g_16 a0g_17 a0g_18 a0g_19 a0g_20 a0g_21 a0g_22 a0g_23 a0g_24 a0g_25 a0g_26 a0g_27 a0g_28 a0g_29 a0g_30 a0g_31 a0g_32 a0g_33 a0g_34 a0g_35 a0g_36 a0g_37 a0g_38 a0g_39 ba0_14_l (Int.le_trans ba0_14_u zq4) (Int.le_trans zq4 zq1) zq0) (cwV 2 hts gX8_stand_X8_why rfl rfl rfl zd_X8_why ⟨Nat.le_of_ble_eq_true rfl, Nat.le_of_ble_eq_true rfl⟩) ⟨ax_blind (fun _ _ _ _ _ => trivial), zr_8 (zp_K hK) (zp_P1 hP) (q0 := 0) rfl, ax_pre (zp_P1 hP) (zp_K hK) (zp_D1 hD) (fun _ _ => trivial)⟩ rfl rfl hl.1 rfl (lv_room (Nat.le_of_ble_eq_true rfl)) dX8_stand_16 ⟨Nat.le_of_ble_eq_true rfl, Nat.le_of_ble_eq_true rfl⟩) hS (fun q _ h => zp_F1 hD hS hA q h) (zp_F1 hD hS hA) (fun r16 u t H locs ht hvm hw hB hz1 hk1 hS1 => zo1 hB ht hP hD hk1 (zp_F1 hD hS hA) hS1 (fun hP hK1 hD hS => ?_))
    rcases hw with hw | hw | hw
    · obtain ⟨hw, h16_0, h16_1, h16_2, h16_3⟩ := hw
      subst hw
      have l16k0_a0_14 : (1 : Int) ≤ a0_14.toInt := h16_0
      have u16k0_a0_14 : a0_14.toInt ≤ (0 : Int) := ba0_14_u
      exact absurd (Int.le_trans l16k0_a0_14 u16k0_a0_14) (by decide)
    · obtain ⟨hw, h16_0, h16_1⟩ := hw
      subst hw
      have l16k1_a0_14 : (0 : Int) ≤ a0_14.toInt := ba0_14_l
      have u16k1_a0_14 : a0_14.toInt ≤ (0 : Int) := ba0_14_u
      refine lv_istore_n (lv' := [(2, .int 1), (0, .ref a0), (1, .int a1)]) hx hb dX8_stand_19 rfl hl (by decide) rfl (fun ls hl => ?_)
      refine lv_iload_n hx hb dX8_stand_20 rfl (lv_at hl 0 rfl) ?_
      refine lv_if_eq (tgt := 30) hx hb dX8_stand_21 (by decide) (fun c21 => absurd c21 (by decide +kernel)) (fun _ => ?_)
      refine lv_aload_n hx hb dX8_stand_24 rfl (lv_at hl 1 rfl) ?_
      refine lv_iload_n hx hb dX8_stand_25 rfl (lv_at hl 0 rfl) ?_
      refine va_calli (va_runV (As := [.int 1]) (rest := []) ⟨hx, hb, hml, hown, hts⟩ (c_X8_no l dC dI H.size a0 1 (Value.int v1na0_0) a0g_1 a0g_2 a0g_3 a0g_4 a0g_5 a0g_6 a0g_7 a0g_8 a0g_9 a0g_10 a0g_12 a0g_13 (Value.int a0_14) a0g_15 a0g_16 a0g_17 a0g_18 a0g_19 a0g_20 a0g_21 a0g_22 a0g_23 a0g_24 a0g_25 a0g_26 a0g_27 a0g_28 a0g_29 a0g_30 a0g_31 a0g_32 a0g_33 a0g_34 a0g_35 a0g_36 a0g_37 a0g_38 a0g_39 v1na0_11 ) (cwV 1 hts gX8_stand_X8_no rfl rfl rfl zd_X8_no ⟨Nat.le_of_ble_eq_true rfl, Nat.le_of_ble_eq_true rfl⟩) ⟨ax_blind (fun _ _ _ _ _ => trivial), zr_8 (zp_K hK) (zp_P1 hP) (q0 := 0) rfl, ax_pre (zp_P1 hP) (zp_K hK) (zp_D1 hD) (fun _ _ => trivial)⟩ rfl rfl hl.1 rfl (lv_room (Nat.le_of_ble_eq_true rfl)) dX8_stand_26 ⟨Nat.le_of_ble_eq_true rfl, Nat.le_of_ble_eq_true rfl⟩) hS (fun q _ h => zp_F1 hD hS hA q h) (zp_F1 hD hS hA) (fun r26 u t H locs ht hvm hw => zx_1 (fun v26na0_11 hB hz1 hk1 hS1 => zo1 hB ht hP hD hk1 (zp_F1 hD hS hA) hS1 (fun hP hK1 hD hS => ?_)))
      have hw : r26 = (-1) := hw
      have hw := hw.symm
      subst hw
      exact W.iret (v := (-1)) hx hb hr (fun t ht hW => ⟨⟨(-1), (), rfl, rfl, v1na0_0, v26na0_11, by rw [ht]; exact hP, va_K.moved hW.alike hK, hD⟩, hS.F ht⟩) hS.2.2 dX8_stand_29
    · obtain ⟨hw, h16_0, h16_1, h16_2, h16_3⟩ := hw
      subst hw
      have l16k2_a0_14 : (1 : Int) ≤ a0_14.toInt := h16_0
      have u16k2_a0_14 : a0_14.toInt ≤ (0 : Int) := ba0_14_u
      exact absurd (Int.le_trans l16k2_a0_14 u16k2_a0_14) (by decide)
  · obtain ⟨hw, h13⟩ := hw
    subst hw
    refine va_calli (va_runV (As := [.int a0_14, .int 0]) (rest := []) ⟨hx, hb, hml, hown, hts⟩ (c_X8_whyB l dC dI H.size a0 a0_14 0 (Value.int v1na0_0) a0g_1 a0g_2 a0g_3 a0g_4 a0g_5 a0g_6 a0g_7 a0g_8 a0g_9 a0g_10 (Value.int v1na0_11) a0g_12 a0g_13 (Value.int a0_14) a0g_15 a0g_16 a0g_17 a0g_18 a0g_19 a0g_20 a0g_21 a0g_22 a0g_23 a0g_24 a0g_25 a0g_26 a0g_27 a0g_28 a0g_29 a0g_30 a0g_31 a0g_32 a0g_33 a0g_34 a0g_35 a0g_36 a0g_37 a0g_38 a0g_39 ba0_14_l (Int.le_trans ba0_14_u zq4) zq5 (Int.le_trans zq6 zq4)) (cwV 2 hts gX8_stand_X8_why rfl rfl rfl zd_X8_why ⟨Nat.le_of_ble_eq_true rfl, Nat.le_of_ble_eq_true rfl⟩) ⟨ax_blind (fun _ _ _ _ _ => trivial), zr_8 (zp_K hK) (zp_P1 hP) (q0 := 0) rfl, ax_pre (zp_P1 hP) (zp_K hK) (zp_D1 hD) (fun _ _ => trivial)⟩ rfl rfl hl.1 rfl (lv_room (Nat.le_of_ble_eq_true rfl)) dX8_stand_16 ⟨Nat.le_of_ble_eq_true rfl, Nat.le_of_ble_eq_true rfl⟩) hS (fun q _ h => zp_F1 hD hS hA q h) (zp_F1 hD hS hA) (fun r16 u t H locs ht hvm hw hB hz1 hk1 hS1 => zo1 hB ht hP hD hk1 (zp_F1 hD hS hA) hS1 (fun hP hK1 hD hS => ?_))
    rcases hw with hw | hw | hw
    · obtain ⟨hw, h16_0, h16_1, h16_2, h16_3⟩ := hw
      subst hw
      have l16k0_a0_14 : (1 : Int) ≤ a0_14.toInt := h16_0
      have u16k0_a0_14 : a0_14.toInt ≤ (0 : Int) := ba0_14_u
      exact absurd (Int.le_trans l16k0_a0_14 u16k0_a0_14) (by decide)
    · obtain ⟨hw, h16_0, h16_1⟩ := hw
      subst hw
      have l16k1_a0_14 : (0 : Int) ≤ a0_14.toInt := ba0_14_l
      have u16k1_a0_14 : a0_14.toInt ≤ (0 : Int) := ba0_14_u
      refine lv_istore_n (lv' := [(2, .int 1), (0, .ref a0), (1, .int a1)]) hx hb dX8_stand_19 rfl hl (by decide) rfl (fun ls hl => ?_)
      refine lv_iload_n hx hb dX8_stand_20 rfl (lv_at hl 0 rfl) ?_
      refine lv_if_eq (tgt := 30) hx hb dX8_stand_21 (by decide) (fun c21 => absurd c21 (by decide +kernel)) (fun _ => ?_)
      refine lv_aload_n hx hb dX8_stand_24 rfl (lv_at hl 1 rfl) ?_
      refine lv_iload_n hx hb dX8_stand_25 rfl (lv_at hl 0 rfl) ?_
      refine va_calli (va_runV (As := [.int 1]) (rest := []) ⟨hx, hb, hml, hown, hts⟩ (c_X8_no l dC dI H.size a0 1 (Value.int v1na0_0) a0g_1 a0g_2 a0g_3 a0g_4 a0g_5 a0g_6 a0g_7 a0g_8 a0g_9 a0g_10 a0g_12 a0g_13 (Value.int a0_14) a0g_15 a0g_16 a0g_17 a0g_18 a0g_19 a0g_20 a0g_21 a0g_22 a0g_23 a0g_24 a0g_25 a0g_26 a0g_27 a0g_28 a0g_29 a0g_30 a0g_31 a0g_32 a0g_33 a0g_34 a0g_35 a0g_36 a0g_37 a0g_38 a0g_39 v1na0_11 ) (cwV 1 hts gX8_stand_X8_no rfl rfl rfl zd_X8_no ⟨Nat.le_of_ble_eq_true rfl, Nat.le_of_ble_eq_true rfl⟩) ⟨ax_blind (fun _ _ _ _ _ => trivial), zr_8 (zp_K hK) (zp_P1 hP) (q0 := 0) rfl, ax_pre (zp_P1 hP) (zp_K hK) (zp_D1 hD) (fun _ _ => trivial)⟩ rfl rfl hl.1 rfl (lv_room (Nat.le_of_ble_eq_true rfl)) dX8_stand_26 ⟨Nat.le_of_ble_eq_true rfl, Nat.le_of_ble_eq_true rfl⟩) hS (fun q _ h => zp_F1 hD hS hA q h) (zp_F1 hD hS hA) (fun r26 u t H locs ht hvm hw => zx_1 (fun v26na0_11 hB hz1 hk1 hS1 => zo1 hB ht hP hD hk1 (zp_F1 hD hS hA) hS1 (fun hP hK1 hD hS => ?_)))
      have hw : r26 = (-1) := hw
      have hw := hw.symm
      subst hw
      exact W.iret (v := (-1)) hx hb hr (fun t ht hW => ⟨⟨(-1), (), rfl, rfl, v1na0_0, v26na0_11, by rw [ht]; exact hP, va_K.moved hW.alike hK, hD⟩, hS.F ht⟩) hS.2.2 dX8_stand_29
    · obtain ⟨hw, h16_0, h16_1, h16_2, h16_3⟩ := hw
      subst hw
      have l16k2_a0_14 : (1 : Int) ≤ a0_14.toInt := h16_0
      have u16k2_a0_14 : a0_14.toInt ≤ (0 : Int) := ba0_14_u
      exact absurd (Int.le_trans l16k2_a0_14 u16k2_a0_14) (by decide)

set_option maxHeartbeats 4000000 in
set_option maxRecDepth 100000 in
theorem c0_X8_guard (l : Launch) (dC : Nat → ClassId) (dI : Nat → Nat → Nat) (sz : Nat) (a0 : Nat) (a1 : Int32) (a0_0 : Int32) (a0g_1 a0g_2 a0g_3 a0g_4 a0g_5 a0g_6 a0g_7 a0g_8 a0g_9 a0g_10 a0g_12 a0g_13 a0g_15 a0g_16 a0g_17 a0g_18 a0g_19 a0g_20 a0g_21 a0g_22 a0g_23 a0g_24 a0g_25 a0g_26 a0g_27 a0g_28 a0g_29 a0g_30 a0g_31 a0g_32 a0g_33 a0g_34 a0g_35 a0g_36 a0g_37 a0g_38 a0g_39 : Value) (a0_11 : Int32) (a0_14 : Int32) (ba0_14_l : (0 : Int) ≤ a0_14.toInt) (ba0_14_u : a0_14.toInt ≤ (0 : Int)) : zm l yX8_guard wsX8_guard ({ frames := 1, cells := 0, slots := 0, locals := 22 }) [.ref a0, .int a1] dC dI sz [(a0, .inr (8, [Value.int a0_0, a0g_1, a0g_2, a0g_3, a0g_4, a0g_5, a0g_6, a0g_7, a0g_8, a0g_9, a0g_10, Value.int a0_11, a0g_12, a0g_13, Value.int a0_14, a0g_15, a0g_16, a0g_17, a0g_18, a0g_19, a0g_20, a0g_21, a0g_22, a0g_23, a0g_24, a0g_25, a0g_26, a0g_27, a0g_28, a0g_29, a0g_30, a0g_31, a0g_32, a0g_33, a0g_34, a0g_35, a0g_36, a0g_37, a0g_38, a0g_39]))] [] (fun A _ => True) (fun A => va_Qi (fun (r : Int32) (_ : Unit) => r = (-1)) (fun (_ : Unit) (t : State) => ∃ na0_0 : Int32, ∃ na0_11 : Int32, ax_B dC dI A [(a0, .inr (8, [Value.int na0_0, a0g_1, a0g_2, a0g_3, a0g_4, a0g_5, a0g_6, a0g_7, a0g_8, a0g_9, a0g_10, Value.int na0_11, a0g_12, a0g_13, Value.int a0_14, a0g_15, a0g_16, a0g_17, a0g_18, a0g_19, a0g_20, a0g_21, a0g_22, a0g_23, a0g_24, a0g_25, a0g_26, a0g_27, a0g_28, a0g_29, a0g_30, a0g_31, a0g_32, a0g_33, a0g_34, a0g_35, a0g_36, a0g_37, a0g_38, a0g_39]))] [] t) A) := by
  refine zh (cc := cX8_guard) (maxL := 6) (ret := (some .int)) zn_RX8 rfl (Nat.le_of_ble_eq_true rfl) (fun p e s m below meth c A ls hx hb hml hr hts (hown : s.vm.findClass RX8 = some m.cls) hlocks hA hS hP hK hD hE (hl : lv_has ls 6 [(0, .ref a0), (1, .int a1)]) => ?_)
  refine ai_open (fun K hK0 => ?_)
  refine (hK0 _ _ _).mpr ?_
  refine lv_aload_n hx hb dX8_guard_0 rfl (lv_at hl 0 rfl) ?_
  refine va_callv (va_runV (As := []) (rest := []) ⟨hx, hb, hml, hown, hts⟩ (c_X8_good l dC dI s.heap.size a0 a0_0 a0g_1 a0g_2 a0g_3 a0g_4 a0g_5 a0g_6 a0g_7 a0g_8 a0g_9 a0g_10 a0g_12 a0g_13 (Value.int a0_14) a0g_15 a0g_16 a0g_17 a0g_18 a0g_19 a0g_20 a0g_21 a0g_22 a0g_23 a0g_24 a0g_25 a0g_26 a0g_27 a0g_28 a0g_29 a0g_30 a0g_31 a0g_32 a0g_33 a0g_34 a0g_35 a0g_36 a0g_37 a0g_38 a0g_39 a0_11 ) (cwV 0 hts gX8_guard_X8_good rfl rfl rfl zd_X8_good ⟨Nat.le_of_ble_eq_true rfl, Nat.le_of_ble_eq_true rfl⟩) ⟨ax_blind (fun _ _ _ _ _ => trivial), zr_8 (zp_K hK) (zp_P1 hP) (q0 := 0) rfl, ax_pre (zp_P1 hP) (zp_K hK) (zp_D1 hD) (fun _ _ => trivial)⟩ rfl rfl hl.1 rfl (lv_room (Nat.le_of_ble_eq_true rfl)) dX8_guard_1 ⟨Nat.le_of_ble_eq_true rfl, Nat.le_of_ble_eq_true rfl⟩) hS (fun q _ h => zp_F1 hD hS hA q h) (zp_F1 hD hS hA) (fun u t H locs ht hvm hw => zx_2 (fun v1na0_0 v1na0_11 hB hz1 hk1 hS1 => zo1 hB ht hP hD hk1 (zp_F1 hD hS hA) hS1 (fun hP hK1 hD hS => ?_)))
  refine lv_aload_n hx hb dX8_guard_4 rfl (lv_at hl 0 rfl) ?_
  refine lv_aload_n hx hb dX8_guard_5 rfl (lv_at hl 0 rfl) ?_
  refine va_get (D := (dC, dI)) (ci := 8) (v := .int a0_14) (C := RX8) (T := TX8) (N := 40) hx hb hts zi_X8_guard_8 hown hK hP 0 rfl rfl 14 (by decide) (hts (.fieldLink RX8 173 "WaxTurnsModel" "hasGallery" "Z") (zm_X8_guard_r1 (List.mem_of_getElem? (i := 0) rfl))) (fun _ h9 => h9) rfl dX8_guard_6 ?_
  refine lv_iload_n hx hb dX8_guard_9 rfl (lv_at hl 1 rfl) ?_
  refine lv_iconst (v := 1) hx hb dX8_guard_10 zk_iconst_1 ?_
  refine lv_bipush (v := 60) hx hb dX8_guard_11 zk_bipush_60 ?_
  refine va_calli (va_runS (As := [.int a1, .int 1, .int 60]) (rest := [.int a0_14, .ref a0]) ⟨hx, hb, hml, hown, hts⟩ (c_X8_in l dC dI H.size a1 1 60 ) (va_cwS 3 hts gX8_guard_X8_in rfl rfl rfl zd_X8_in.2 ⟨Nat.le_of_ble_eq_true rfl, Nat.le_of_ble_eq_true rfl⟩) ⟨ax_blind (fun _ _ _ _ _ => trivial), ax_pre (zp_P0 hP) (zp_K hK) (zp_D0 hD) (fun _ _ => trivial)⟩ rfl rfl hl.1 rfl (lv_room (Nat.le_of_ble_eq_true rfl)) dX8_guard_13 ⟨Nat.le_of_ble_eq_true rfl, Nat.le_of_ble_eq_true rfl⟩) hS (fun q _ h => zp_F0 hD hS hA q h) (zp_F0 hD hS hA) (fun r13 u t H locs ht hvm hw hB hz1 hk1 hS1 => zo0 hB ht hP hD hk1 (zp_F0 hD hS hA) hS1 (fun hP hK1 hD hS => ?_))
  rcases hw with hw | hw
  · obtain ⟨hw, h13⟩ := hw
    subst hw
    have l13k0_a1 : (1 : Int) ≤ a1.toInt := Int.le_trans zq1 h13.1
    have u13k0_a1 : a1.toInt ≤ (60 : Int) := Int.le_trans h13.2 zq46
    refine va_calli (va_runV (As := [.int a0_14, .int 1]) (rest := []) ⟨hx, hb, hml, hown, hts⟩ (c_X8_whyB l dC dI H.size a0 a0_14 1 (Value.int v1na0_0) a0g_1 a0g_2 a0g_3 a0g_4 a0g_5 a0g_6 a0g_7 a0g_8 a0g_9 a0g_10 (Value.int v1na0_11) a0g_12 a0g_13 (Value.int a0_14) a0g_15 a0g_16 a0g_17 a0g_18 a0g_19 a0g_20 a0g_21 a0g_22 a0g_23 a0g_24 a0g_25 a0g_26 a0g_27 a0g_28 a0g_29 a0g_30 a0g_31 a0g_32 a0g_33 a0g_34 a0g_35 a0g_36 a0g_37 a0g_38 a0g_39 ba0_14_l (Int.le_trans ba0_14_u zq4) (Int.le_trans zq4 zq1) zq0) (cwV 2 hts gX8_guard_X8_why rfl rfl rfl zd_X8_why ⟨Nat.le_of_ble_eq_true rfl, Nat.le_of_ble_eq_true rfl⟩) ⟨ax_blind (fun _ _ _ _ _ => trivial), zr_8 (zp_K hK) (zp_P1 hP) (q0 := 0) rfl, ax_pre (zp_P1 hP) (zp_K hK) (zp_D1 hD) (fun _ _ => trivial)⟩ rfl rfl hl.1 rfl (lv_room (Nat.le_of_ble_eq_true rfl)) dX8_guard_16 ⟨Nat.le_of_ble_eq_true rfl, Nat.le_of_ble_eq_true rfl⟩) hS (fun q _ h => zp_F1 hD hS hA q h) (zp_F1 hD hS hA) (fun r16 u t H locs ht hvm hw hB hz1 hk1 hS1 => zo1 hB ht hP hD hk1 (zp_F1 hD hS hA) hS1 (fun hP hK1 hD hS => ?_))
    rcases hw with hw | hw | hw
    · obtain ⟨hw, h16_0, h16_1, h16_2, h16_3⟩ := hw
      subst hw
      have l16k0_a0_14 : (1 : Int) ≤ a0_14.toInt := h16_0
      have u16k0_a0_14 : a0_14.toInt ≤ (0 : Int) := ba0_14_u
      exact absurd (Int.le_trans l16k0_a0_14 u16k0_a0_14) (by decide)
    · obtain ⟨hw, h16_0, h16_1⟩ := hw
      subst hw
      have l16k1_a0_14 : (0 : Int) ≤ a0_14.toInt := ba0_14_l
      have u16k1_a0_14 : a0_14.toInt ≤ (0 : Int) := ba0_14_u
      refine lv_istore_n (lv' := [(2, .int 1), (0, .ref a0), (1, .int a1)]) hx hb dX8_guard_19 rfl hl (by decide) rfl (fun ls hl => ?_)
      refine lv_iload_n hx hb dX8_guard_20 rfl (lv_at hl 0 rfl) ?_
      refine lv_if_eq (tgt := 30) hx hb dX8_guard_21 (by decide) (fun c21 => absurd c21 (by decide +kernel)) (fun _ => ?_)
      refine lv_aload_n hx hb dX8_guard_24 rfl (lv_at hl 1 rfl) ?_
      refine lv_iload_n hx hb dX8_guard_25 rfl (lv_at hl 0 rfl) ?_
      refine va_calli (va_runV (As := [.int 1]) (rest := []) ⟨hx, hb, hml, hown, hts⟩ (c_X8_no l dC dI H.size a0 1 (Value.int v1na0_0) a0g_1 a0g_2 a0g_3 a0g_4 a0g_5 a0g_6 a0g_7 a0g_8 a0g_9 a0g_10 a0g_12 a0g_13 (Value.int a0_14) a0g_15 a0g_16 a0g_17 a0g_18 a0g_19 a0g_20 a0g_21 a0g_22 a0g_23 a0g_24 a0g_25 a0g_26 a0g_27 a0g_28 a0g_29 a0g_30 a0g_31 a0g_32 a0g_33 a0g_34 a0g_35 a0g_36 a0g_37 a0g_38 a0g_39 v1na0_11 ) (cwV 1 hts gX8_guard_X8_no rfl rfl rfl zd_X8_no ⟨Nat.le_of_ble_eq_true rfl, Nat.le_of_ble_eq_true rfl⟩) ⟨ax_blind (fun _ _ _ _ _ => trivial), zr_8 (zp_K hK) (zp_P1 hP) (q0 := 0) rfl, ax_pre (zp_P1 hP) (zp_K hK) (zp_D1 hD) (fun _ _ => trivial)⟩ rfl rfl hl.1 rfl (lv_room (Nat.le_of_ble_eq_true rfl)) dX8_guard_26 ⟨Nat.le_of_ble_eq_true rfl, Nat.le_of_ble_eq_true rfl⟩) hS (fun q _ h => zp_F1 hD hS hA q h) (zp_F1 hD hS hA) (fun r26 u t H locs ht hvm hw => zx_1 (fun v26na0_11 hB hz1 hk1 hS1 => zo1 hB ht hP hD hk1 (zp_F1 hD hS hA) hS1 (fun hP hK1 hD hS => ?_)))
      have hw : r26 = (-1) := hw
      have hw := hw.symm
      subst hw
      exact W.iret (v := (-1)) hx hb hr (fun t ht hW => ⟨⟨(-1), (), rfl, rfl, v1na0_0, v26na0_11, by rw [ht]; exact hP, va_K.moved hW.alike hK, hD⟩, hS.F ht⟩) hS.2.2 dX8_guard_29
    · obtain ⟨hw, h16_0, h16_1, h16_2, h16_3⟩ := hw
      subst hw
      have l16k2_a0_14 : (1 : Int) ≤ a0_14.toInt := h16_0
      have u16k2_a0_14 : a0_14.toInt ≤ (0 : Int) := ba0_14_u
      exact absurd (Int.le_trans l16k2_a0_14 u16k2_a0_14) (by decide)
  · obtain ⟨hw, h13⟩ := hw
    subst hw
    refine va_calli (va_runV (As := [.int a0_14, .int 0]) (rest := []) ⟨hx, hb, hml, hown, hts⟩ (c_X8_whyB l dC dI H.size a0 a0_14 0 (Value.int v1na0_0) a0g_1 a0g_2 a0g_3 a0g_4 a0g_5 a0g_6 a0g_7 a0g_8 a0g_9 a0g_10 (Value.int v1na0_11) a0g_12 a0g_13 (Value.int a0_14) a0g_15 a0g_16 a0g_17 a0g_18 a0g_19 a0g_20 a0g_21 a0g_22 a0g_23 a0g_24 a0g_25 a0g_26 a0g_27 a0g_28 a0g_29 a0g_30 a0g_31 a0g_32 a0g_33 a0g_34 a0g_35 a0g_36 a0g_37 a0g_38 a0g_39 ba0_14_l (Int.le_trans ba0_14_u zq4) zq5 (Int.le_trans zq6 zq4)) (cwV 2 hts gX8_guard_X8_why rfl rfl rfl zd_X8_why ⟨Nat.le_of_ble_eq_true rfl, Nat.le_of_ble_eq_true rfl⟩) ⟨ax_blind (fun _ _ _ _ _ => trivial), zr_8 (zp_K hK) (zp_P1 hP) (q0 := 0) rfl, ax_pre (zp_P1 hP) (zp_K hK) (zp_D1 hD) (fun _ _ => trivial)⟩ rfl rfl hl.1 rfl (lv_room (Nat.le_of_ble_eq_true rfl)) dX8_guard_16 ⟨Nat.le_of_ble_eq_true rfl, Nat.le_of_ble_eq_true rfl⟩) hS (fun q _ h => zp_F1 hD hS hA q h) (zp_F1 hD hS hA) (fun r16 u t H locs ht hvm hw hB hz1 hk1 hS1 => zo1 hB ht hP hD hk1 (zp_F1 hD hS hA) hS1 (fun hP hK1 hD hS => ?_))
    rcases hw with hw | hw | hw
    · obtain ⟨hw, h16_0, h16_1, h16_2, h16_3⟩ := hw
      subst hw
      have l16k0_a0_14 : (1 : Int) ≤ a0_14.toInt := h16_0
      have u16k0_a0_14 : a0_14.toInt ≤ (0 : Int) := ba0_14_u
      exact absurd (Int.le_trans l16k0_a0_14 u16k0_a0_14) (by decide)
    · obtain ⟨hw, h16_0, h16_1⟩ := hw
      subst hw
      have l16k1_a0_14 : (0 : Int) ≤ a0_14.toInt := ba0_14_l
      have u16k1_a0_14 : a0_14.toInt ≤ (0 : Int) := ba0_14_u
      refine lv_istore_n (lv' := [(2, .int 1), (0, .ref a0), (1, .int a1)]) hx hb dX8_guard_19 rfl hl (by decide) rfl (fun ls hl => ?_)
      refine lv_iload_n hx hb dX8_guard_20 rfl (lv_at hl 0 rfl) ?_
      refine lv_if_eq (tgt := 30) hx hb dX8_guard_21 (by decide) (fun c21 => absurd c21 (by decide +kernel)) (fun _ => ?_)
      refine lv_aload_n hx hb dX8_guard_24 rfl (lv_at hl 1 rfl) ?_
      refine lv_iload_n hx hb dX8_guard_25 rfl (lv_at hl 0 rfl) ?_
      refine va_calli (va_runV (As := [.int 1]) (rest := []) ⟨hx, hb, hml, hown, hts⟩ (c_X8_no l dC dI H.size a0 1 (Value.int v1na0_0) a0g_1 a0g_2 a0g_3 a0g_4 a0g_5 a0g_6 a0g_7 a0g_8 a0g_9 a0g_10 a0g_12 a0g_13 (Value.int a0_14) a0g_15 a0g_16 a0g_17 a0g_18 a0g_19 a0g_20 a0g_21 a0g_22 a0g_23 a0g_24 a0g_25 a0g_26 a0g_27 a0g_28 a0g_29 a0g_30 a0g_31 a0g_32 a0g_33 a0g_34 a0g_35 a0g_36 a0g_37 a0g_38 a0g_39 v1na0_11 ) (cwV 1 hts gX8_guard_X8_no rfl rfl rfl zd_X8_no ⟨Nat.le_of_ble_eq_true rfl, Nat.le_of_ble_eq_true rfl⟩) ⟨ax_blind (fun _ _ _ _ _ => trivial), zr_8 (zp_K hK) (zp_P1 hP) (q0 := 0) rfl, ax_pre (zp_P1 hP) (zp_K hK) (zp_D1 hD) (fun _ _ => trivial)⟩ rfl rfl hl.1 rfl (lv_room (Nat.le_of_ble_eq_true rfl)) dX8_guard_26 ⟨Nat.le_of_ble_eq_true rfl, Nat.le_of_ble_eq_true rfl⟩) hS (fun q _ h => zp_F1 hD hS hA q h) (zp_F1 hD hS hA) (fun r26 u t H locs ht hvm hw => zx_1 (fun v26na0_11 hB hz1 hk1 hS1 => zo1 hB ht hP hD hk1 (zp_F1 hD hS hA) hS1 (fun hP hK1 hD hS => ?_)))
      have hw : r26 = (-1) := hw
      have hw := hw.symm
      subst hw
      exact W.iret (v := (-1)) hx hb hr (fun t ht hW => ⟨⟨(-1), (), rfl, rfl, v1na0_0, v26na0_11, by rw [ht]; exact hP, va_K.moved hW.alike hK, hD⟩, hS.F ht⟩) hS.2.2 dX8_guard_29
    · obtain ⟨hw, h16_0, h16_1, h16_2, h16_3⟩ := hw
      subst hw
      have l16k2_a0_14 : (1 : Int) ≤ a0_14.toInt := h16_0
      have u16k2_a0_14 : a0_14.toInt ≤ (0 : Int) := ba0_14_u
      exact absurd (Int.le_trans l16k2_a0_14 u16k2_a0_14) (by decide)

set_option maxHeartbeats 4000000 in
set_option maxRecDepth 100000 in
theorem c0_X8_windBest (l : Launch) (dC : Nat → ClassId) (dI : Nat → Nat → Nat) (sz : Nat) (a0 : Nat) (a0_0 : Int32) (a0g_1 a0g_2 a0g_3 a0g_4 a0g_5 a0g_6 a0g_7 a0g_8 a0g_9 a0g_10 a0g_12 a0g_13 a0g_15 a0g_16 a0g_17 a0g_18 a0g_19 a0g_20 a0g_21 a0g_22 a0g_23 a0g_24 a0g_25 a0g_26 a0g_27 a0g_28 a0g_29 a0g_30 a0g_31 a0g_32 a0g_33 a0g_34 a0g_35 a0g_36 a0g_37 a0g_38 a0g_39 : Value) (a0_11 : Int32) (a0_14 : Int32) (ba0_14_l : (0 : Int) ≤ a0_14.toInt) (ba0_14_u : a0_14.toInt ≤ (0 : Int)) : zm l yX8_windBest wsX8_windBest ({ frames := 1, cells := 0, slots := 0, locals := 21 }) [.ref a0] dC dI sz [(a0, .inr (8, [Value.int a0_0, a0g_1, a0g_2, a0g_3, a0g_4, a0g_5, a0g_6, a0g_7, a0g_8, a0g_9, a0g_10, Value.int a0_11, a0g_12, a0g_13, Value.int a0_14, a0g_15, a0g_16, a0g_17, a0g_18, a0g_19, a0g_20, a0g_21, a0g_22, a0g_23, a0g_24, a0g_25, a0g_26, a0g_27, a0g_28, a0g_29, a0g_30, a0g_31, a0g_32, a0g_33, a0g_34, a0g_35, a0g_36, a0g_37, a0g_38, a0g_39]))] [] (fun A _ => True) (fun A => va_Qi (fun (r : Int32) (_ : Unit) => r = (-1)) (fun (_ : Unit) (t : State) => ∃ na0_0 : Int32, ∃ na0_11 : Int32, ax_B dC dI A [(a0, .inr (8, [Value.int na0_0, a0g_1, a0g_2, a0g_3, a0g_4, a0g_5, a0g_6, a0g_7, a0g_8, a0g_9, a0g_10, Value.int na0_11, a0g_12, a0g_13, Value.int a0_14, a0g_15, a0g_16, a0g_17, a0g_18, a0g_19, a0g_20, a0g_21, a0g_22, a0g_23, a0g_24, a0g_25, a0g_26, a0g_27, a0g_28, a0g_29, a0g_30, a0g_31, a0g_32, a0g_33, a0g_34, a0g_35, a0g_36, a0g_37, a0g_38, a0g_39]))] [] t) A) := by
  refine zh (cc := cX8_windBest) (maxL := 5) (ret := (some .int)) zn_RX8 rfl (Nat.le_of_ble_eq_true rfl) (fun p e s m below meth c A ls hx hb hml hr hts (hown : s.vm.findClass RX8 = some m.cls) hlocks hA hS hP hK hD hE (hl : lv_has ls 5 [(0, .ref a0)]) => ?_)
  refine ai_open (fun K hK0 => ?_)
  refine (hK0 _ _ _).mpr ?_
  refine lv_aload_n hx hb dX8_windBest_0 rfl (lv_at hl 0 rfl) ?_
  refine va_callv (va_runV (As := []) (rest := []) ⟨hx, hb, hml, hown, hts⟩ (c_X8_good l dC dI s.heap.size a0 a0_0 a0g_1 a0g_2 a0g_3 a0g_4 a0g_5 a0g_6 a0g_7 a0g_8 a0g_9 a0g_10 a0g_12 a0g_13 (Value.int a0_14) a0g_15 a0g_16 a0g_17 a0g_18 a0g_19 a0g_20 a0g_21 a0g_22 a0g_23 a0g_24 a0g_25 a0g_26 a0g_27 a0g_28 a0g_29 a0g_30 a0g_31 a0g_32 a0g_33 a0g_34 a0g_35 a0g_36 a0g_37 a0g_38 a0g_39 a0_11 ) (cwV 0 hts gX8_windBest_X8_good rfl rfl rfl zd_X8_good ⟨Nat.le_of_ble_eq_true rfl, Nat.le_of_ble_eq_true rfl⟩) ⟨ax_blind (fun _ _ _ _ _ => trivial), zr_8 (zp_K hK) (zp_P1 hP) (q0 := 0) rfl, ax_pre (zp_P1 hP) (zp_K hK) (zp_D1 hD) (fun _ _ => trivial)⟩ rfl rfl hl.1 rfl (lv_room (Nat.le_of_ble_eq_true rfl)) dX8_windBest_1 ⟨Nat.le_of_ble_eq_true rfl, Nat.le_of_ble_eq_true rfl⟩) hS (fun q _ h => zp_F1 hD hS hA q h) (zp_F1 hD hS hA) (fun u t H locs ht hvm hw => zx_2 (fun v1na0_0 v1na0_11 hB hz1 hk1 hS1 => zo1 hB ht hP hD hk1 (zp_F1 hD hS hA) hS1 (fun hP hK1 hD hS => ?_)))
  refine lv_aload_n hx hb dX8_windBest_4 rfl (lv_at hl 0 rfl) ?_
  refine va_get (D := (dC, dI)) (ci := 8) (v := .int a0_14) (C := RX8) (T := TX8) (N := 40) hx hb hts zi_X8_windBest_8 hown hK hP 0 rfl rfl 14 (by decide) (hts (.fieldLink RX8 173 "WaxTurnsModel" "hasGallery" "Z") (zm_X8_windBest_r1 (List.mem_of_getElem? (i := 0) rfl))) (fun _ h9 => h9) rfl dX8_windBest_5 ?_
  refine lv_if_ne (tgt := 17) hx hb dX8_windBest_8 (by decide) (fun c8 => ?_) (fun c8 => ?_)
  · have gc8 := ai_ne c8
    have l8t_a0_14 : (1 : Int) ≤ a0_14.toInt := (by first | exact zg_l ba0_14_l gc8 (by decide) (by decide) | (have h1 := ba0_14_l; have h2 : (0 : Int32).toInt = 0 := (by decide); rw [h2] at gc8; omega))
    have u8t_a0_14 : a0_14.toInt ≤ (-1 : Int) := (by first | exact zg_u ba0_14_u gc8 (by decide) (by decide) | (have h1 := ba0_14_u; have h2 : (0 : Int32).toInt = 0 := (by decide); rw [h2] at gc8; omega))
    exact absurd (Int.le_trans l8t_a0_14 u8t_a0_14) (by decide)
  · have gc8 := ai_eq c8
    have u8f_a0_14 : a0_14.toInt ≤ (0 : Int) := ba0_14_u
    have l8f_a0_14 : (0 : Int) ≤ a0_14.toInt := ba0_14_l
    refine lv_aload_n hx hb dX8_windBest_11 rfl (lv_at hl 0 rfl) ?_
    refine lv_iconst (v := 1) hx hb dX8_windBest_12 zk_iconst_1 ?_
    refine va_calli (va_runV (As := [.int 1]) (rest := []) ⟨hx, hb, hml, hown, hts⟩ (c_X8_no l dC dI H.size a0 1 (Value.int v1na0_0) a0g_1 a0g_2 a0g_3 a0g_4 a0g_5 a0g_6 a0g_7 a0g_8 a0g_9 a0g_10 a0g_12 a0g_13 (Value.int a0_14) a0g_15 a0g_16 a0g_17 a0g_18 a0g_19 a0g_20 a0g_21 a0g_22 a0g_23 a0g_24 a0g_25 a0g_26 a0g_27 a0g_28 a0g_29 a0g_30 a0g_31 a0g_32 a0g_33 a0g_34 a0g_35 a0g_36 a0g_37 a0g_38 a0g_39 v1na0_11 ) (cwV 1 hts gX8_windBest_X8_no rfl rfl rfl zd_X8_no ⟨Nat.le_of_ble_eq_true rfl, Nat.le_of_ble_eq_true rfl⟩) ⟨ax_blind (fun _ _ _ _ _ => trivial), zr_8 (zp_K hK) (zp_P1 hP) (q0 := 0) rfl, ax_pre (zp_P1 hP) (zp_K hK) (zp_D1 hD) (fun _ _ => trivial)⟩ rfl rfl hl.1 rfl (lv_room (Nat.le_of_ble_eq_true rfl)) dX8_windBest_13 ⟨Nat.le_of_ble_eq_true rfl, Nat.le_of_ble_eq_true rfl⟩) hS (fun q _ h => zp_F1 hD hS hA q h) (zp_F1 hD hS hA) (fun r13 u t H locs ht hvm hw => zx_1 (fun v13na0_11 hB hz1 hk1 hS1 => zo1 hB ht hP hD hk1 (zp_F1 hD hS hA) hS1 (fun hP hK1 hD hS => ?_)))
    have hw : r13 = (-1) := hw
    have hw := hw.symm
    subst hw
    exact W.iret (v := (-1)) hx hb hr (fun t ht hW => ⟨⟨(-1), (), rfl, rfl, v1na0_0, v13na0_11, by rw [ht]; exact hP, va_K.moved hW.alike hK, hD⟩, hS.F ht⟩) hS.2.2 dX8_windBest_16

set_option maxHeartbeats 4000000 in
set_option maxRecDepth 100000 in
theorem c0_X8_fits (l : Launch) (dC : Nat → ClassId) (dI : Nat → Nat → Nat) (sz : Nat) (a0 : Nat) (a0_0 : Int32) (a0g_1 a0g_2 a0g_3 a0g_4 a0g_5 a0g_6 a0g_7 a0g_8 a0g_9 a0g_10 a0g_12 a0g_13 a0g_15 a0g_16 a0g_17 a0g_18 a0g_19 a0g_20 a0g_21 a0g_22 a0g_23 a0g_24 a0g_25 a0g_26 a0g_27 a0g_28 a0g_29 a0g_30 a0g_31 a0g_32 a0g_33 a0g_34 a0g_35 a0g_36 a0g_37 a0g_38 a0g_39 : Value) (a0_11 : Int32) (a0_14 : Int32) (ba0_14_l : (0 : Int) ≤ a0_14.toInt) (ba0_14_u : a0_14.toInt ≤ (0 : Int)) : zm l yX8_fits wsX8_fits ({ frames := 1, cells := 0, slots := 0, locals := 21 }) [.ref a0] dC dI sz [(a0, .inr (8, [Value.int a0_0, a0g_1, a0g_2, a0g_3, a0g_4, a0g_5, a0g_6, a0g_7, a0g_8, a0g_9, a0g_10, Value.int a0_11, a0g_12, a0g_13, Value.int a0_14, a0g_15, a0g_16, a0g_17, a0g_18, a0g_19, a0g_20, a0g_21, a0g_22, a0g_23, a0g_24, a0g_25, a0g_26, a0g_27, a0g_28, a0g_29, a0g_30, a0g_31, a0g_32, a0g_33, a0g_34, a0g_35, a0g_36, a0g_37, a0g_38, a0g_39]))] [] (fun A _ => True) (fun A => va_Qi (fun (r : Int32) (_ : Unit) => r = (-1)) (fun (_ : Unit) (t : State) => ∃ na0_0 : Int32, ∃ na0_11 : Int32, ax_B dC dI A [(a0, .inr (8, [Value.int na0_0, a0g_1, a0g_2, a0g_3, a0g_4, a0g_5, a0g_6, a0g_7, a0g_8, a0g_9, a0g_10, Value.int na0_11, a0g_12, a0g_13, Value.int a0_14, a0g_15, a0g_16, a0g_17, a0g_18, a0g_19, a0g_20, a0g_21, a0g_22, a0g_23, a0g_24, a0g_25, a0g_26, a0g_27, a0g_28, a0g_29, a0g_30, a0g_31, a0g_32, a0g_33, a0g_34, a0g_35, a0g_36, a0g_37, a0g_38, a0g_39]))] [] t) A) := by
  refine zh (cc := cX8_fits) (maxL := 3) (ret := (some .int)) zn_RX8 rfl (Nat.le_of_ble_eq_true rfl) (fun p e s m below meth c A ls hx hb hml hr hts (hown : s.vm.findClass RX8 = some m.cls) hlocks hA hS hP hK hD hE (hl : lv_has ls 3 [(0, .ref a0)]) => ?_)
  refine ai_open (fun K hK0 => ?_)
  refine (hK0 _ _ _).mpr ?_
  refine lv_aload_n hx hb dX8_fits_0 rfl (lv_at hl 0 rfl) ?_
  refine va_callv (va_runV (As := []) (rest := []) ⟨hx, hb, hml, hown, hts⟩ (c_X8_good l dC dI s.heap.size a0 a0_0 a0g_1 a0g_2 a0g_3 a0g_4 a0g_5 a0g_6 a0g_7 a0g_8 a0g_9 a0g_10 a0g_12 a0g_13 (Value.int a0_14) a0g_15 a0g_16 a0g_17 a0g_18 a0g_19 a0g_20 a0g_21 a0g_22 a0g_23 a0g_24 a0g_25 a0g_26 a0g_27 a0g_28 a0g_29 a0g_30 a0g_31 a0g_32 a0g_33 a0g_34 a0g_35 a0g_36 a0g_37 a0g_38 a0g_39 a0_11 ) (cwV 0 hts gX8_fits_X8_good rfl rfl rfl zd_X8_good ⟨Nat.le_of_ble_eq_true rfl, Nat.le_of_ble_eq_true rfl⟩) ⟨ax_blind (fun _ _ _ _ _ => trivial), zr_8 (zp_K hK) (zp_P1 hP) (q0 := 0) rfl, ax_pre (zp_P1 hP) (zp_K hK) (zp_D1 hD) (fun _ _ => trivial)⟩ rfl rfl hl.1 rfl (lv_room (Nat.le_of_ble_eq_true rfl)) dX8_fits_1 ⟨Nat.le_of_ble_eq_true rfl, Nat.le_of_ble_eq_true rfl⟩) hS (fun q _ h => zp_F1 hD hS hA q h) (zp_F1 hD hS hA) (fun u t H locs ht hvm hw => zx_2 (fun v1na0_0 v1na0_11 hB hz1 hk1 hS1 => zo1 hB ht hP hD hk1 (zp_F1 hD hS hA) hS1 (fun hP hK1 hD hS => ?_)))
  refine lv_aload_n hx hb dX8_fits_4 rfl (lv_at hl 0 rfl) ?_
  refine va_get (D := (dC, dI)) (ci := 8) (v := .int a0_14) (C := RX8) (T := TX8) (N := 40) hx hb hts zi_X8_fits_8 hown hK hP 0 rfl rfl 14 (by decide) (hts (.fieldLink RX8 173 "WaxTurnsModel" "hasGallery" "Z") (zm_X8_fits_r1 (List.mem_of_getElem? (i := 0) rfl))) (fun _ h9 => h9) rfl dX8_fits_5 ?_
  refine lv_if_ne (tgt := 17) hx hb dX8_fits_8 (by decide) (fun c8 => ?_) (fun c8 => ?_)
  · have gc8 := ai_ne c8
    have l8t_a0_14 : (1 : Int) ≤ a0_14.toInt := (by first | exact zg_l ba0_14_l gc8 (by decide) (by decide) | (have h1 := ba0_14_l; have h2 : (0 : Int32).toInt = 0 := (by decide); rw [h2] at gc8; omega))
    have u8t_a0_14 : a0_14.toInt ≤ (-1 : Int) := (by first | exact zg_u ba0_14_u gc8 (by decide) (by decide) | (have h1 := ba0_14_u; have h2 : (0 : Int32).toInt = 0 := (by decide); rw [h2] at gc8; omega))
    exact absurd (Int.le_trans l8t_a0_14 u8t_a0_14) (by decide)
  · have gc8 := ai_eq c8
    have u8f_a0_14 : a0_14.toInt ≤ (0 : Int) := ba0_14_u
    have l8f_a0_14 : (0 : Int) ≤ a0_14.toInt := ba0_14_l
    refine lv_aload_n hx hb dX8_fits_11 rfl (lv_at hl 0 rfl) ?_
    refine lv_iconst (v := 1) hx hb dX8_fits_12 zk_iconst_1 ?_
    refine va_calli (va_runV (As := [.int 1]) (rest := []) ⟨hx, hb, hml, hown, hts⟩ (c_X8_no l dC dI H.size a0 1 (Value.int v1na0_0) a0g_1 a0g_2 a0g_3 a0g_4 a0g_5 a0g_6 a0g_7 a0g_8 a0g_9 a0g_10 a0g_12 a0g_13 (Value.int a0_14) a0g_15 a0g_16 a0g_17 a0g_18 a0g_19 a0g_20 a0g_21 a0g_22 a0g_23 a0g_24 a0g_25 a0g_26 a0g_27 a0g_28 a0g_29 a0g_30 a0g_31 a0g_32 a0g_33 a0g_34 a0g_35 a0g_36 a0g_37 a0g_38 a0g_39 v1na0_11 ) (cwV 1 hts gX8_fits_X8_no rfl rfl rfl zd_X8_no ⟨Nat.le_of_ble_eq_true rfl, Nat.le_of_ble_eq_true rfl⟩) ⟨ax_blind (fun _ _ _ _ _ => trivial), zr_8 (zp_K hK) (zp_P1 hP) (q0 := 0) rfl, ax_pre (zp_P1 hP) (zp_K hK) (zp_D1 hD) (fun _ _ => trivial)⟩ rfl rfl hl.1 rfl (lv_room (Nat.le_of_ble_eq_true rfl)) dX8_fits_13 ⟨Nat.le_of_ble_eq_true rfl, Nat.le_of_ble_eq_true rfl⟩) hS (fun q _ h => zp_F1 hD hS hA q h) (zp_F1 hD hS hA) (fun r13 u t H locs ht hvm hw => zx_1 (fun v13na0_11 hB hz1 hk1 hS1 => zo1 hB ht hP hD hk1 (zp_F1 hD hS hA) hS1 (fun hP hK1 hD hS => ?_)))
    have hw : r13 = (-1) := hw
    have hw := hw.symm
    subst hw
    exact W.iret (v := (-1)) hx hb hr (fun t ht hW => ⟨⟨(-1), (), rfl, rfl, v1na0_0, v13na0_11, by rw [ht]; exact hP, va_K.moved hW.alike hK, hD⟩, hS.F ht⟩) hS.2.2 dX8_fits_16
end P280_03_safe
section P280_04_safe
set_option maxHeartbeats 4000000 in
set_option maxRecDepth 100000 in
theorem c0_X8_fitAt (l : Launch) (dC : Nat → ClassId) (dI : Nat → Nat → Nat) (sz : Nat) (a0 : Nat) (a1 : Int32) (a0_0 : Int32) (a0g_1 a0g_2 a0g_3 a0g_4 a0g_5 a0g_6 a0g_7 a0g_8 a0g_9 a0g_10 a0g_12 a0g_13 a0g_15 a0g_16 a0g_17 a0g_18 a0g_19 a0g_20 a0g_21 a0g_22 a0g_23 a0g_24 a0g_25 a0g_26 a0g_27 a0g_28 a0g_29 a0g_30 a0g_31 a0g_32 a0g_33 a0g_34 a0g_35 a0g_36 a0g_37 a0g_38 a0g_39 : Value) (a0_11 : Int32) (a0_14 : Int32) (ba0_14_l : (0 : Int) ≤ a0_14.toInt) (ba0_14_u : a0_14.toInt ≤ (0 : Int)) : zm l yX8_fitAt wsX8_fitAt ({ frames := 1, cells := 0, slots := 0, locals := 21 }) [.ref a0, .int a1] dC dI sz [(a0, .inr (8, [Value.int a0_0, a0g_1, a0g_2, a0g_3, a0g_4, a0g_5, a0g_6, a0g_7, a0g_8, a0g_9, a0g_10, Value.int a0_11, a0g_12, a0g_13, Value.int a0_14, a0g_15, a0g_16, a0g_17, a0g_18, a0g_19, a0g_20, a0g_21, a0g_22, a0g_23, a0g_24, a0g_25, a0g_26, a0g_27, a0g_28, a0g_29, a0g_30, a0g_31, a0g_32, a0g_33, a0g_34, a0g_35, a0g_36, a0g_37, a0g_38, a0g_39]))] [] (fun A _ => True) (fun A => va_Qi (fun (r : Int32) (_ : Unit) => r = (-1)) (fun (_ : Unit) (t : State) => ∃ na0_0 : Int32, ∃ na0_11 : Int32, ax_B dC dI A [(a0, .inr (8, [Value.int na0_0, a0g_1, a0g_2, a0g_3, a0g_4, a0g_5, a0g_6, a0g_7, a0g_8, a0g_9, a0g_10, Value.int na0_11, a0g_12, a0g_13, Value.int a0_14, a0g_15, a0g_16, a0g_17, a0g_18, a0g_19, a0g_20, a0g_21, a0g_22, a0g_23, a0g_24, a0g_25, a0g_26, a0g_27, a0g_28, a0g_29, a0g_30, a0g_31, a0g_32, a0g_33, a0g_34, a0g_35, a0g_36, a0g_37, a0g_38, a0g_39]))] [] t) A) := by
  refine zh (cc := cX8_fitAt) (maxL := 4) (ret := (some .int)) zn_RX8 rfl (Nat.le_of_ble_eq_true rfl) (fun p e s m below meth c A ls hx hb hml hr hts (hown : s.vm.findClass RX8 = some m.cls) hlocks hA hS hP hK hD hE (hl : lv_has ls 4 [(0, .ref a0), (1, .int a1)]) => ?_)
  refine ai_open (fun K hK0 => ?_)
  refine (hK0 _ _ _).mpr ?_
  refine lv_aload_n hx hb dX8_fitAt_0 rfl (lv_at hl 0 rfl) ?_
  refine va_callv (va_runV (As := []) (rest := []) ⟨hx, hb, hml, hown, hts⟩ (c_X8_good l dC dI s.heap.size a0 a0_0 a0g_1 a0g_2 a0g_3 a0g_4 a0g_5 a0g_6 a0g_7 a0g_8 a0g_9 a0g_10 a0g_12 a0g_13 (Value.int a0_14) a0g_15 a0g_16 a0g_17 a0g_18 a0g_19 a0g_20 a0g_21 a0g_22 a0g_23 a0g_24 a0g_25 a0g_26 a0g_27 a0g_28 a0g_29 a0g_30 a0g_31 a0g_32 a0g_33 a0g_34 a0g_35 a0g_36 a0g_37 a0g_38 a0g_39 a0_11 ) (cwV 0 hts gX8_fitAt_X8_good rfl rfl rfl zd_X8_good ⟨Nat.le_of_ble_eq_true rfl, Nat.le_of_ble_eq_true rfl⟩) ⟨ax_blind (fun _ _ _ _ _ => trivial), zr_8 (zp_K hK) (zp_P1 hP) (q0 := 0) rfl, ax_pre (zp_P1 hP) (zp_K hK) (zp_D1 hD) (fun _ _ => trivial)⟩ rfl rfl hl.1 rfl (lv_room (Nat.le_of_ble_eq_true rfl)) dX8_fitAt_1 ⟨Nat.le_of_ble_eq_true rfl, Nat.le_of_ble_eq_true rfl⟩) hS (fun q _ h => zp_F1 hD hS hA q h) (zp_F1 hD hS hA) (fun u t H locs ht hvm hw => zx_2 (fun v1na0_0 v1na0_11 hB hz1 hk1 hS1 => zo1 hB ht hP hD hk1 (zp_F1 hD hS hA) hS1 (fun hP hK1 hD hS => ?_)))
  refine lv_aload_n hx hb dX8_fitAt_4 rfl (lv_at hl 0 rfl) ?_
  refine va_get (D := (dC, dI)) (ci := 8) (v := .int a0_14) (C := RX8) (T := TX8) (N := 40) hx hb hts zi_X8_fitAt_8 hown hK hP 0 rfl rfl 14 (by decide) (hts (.fieldLink RX8 173 "WaxTurnsModel" "hasGallery" "Z") (zm_X8_fitAt_r1 (List.mem_of_getElem? (i := 0) rfl))) (fun _ h9 => h9) rfl dX8_fitAt_5 ?_
  refine lv_if_ne (tgt := 17) hx hb dX8_fitAt_8 (by decide) (fun c8 => ?_) (fun c8 => ?_)
  · have gc8 := ai_ne c8
    have l8t_a0_14 : (1 : Int) ≤ a0_14.toInt := (by first | exact zg_l ba0_14_l gc8 (by decide) (by decide) | (have h1 := ba0_14_l; have h2 : (0 : Int32).toInt = 0 := (by decide); rw [h2] at gc8; omega))
    have u8t_a0_14 : a0_14.toInt ≤ (-1 : Int) := (by first | exact zg_u ba0_14_u gc8 (by decide) (by decide) | (have h1 := ba0_14_u; have h2 : (0 : Int32).toInt = 0 := (by decide); rw [h2] at gc8; omega))
    exact absurd (Int.le_trans l8t_a0_14 u8t_a0_14) (by decide)
  · have gc8 := ai_eq c8
    have u8f_a0_14 : a0_14.toInt ≤ (0 : Int) := ba0_14_u
    have l8f_a0_14 : (0 : Int) ≤ a0_14.toInt := ba0_14_l
    refine lv_aload_n hx hb dX8_fitAt_11 rfl (lv_at hl 0 rfl) ?_
    refine lv_iconst (v := 1) hx hb dX8_fitAt_12 zk_iconst_1 ?_
    refine va_calli (va_runV (As := [.int 1]) (rest := []) ⟨hx, hb, hml, hown, hts⟩ (c_X8_no l dC dI H.size a0 1 (Value.int v1na0_0) a0g_1 a0g_2 a0g_3 a0g_4 a0g_5 a0g_6 a0g_7 a0g_8 a0g_9 a0g_10 a0g_12 a0g_13 (Value.int a0_14) a0g_15 a0g_16 a0g_17 a0g_18 a0g_19 a0g_20 a0g_21 a0g_22 a0g_23 a0g_24 a0g_25 a0g_26 a0g_27 a0g_28 a0g_29 a0g_30 a0g_31 a0g_32 a0g_33 a0g_34 a0g_35 a0g_36 a0g_37 a0g_38 a0g_39 v1na0_11 ) (cwV 1 hts gX8_fitAt_X8_no rfl rfl rfl zd_X8_no ⟨Nat.le_of_ble_eq_true rfl, Nat.le_of_ble_eq_true rfl⟩) ⟨ax_blind (fun _ _ _ _ _ => trivial), zr_8 (zp_K hK) (zp_P1 hP) (q0 := 0) rfl, ax_pre (zp_P1 hP) (zp_K hK) (zp_D1 hD) (fun _ _ => trivial)⟩ rfl rfl hl.1 rfl (lv_room (Nat.le_of_ble_eq_true rfl)) dX8_fitAt_13 ⟨Nat.le_of_ble_eq_true rfl, Nat.le_of_ble_eq_true rfl⟩) hS (fun q _ h => zp_F1 hD hS hA q h) (zp_F1 hD hS hA) (fun r13 u t H locs ht hvm hw => zx_1 (fun v13na0_11 hB hz1 hk1 hS1 => zo1 hB ht hP hD hk1 (zp_F1 hD hS hA) hS1 (fun hP hK1 hD hS => ?_)))
    have hw : r13 = (-1) := hw
    have hw := hw.symm
    subst hw
    exact W.iret (v := (-1)) hx hb hr (fun t ht hW => ⟨⟨(-1), (), rfl, rfl, v1na0_0, v13na0_11, by rw [ht]; exact hP, va_K.moved hW.alike hK, hD⟩, hS.F ht⟩) hS.2.2 dX8_fitAt_16

set_option maxHeartbeats 4000000 in
set_option maxRecDepth 100000 in
theorem c0_X8_could (l : Launch) (dC : Nat → ClassId) (dI : Nat → Nat → Nat) (sz : Nat) (a0 : Nat) (a1 : Int32) (a0_0 : Int32) (a0g_1 a0g_2 a0g_3 a0g_4 a0g_5 a0g_6 a0g_7 a0g_8 a0g_9 a0g_10 a0g_12 a0g_13 a0g_15 a0g_16 a0g_17 a0g_18 a0g_19 a0g_20 a0g_21 a0g_22 a0g_23 a0g_24 a0g_25 a0g_26 a0g_27 a0g_28 a0g_29 a0g_30 a0g_31 a0g_32 a0g_33 a0g_34 a0g_35 a0g_36 a0g_37 a0g_38 a0g_39 : Value) (a0_11 : Int32) (a0_14 : Int32) (ba0_14_l : (0 : Int) ≤ a0_14.toInt) (ba0_14_u : a0_14.toInt ≤ (0 : Int)) : zm l yX8_could wsX8_could ({ frames := 1, cells := 0, slots := 0, locals := 22 }) [.ref a0, .int a1] dC dI sz [(a0, .inr (8, [Value.int a0_0, a0g_1, a0g_2, a0g_3, a0g_4, a0g_5, a0g_6, a0g_7, a0g_8, a0g_9, a0g_10, Value.int a0_11, a0g_12, a0g_13, Value.int a0_14, a0g_15, a0g_16, a0g_17, a0g_18, a0g_19, a0g_20, a0g_21, a0g_22, a0g_23, a0g_24, a0g_25, a0g_26, a0g_27, a0g_28, a0g_29, a0g_30, a0g_31, a0g_32, a0g_33, a0g_34, a0g_35, a0g_36, a0g_37, a0g_38, a0g_39]))] [] (fun A _ => True) (fun A => va_Qi (fun (r : Int32) (_ : Unit) => r = (-1)) (fun (_ : Unit) (t : State) => ∃ na0_0 : Int32, ∃ na0_11 : Int32, ax_B dC dI A [(a0, .inr (8, [Value.int na0_0, a0g_1, a0g_2, a0g_3, a0g_4, a0g_5, a0g_6, a0g_7, a0g_8, a0g_9, a0g_10, Value.int na0_11, a0g_12, a0g_13, Value.int a0_14, a0g_15, a0g_16, a0g_17, a0g_18, a0g_19, a0g_20, a0g_21, a0g_22, a0g_23, a0g_24, a0g_25, a0g_26, a0g_27, a0g_28, a0g_29, a0g_30, a0g_31, a0g_32, a0g_33, a0g_34, a0g_35, a0g_36, a0g_37, a0g_38, a0g_39]))] [] t) A) := by
  refine zh (cc := cX8_could) (maxL := 5) (ret := (some .int)) zn_RX8 rfl (Nat.le_of_ble_eq_true rfl) (fun p e s m below meth c A ls hx hb hml hr hts (hown : s.vm.findClass RX8 = some m.cls) hlocks hA hS hP hK hD hE (hl : lv_has ls 5 [(0, .ref a0), (1, .int a1)]) => ?_)
  refine ai_open (fun K hK0 => ?_)
  refine (hK0 _ _ _).mpr ?_
  refine lv_aload_n hx hb dX8_could_0 rfl (lv_at hl 0 rfl) ?_
  refine va_callv (va_runV (As := []) (rest := []) ⟨hx, hb, hml, hown, hts⟩ (c_X8_good l dC dI s.heap.size a0 a0_0 a0g_1 a0g_2 a0g_3 a0g_4 a0g_5 a0g_6 a0g_7 a0g_8 a0g_9 a0g_10 a0g_12 a0g_13 (Value.int a0_14) a0g_15 a0g_16 a0g_17 a0g_18 a0g_19 a0g_20 a0g_21 a0g_22 a0g_23 a0g_24 a0g_25 a0g_26 a0g_27 a0g_28 a0g_29 a0g_30 a0g_31 a0g_32 a0g_33 a0g_34 a0g_35 a0g_36 a0g_37 a0g_38 a0g_39 a0_11 ) (cwV 0 hts gX8_could_X8_good rfl rfl rfl zd_X8_good ⟨Nat.le_of_ble_eq_true rfl, Nat.le_of_ble_eq_true rfl⟩) ⟨ax_blind (fun _ _ _ _ _ => trivial), zr_8 (zp_K hK) (zp_P1 hP) (q0 := 0) rfl, ax_pre (zp_P1 hP) (zp_K hK) (zp_D1 hD) (fun _ _ => trivial)⟩ rfl rfl hl.1 rfl (lv_room (Nat.le_of_ble_eq_true rfl)) dX8_could_1 ⟨Nat.le_of_ble_eq_true rfl, Nat.le_of_ble_eq_true rfl⟩) hS (fun q _ h => zp_F1 hD hS hA q h) (zp_F1 hD hS hA) (fun u t H locs ht hvm hw => zx_2 (fun v1na0_0 v1na0_11 hB hz1 hk1 hS1 => zo1 hB ht hP hD hk1 (zp_F1 hD hS hA) hS1 (fun hP hK1 hD hS => ?_)))
  refine lv_aload_n hx hb dX8_could_4 rfl (lv_at hl 0 rfl) ?_
  refine lv_aload_n hx hb dX8_could_5 rfl (lv_at hl 0 rfl) ?_
  refine va_get (D := (dC, dI)) (ci := 8) (v := .int a0_14) (C := RX8) (T := TX8) (N := 40) hx hb hts zi_X8_could_8 hown hK hP 0 rfl rfl 14 (by decide) (hts (.fieldLink RX8 173 "WaxTurnsModel" "hasGallery" "Z") (zm_X8_could_r1 (List.mem_of_getElem? (i := 0) rfl))) (fun _ h9 => h9) rfl dX8_could_6 ?_
  refine lv_iload_n hx hb dX8_could_9 rfl (lv_at hl 1 rfl) ?_
  refine lv_iconst (v := 0) hx hb dX8_could_10 zk_iconst_0 ?_
  refine lv_sipush (v := 999) hx hb dX8_could_11 zk_sipush_999 ?_
  refine va_calli (va_runS (As := [.int a1, .int 0, .int 999]) (rest := [.int a0_14, .ref a0]) ⟨hx, hb, hml, hown, hts⟩ (c_X8_in l dC dI H.size a1 0 999 ) (va_cwS 3 hts gX8_could_X8_in rfl rfl rfl zd_X8_in.2 ⟨Nat.le_of_ble_eq_true rfl, Nat.le_of_ble_eq_true rfl⟩) ⟨ax_blind (fun _ _ _ _ _ => trivial), ax_pre (zp_P0 hP) (zp_K hK) (zp_D0 hD) (fun _ _ => trivial)⟩ rfl rfl hl.1 rfl (lv_room (Nat.le_of_ble_eq_true rfl)) dX8_could_14 ⟨Nat.le_of_ble_eq_true rfl, Nat.le_of_ble_eq_true rfl⟩) hS (fun q _ h => zp_F0 hD hS hA q h) (zp_F0 hD hS hA) (fun r14 u t H locs ht hvm hw hB hz1 hk1 hS1 => zo0 hB ht hP hD hk1 (zp_F0 hD hS hA) hS1 (fun hP hK1 hD hS => ?_))
  rcases hw with hw | hw
  · obtain ⟨hw, h14⟩ := hw
    subst hw
    have l14k0_a1 : (0 : Int) ≤ a1.toInt := Int.le_trans zq5 h14.1
    have u14k0_a1 : a1.toInt ≤ (999 : Int) := Int.le_trans h14.2 zq79
    refine va_calli (va_runV (As := [.int a0_14, .int 1]) (rest := []) ⟨hx, hb, hml, hown, hts⟩ (c_X8_whyB l dC dI H.size a0 a0_14 1 (Value.int v1na0_0) a0g_1 a0g_2 a0g_3 a0g_4 a0g_5 a0g_6 a0g_7 a0g_8 a0g_9 a0g_10 (Value.int v1na0_11) a0g_12 a0g_13 (Value.int a0_14) a0g_15 a0g_16 a0g_17 a0g_18 a0g_19 a0g_20 a0g_21 a0g_22 a0g_23 a0g_24 a0g_25 a0g_26 a0g_27 a0g_28 a0g_29 a0g_30 a0g_31 a0g_32 a0g_33 a0g_34 a0g_35 a0g_36 a0g_37 a0g_38 a0g_39 ba0_14_l (Int.le_trans ba0_14_u zq4) (Int.le_trans zq4 zq1) zq0) (cwV 2 hts gX8_could_X8_why rfl rfl rfl zd_X8_why ⟨Nat.le_of_ble_eq_true rfl, Nat.le_of_ble_eq_true rfl⟩) ⟨ax_blind (fun _ _ _ _ _ => trivial), zr_8 (zp_K hK) (zp_P1 hP) (q0 := 0) rfl, ax_pre (zp_P1 hP) (zp_K hK) (zp_D1 hD) (fun _ _ => trivial)⟩ rfl rfl hl.1 rfl (lv_room (Nat.le_of_ble_eq_true rfl)) dX8_could_17 ⟨Nat.le_of_ble_eq_true rfl, Nat.le_of_ble_eq_true rfl⟩) hS (fun q _ h => zp_F1 hD hS hA q h) (zp_F1 hD hS hA) (fun r17 u t H locs ht hvm hw hB hz1 hk1 hS1 => zo1 hB ht hP hD hk1 (zp_F1 hD hS hA) hS1 (fun hP hK1 hD hS => ?_))
    rcases hw with hw | hw | hw
    · obtain ⟨hw, h17_0, h17_1, h17_2, h17_3⟩ := hw
      subst hw
      have l17k0_a0_14 : (1 : Int) ≤ a0_14.toInt := h17_0
      have u17k0_a0_14 : a0_14.toInt ≤ (0 : Int) := ba0_14_u
      exact absurd (Int.le_trans l17k0_a0_14 u17k0_a0_14) (by decide)
    · obtain ⟨hw, h17_0, h17_1⟩ := hw
      subst hw
      have l17k1_a0_14 : (0 : Int) ≤ a0_14.toInt := ba0_14_l
      have u17k1_a0_14 : a0_14.toInt ≤ (0 : Int) := ba0_14_u
      refine lv_istore_n (lv' := [(2, .int 1), (0, .ref a0), (1, .int a1)]) hx hb dX8_could_20 rfl hl (by decide) rfl (fun ls hl => ?_)
      refine lv_iload_n hx hb dX8_could_21 rfl (lv_at hl 0 rfl) ?_
      refine lv_if_eq (tgt := 31) hx hb dX8_could_22 (by decide) (fun c22 => absurd c22 (by decide +kernel)) (fun _ => ?_)
      refine lv_aload_n hx hb dX8_could_25 rfl (lv_at hl 1 rfl) ?_
      refine lv_iload_n hx hb dX8_could_26 rfl (lv_at hl 0 rfl) ?_
      refine va_calli (va_runV (As := [.int 1]) (rest := []) ⟨hx, hb, hml, hown, hts⟩ (c_X8_no l dC dI H.size a0 1 (Value.int v1na0_0) a0g_1 a0g_2 a0g_3 a0g_4 a0g_5 a0g_6 a0g_7 a0g_8 a0g_9 a0g_10 a0g_12 a0g_13 (Value.int a0_14) a0g_15 a0g_16 a0g_17 a0g_18 a0g_19 a0g_20 a0g_21 a0g_22 a0g_23 a0g_24 a0g_25 a0g_26 a0g_27 a0g_28 a0g_29 a0g_30 a0g_31 a0g_32 a0g_33 a0g_34 a0g_35 a0g_36 a0g_37 a0g_38 a0g_39 v1na0_11 ) (cwV 1 hts gX8_could_X8_no rfl rfl rfl zd_X8_no ⟨Nat.le_of_ble_eq_true rfl, Nat.le_of_ble_eq_true rfl⟩) ⟨ax_blind (fun _ _ _ _ _ => trivial), zr_8 (zp_K hK) (zp_P1 hP) (q0 := 0) rfl, ax_pre (zp_P1 hP) (zp_K hK) (zp_D1 hD) (fun _ _ => trivial)⟩ rfl rfl hl.1 rfl (lv_room (Nat.le_of_ble_eq_true rfl)) dX8_could_27 ⟨Nat.le_of_ble_eq_true rfl, Nat.le_of_ble_eq_true rfl⟩) hS (fun q _ h => zp_F1 hD hS hA q h) (zp_F1 hD hS hA) (fun r27 u t H locs ht hvm hw => zx_1 (fun v27na0_11 hB hz1 hk1 hS1 => zo1 hB ht hP hD hk1 (zp_F1 hD hS hA) hS1 (fun hP hK1 hD hS => ?_)))
      have hw : r27 = (-1) := hw
      have hw := hw.symm
      subst hw
      exact W.iret (v := (-1)) hx hb hr (fun t ht hW => ⟨⟨(-1), (), rfl, rfl, v1na0_0, v27na0_11, by rw [ht]; exact hP, va_K.moved hW.alike hK, hD⟩, hS.F ht⟩) hS.2.2 dX8_could_30
    · obtain ⟨hw, h17_0, h17_1, h17_2, h17_3⟩ := hw
      subst hw
      have l17k2_a0_14 : (1 : Int) ≤ a0_14.toInt := h17_0
      have u17k2_a0_14 : a0_14.toInt ≤ (0 : Int) := ba0_14_u
      exact absurd (Int.le_trans l17k2_a0_14 u17k2_a0_14) (by decide)
  · obtain ⟨hw, h14⟩ := hw
    subst hw
    refine va_calli (va_runV (As := [.int a0_14, .int 0]) (rest := []) ⟨hx, hb, hml, hown, hts⟩ (c_X8_whyB l dC dI H.size a0 a0_14 0 (Value.int v1na0_0) a0g_1 a0g_2 a0g_3 a0g_4 a0g_5 a0g_6 a0g_7 a0g_8 a0g_9 a0g_10 (Value.int v1na0_11) a0g_12 a0g_13 (Value.int a0_14) a0g_15 a0g_16 a0g_17 a0g_18 a0g_19 a0g_20 a0g_21 a0g_22 a0g_23 a0g_24 a0g_25 a0g_26 a0g_27 a0g_28 a0g_29 a0g_30 a0g_31 a0g_32 a0g_33 a0g_34 a0g_35 a0g_36 a0g_37 a0g_38 a0g_39 ba0_14_l (Int.le_trans ba0_14_u zq4) zq5 (Int.le_trans zq6 zq4)) (cwV 2 hts gX8_could_X8_why rfl rfl rfl zd_X8_why ⟨Nat.le_of_ble_eq_true rfl, Nat.le_of_ble_eq_true rfl⟩) ⟨ax_blind (fun _ _ _ _ _ => trivial), zr_8 (zp_K hK) (zp_P1 hP) (q0 := 0) rfl, ax_pre (zp_P1 hP) (zp_K hK) (zp_D1 hD) (fun _ _ => trivial)⟩ rfl rfl hl.1 rfl (lv_room (Nat.le_of_ble_eq_true rfl)) dX8_could_17 ⟨Nat.le_of_ble_eq_true rfl, Nat.le_of_ble_eq_true rfl⟩) hS (fun q _ h => zp_F1 hD hS hA q h) (zp_F1 hD hS hA) (fun r17 u t H locs ht hvm hw hB hz1 hk1 hS1 => zo1 hB ht hP hD hk1 (zp_F1 hD hS hA) hS1 (fun hP hK1 hD hS => ?_))
    rcases hw with hw | hw | hw
    · obtain ⟨hw, h17_0, h17_1, h17_2, h17_3⟩ := hw
      subst hw
      have l17k0_a0_14 : (1 : Int) ≤ a0_14.toInt := h17_0
      have u17k0_a0_14 : a0_14.toInt ≤ (0 : Int) := ba0_14_u
      exact absurd (Int.le_trans l17k0_a0_14 u17k0_a0_14) (by decide)
    · obtain ⟨hw, h17_0, h17_1⟩ := hw
      subst hw
      have l17k1_a0_14 : (0 : Int) ≤ a0_14.toInt := ba0_14_l
      have u17k1_a0_14 : a0_14.toInt ≤ (0 : Int) := ba0_14_u
      refine lv_istore_n (lv' := [(2, .int 1), (0, .ref a0), (1, .int a1)]) hx hb dX8_could_20 rfl hl (by decide) rfl (fun ls hl => ?_)
      refine lv_iload_n hx hb dX8_could_21 rfl (lv_at hl 0 rfl) ?_
      refine lv_if_eq (tgt := 31) hx hb dX8_could_22 (by decide) (fun c22 => absurd c22 (by decide +kernel)) (fun _ => ?_)
      refine lv_aload_n hx hb dX8_could_25 rfl (lv_at hl 1 rfl) ?_
      refine lv_iload_n hx hb dX8_could_26 rfl (lv_at hl 0 rfl) ?_
      refine va_calli (va_runV (As := [.int 1]) (rest := []) ⟨hx, hb, hml, hown, hts⟩ (c_X8_no l dC dI H.size a0 1 (Value.int v1na0_0) a0g_1 a0g_2 a0g_3 a0g_4 a0g_5 a0g_6 a0g_7 a0g_8 a0g_9 a0g_10 a0g_12 a0g_13 (Value.int a0_14) a0g_15 a0g_16 a0g_17 a0g_18 a0g_19 a0g_20 a0g_21 a0g_22 a0g_23 a0g_24 a0g_25 a0g_26 a0g_27 a0g_28 a0g_29 a0g_30 a0g_31 a0g_32 a0g_33 a0g_34 a0g_35 a0g_36 a0g_37 a0g_38 a0g_39 v1na0_11 ) (cwV 1 hts gX8_could_X8_no rfl rfl rfl zd_X8_no ⟨Nat.le_of_ble_eq_true rfl, Nat.le_of_ble_eq_true rfl⟩) ⟨ax_blind (fun _ _ _ _ _ => trivial), zr_8 (zp_K hK) (zp_P1 hP) (q0 := 0) rfl, ax_pre (zp_P1 hP) (zp_K hK) (zp_D1 hD) (fun _ _ => trivial)⟩ rfl rfl hl.1 rfl (lv_room (Nat.le_of_ble_eq_true rfl)) dX8_could_27 ⟨Nat.le_of_ble_eq_true rfl, Nat.le_of_ble_eq_true rfl⟩) hS (fun q _ h => zp_F1 hD hS hA q h) (zp_F1 hD hS hA) (fun r27 u t H locs ht hvm hw => zx_1 (fun v27na0_11 hB hz1 hk1 hS1 => zo1 hB ht hP hD hk1 (zp_F1 hD hS hA) hS1 (fun hP hK1 hD hS => ?_)))
      have hw : r27 = (-1) := hw
      have hw := hw.symm
      subst hw
      exact W.iret (v := (-1)) hx hb hr (fun t ht hW => ⟨⟨(-1), (), rfl, rfl, v1na0_0, v27na0_11, by rw [ht]; exact hP, va_K.moved hW.alike hK, hD⟩, hS.F ht⟩) hS.2.2 dX8_could_30
    · obtain ⟨hw, h17_0, h17_1, h17_2, h17_3⟩ := hw
      subst hw
      have l17k2_a0_14 : (1 : Int) ≤ a0_14.toInt := h17_0
      have u17k2_a0_14 : a0_14.toInt ≤ (0 : Int) := ba0_14_u
      exact absurd (Int.le_trans l17k2_a0_14 u17k2_a0_14) (by decide)

set_option maxHeartbeats 4000000 in
set_option maxRecDepth 100000 in
theorem c0_X8_aliveBy (l : Launch) (dC : Nat → ClassId) (dI : Nat → Nat → Nat) (sz : Nat) (a0 : Nat) (a1 : Int32) (a2 : Int32) (a0_0 : Int32) (a0g_1 a0g_2 a0g_3 a0g_4 a0g_5 a0g_6 a0g_7 a0g_8 a0g_9 a0g_10 a0g_12 a0g_13 a0g_15 a0g_16 a0g_17 a0g_18 a0g_19 a0g_20 a0g_21 a0g_22 a0g_23 a0g_24 a0g_25 a0g_26 a0g_27 a0g_28 a0g_29 a0g_30 a0g_31 a0g_32 a0g_33 a0g_34 a0g_35 a0g_36 a0g_37 a0g_38 a0g_39 : Value) (a0_11 : Int32) (a0_14 : Int32) (ba0_14_l : (0 : Int) ≤ a0_14.toInt) (ba0_14_u : a0_14.toInt ≤ (0 : Int)) : zm l yX8_aliveBy wsX8_aliveBy ({ frames := 1, cells := 0, slots := 0, locals := 22 }) [.ref a0, .int a1, .int a2] dC dI sz [(a0, .inr (8, [Value.int a0_0, a0g_1, a0g_2, a0g_3, a0g_4, a0g_5, a0g_6, a0g_7, a0g_8, a0g_9, a0g_10, Value.int a0_11, a0g_12, a0g_13, Value.int a0_14, a0g_15, a0g_16, a0g_17, a0g_18, a0g_19, a0g_20, a0g_21, a0g_22, a0g_23, a0g_24, a0g_25, a0g_26, a0g_27, a0g_28, a0g_29, a0g_30, a0g_31, a0g_32, a0g_33, a0g_34, a0g_35, a0g_36, a0g_37, a0g_38, a0g_39]))] [] (fun A _ => True) (fun A => va_Qi (fun (r : Int32) (_ : Unit) => r = (-1)) (fun (_ : Unit) (t : State) => ∃ na0_0 : Int32, ∃ na0_11 : Int32, ax_B dC dI A [(a0, .inr (8, [Value.int na0_0, a0g_1, a0g_2, a0g_3, a0g_4, a0g_5, a0g_6, a0g_7, a0g_8, a0g_9, a0g_10, Value.int na0_11, a0g_12, a0g_13, Value.int a0_14, a0g_15, a0g_16, a0g_17, a0g_18, a0g_19, a0g_20, a0g_21, a0g_22, a0g_23, a0g_24, a0g_25, a0g_26, a0g_27, a0g_28, a0g_29, a0g_30, a0g_31, a0g_32, a0g_33, a0g_34, a0g_35, a0g_36, a0g_37, a0g_38, a0g_39]))] [] t) A) := by
  refine zh (cc := cX8_aliveBy) (maxL := 4) (ret := (some .int)) zn_RX8 rfl (Nat.le_of_ble_eq_true rfl) (fun p e s m below meth c A ls hx hb hml hr hts (hown : s.vm.findClass RX8 = some m.cls) hlocks hA hS hP hK hD hE (hl : lv_has ls 4 [(0, .ref a0), (1, .int a1), (2, .int a2)]) => ?_)
  refine lv_aload_n hx hb dX8_aliveBy_0 rfl (lv_at hl 0 rfl) ?_
  refine va_callv (va_runV (As := []) (rest := []) ⟨hx, hb, hml, hown, hts⟩ (c_X8_good l dC dI s.heap.size a0 a0_0 a0g_1 a0g_2 a0g_3 a0g_4 a0g_5 a0g_6 a0g_7 a0g_8 a0g_9 a0g_10 a0g_12 a0g_13 (Value.int a0_14) a0g_15 a0g_16 a0g_17 a0g_18 a0g_19 a0g_20 a0g_21 a0g_22 a0g_23 a0g_24 a0g_25 a0g_26 a0g_27 a0g_28 a0g_29 a0g_30 a0g_31 a0g_32 a0g_33 a0g_34 a0g_35 a0g_36 a0g_37 a0g_38 a0g_39 a0_11 ) (cwV 0 hts gX8_aliveBy_X8_good rfl rfl rfl zd_X8_good ⟨Nat.le_of_ble_eq_true rfl, Nat.le_of_ble_eq_true rfl⟩) ⟨ax_blind (fun _ _ _ _ _ => trivial), zr_8 (zp_K hK) (zp_P1 hP) (q0 := 0) rfl, ax_pre (zp_P1 hP) (zp_K hK) (zp_D1 hD) (fun _ _ => trivial)⟩ rfl rfl hl.1 rfl (lv_room (Nat.le_of_ble_eq_true rfl)) dX8_aliveBy_1 ⟨Nat.le_of_ble_eq_true rfl, Nat.le_of_ble_eq_true rfl⟩) hS (fun q _ h => zp_F1 hD hS hA q h) (zp_F1 hD hS hA) (fun u t H locs ht hvm hw => zx_2 (fun v1na0_0 v1na0_11 hB hz1 hk1 hS1 => zo1 hB ht hP hD hk1 (zp_F1 hD hS hA) hS1 (fun hP hK1 hD hS => ?_)))
  refine lv_aload_n hx hb dX8_aliveBy_4 rfl (lv_at hl 0 rfl) ?_
  refine lv_aload_n hx hb dX8_aliveBy_5 rfl (lv_at hl 0 rfl) ?_
  refine lv_iload_n hx hb dX8_aliveBy_6 rfl (lv_at hl 1 rfl) ?_
  refine va_calli (va_runV (As := [.int a1]) (rest := [.ref a0]) ⟨hx, hb, hml, hown, hts⟩ (c0_X8_isFigure l dC dI H.size a0 a1 (Value.int v1na0_0) a0g_1 a0g_2 a0g_3 a0g_4 a0g_5 a0g_6 a0g_7 a0g_8 a0g_9 a0g_10 (Value.int v1na0_11) a0g_12 a0g_13 a0g_15 a0g_16 a0g_17 a0g_18 a0g_19 a0g_20 a0g_21 a0g_22 a0g_23 a0g_24 a0g_25 a0g_26 a0g_27 a0g_28 a0g_29 a0g_30 a0g_31 a0g_32 a0g_33 a0g_34 a0g_35 a0g_36 a0g_37 a0g_38 a0g_39 a0_14 ba0_14_l ba0_14_u) (cwV 1 hts gX8_aliveBy_X8_isFigure rfl rfl rfl zd_X8_isFigure ⟨Nat.le_of_ble_eq_true rfl, Nat.le_of_ble_eq_true rfl⟩) ⟨ax_blind (fun _ _ _ _ _ => trivial), zr_8 (zp_K hK) (zp_P1 hP) (q0 := 0) rfl, ax_pre (zp_P1 hP) (zp_K hK) (zp_D1 hD) (fun _ _ => trivial)⟩ rfl rfl hl.1 rfl (lv_room (Nat.le_of_ble_eq_true rfl)) dX8_aliveBy_7 ⟨Nat.le_of_ble_eq_true rfl, Nat.le_of_ble_eq_true rfl⟩) hS (fun q _ h => zp_F1 hD hS hA q h) (zp_F1 hD hS hA) (fun r7 u t H locs ht hvm hw hB hz1 hk1 hS1 => zo1 hB ht hP hD hk1 (zp_F1 hD hS hA) hS1 (fun hP hK1 hD hS => ?_))
  have hw : r7 = 0 := hw
  have hw := hw.symm
  subst hw
  refine lv_iload_n hx hb dX8_aliveBy_10 rfl (lv_at hl 2 rfl) ?_
  refine lv_iconst (v := 0) hx hb dX8_aliveBy_11 zk_iconst_0 ?_
  refine lv_sipush (v := 999) hx hb dX8_aliveBy_12 zk_sipush_999 ?_
  refine va_calli (va_runS (As := [.int a2, .int 0, .int 999]) (rest := [.int 0, .ref a0]) ⟨hx, hb, hml, hown, hts⟩ (c_X8_in l dC dI H.size a2 0 999 ) (va_cwS 3 hts gX8_aliveBy_X8_in rfl rfl rfl zd_X8_in.2 ⟨Nat.le_of_ble_eq_true rfl, Nat.le_of_ble_eq_true rfl⟩) ⟨ax_blind (fun _ _ _ _ _ => trivial), ax_pre (zp_P0 hP) (zp_K hK) (zp_D0 hD) (fun _ _ => trivial)⟩ rfl rfl hl.1 rfl (lv_room (Nat.le_of_ble_eq_true rfl)) dX8_aliveBy_15 ⟨Nat.le_of_ble_eq_true rfl, Nat.le_of_ble_eq_true rfl⟩) hS (fun q _ h => zp_F0 hD hS hA q h) (zp_F0 hD hS hA) (fun r15 u t H locs ht hvm hw hB hz1 hk1 hS1 => zo0 hB ht hP hD hk1 (zp_F0 hD hS hA) hS1 (fun hP hK1 hD hS => ?_))
  rcases hw with hw | hw
  · obtain ⟨hw, h15⟩ := hw
    subst hw
    have l15k0_a2 : (0 : Int) ≤ a2.toInt := Int.le_trans zq5 h15.1
    have u15k0_a2 : a2.toInt ≤ (999 : Int) := Int.le_trans h15.2 zq79
    refine va_calli (va_runV (As := [.int 0, .int 1]) (rest := []) ⟨hx, hb, hml, hown, hts⟩ (c_X8_whyB l dC dI H.size a0 0 1 (Value.int v1na0_0) a0g_1 a0g_2 a0g_3 a0g_4 a0g_5 a0g_6 a0g_7 a0g_8 a0g_9 a0g_10 (Value.int v1na0_11) a0g_12 a0g_13 (Value.int a0_14) a0g_15 a0g_16 a0g_17 a0g_18 a0g_19 a0g_20 a0g_21 a0g_22 a0g_23 a0g_24 a0g_25 a0g_26 a0g_27 a0g_28 a0g_29 a0g_30 a0g_31 a0g_32 a0g_33 a0g_34 a0g_35 a0g_36 a0g_37 a0g_38 a0g_39 zq5 (Int.le_trans zq6 zq4) (Int.le_trans zq4 zq1) zq0) (cwV 2 hts gX8_aliveBy_X8_why rfl rfl rfl zd_X8_why ⟨Nat.le_of_ble_eq_true rfl, Nat.le_of_ble_eq_true rfl⟩) ⟨ax_blind (fun _ _ _ _ _ => trivial), zr_8 (zp_K hK) (zp_P1 hP) (q0 := 0) rfl, ax_pre (zp_P1 hP) (zp_K hK) (zp_D1 hD) (fun _ _ => trivial)⟩ rfl rfl hl.1 rfl (lv_room (Nat.le_of_ble_eq_true rfl)) dX8_aliveBy_18 ⟨Nat.le_of_ble_eq_true rfl, Nat.le_of_ble_eq_true rfl⟩) hS (fun q _ h => zp_F1 hD hS hA q h) (zp_F1 hD hS hA) (fun r18 u t H locs ht hvm hw hB hz1 hk1 hS1 => zo1 hB ht hP hD hk1 (zp_F1 hD hS hA) hS1 (fun hP hK1 hD hS => ?_))
    rcases hw with hw | hw | hw
    · obtain ⟨hw, h18_0, h18_1, h18_2, h18_3⟩ := hw
      subst hw
      exact absurd h18_0 (by decide)
    · obtain ⟨hw, h18_0, h18_1⟩ := hw
      subst hw
      refine lv_istore_n (lv' := [(3, .int 1), (0, .ref a0), (1, .int a1), (2, .int a2)]) hx hb dX8_aliveBy_21 rfl hl (by decide) rfl (fun ls hl => ?_)
      refine lv_iload_n hx hb dX8_aliveBy_22 rfl (lv_at hl 0 rfl) ?_
      refine lv_if_eq (tgt := 32) hx hb dX8_aliveBy_23 (by decide) (fun c23 => absurd c23 (by decide +kernel)) (fun _ => ?_)
      refine lv_aload_n hx hb dX8_aliveBy_26 rfl (lv_at hl 1 rfl) ?_
      refine lv_iload_n hx hb dX8_aliveBy_27 rfl (lv_at hl 0 rfl) ?_
      refine va_calli (va_runV (As := [.int 1]) (rest := []) ⟨hx, hb, hml, hown, hts⟩ (c_X8_no l dC dI H.size a0 1 (Value.int v1na0_0) a0g_1 a0g_2 a0g_3 a0g_4 a0g_5 a0g_6 a0g_7 a0g_8 a0g_9 a0g_10 a0g_12 a0g_13 (Value.int a0_14) a0g_15 a0g_16 a0g_17 a0g_18 a0g_19 a0g_20 a0g_21 a0g_22 a0g_23 a0g_24 a0g_25 a0g_26 a0g_27 a0g_28 a0g_29 a0g_30 a0g_31 a0g_32 a0g_33 a0g_34 a0g_35 a0g_36 a0g_37 a0g_38 a0g_39 v1na0_11 ) (cwV 1 hts gX8_aliveBy_X8_no rfl rfl rfl zd_X8_no ⟨Nat.le_of_ble_eq_true rfl, Nat.le_of_ble_eq_true rfl⟩) ⟨ax_blind (fun _ _ _ _ _ => trivial), zr_8 (zp_K hK) (zp_P1 hP) (q0 := 0) rfl, ax_pre (zp_P1 hP) (zp_K hK) (zp_D1 hD) (fun _ _ => trivial)⟩ rfl rfl hl.1 rfl (lv_room (Nat.le_of_ble_eq_true rfl)) dX8_aliveBy_28 ⟨Nat.le_of_ble_eq_true rfl, Nat.le_of_ble_eq_true rfl⟩) hS (fun q _ h => zp_F1 hD hS hA q h) (zp_F1 hD hS hA) (fun r28 u t H locs ht hvm hw => zx_1 (fun v28na0_11 hB hz1 hk1 hS1 => zo1 hB ht hP hD hk1 (zp_F1 hD hS hA) hS1 (fun hP hK1 hD hS => ?_)))
      have hw : r28 = (-1) := hw
      have hw := hw.symm
      subst hw
      exact W.iret (v := (-1)) hx hb hr (fun t ht hW => ⟨⟨(-1), (), rfl, rfl, v1na0_0, v28na0_11, by rw [ht]; exact hP, va_K.moved hW.alike hK, hD⟩, hS.F ht⟩) hS.2.2 dX8_aliveBy_31
    · obtain ⟨hw, h18_0, h18_1, h18_2, h18_3⟩ := hw
      subst hw
      exact absurd h18_0 (by decide)
  · obtain ⟨hw, h15⟩ := hw
    subst hw
    refine va_calli (va_runV (As := [.int 0, .int 0]) (rest := []) ⟨hx, hb, hml, hown, hts⟩ (c_X8_whyB l dC dI H.size a0 0 0 (Value.int v1na0_0) a0g_1 a0g_2 a0g_3 a0g_4 a0g_5 a0g_6 a0g_7 a0g_8 a0g_9 a0g_10 (Value.int v1na0_11) a0g_12 a0g_13 (Value.int a0_14) a0g_15 a0g_16 a0g_17 a0g_18 a0g_19 a0g_20 a0g_21 a0g_22 a0g_23 a0g_24 a0g_25 a0g_26 a0g_27 a0g_28 a0g_29 a0g_30 a0g_31 a0g_32 a0g_33 a0g_34 a0g_35 a0g_36 a0g_37 a0g_38 a0g_39 zq5 (Int.le_trans zq6 zq4) zq5 (Int.le_trans zq6 zq4)) (cwV 2 hts gX8_aliveBy_X8_why rfl rfl rfl zd_X8_why ⟨Nat.le_of_ble_eq_true rfl, Nat.le_of_ble_eq_true rfl⟩) ⟨ax_blind (fun _ _ _ _ _ => trivial), zr_8 (zp_K hK) (zp_P1 hP) (q0 := 0) rfl, ax_pre (zp_P1 hP) (zp_K hK) (zp_D1 hD) (fun _ _ => trivial)⟩ rfl rfl hl.1 rfl (lv_room (Nat.le_of_ble_eq_true rfl)) dX8_aliveBy_18 ⟨Nat.le_of_ble_eq_true rfl, Nat.le_of_ble_eq_true rfl⟩) hS (fun q _ h => zp_F1 hD hS hA q h) (zp_F1 hD hS hA) (fun r18 u t H locs ht hvm hw hB hz1 hk1 hS1 => zo1 hB ht hP hD hk1 (zp_F1 hD hS hA) hS1 (fun hP hK1 hD hS => ?_))
    rcases hw with hw | hw | hw
    · obtain ⟨hw, h18_0, h18_1, h18_2, h18_3⟩ := hw
      subst hw
      exact absurd h18_0 (by decide)
    · obtain ⟨hw, h18_0, h18_1⟩ := hw
      subst hw
      refine lv_istore_n (lv' := [(3, .int 1), (0, .ref a0), (1, .int a1), (2, .int a2)]) hx hb dX8_aliveBy_21 rfl hl (by decide) rfl (fun ls hl => ?_)
      refine lv_iload_n hx hb dX8_aliveBy_22 rfl (lv_at hl 0 rfl) ?_
      refine lv_if_eq (tgt := 32) hx hb dX8_aliveBy_23 (by decide) (fun c23 => absurd c23 (by decide +kernel)) (fun _ => ?_)
      refine lv_aload_n hx hb dX8_aliveBy_26 rfl (lv_at hl 1 rfl) ?_
      refine lv_iload_n hx hb dX8_aliveBy_27 rfl (lv_at hl 0 rfl) ?_
      refine va_calli (va_runV (As := [.int 1]) (rest := []) ⟨hx, hb, hml, hown, hts⟩ (c_X8_no l dC dI H.size a0 1 (Value.int v1na0_0) a0g_1 a0g_2 a0g_3 a0g_4 a0g_5 a0g_6 a0g_7 a0g_8 a0g_9 a0g_10 a0g_12 a0g_13 (Value.int a0_14) a0g_15 a0g_16 a0g_17 a0g_18 a0g_19 a0g_20 a0g_21 a0g_22 a0g_23 a0g_24 a0g_25 a0g_26 a0g_27 a0g_28 a0g_29 a0g_30 a0g_31 a0g_32 a0g_33 a0g_34 a0g_35 a0g_36 a0g_37 a0g_38 a0g_39 v1na0_11 ) (cwV 1 hts gX8_aliveBy_X8_no rfl rfl rfl zd_X8_no ⟨Nat.le_of_ble_eq_true rfl, Nat.le_of_ble_eq_true rfl⟩) ⟨ax_blind (fun _ _ _ _ _ => trivial), zr_8 (zp_K hK) (zp_P1 hP) (q0 := 0) rfl, ax_pre (zp_P1 hP) (zp_K hK) (zp_D1 hD) (fun _ _ => trivial)⟩ rfl rfl hl.1 rfl (lv_room (Nat.le_of_ble_eq_true rfl)) dX8_aliveBy_28 ⟨Nat.le_of_ble_eq_true rfl, Nat.le_of_ble_eq_true rfl⟩) hS (fun q _ h => zp_F1 hD hS hA q h) (zp_F1 hD hS hA) (fun r28 u t H locs ht hvm hw => zx_1 (fun v28na0_11 hB hz1 hk1 hS1 => zo1 hB ht hP hD hk1 (zp_F1 hD hS hA) hS1 (fun hP hK1 hD hS => ?_)))
      have hw : r28 = (-1) := hw
      have hw := hw.symm
      subst hw
      exact W.iret (v := (-1)) hx hb hr (fun t ht hW => ⟨⟨(-1), (), rfl, rfl, v1na0_0, v28na0_11, by rw [ht]; exact hP, va_K.moved hW.alike hK, hD⟩, hS.F ht⟩) hS.2.2 dX8_aliveBy_31
    · obtain ⟨hw, h18_0, h18_1, h18_2, h18_3⟩ := hw
      subst hw
      exact absurd h18_0 (by decide)

set_option maxHeartbeats 4000000 in
set_option maxRecDepth 100000 in
theorem c0_X8_look (l : Launch) (dC : Nat → ClassId) (dI : Nat → Nat → Nat) (sz : Nat) (a0 : Nat) (a0_0 : Int32) (a0g_1 a0g_2 a0g_3 a0g_4 a0g_5 a0g_6 a0g_7 a0g_8 a0g_9 a0g_10 a0g_12 a0g_13 a0g_15 a0g_16 a0g_17 a0g_18 a0g_19 a0g_20 a0g_21 a0g_22 a0g_23 a0g_24 a0g_25 a0g_26 a0g_27 a0g_28 a0g_29 a0g_30 a0g_31 a0g_32 a0g_33 a0g_34 a0g_35 a0g_36 a0g_37 a0g_38 a0g_39 : Value) (a0_11 : Int32) (a0_14 : Int32) (ba0_14_l : (0 : Int) ≤ a0_14.toInt) (ba0_14_u : a0_14.toInt ≤ (0 : Int)) : zm l yX8_look wsX8_look ({ frames := 1, cells := 0, slots := 0, locals := 21 }) [.ref a0] dC dI sz [(a0, .inr (8, [Value.int a0_0, a0g_1, a0g_2, a0g_3, a0g_4, a0g_5, a0g_6, a0g_7, a0g_8, a0g_9, a0g_10, Value.int a0_11, a0g_12, a0g_13, Value.int a0_14, a0g_15, a0g_16, a0g_17, a0g_18, a0g_19, a0g_20, a0g_21, a0g_22, a0g_23, a0g_24, a0g_25, a0g_26, a0g_27, a0g_28, a0g_29, a0g_30, a0g_31, a0g_32, a0g_33, a0g_34, a0g_35, a0g_36, a0g_37, a0g_38, a0g_39]))] [] (fun A _ => True) (fun A => va_Qi (fun (r : Int32) (_ : Unit) => r = (-1)) (fun (_ : Unit) (t : State) => ∃ na0_0 : Int32, ∃ na0_11 : Int32, ax_B dC dI A [(a0, .inr (8, [Value.int na0_0, a0g_1, a0g_2, a0g_3, a0g_4, a0g_5, a0g_6, a0g_7, a0g_8, a0g_9, a0g_10, Value.int na0_11, a0g_12, a0g_13, Value.int a0_14, a0g_15, a0g_16, a0g_17, a0g_18, a0g_19, a0g_20, a0g_21, a0g_22, a0g_23, a0g_24, a0g_25, a0g_26, a0g_27, a0g_28, a0g_29, a0g_30, a0g_31, a0g_32, a0g_33, a0g_34, a0g_35, a0g_36, a0g_37, a0g_38, a0g_39]))] [] t) A) := by
  refine zh (cc := cX8_look) (maxL := 1) (ret := (some .int)) zn_RX8 rfl (Nat.le_of_ble_eq_true rfl) (fun p e s m below meth c A ls hx hb hml hr hts (hown : s.vm.findClass RX8 = some m.cls) hlocks hA hS hP hK hD hE (hl : lv_has ls 1 [(0, .ref a0)]) => ?_)
  refine lv_aload_n hx hb dX8_look_0 rfl (lv_at hl 0 rfl) ?_
  refine va_callv (va_runV (As := []) (rest := []) ⟨hx, hb, hml, hown, hts⟩ (c_X8_good l dC dI s.heap.size a0 a0_0 a0g_1 a0g_2 a0g_3 a0g_4 a0g_5 a0g_6 a0g_7 a0g_8 a0g_9 a0g_10 a0g_12 a0g_13 (Value.int a0_14) a0g_15 a0g_16 a0g_17 a0g_18 a0g_19 a0g_20 a0g_21 a0g_22 a0g_23 a0g_24 a0g_25 a0g_26 a0g_27 a0g_28 a0g_29 a0g_30 a0g_31 a0g_32 a0g_33 a0g_34 a0g_35 a0g_36 a0g_37 a0g_38 a0g_39 a0_11 ) (cwV 0 hts gX8_look_X8_good rfl rfl rfl zd_X8_good ⟨Nat.le_of_ble_eq_true rfl, Nat.le_of_ble_eq_true rfl⟩) ⟨ax_blind (fun _ _ _ _ _ => trivial), zr_8 (zp_K hK) (zp_P1 hP) (q0 := 0) rfl, ax_pre (zp_P1 hP) (zp_K hK) (zp_D1 hD) (fun _ _ => trivial)⟩ rfl rfl hl.1 rfl (lv_room (Nat.le_of_ble_eq_true rfl)) dX8_look_1 ⟨Nat.le_of_ble_eq_true rfl, Nat.le_of_ble_eq_true rfl⟩) hS (fun q _ h => zp_F1 hD hS hA q h) (zp_F1 hD hS hA) (fun u t H locs ht hvm hw => zx_2 (fun v1na0_0 v1na0_11 hB hz1 hk1 hS1 => zo1 hB ht hP hD hk1 (zp_F1 hD hS hA) hS1 (fun hP hK1 hD hS => ?_)))
  refine lv_aload_n hx hb dX8_look_4 rfl (lv_at hl 0 rfl) ?_
  refine va_get (D := (dC, dI)) (ci := 8) (v := .int a0_14) (C := RX8) (T := TX8) (N := 40) hx hb hts zi_X8_look_8 hown hK hP 0 rfl rfl 14 (by decide) (hts (.fieldLink RX8 173 "WaxTurnsModel" "hasGallery" "Z") (zm_X8_look_r1 (List.mem_of_getElem? (i := 0) rfl))) (fun _ h9 => h9) rfl dX8_look_5 ?_
  refine lv_if_eq (tgt := 18) hx hb dX8_look_8 (by decide) (fun c8 => ?_) (fun c8 => ?_)
  · have gc8 := ai_eq c8
    have u8t_a0_14 : a0_14.toInt ≤ (0 : Int) := ba0_14_u
    have l8t_a0_14 : (0 : Int) ≤ a0_14.toInt := ba0_14_l
    refine lv_aload_n hx hb dX8_look_18 rfl (lv_at hl 0 rfl) ?_
    refine lv_iconst (v := 1) hx hb dX8_look_19 zk_iconst_1 ?_
    refine va_calli (va_runV (As := [.int 1]) (rest := []) ⟨hx, hb, hml, hown, hts⟩ (c_X8_no l dC dI H.size a0 1 (Value.int v1na0_0) a0g_1 a0g_2 a0g_3 a0g_4 a0g_5 a0g_6 a0g_7 a0g_8 a0g_9 a0g_10 a0g_12 a0g_13 (Value.int a0_14) a0g_15 a0g_16 a0g_17 a0g_18 a0g_19 a0g_20 a0g_21 a0g_22 a0g_23 a0g_24 a0g_25 a0g_26 a0g_27 a0g_28 a0g_29 a0g_30 a0g_31 a0g_32 a0g_33 a0g_34 a0g_35 a0g_36 a0g_37 a0g_38 a0g_39 v1na0_11 ) (cwV 1 hts gX8_look_X8_no rfl rfl rfl zd_X8_no ⟨Nat.le_of_ble_eq_true rfl, Nat.le_of_ble_eq_true rfl⟩) ⟨ax_blind (fun _ _ _ _ _ => trivial), zr_8 (zp_K hK) (zp_P1 hP) (q0 := 0) rfl, ax_pre (zp_P1 hP) (zp_K hK) (zp_D1 hD) (fun _ _ => trivial)⟩ rfl rfl hl.1 rfl (lv_room (Nat.le_of_ble_eq_true rfl)) dX8_look_20 ⟨Nat.le_of_ble_eq_true rfl, Nat.le_of_ble_eq_true rfl⟩) hS (fun q _ h => zp_F1 hD hS hA q h) (zp_F1 hD hS hA) (fun r20 u t H locs ht hvm hw => zx_1 (fun v20na0_11 hB hz1 hk1 hS1 => zo1 hB ht hP hD hk1 (zp_F1 hD hS hA) hS1 (fun hP hK1 hD hS => ?_)))
    have hw : r20 = (-1) := hw
    have hw := hw.symm
    subst hw
    exact W.iret (v := (-1)) hx hb hr (fun t ht hW => ⟨⟨(-1), (), rfl, rfl, v1na0_0, v20na0_11, by rw [ht]; exact hP, va_K.moved hW.alike hK, hD⟩, hS.F ht⟩) hS.2.2 dX8_look_23
  · have gc8 := ai_ne c8
    have l8f_a0_14 : (1 : Int) ≤ a0_14.toInt := (by first | exact zg_l ba0_14_l gc8 (by decide) (by decide) | (have h1 := ba0_14_l; have h2 : (0 : Int32).toInt = 0 := (by decide); rw [h2] at gc8; omega))
    have u8f_a0_14 : a0_14.toInt ≤ (-1 : Int) := (by first | exact zg_u ba0_14_u gc8 (by decide) (by decide) | (have h1 := ba0_14_u; have h2 : (0 : Int32).toInt = 0 := (by decide); rw [h2] at gc8; omega))
    exact absurd (Int.le_trans l8f_a0_14 u8f_a0_14) (by decide)

set_option maxHeartbeats 4000000 in
set_option maxRecDepth 100000 in
theorem c0_X8_lookLeaves (l : Launch) (dC : Nat → ClassId) (dI : Nat → Nat → Nat) (sz : Nat) (a0 : Nat) (a0_0 : Int32) (a0g_1 a0g_2 a0g_3 a0g_4 a0g_5 a0g_6 a0g_7 a0g_8 a0g_9 a0g_10 a0g_12 a0g_13 a0g_15 a0g_16 a0g_17 a0g_18 a0g_19 a0g_20 a0g_21 a0g_22 a0g_23 a0g_24 a0g_25 a0g_26 a0g_27 a0g_28 a0g_29 a0g_30 a0g_31 a0g_32 a0g_33 a0g_34 a0g_35 a0g_36 a0g_37 a0g_38 a0g_39 : Value) (a0_11 : Int32) (a0_14 : Int32) (ba0_14_l : (0 : Int) ≤ a0_14.toInt) (ba0_14_u : a0_14.toInt ≤ (0 : Int)) : zm l yX8_lookLeaves wsX8_lookLeaves ({ frames := 1, cells := 0, slots := 0, locals := 21 }) [.ref a0] dC dI sz [(a0, .inr (8, [Value.int a0_0, a0g_1, a0g_2, a0g_3, a0g_4, a0g_5, a0g_6, a0g_7, a0g_8, a0g_9, a0g_10, Value.int a0_11, a0g_12, a0g_13, Value.int a0_14, a0g_15, a0g_16, a0g_17, a0g_18, a0g_19, a0g_20, a0g_21, a0g_22, a0g_23, a0g_24, a0g_25, a0g_26, a0g_27, a0g_28, a0g_29, a0g_30, a0g_31, a0g_32, a0g_33, a0g_34, a0g_35, a0g_36, a0g_37, a0g_38, a0g_39]))] [] (fun A _ => True) (fun A => va_Qi (fun (r : Int32) (_ : Unit) => r = (-1)) (fun (_ : Unit) (t : State) => ∃ na0_0 : Int32, ∃ na0_11 : Int32, ax_B dC dI A [(a0, .inr (8, [Value.int na0_0, a0g_1, a0g_2, a0g_3, a0g_4, a0g_5, a0g_6, a0g_7, a0g_8, a0g_9, a0g_10, Value.int na0_11, a0g_12, a0g_13, Value.int a0_14, a0g_15, a0g_16, a0g_17, a0g_18, a0g_19, a0g_20, a0g_21, a0g_22, a0g_23, a0g_24, a0g_25, a0g_26, a0g_27, a0g_28, a0g_29, a0g_30, a0g_31, a0g_32, a0g_33, a0g_34, a0g_35, a0g_36, a0g_37, a0g_38, a0g_39]))] [] t) A) := by
  refine zh (cc := cX8_lookLeaves) (maxL := 1) (ret := (some .int)) zn_RX8 rfl (Nat.le_of_ble_eq_true rfl) (fun p e s m below meth c A ls hx hb hml hr hts (hown : s.vm.findClass RX8 = some m.cls) hlocks hA hS hP hK hD hE (hl : lv_has ls 1 [(0, .ref a0)]) => ?_)
  refine lv_aload_n hx hb dX8_lookLeaves_0 rfl (lv_at hl 0 rfl) ?_
  refine va_callv (va_runV (As := []) (rest := []) ⟨hx, hb, hml, hown, hts⟩ (c_X8_good l dC dI s.heap.size a0 a0_0 a0g_1 a0g_2 a0g_3 a0g_4 a0g_5 a0g_6 a0g_7 a0g_8 a0g_9 a0g_10 a0g_12 a0g_13 (Value.int a0_14) a0g_15 a0g_16 a0g_17 a0g_18 a0g_19 a0g_20 a0g_21 a0g_22 a0g_23 a0g_24 a0g_25 a0g_26 a0g_27 a0g_28 a0g_29 a0g_30 a0g_31 a0g_32 a0g_33 a0g_34 a0g_35 a0g_36 a0g_37 a0g_38 a0g_39 a0_11 ) (cwV 0 hts gX8_lookLeaves_X8_good rfl rfl rfl zd_X8_good ⟨Nat.le_of_ble_eq_true rfl, Nat.le_of_ble_eq_true rfl⟩) ⟨ax_blind (fun _ _ _ _ _ => trivial), zr_8 (zp_K hK) (zp_P1 hP) (q0 := 0) rfl, ax_pre (zp_P1 hP) (zp_K hK) (zp_D1 hD) (fun _ _ => trivial)⟩ rfl rfl hl.1 rfl (lv_room (Nat.le_of_ble_eq_true rfl)) dX8_lookLeaves_1 ⟨Nat.le_of_ble_eq_true rfl, Nat.le_of_ble_eq_true rfl⟩) hS (fun q _ h => zp_F1 hD hS hA q h) (zp_F1 hD hS hA) (fun u t H locs ht hvm hw => zx_2 (fun v1na0_0 v1na0_11 hB hz1 hk1 hS1 => zo1 hB ht hP hD hk1 (zp_F1 hD hS hA) hS1 (fun hP hK1 hD hS => ?_)))
  refine lv_aload_n hx hb dX8_lookLeaves_4 rfl (lv_at hl 0 rfl) ?_
  refine va_get (D := (dC, dI)) (ci := 8) (v := .int a0_14) (C := RX8) (T := TX8) (N := 40) hx hb hts zi_X8_lookLeaves_8 hown hK hP 0 rfl rfl 14 (by decide) (hts (.fieldLink RX8 173 "WaxTurnsModel" "hasGallery" "Z") (zm_X8_lookLeaves_r1 (List.mem_of_getElem? (i := 0) rfl))) (fun _ h9 => h9) rfl dX8_lookLeaves_5 ?_
  refine lv_if_ne (tgt := 17) hx hb dX8_lookLeaves_8 (by decide) (fun c8 => ?_) (fun c8 => ?_)
  · have gc8 := ai_ne c8
    have l8t_a0_14 : (1 : Int) ≤ a0_14.toInt := (by first | exact zg_l ba0_14_l gc8 (by decide) (by decide) | (have h1 := ba0_14_l; have h2 : (0 : Int32).toInt = 0 := (by decide); rw [h2] at gc8; omega))
    have u8t_a0_14 : a0_14.toInt ≤ (-1 : Int) := (by first | exact zg_u ba0_14_u gc8 (by decide) (by decide) | (have h1 := ba0_14_u; have h2 : (0 : Int32).toInt = 0 := (by decide); rw [h2] at gc8; omega))
    exact absurd (Int.le_trans l8t_a0_14 u8t_a0_14) (by decide)
  · have gc8 := ai_eq c8
    have u8f_a0_14 : a0_14.toInt ≤ (0 : Int) := ba0_14_u
    have l8f_a0_14 : (0 : Int) ≤ a0_14.toInt := ba0_14_l
    refine lv_aload_n hx hb dX8_lookLeaves_11 rfl (lv_at hl 0 rfl) ?_
    refine lv_iconst (v := 1) hx hb dX8_lookLeaves_12 zk_iconst_1 ?_
    refine va_calli (va_runV (As := [.int 1]) (rest := []) ⟨hx, hb, hml, hown, hts⟩ (c_X8_no l dC dI H.size a0 1 (Value.int v1na0_0) a0g_1 a0g_2 a0g_3 a0g_4 a0g_5 a0g_6 a0g_7 a0g_8 a0g_9 a0g_10 a0g_12 a0g_13 (Value.int a0_14) a0g_15 a0g_16 a0g_17 a0g_18 a0g_19 a0g_20 a0g_21 a0g_22 a0g_23 a0g_24 a0g_25 a0g_26 a0g_27 a0g_28 a0g_29 a0g_30 a0g_31 a0g_32 a0g_33 a0g_34 a0g_35 a0g_36 a0g_37 a0g_38 a0g_39 v1na0_11 ) (cwV 1 hts gX8_lookLeaves_X8_no rfl rfl rfl zd_X8_no ⟨Nat.le_of_ble_eq_true rfl, Nat.le_of_ble_eq_true rfl⟩) ⟨ax_blind (fun _ _ _ _ _ => trivial), zr_8 (zp_K hK) (zp_P1 hP) (q0 := 0) rfl, ax_pre (zp_P1 hP) (zp_K hK) (zp_D1 hD) (fun _ _ => trivial)⟩ rfl rfl hl.1 rfl (lv_room (Nat.le_of_ble_eq_true rfl)) dX8_lookLeaves_13 ⟨Nat.le_of_ble_eq_true rfl, Nat.le_of_ble_eq_true rfl⟩) hS (fun q _ h => zp_F1 hD hS hA q h) (zp_F1 hD hS hA) (fun r13 u t H locs ht hvm hw => zx_1 (fun v13na0_11 hB hz1 hk1 hS1 => zo1 hB ht hP hD hk1 (zp_F1 hD hS hA) hS1 (fun hP hK1 hD hS => ?_)))
    have hw : r13 = (-1) := hw
    have hw := hw.symm
    subst hw
    exact W.iret (v := (-1)) hx hb hr (fun t ht hW => ⟨⟨(-1), (), rfl, rfl, v1na0_0, v13na0_11, by rw [ht]; exact hP, va_K.moved hW.alike hK, hD⟩, hS.F ht⟩) hS.2.2 dX8_lookLeaves_16

set_option maxHeartbeats 4000000 in
set_option maxRecDepth 100000 in
theorem c0_X8_lawsLike (l : Launch) (dC : Nat → ClassId) (dI : Nat → Nat → Nat) (sz : Nat) (a0 : Nat) (a0_0 : Int32) (a0g_1 a0g_2 a0g_3 a0g_4 a0g_5 a0g_6 a0g_7 a0g_8 a0g_9 a0g_10 a0g_12 a0g_13 a0g_15 a0g_16 a0g_17 a0g_18 a0g_19 a0g_20 a0g_21 a0g_22 a0g_23 a0g_24 a0g_25 a0g_26 a0g_27 a0g_28 a0g_29 a0g_30 a0g_31 a0g_32 a0g_33 a0g_34 a0g_35 a0g_36 a0g_37 a0g_38 a0g_39 : Value) (a0_11 : Int32) (a0_14 : Int32) (ba0_14_l : (0 : Int) ≤ a0_14.toInt) (ba0_14_u : a0_14.toInt ≤ (0 : Int)) : zm l yX8_lawsLike wsX8_lawsLike ({ frames := 1, cells := 0, slots := 0, locals := 21 }) [.ref a0] dC dI sz [(a0, .inr (8, [Value.int a0_0, a0g_1, a0g_2, a0g_3, a0g_4, a0g_5, a0g_6, a0g_7, a0g_8, a0g_9, a0g_10, Value.int a0_11, a0g_12, a0g_13, Value.int a0_14, a0g_15, a0g_16, a0g_17, a0g_18, a0g_19, a0g_20, a0g_21, a0g_22, a0g_23, a0g_24, a0g_25, a0g_26, a0g_27, a0g_28, a0g_29, a0g_30, a0g_31, a0g_32, a0g_33, a0g_34, a0g_35, a0g_36, a0g_37, a0g_38, a0g_39]))] [] (fun A _ => True) (fun A => va_Qi (fun (r : Int32) (_ : Unit) => r = (-1)) (fun (_ : Unit) (t : State) => ∃ na0_0 : Int32, ∃ na0_11 : Int32, ax_B dC dI A [(a0, .inr (8, [Value.int na0_0, a0g_1, a0g_2, a0g_3, a0g_4, a0g_5, a0g_6, a0g_7, a0g_8, a0g_9, a0g_10, Value.int na0_11, a0g_12, a0g_13, Value.int a0_14, a0g_15, a0g_16, a0g_17, a0g_18, a0g_19, a0g_20, a0g_21, a0g_22, a0g_23, a0g_24, a0g_25, a0g_26, a0g_27, a0g_28, a0g_29, a0g_30, a0g_31, a0g_32, a0g_33, a0g_34, a0g_35, a0g_36, a0g_37, a0g_38, a0g_39]))] [] t) A) := by
  refine zh (cc := cX8_lawsLike) (maxL := 5) (ret := (some .int)) zn_RX8 rfl (Nat.le_of_ble_eq_true rfl) (fun p e s m below meth c A ls hx hb hml hr hts (hown : s.vm.findClass RX8 = some m.cls) hlocks hA hS hP hK hD hE (hl : lv_has ls 5 [(0, .ref a0)]) => ?_)
  refine ai_open (fun K hK0 => ?_)
  refine (hK0 _ _ _).mpr ?_
  refine lv_aload_n hx hb dX8_lawsLike_0 rfl (lv_at hl 0 rfl) ?_
  refine va_callv (va_runV (As := []) (rest := []) ⟨hx, hb, hml, hown, hts⟩ (c_X8_good l dC dI s.heap.size a0 a0_0 a0g_1 a0g_2 a0g_3 a0g_4 a0g_5 a0g_6 a0g_7 a0g_8 a0g_9 a0g_10 a0g_12 a0g_13 (Value.int a0_14) a0g_15 a0g_16 a0g_17 a0g_18 a0g_19 a0g_20 a0g_21 a0g_22 a0g_23 a0g_24 a0g_25 a0g_26 a0g_27 a0g_28 a0g_29 a0g_30 a0g_31 a0g_32 a0g_33 a0g_34 a0g_35 a0g_36 a0g_37 a0g_38 a0g_39 a0_11 ) (cwV 0 hts gX8_lawsLike_X8_good rfl rfl rfl zd_X8_good ⟨Nat.le_of_ble_eq_true rfl, Nat.le_of_ble_eq_true rfl⟩) ⟨ax_blind (fun _ _ _ _ _ => trivial), zr_8 (zp_K hK) (zp_P1 hP) (q0 := 0) rfl, ax_pre (zp_P1 hP) (zp_K hK) (zp_D1 hD) (fun _ _ => trivial)⟩ rfl rfl hl.1 rfl (lv_room (Nat.le_of_ble_eq_true rfl)) dX8_lawsLike_1 ⟨Nat.le_of_ble_eq_true rfl, Nat.le_of_ble_eq_true rfl⟩) hS (fun q _ h => zp_F1 hD hS hA q h) (zp_F1 hD hS hA) (fun u t H locs ht hvm hw => zx_2 (fun v1na0_0 v1na0_11 hB hz1 hk1 hS1 => zo1 hB ht hP hD hk1 (zp_F1 hD hS hA) hS1 (fun hP hK1 hD hS => ?_)))
  refine lv_aload_n hx hb dX8_lawsLike_4 rfl (lv_at hl 0 rfl) ?_
  refine va_get (D := (dC, dI)) (ci := 8) (v := .int a0_14) (C := RX8) (T := TX8) (N := 40) hx hb hts zi_X8_lawsLike_8 hown hK hP 0 rfl rfl 14 (by decide) (hts (.fieldLink RX8 173 "WaxTurnsModel" "hasGallery" "Z") (zm_X8_lawsLike_r1 (List.mem_of_getElem? (i := 0) rfl))) (fun _ h9 => h9) rfl dX8_lawsLike_5 ?_
  refine lv_if_ne (tgt := 17) hx hb dX8_lawsLike_8 (by decide) (fun c8 => ?_) (fun c8 => ?_)
  · have gc8 := ai_ne c8
    have l8t_a0_14 : (1 : Int) ≤ a0_14.toInt := (by first | exact zg_l ba0_14_l gc8 (by decide) (by decide) | (have h1 := ba0_14_l; have h2 : (0 : Int32).toInt = 0 := (by decide); rw [h2] at gc8; omega))
    have u8t_a0_14 : a0_14.toInt ≤ (-1 : Int) := (by first | exact zg_u ba0_14_u gc8 (by decide) (by decide) | (have h1 := ba0_14_u; have h2 : (0 : Int32).toInt = 0 := (by decide); rw [h2] at gc8; omega))
    exact absurd (Int.le_trans l8t_a0_14 u8t_a0_14) (by decide)
  · have gc8 := ai_eq c8
    have u8f_a0_14 : a0_14.toInt ≤ (0 : Int) := ba0_14_u
    have l8f_a0_14 : (0 : Int) ≤ a0_14.toInt := ba0_14_l
    refine lv_aload_n hx hb dX8_lawsLike_11 rfl (lv_at hl 0 rfl) ?_
    refine lv_iconst (v := 1) hx hb dX8_lawsLike_12 zk_iconst_1 ?_
    refine va_calli (va_runV (As := [.int 1]) (rest := []) ⟨hx, hb, hml, hown, hts⟩ (c_X8_no l dC dI H.size a0 1 (Value.int v1na0_0) a0g_1 a0g_2 a0g_3 a0g_4 a0g_5 a0g_6 a0g_7 a0g_8 a0g_9 a0g_10 a0g_12 a0g_13 (Value.int a0_14) a0g_15 a0g_16 a0g_17 a0g_18 a0g_19 a0g_20 a0g_21 a0g_22 a0g_23 a0g_24 a0g_25 a0g_26 a0g_27 a0g_28 a0g_29 a0g_30 a0g_31 a0g_32 a0g_33 a0g_34 a0g_35 a0g_36 a0g_37 a0g_38 a0g_39 v1na0_11 ) (cwV 1 hts gX8_lawsLike_X8_no rfl rfl rfl zd_X8_no ⟨Nat.le_of_ble_eq_true rfl, Nat.le_of_ble_eq_true rfl⟩) ⟨ax_blind (fun _ _ _ _ _ => trivial), zr_8 (zp_K hK) (zp_P1 hP) (q0 := 0) rfl, ax_pre (zp_P1 hP) (zp_K hK) (zp_D1 hD) (fun _ _ => trivial)⟩ rfl rfl hl.1 rfl (lv_room (Nat.le_of_ble_eq_true rfl)) dX8_lawsLike_13 ⟨Nat.le_of_ble_eq_true rfl, Nat.le_of_ble_eq_true rfl⟩) hS (fun q _ h => zp_F1 hD hS hA q h) (zp_F1 hD hS hA) (fun r13 u t H locs ht hvm hw => zx_1 (fun v13na0_11 hB hz1 hk1 hS1 => zo1 hB ht hP hD hk1 (zp_F1 hD hS hA) hS1 (fun hP hK1 hD hS => ?_)))
    have hw : r13 = (-1) := hw
    have hw := hw.symm
    subst hw
    exact W.iret (v := (-1)) hx hb hr (fun t ht hW => ⟨⟨(-1), (), rfl, rfl, v1na0_0, v13na0_11, by rw [ht]; exact hP, va_K.moved hW.alike hK, hD⟩, hS.F ht⟩) hS.2.2 dX8_lawsLike_16
end P280_04_safe
section P280_05_safe
set_option maxHeartbeats 4000000 in
set_option maxRecDepth 100000 in
theorem c0_X8_lawFor (l : Launch) (dC : Nat → ClassId) (dI : Nat → Nat → Nat) (sz : Nat) (a0 : Nat) (a1 : Int32) (a2 : Int32) (a0_0 : Int32) (a0g_1 a0g_2 a0g_3 a0g_4 a0g_5 a0g_6 a0g_7 a0g_8 a0g_9 a0g_10 a0g_12 a0g_13 a0g_15 a0g_16 a0g_17 a0g_18 a0g_19 a0g_20 a0g_21 a0g_22 a0g_23 a0g_24 a0g_25 a0g_26 a0g_27 a0g_28 a0g_29 a0g_30 a0g_31 a0g_32 a0g_33 a0g_34 a0g_35 a0g_36 a0g_37 a0g_38 a0g_39 : Value) (a0_11 : Int32) (a0_14 : Int32) (ba0_14_l : (0 : Int) ≤ a0_14.toInt) (ba0_14_u : a0_14.toInt ≤ (0 : Int)) : zm l yX8_lawFor wsX8_lawFor ({ frames := 1, cells := 0, slots := 0, locals := 22 }) [.ref a0, .int a1, .int a2] dC dI sz [(a0, .inr (8, [Value.int a0_0, a0g_1, a0g_2, a0g_3, a0g_4, a0g_5, a0g_6, a0g_7, a0g_8, a0g_9, a0g_10, Value.int a0_11, a0g_12, a0g_13, Value.int a0_14, a0g_15, a0g_16, a0g_17, a0g_18, a0g_19, a0g_20, a0g_21, a0g_22, a0g_23, a0g_24, a0g_25, a0g_26, a0g_27, a0g_28, a0g_29, a0g_30, a0g_31, a0g_32, a0g_33, a0g_34, a0g_35, a0g_36, a0g_37, a0g_38, a0g_39]))] [] (fun A _ => True) (fun A => va_Qi (fun (r : Int32) (_ : Unit) => r = (-1)) (fun (_ : Unit) (t : State) => ∃ na0_0 : Int32, ∃ na0_11 : Int32, ax_B dC dI A [(a0, .inr (8, [Value.int na0_0, a0g_1, a0g_2, a0g_3, a0g_4, a0g_5, a0g_6, a0g_7, a0g_8, a0g_9, a0g_10, Value.int na0_11, a0g_12, a0g_13, Value.int a0_14, a0g_15, a0g_16, a0g_17, a0g_18, a0g_19, a0g_20, a0g_21, a0g_22, a0g_23, a0g_24, a0g_25, a0g_26, a0g_27, a0g_28, a0g_29, a0g_30, a0g_31, a0g_32, a0g_33, a0g_34, a0g_35, a0g_36, a0g_37, a0g_38, a0g_39]))] [] t) A) := by
  refine zh (cc := cX8_lawFor) (maxL := 5) (ret := (some .int)) zn_RX8 rfl (Nat.le_of_ble_eq_true rfl) (fun p e s m below meth c A ls hx hb hml hr hts (hown : s.vm.findClass RX8 = some m.cls) hlocks hA hS hP hK hD hE (hl : lv_has ls 5 [(0, .ref a0), (1, .int a1), (2, .int a2)]) => ?_)
  refine ai_open (fun K hK0 => ?_)
  refine (hK0 _ _ _).mpr ?_
  refine lv_aload_n hx hb dX8_lawFor_0 rfl (lv_at hl 0 rfl) ?_
  refine va_callv (va_runV (As := []) (rest := []) ⟨hx, hb, hml, hown, hts⟩ (c_X8_good l dC dI s.heap.size a0 a0_0 a0g_1 a0g_2 a0g_3 a0g_4 a0g_5 a0g_6 a0g_7 a0g_8 a0g_9 a0g_10 a0g_12 a0g_13 (Value.int a0_14) a0g_15 a0g_16 a0g_17 a0g_18 a0g_19 a0g_20 a0g_21 a0g_22 a0g_23 a0g_24 a0g_25 a0g_26 a0g_27 a0g_28 a0g_29 a0g_30 a0g_31 a0g_32 a0g_33 a0g_34 a0g_35 a0g_36 a0g_37 a0g_38 a0g_39 a0_11 ) (cwV 0 hts gX8_lawFor_X8_good rfl rfl rfl zd_X8_good ⟨Nat.le_of_ble_eq_true rfl, Nat.le_of_ble_eq_true rfl⟩) ⟨ax_blind (fun _ _ _ _ _ => trivial), zr_8 (zp_K hK) (zp_P1 hP) (q0 := 0) rfl, ax_pre (zp_P1 hP) (zp_K hK) (zp_D1 hD) (fun _ _ => trivial)⟩ rfl rfl hl.1 rfl (lv_room (Nat.le_of_ble_eq_true rfl)) dX8_lawFor_1 ⟨Nat.le_of_ble_eq_true rfl, Nat.le_of_ble_eq_true rfl⟩) hS (fun q _ h => zp_F1 hD hS hA q h) (zp_F1 hD hS hA) (fun u t H locs ht hvm hw => zx_2 (fun v1na0_0 v1na0_11 hB hz1 hk1 hS1 => zo1 hB ht hP hD hk1 (zp_F1 hD hS hA) hS1 (fun hP hK1 hD hS => ?_)))
  refine lv_aload_n hx hb dX8_lawFor_4 rfl (lv_at hl 0 rfl) ?_
  refine lv_aload_n hx hb dX8_lawFor_5 rfl (lv_at hl 0 rfl) ?_
  refine lv_iload_n hx hb dX8_lawFor_6 rfl (lv_at hl 1 rfl) ?_
  refine va_calli (va_runV (As := [.int a1]) (rest := [.ref a0]) ⟨hx, hb, hml, hown, hts⟩ (c0_X8_isFigure l dC dI H.size a0 a1 (Value.int v1na0_0) a0g_1 a0g_2 a0g_3 a0g_4 a0g_5 a0g_6 a0g_7 a0g_8 a0g_9 a0g_10 (Value.int v1na0_11) a0g_12 a0g_13 a0g_15 a0g_16 a0g_17 a0g_18 a0g_19 a0g_20 a0g_21 a0g_22 a0g_23 a0g_24 a0g_25 a0g_26 a0g_27 a0g_28 a0g_29 a0g_30 a0g_31 a0g_32 a0g_33 a0g_34 a0g_35 a0g_36 a0g_37 a0g_38 a0g_39 a0_14 ba0_14_l ba0_14_u) (cwV 1 hts gX8_lawFor_X8_isFigure rfl rfl rfl zd_X8_isFigure ⟨Nat.le_of_ble_eq_true rfl, Nat.le_of_ble_eq_true rfl⟩) ⟨ax_blind (fun _ _ _ _ _ => trivial), zr_8 (zp_K hK) (zp_P1 hP) (q0 := 0) rfl, ax_pre (zp_P1 hP) (zp_K hK) (zp_D1 hD) (fun _ _ => trivial)⟩ rfl rfl hl.1 rfl (lv_room (Nat.le_of_ble_eq_true rfl)) dX8_lawFor_7 ⟨Nat.le_of_ble_eq_true rfl, Nat.le_of_ble_eq_true rfl⟩) hS (fun q _ h => zp_F1 hD hS hA q h) (zp_F1 hD hS hA) (fun r7 u t H locs ht hvm hw hB hz1 hk1 hS1 => zo1 hB ht hP hD hk1 (zp_F1 hD hS hA) hS1 (fun hP hK1 hD hS => ?_))
  have hw : r7 = 0 := hw
  have hw := hw.symm
  subst hw
  refine lv_iload_n hx hb dX8_lawFor_10 rfl (lv_at hl 2 rfl) ?_
  refine lv_iconst (v := 0) hx hb dX8_lawFor_11 zk_iconst_0 ?_
  refine lv_bipush (v := 99) hx hb dX8_lawFor_12 zk_bipush_99 ?_
  refine va_calli (va_runS (As := [.int a2, .int 0, .int 99]) (rest := [.int 0, .ref a0]) ⟨hx, hb, hml, hown, hts⟩ (c_X8_in l dC dI H.size a2 0 99 ) (va_cwS 3 hts gX8_lawFor_X8_in rfl rfl rfl zd_X8_in.2 ⟨Nat.le_of_ble_eq_true rfl, Nat.le_of_ble_eq_true rfl⟩) ⟨ax_blind (fun _ _ _ _ _ => trivial), ax_pre (zp_P0 hP) (zp_K hK) (zp_D0 hD) (fun _ _ => trivial)⟩ rfl rfl hl.1 rfl (lv_room (Nat.le_of_ble_eq_true rfl)) dX8_lawFor_14 ⟨Nat.le_of_ble_eq_true rfl, Nat.le_of_ble_eq_true rfl⟩) hS (fun q _ h => zp_F0 hD hS hA q h) (zp_F0 hD hS hA) (fun r14 u t H locs ht hvm hw hB hz1 hk1 hS1 => zo0 hB ht hP hD hk1 (zp_F0 hD hS hA) hS1 (fun hP hK1 hD hS => ?_))
  rcases hw with hw | hw
  · obtain ⟨hw, h14⟩ := hw
    subst hw
    have l14k0_a2 : (0 : Int) ≤ a2.toInt := Int.le_trans zq5 h14.1
    have u14k0_a2 : a2.toInt ≤ (99 : Int) := Int.le_trans h14.2 zq43
    refine va_calli (va_runV (As := [.int 0, .int 1]) (rest := []) ⟨hx, hb, hml, hown, hts⟩ (c_X8_whyB l dC dI H.size a0 0 1 (Value.int v1na0_0) a0g_1 a0g_2 a0g_3 a0g_4 a0g_5 a0g_6 a0g_7 a0g_8 a0g_9 a0g_10 (Value.int v1na0_11) a0g_12 a0g_13 (Value.int a0_14) a0g_15 a0g_16 a0g_17 a0g_18 a0g_19 a0g_20 a0g_21 a0g_22 a0g_23 a0g_24 a0g_25 a0g_26 a0g_27 a0g_28 a0g_29 a0g_30 a0g_31 a0g_32 a0g_33 a0g_34 a0g_35 a0g_36 a0g_37 a0g_38 a0g_39 zq5 (Int.le_trans zq6 zq4) (Int.le_trans zq4 zq1) zq0) (cwV 2 hts gX8_lawFor_X8_why rfl rfl rfl zd_X8_why ⟨Nat.le_of_ble_eq_true rfl, Nat.le_of_ble_eq_true rfl⟩) ⟨ax_blind (fun _ _ _ _ _ => trivial), zr_8 (zp_K hK) (zp_P1 hP) (q0 := 0) rfl, ax_pre (zp_P1 hP) (zp_K hK) (zp_D1 hD) (fun _ _ => trivial)⟩ rfl rfl hl.1 rfl (lv_room (Nat.le_of_ble_eq_true rfl)) dX8_lawFor_17 ⟨Nat.le_of_ble_eq_true rfl, Nat.le_of_ble_eq_true rfl⟩) hS (fun q _ h => zp_F1 hD hS hA q h) (zp_F1 hD hS hA) (fun r17 u t H locs ht hvm hw hB hz1 hk1 hS1 => zo1 hB ht hP hD hk1 (zp_F1 hD hS hA) hS1 (fun hP hK1 hD hS => ?_))
    rcases hw with hw | hw | hw
    · obtain ⟨hw, h17_0, h17_1, h17_2, h17_3⟩ := hw
      subst hw
      exact absurd h17_0 (by decide)
    · obtain ⟨hw, h17_0, h17_1⟩ := hw
      subst hw
      refine lv_istore_n (lv' := [(3, .int 1), (0, .ref a0), (1, .int a1), (2, .int a2)]) hx hb dX8_lawFor_20 rfl hl (by decide) rfl (fun ls hl => ?_)
      refine lv_iload_n hx hb dX8_lawFor_21 rfl (lv_at hl 0 rfl) ?_
      refine lv_if_eq (tgt := 31) hx hb dX8_lawFor_22 (by decide) (fun c22 => absurd c22 (by decide +kernel)) (fun _ => ?_)
      refine lv_aload_n hx hb dX8_lawFor_25 rfl (lv_at hl 1 rfl) ?_
      refine lv_iload_n hx hb dX8_lawFor_26 rfl (lv_at hl 0 rfl) ?_
      refine va_calli (va_runV (As := [.int 1]) (rest := []) ⟨hx, hb, hml, hown, hts⟩ (c_X8_no l dC dI H.size a0 1 (Value.int v1na0_0) a0g_1 a0g_2 a0g_3 a0g_4 a0g_5 a0g_6 a0g_7 a0g_8 a0g_9 a0g_10 a0g_12 a0g_13 (Value.int a0_14) a0g_15 a0g_16 a0g_17 a0g_18 a0g_19 a0g_20 a0g_21 a0g_22 a0g_23 a0g_24 a0g_25 a0g_26 a0g_27 a0g_28 a0g_29 a0g_30 a0g_31 a0g_32 a0g_33 a0g_34 a0g_35 a0g_36 a0g_37 a0g_38 a0g_39 v1na0_11 ) (cwV 1 hts gX8_lawFor_X8_no rfl rfl rfl zd_X8_no ⟨Nat.le_of_ble_eq_true rfl, Nat.le_of_ble_eq_true rfl⟩) ⟨ax_blind (fun _ _ _ _ _ => trivial), zr_8 (zp_K hK) (zp_P1 hP) (q0 := 0) rfl, ax_pre (zp_P1 hP) (zp_K hK) (zp_D1 hD) (fun _ _ => trivial)⟩ rfl rfl hl.1 rfl (lv_room (Nat.le_of_ble_eq_true rfl)) dX8_lawFor_27 ⟨Nat.le_of_ble_eq_true rfl, Nat.le_of_ble_eq_true rfl⟩) hS (fun q _ h => zp_F1 hD hS hA q h) (zp_F1 hD hS hA) (fun r27 u t H locs ht hvm hw => zx_1 (fun v27na0_11 hB hz1 hk1 hS1 => zo1 hB ht hP hD hk1 (zp_F1 hD hS hA) hS1 (fun hP hK1 hD hS => ?_)))
      have hw : r27 = (-1) := hw
      have hw := hw.symm
      subst hw
      exact W.iret (v := (-1)) hx hb hr (fun t ht hW => ⟨⟨(-1), (), rfl, rfl, v1na0_0, v27na0_11, by rw [ht]; exact hP, va_K.moved hW.alike hK, hD⟩, hS.F ht⟩) hS.2.2 dX8_lawFor_30
    · obtain ⟨hw, h17_0, h17_1, h17_2, h17_3⟩ := hw
      subst hw
      exact absurd h17_0 (by decide)
  · obtain ⟨hw, h14⟩ := hw
    subst hw
    refine va_calli (va_runV (As := [.int 0, .int 0]) (rest := []) ⟨hx, hb, hml, hown, hts⟩ (c_X8_whyB l dC dI H.size a0 0 0 (Value.int v1na0_0) a0g_1 a0g_2 a0g_3 a0g_4 a0g_5 a0g_6 a0g_7 a0g_8 a0g_9 a0g_10 (Value.int v1na0_11) a0g_12 a0g_13 (Value.int a0_14) a0g_15 a0g_16 a0g_17 a0g_18 a0g_19 a0g_20 a0g_21 a0g_22 a0g_23 a0g_24 a0g_25 a0g_26 a0g_27 a0g_28 a0g_29 a0g_30 a0g_31 a0g_32 a0g_33 a0g_34 a0g_35 a0g_36 a0g_37 a0g_38 a0g_39 zq5 (Int.le_trans zq6 zq4) zq5 (Int.le_trans zq6 zq4)) (cwV 2 hts gX8_lawFor_X8_why rfl rfl rfl zd_X8_why ⟨Nat.le_of_ble_eq_true rfl, Nat.le_of_ble_eq_true rfl⟩) ⟨ax_blind (fun _ _ _ _ _ => trivial), zr_8 (zp_K hK) (zp_P1 hP) (q0 := 0) rfl, ax_pre (zp_P1 hP) (zp_K hK) (zp_D1 hD) (fun _ _ => trivial)⟩ rfl rfl hl.1 rfl (lv_room (Nat.le_of_ble_eq_true rfl)) dX8_lawFor_17 ⟨Nat.le_of_ble_eq_true rfl, Nat.le_of_ble_eq_true rfl⟩) hS (fun q _ h => zp_F1 hD hS hA q h) (zp_F1 hD hS hA) (fun r17 u t H locs ht hvm hw hB hz1 hk1 hS1 => zo1 hB ht hP hD hk1 (zp_F1 hD hS hA) hS1 (fun hP hK1 hD hS => ?_))
    rcases hw with hw | hw | hw
    · obtain ⟨hw, h17_0, h17_1, h17_2, h17_3⟩ := hw
      subst hw
      exact absurd h17_0 (by decide)
    · obtain ⟨hw, h17_0, h17_1⟩ := hw
      subst hw
      refine lv_istore_n (lv' := [(3, .int 1), (0, .ref a0), (1, .int a1), (2, .int a2)]) hx hb dX8_lawFor_20 rfl hl (by decide) rfl (fun ls hl => ?_)
      refine lv_iload_n hx hb dX8_lawFor_21 rfl (lv_at hl 0 rfl) ?_
      refine lv_if_eq (tgt := 31) hx hb dX8_lawFor_22 (by decide) (fun c22 => absurd c22 (by decide +kernel)) (fun _ => ?_)
      refine lv_aload_n hx hb dX8_lawFor_25 rfl (lv_at hl 1 rfl) ?_
      refine lv_iload_n hx hb dX8_lawFor_26 rfl (lv_at hl 0 rfl) ?_
      refine va_calli (va_runV (As := [.int 1]) (rest := []) ⟨hx, hb, hml, hown, hts⟩ (c_X8_no l dC dI H.size a0 1 (Value.int v1na0_0) a0g_1 a0g_2 a0g_3 a0g_4 a0g_5 a0g_6 a0g_7 a0g_8 a0g_9 a0g_10 a0g_12 a0g_13 (Value.int a0_14) a0g_15 a0g_16 a0g_17 a0g_18 a0g_19 a0g_20 a0g_21 a0g_22 a0g_23 a0g_24 a0g_25 a0g_26 a0g_27 a0g_28 a0g_29 a0g_30 a0g_31 a0g_32 a0g_33 a0g_34 a0g_35 a0g_36 a0g_37 a0g_38 a0g_39 v1na0_11 ) (cwV 1 hts gX8_lawFor_X8_no rfl rfl rfl zd_X8_no ⟨Nat.le_of_ble_eq_true rfl, Nat.le_of_ble_eq_true rfl⟩) ⟨ax_blind (fun _ _ _ _ _ => trivial), zr_8 (zp_K hK) (zp_P1 hP) (q0 := 0) rfl, ax_pre (zp_P1 hP) (zp_K hK) (zp_D1 hD) (fun _ _ => trivial)⟩ rfl rfl hl.1 rfl (lv_room (Nat.le_of_ble_eq_true rfl)) dX8_lawFor_27 ⟨Nat.le_of_ble_eq_true rfl, Nat.le_of_ble_eq_true rfl⟩) hS (fun q _ h => zp_F1 hD hS hA q h) (zp_F1 hD hS hA) (fun r27 u t H locs ht hvm hw => zx_1 (fun v27na0_11 hB hz1 hk1 hS1 => zo1 hB ht hP hD hk1 (zp_F1 hD hS hA) hS1 (fun hP hK1 hD hS => ?_)))
      have hw : r27 = (-1) := hw
      have hw := hw.symm
      subst hw
      exact W.iret (v := (-1)) hx hb hr (fun t ht hW => ⟨⟨(-1), (), rfl, rfl, v1na0_0, v27na0_11, by rw [ht]; exact hP, va_K.moved hW.alike hK, hD⟩, hS.F ht⟩) hS.2.2 dX8_lawFor_30
    · obtain ⟨hw, h17_0, h17_1, h17_2, h17_3⟩ := hw
      subst hw
      exact absurd h17_0 (by decide)

set_option maxHeartbeats 4000000 in
set_option maxRecDepth 100000 in
theorem c0_X8_judge (l : Launch) (dC : Nat → ClassId) (dI : Nat → Nat → Nat) (sz : Nat) (a0 : Nat) (a0_0 : Int32) (a0g_1 a0g_2 a0g_3 a0g_4 a0g_5 a0g_6 a0g_7 a0g_8 a0g_9 a0g_10 a0g_12 a0g_13 a0g_15 a0g_16 a0g_17 a0g_18 a0g_19 a0g_20 a0g_21 a0g_22 a0g_23 a0g_24 a0g_25 a0g_26 a0g_27 a0g_28 a0g_29 a0g_30 a0g_31 a0g_32 a0g_33 a0g_34 a0g_35 a0g_36 a0g_37 a0g_38 a0g_39 : Value) (a0_11 : Int32) (a0_14 : Int32) (ba0_14_l : (0 : Int) ≤ a0_14.toInt) (ba0_14_u : a0_14.toInt ≤ (0 : Int)) : zm l yX8_judge wsX8_judge ({ frames := 1, cells := 0, slots := 0, locals := 21 }) [.ref a0] dC dI sz [(a0, .inr (8, [Value.int a0_0, a0g_1, a0g_2, a0g_3, a0g_4, a0g_5, a0g_6, a0g_7, a0g_8, a0g_9, a0g_10, Value.int a0_11, a0g_12, a0g_13, Value.int a0_14, a0g_15, a0g_16, a0g_17, a0g_18, a0g_19, a0g_20, a0g_21, a0g_22, a0g_23, a0g_24, a0g_25, a0g_26, a0g_27, a0g_28, a0g_29, a0g_30, a0g_31, a0g_32, a0g_33, a0g_34, a0g_35, a0g_36, a0g_37, a0g_38, a0g_39]))] [] (fun A _ => True) (fun A => va_Qi (fun (r : Int32) (_ : Unit) => r = (-1)) (fun (_ : Unit) (t : State) => ∃ na0_0 : Int32, ∃ na0_11 : Int32, ax_B dC dI A [(a0, .inr (8, [Value.int na0_0, a0g_1, a0g_2, a0g_3, a0g_4, a0g_5, a0g_6, a0g_7, a0g_8, a0g_9, a0g_10, Value.int na0_11, a0g_12, a0g_13, Value.int a0_14, a0g_15, a0g_16, a0g_17, a0g_18, a0g_19, a0g_20, a0g_21, a0g_22, a0g_23, a0g_24, a0g_25, a0g_26, a0g_27, a0g_28, a0g_29, a0g_30, a0g_31, a0g_32, a0g_33, a0g_34, a0g_35, a0g_36, a0g_37, a0g_38, a0g_39]))] [] t) A) := by
  refine zh (cc := cX8_judge) (maxL := 2) (ret := (some .int)) zn_RX8 rfl (Nat.le_of_ble_eq_true rfl) (fun p e s m below meth c A ls hx hb hml hr hts (hown : s.vm.findClass RX8 = some m.cls) hlocks hA hS hP hK hD hE (hl : lv_has ls 2 [(0, .ref a0)]) => ?_)
  refine ai_open (fun K hK0 => ?_)
  refine (hK0 _ _ _).mpr ?_
  refine lv_aload_n hx hb dX8_judge_0 rfl (lv_at hl 0 rfl) ?_
  refine va_callv (va_runV (As := []) (rest := []) ⟨hx, hb, hml, hown, hts⟩ (c_X8_good l dC dI s.heap.size a0 a0_0 a0g_1 a0g_2 a0g_3 a0g_4 a0g_5 a0g_6 a0g_7 a0g_8 a0g_9 a0g_10 a0g_12 a0g_13 (Value.int a0_14) a0g_15 a0g_16 a0g_17 a0g_18 a0g_19 a0g_20 a0g_21 a0g_22 a0g_23 a0g_24 a0g_25 a0g_26 a0g_27 a0g_28 a0g_29 a0g_30 a0g_31 a0g_32 a0g_33 a0g_34 a0g_35 a0g_36 a0g_37 a0g_38 a0g_39 a0_11 ) (cwV 0 hts gX8_judge_X8_good rfl rfl rfl zd_X8_good ⟨Nat.le_of_ble_eq_true rfl, Nat.le_of_ble_eq_true rfl⟩) ⟨ax_blind (fun _ _ _ _ _ => trivial), zr_8 (zp_K hK) (zp_P1 hP) (q0 := 0) rfl, ax_pre (zp_P1 hP) (zp_K hK) (zp_D1 hD) (fun _ _ => trivial)⟩ rfl rfl hl.1 rfl (lv_room (Nat.le_of_ble_eq_true rfl)) dX8_judge_1 ⟨Nat.le_of_ble_eq_true rfl, Nat.le_of_ble_eq_true rfl⟩) hS (fun q _ h => zp_F1 hD hS hA q h) (zp_F1 hD hS hA) (fun u t H locs ht hvm hw => zx_2 (fun v1na0_0 v1na0_11 hB hz1 hk1 hS1 => zo1 hB ht hP hD hk1 (zp_F1 hD hS hA) hS1 (fun hP hK1 hD hS => ?_)))
  refine lv_aload_n hx hb dX8_judge_4 rfl (lv_at hl 0 rfl) ?_
  refine va_get (D := (dC, dI)) (ci := 8) (v := .int a0_14) (C := RX8) (T := TX8) (N := 40) hx hb hts zi_X8_judge_8 hown hK hP 0 rfl rfl 14 (by decide) (hts (.fieldLink RX8 173 "WaxTurnsModel" "hasGallery" "Z") (List.mem_cons_of_mem _ (List.mem_append_left _ (List.mem_of_getElem? (i := 0) rfl)))) (fun _ h9 => h9) rfl dX8_judge_5 ?_
  refine lv_if_ne (tgt := 17) hx hb dX8_judge_8 (by decide) (fun c8 => ?_) (fun c8 => ?_)
  · have gc8 := ai_ne c8
    have l8t_a0_14 : (1 : Int) ≤ a0_14.toInt := (by first | exact zg_l ba0_14_l gc8 (by decide) (by decide) | (have h1 := ba0_14_l; have h2 : (0 : Int32).toInt = 0 := (by decide); rw [h2] at gc8; omega))
    have u8t_a0_14 : a0_14.toInt ≤ (-1 : Int) := (by first | exact zg_u ba0_14_u gc8 (by decide) (by decide) | (have h1 := ba0_14_u; have h2 : (0 : Int32).toInt = 0 := (by decide); rw [h2] at gc8; omega))
    exact absurd (Int.le_trans l8t_a0_14 u8t_a0_14) (by decide)
  · have gc8 := ai_eq c8
    have u8f_a0_14 : a0_14.toInt ≤ (0 : Int) := ba0_14_u
    have l8f_a0_14 : (0 : Int) ≤ a0_14.toInt := ba0_14_l
    refine lv_aload_n hx hb dX8_judge_11 rfl (lv_at hl 0 rfl) ?_
    refine lv_iconst (v := 1) hx hb dX8_judge_12 zk_iconst_1 ?_
    refine va_calli (va_runV (As := [.int 1]) (rest := []) ⟨hx, hb, hml, hown, hts⟩ (c_X8_no l dC dI H.size a0 1 (Value.int v1na0_0) a0g_1 a0g_2 a0g_3 a0g_4 a0g_5 a0g_6 a0g_7 a0g_8 a0g_9 a0g_10 a0g_12 a0g_13 (Value.int a0_14) a0g_15 a0g_16 a0g_17 a0g_18 a0g_19 a0g_20 a0g_21 a0g_22 a0g_23 a0g_24 a0g_25 a0g_26 a0g_27 a0g_28 a0g_29 a0g_30 a0g_31 a0g_32 a0g_33 a0g_34 a0g_35 a0g_36 a0g_37 a0g_38 a0g_39 v1na0_11 ) (cwV 1 hts gX8_judge_X8_no rfl rfl rfl zd_X8_no ⟨Nat.le_of_ble_eq_true rfl, Nat.le_of_ble_eq_true rfl⟩) ⟨ax_blind (fun _ _ _ _ _ => trivial), zr_8 (zp_K hK) (zp_P1 hP) (q0 := 0) rfl, ax_pre (zp_P1 hP) (zp_K hK) (zp_D1 hD) (fun _ _ => trivial)⟩ rfl rfl hl.1 rfl (lv_room (Nat.le_of_ble_eq_true rfl)) dX8_judge_13 ⟨Nat.le_of_ble_eq_true rfl, Nat.le_of_ble_eq_true rfl⟩) hS (fun q _ h => zp_F1 hD hS hA q h) (zp_F1 hD hS hA) (fun r13 u t H locs ht hvm hw => zx_1 (fun v13na0_11 hB hz1 hk1 hS1 => zo1 hB ht hP hD hk1 (zp_F1 hD hS hA) hS1 (fun hP hK1 hD hS => ?_)))
    have hw : r13 = (-1) := hw
    have hw := hw.symm
    subst hw
    exact W.iret (v := (-1)) hx hb hr (fun t ht hW => ⟨⟨(-1), (), rfl, rfl, v1na0_0, v13na0_11, by rw [ht]; exact hP, va_K.moved hW.alike hK, hD⟩, hS.F ht⟩) hS.2.2 dX8_judge_16

set_option maxHeartbeats 4000000 in
set_option maxRecDepth 100000 in
theorem c0_X8_rests (l : Launch) (dC : Nat → ClassId) (dI : Nat → Nat → Nat) (sz : Nat) (a0 : Nat) (a1 : Int32) (a0_0 : Int32) (a0g_1 a0g_2 a0g_3 a0g_4 a0g_5 a0g_6 a0g_7 a0g_8 a0g_9 a0g_10 a0g_12 a0g_13 a0g_15 a0g_16 a0g_17 a0g_18 a0g_19 a0g_20 a0g_21 a0g_22 a0g_23 a0g_24 a0g_25 a0g_26 a0g_27 a0g_28 a0g_29 a0g_30 a0g_31 a0g_32 a0g_33 a0g_34 a0g_35 a0g_36 a0g_37 a0g_38 a0g_39 : Value) (a0_11 : Int32) (a0_14 : Int32) (ba0_14_l : (0 : Int) ≤ a0_14.toInt) (ba0_14_u : a0_14.toInt ≤ (0 : Int)) : zm l yX8_rests wsX8_rests ({ frames := 1, cells := 0, slots := 0, locals := 22 }) [.ref a0, .int a1] dC dI sz [(a0, .inr (8, [Value.int a0_0, a0g_1, a0g_2, a0g_3, a0g_4, a0g_5, a0g_6, a0g_7, a0g_8, a0g_9, a0g_10, Value.int a0_11, a0g_12, a0g_13, Value.int a0_14, a0g_15, a0g_16, a0g_17, a0g_18, a0g_19, a0g_20, a0g_21, a0g_22, a0g_23, a0g_24, a0g_25, a0g_26, a0g_27, a0g_28, a0g_29, a0g_30, a0g_31, a0g_32, a0g_33, a0g_34, a0g_35, a0g_36, a0g_37, a0g_38, a0g_39]))] [] (fun A _ => True) (fun A => va_Qi (fun (r : Int32) (_ : Unit) => r = (-1)) (fun (_ : Unit) (t : State) => ∃ na0_0 : Int32, ∃ na0_11 : Int32, ax_B dC dI A [(a0, .inr (8, [Value.int na0_0, a0g_1, a0g_2, a0g_3, a0g_4, a0g_5, a0g_6, a0g_7, a0g_8, a0g_9, a0g_10, Value.int na0_11, a0g_12, a0g_13, Value.int a0_14, a0g_15, a0g_16, a0g_17, a0g_18, a0g_19, a0g_20, a0g_21, a0g_22, a0g_23, a0g_24, a0g_25, a0g_26, a0g_27, a0g_28, a0g_29, a0g_30, a0g_31, a0g_32, a0g_33, a0g_34, a0g_35, a0g_36, a0g_37, a0g_38, a0g_39]))] [] t) A) := by
  refine zh (cc := cX8_rests) (maxL := 3) (ret := (some .int)) zn_RX8 rfl (Nat.le_of_ble_eq_true rfl) (fun p e s m below meth c A ls hx hb hml hr hts (hown : s.vm.findClass RX8 = some m.cls) hlocks hA hS hP hK hD hE (hl : lv_has ls 3 [(0, .ref a0), (1, .int a1)]) => ?_)
  refine lv_aload_n hx hb dX8_rests_0 rfl (lv_at hl 0 rfl) ?_
  refine va_callv (va_runV (As := []) (rest := []) ⟨hx, hb, hml, hown, hts⟩ (c_X8_good l dC dI s.heap.size a0 a0_0 a0g_1 a0g_2 a0g_3 a0g_4 a0g_5 a0g_6 a0g_7 a0g_8 a0g_9 a0g_10 a0g_12 a0g_13 (Value.int a0_14) a0g_15 a0g_16 a0g_17 a0g_18 a0g_19 a0g_20 a0g_21 a0g_22 a0g_23 a0g_24 a0g_25 a0g_26 a0g_27 a0g_28 a0g_29 a0g_30 a0g_31 a0g_32 a0g_33 a0g_34 a0g_35 a0g_36 a0g_37 a0g_38 a0g_39 a0_11 ) (cwV 0 hts gX8_rests_X8_good rfl rfl rfl zd_X8_good ⟨Nat.le_of_ble_eq_true rfl, Nat.le_of_ble_eq_true rfl⟩) ⟨ax_blind (fun _ _ _ _ _ => trivial), zr_8 (zp_K hK) (zp_P1 hP) (q0 := 0) rfl, ax_pre (zp_P1 hP) (zp_K hK) (zp_D1 hD) (fun _ _ => trivial)⟩ rfl rfl hl.1 rfl (lv_room (Nat.le_of_ble_eq_true rfl)) dX8_rests_1 ⟨Nat.le_of_ble_eq_true rfl, Nat.le_of_ble_eq_true rfl⟩) hS (fun q _ h => zp_F1 hD hS hA q h) (zp_F1 hD hS hA) (fun u t H locs ht hvm hw => zx_2 (fun v1na0_0 v1na0_11 hB hz1 hk1 hS1 => zo1 hB ht hP hD hk1 (zp_F1 hD hS hA) hS1 (fun hP hK1 hD hS => ?_)))
  refine lv_aload_n hx hb dX8_rests_4 rfl (lv_at hl 0 rfl) ?_
  refine lv_aload_n hx hb dX8_rests_5 rfl (lv_at hl 0 rfl) ?_
  refine va_get (D := (dC, dI)) (ci := 8) (v := .int a0_14) (C := RX8) (T := TX8) (N := 40) hx hb hts zi_X8_rests_8 hown hK hP 0 rfl rfl 14 (by decide) (hts (.fieldLink RX8 173 "WaxTurnsModel" "hasGallery" "Z") (zm_X8_rests_r1 (List.mem_of_getElem? (i := 0) rfl))) (fun _ h9 => h9) rfl dX8_rests_6 ?_
  refine lv_iload_n hx hb dX8_rests_9 rfl (lv_at hl 1 rfl) ?_
  refine lv_iconst (v := 0) hx hb dX8_rests_10 zk_iconst_0 ?_
  refine lv_bipush (v := 9) hx hb dX8_rests_11 zk_bipush_9 ?_
  refine va_calli (va_runS (As := [.int a1, .int 0, .int 9]) (rest := [.int a0_14, .ref a0]) ⟨hx, hb, hml, hown, hts⟩ (c_X8_in l dC dI H.size a1 0 9 ) (va_cwS 3 hts gX8_rests_X8_in rfl rfl rfl zd_X8_in.2 ⟨Nat.le_of_ble_eq_true rfl, Nat.le_of_ble_eq_true rfl⟩) ⟨ax_blind (fun _ _ _ _ _ => trivial), ax_pre (zp_P0 hP) (zp_K hK) (zp_D0 hD) (fun _ _ => trivial)⟩ rfl rfl hl.1 rfl (lv_room (Nat.le_of_ble_eq_true rfl)) dX8_rests_13 ⟨Nat.le_of_ble_eq_true rfl, Nat.le_of_ble_eq_true rfl⟩) hS (fun q _ h => zp_F0 hD hS hA q h) (zp_F0 hD hS hA) (fun r13 u t H locs ht hvm hw hB hz1 hk1 hS1 => zo0 hB ht hP hD hk1 (zp_F0 hD hS hA) hS1 (fun hP hK1 hD hS => ?_))
  rcases hw with hw | hw
  · obtain ⟨hw, h13⟩ := hw
    subst hw
    have l13k0_a1 : (0 : Int) ≤ a1.toInt := Int.le_trans zq5 h13.1
    have u13k0_a1 : a1.toInt ≤ (9 : Int) := Int.le_trans h13.2 zq3
    refine va_calli (va_runV (As := [.int a0_14, .int 1]) (rest := []) ⟨hx, hb, hml, hown, hts⟩ (c_X8_whyB l dC dI H.size a0 a0_14 1 (Value.int v1na0_0) a0g_1 a0g_2 a0g_3 a0g_4 a0g_5 a0g_6 a0g_7 a0g_8 a0g_9 a0g_10 (Value.int v1na0_11) a0g_12 a0g_13 (Value.int a0_14) a0g_15 a0g_16 a0g_17 a0g_18 a0g_19 a0g_20 a0g_21 a0g_22 a0g_23 a0g_24 a0g_25 a0g_26 a0g_27 a0g_28 a0g_29 a0g_30 a0g_31 a0g_32 a0g_33 a0g_34 a0g_35 a0g_36 a0g_37 a0g_38 a0g_39 ba0_14_l (Int.le_trans ba0_14_u zq4) (Int.le_trans zq4 zq1) zq0) (cwV 2 hts gX8_rests_X8_why rfl rfl rfl zd_X8_why ⟨Nat.le_of_ble_eq_true rfl, Nat.le_of_ble_eq_true rfl⟩) ⟨ax_blind (fun _ _ _ _ _ => trivial), zr_8 (zp_K hK) (zp_P1 hP) (q0 := 0) rfl, ax_pre (zp_P1 hP) (zp_K hK) (zp_D1 hD) (fun _ _ => trivial)⟩ rfl rfl hl.1 rfl (lv_room (Nat.le_of_ble_eq_true rfl)) dX8_rests_16 ⟨Nat.le_of_ble_eq_true rfl, Nat.le_of_ble_eq_true rfl⟩) hS (fun q _ h => zp_F1 hD hS hA q h) (zp_F1 hD hS hA) (fun r16 u t H locs ht hvm hw hB hz1 hk1 hS1 => zo1 hB ht hP hD hk1 (zp_F1 hD hS hA) hS1 (fun hP hK1 hD hS => ?_))
    rcases hw with hw | hw | hw
    · obtain ⟨hw, h16_0, h16_1, h16_2, h16_3⟩ := hw
      subst hw
      have l16k0_a0_14 : (1 : Int) ≤ a0_14.toInt := h16_0
      have u16k0_a0_14 : a0_14.toInt ≤ (0 : Int) := ba0_14_u
      exact absurd (Int.le_trans l16k0_a0_14 u16k0_a0_14) (by decide)
    · obtain ⟨hw, h16_0, h16_1⟩ := hw
      subst hw
      have l16k1_a0_14 : (0 : Int) ≤ a0_14.toInt := ba0_14_l
      have u16k1_a0_14 : a0_14.toInt ≤ (0 : Int) := ba0_14_u
      refine lv_istore_n (lv' := [(2, .int 1), (0, .ref a0), (1, .int a1)]) hx hb dX8_rests_19 rfl hl (by decide) rfl (fun ls hl => ?_)
      refine lv_iload_n hx hb dX8_rests_20 rfl (lv_at hl 0 rfl) ?_
      refine lv_if_eq (tgt := 32) hx hb dX8_rests_21 (by decide) (fun c21 => absurd c21 (by decide +kernel)) (fun _ => ?_)
      refine lv_aload_n hx hb dX8_rests_24 rfl (lv_at hl 1 rfl) ?_
      refine lv_iload_n hx hb dX8_rests_25 rfl (lv_at hl 0 rfl) ?_
      refine va_calli (va_runV (As := [.int 1]) (rest := []) ⟨hx, hb, hml, hown, hts⟩ (c_X8_no l dC dI H.size a0 1 (Value.int v1na0_0) a0g_1 a0g_2 a0g_3 a0g_4 a0g_5 a0g_6 a0g_7 a0g_8 a0g_9 a0g_10 a0g_12 a0g_13 (Value.int a0_14) a0g_15 a0g_16 a0g_17 a0g_18 a0g_19 a0g_20 a0g_21 a0g_22 a0g_23 a0g_24 a0g_25 a0g_26 a0g_27 a0g_28 a0g_29 a0g_30 a0g_31 a0g_32 a0g_33 a0g_34 a0g_35 a0g_36 a0g_37 a0g_38 a0g_39 v1na0_11 ) (cwV 1 hts gX8_rests_X8_no rfl rfl rfl zd_X8_no ⟨Nat.le_of_ble_eq_true rfl, Nat.le_of_ble_eq_true rfl⟩) ⟨ax_blind (fun _ _ _ _ _ => trivial), zr_8 (zp_K hK) (zp_P1 hP) (q0 := 0) rfl, ax_pre (zp_P1 hP) (zp_K hK) (zp_D1 hD) (fun _ _ => trivial)⟩ rfl rfl hl.1 rfl (lv_room (Nat.le_of_ble_eq_true rfl)) dX8_rests_26 ⟨Nat.le_of_ble_eq_true rfl, Nat.le_of_ble_eq_true rfl⟩) hS (fun q _ h => zp_F1 hD hS hA q h) (zp_F1 hD hS hA) (fun r26 u t H locs ht hvm hw => zx_1 (fun v26na0_11 hB hz1 hk1 hS1 => zo1 hB ht hP hD hk1 (zp_F1 hD hS hA) hS1 (fun hP hK1 hD hS => ?_)))
      have hw : r26 = (-1) := hw
      have hw := hw.symm
      subst hw
      refine lv_goto (tgt := 37) hx hb dX8_rests_29 (by decide) ?_
      exact W.iret (v := (-1)) hx hb hr (fun t ht hW => ⟨⟨(-1), (), rfl, rfl, v1na0_0, v26na0_11, by rw [ht]; exact hP, va_K.moved hW.alike hK, hD⟩, hS.F ht⟩) hS.2.2 dX8_rests_37
    · obtain ⟨hw, h16_0, h16_1, h16_2, h16_3⟩ := hw
      subst hw
      have l16k2_a0_14 : (1 : Int) ≤ a0_14.toInt := h16_0
      have u16k2_a0_14 : a0_14.toInt ≤ (0 : Int) := ba0_14_u
      exact absurd (Int.le_trans l16k2_a0_14 u16k2_a0_14) (by decide)
  · obtain ⟨hw, h13⟩ := hw
    subst hw
    refine va_calli (va_runV (As := [.int a0_14, .int 0]) (rest := []) ⟨hx, hb, hml, hown, hts⟩ (c_X8_whyB l dC dI H.size a0 a0_14 0 (Value.int v1na0_0) a0g_1 a0g_2 a0g_3 a0g_4 a0g_5 a0g_6 a0g_7 a0g_8 a0g_9 a0g_10 (Value.int v1na0_11) a0g_12 a0g_13 (Value.int a0_14) a0g_15 a0g_16 a0g_17 a0g_18 a0g_19 a0g_20 a0g_21 a0g_22 a0g_23 a0g_24 a0g_25 a0g_26 a0g_27 a0g_28 a0g_29 a0g_30 a0g_31 a0g_32 a0g_33 a0g_34 a0g_35 a0g_36 a0g_37 a0g_38 a0g_39 ba0_14_l (Int.le_trans ba0_14_u zq4) zq5 (Int.le_trans zq6 zq4)) (cwV 2 hts gX8_rests_X8_why rfl rfl rfl zd_X8_why ⟨Nat.le_of_ble_eq_true rfl, Nat.le_of_ble_eq_true rfl⟩) ⟨ax_blind (fun _ _ _ _ _ => trivial), zr_8 (zp_K hK) (zp_P1 hP) (q0 := 0) rfl, ax_pre (zp_P1 hP) (zp_K hK) (zp_D1 hD) (fun _ _ => trivial)⟩ rfl rfl hl.1 rfl (lv_room (Nat.le_of_ble_eq_true rfl)) dX8_rests_16 ⟨Nat.le_of_ble_eq_true rfl, Nat.le_of_ble_eq_true rfl⟩) hS (fun q _ h => zp_F1 hD hS hA q h) (zp_F1 hD hS hA) (fun r16 u t H locs ht hvm hw hB hz1 hk1 hS1 => zo1 hB ht hP hD hk1 (zp_F1 hD hS hA) hS1 (fun hP hK1 hD hS => ?_))
    rcases hw with hw | hw | hw
    · obtain ⟨hw, h16_0, h16_1, h16_2, h16_3⟩ := hw
      subst hw
      have l16k0_a0_14 : (1 : Int) ≤ a0_14.toInt := h16_0
      have u16k0_a0_14 : a0_14.toInt ≤ (0 : Int) := ba0_14_u
      exact absurd (Int.le_trans l16k0_a0_14 u16k0_a0_14) (by decide)
    · obtain ⟨hw, h16_0, h16_1⟩ := hw
      subst hw
      have l16k1_a0_14 : (0 : Int) ≤ a0_14.toInt := ba0_14_l
      have u16k1_a0_14 : a0_14.toInt ≤ (0 : Int) := ba0_14_u
      refine lv_istore_n (lv' := [(2, .int 1), (0, .ref a0), (1, .int a1)]) hx hb dX8_rests_19 rfl hl (by decide) rfl (fun ls hl => ?_)
      refine lv_iload_n hx hb dX8_rests_20 rfl (lv_at hl 0 rfl) ?_
      refine lv_if_eq (tgt := 32) hx hb dX8_rests_21 (by decide) (fun c21 => absurd c21 (by decide +kernel)) (fun _ => ?_)
      refine lv_aload_n hx hb dX8_rests_24 rfl (lv_at hl 1 rfl) ?_
      refine lv_iload_n hx hb dX8_rests_25 rfl (lv_at hl 0 rfl) ?_
      refine va_calli (va_runV (As := [.int 1]) (rest := []) ⟨hx, hb, hml, hown, hts⟩ (c_X8_no l dC dI H.size a0 1 (Value.int v1na0_0) a0g_1 a0g_2 a0g_3 a0g_4 a0g_5 a0g_6 a0g_7 a0g_8 a0g_9 a0g_10 a0g_12 a0g_13 (Value.int a0_14) a0g_15 a0g_16 a0g_17 a0g_18 a0g_19 a0g_20 a0g_21 a0g_22 a0g_23 a0g_24 a0g_25 a0g_26 a0g_27 a0g_28 a0g_29 a0g_30 a0g_31 a0g_32 a0g_33 a0g_34 a0g_35 a0g_36 a0g_37 a0g_38 a0g_39 v1na0_11 ) (cwV 1 hts gX8_rests_X8_no rfl rfl rfl zd_X8_no ⟨Nat.le_of_ble_eq_true rfl, Nat.le_of_ble_eq_true rfl⟩) ⟨ax_blind (fun _ _ _ _ _ => trivial), zr_8 (zp_K hK) (zp_P1 hP) (q0 := 0) rfl, ax_pre (zp_P1 hP) (zp_K hK) (zp_D1 hD) (fun _ _ => trivial)⟩ rfl rfl hl.1 rfl (lv_room (Nat.le_of_ble_eq_true rfl)) dX8_rests_26 ⟨Nat.le_of_ble_eq_true rfl, Nat.le_of_ble_eq_true rfl⟩) hS (fun q _ h => zp_F1 hD hS hA q h) (zp_F1 hD hS hA) (fun r26 u t H locs ht hvm hw => zx_1 (fun v26na0_11 hB hz1 hk1 hS1 => zo1 hB ht hP hD hk1 (zp_F1 hD hS hA) hS1 (fun hP hK1 hD hS => ?_)))
      have hw : r26 = (-1) := hw
      have hw := hw.symm
      subst hw
      refine lv_goto (tgt := 37) hx hb dX8_rests_29 (by decide) ?_
      exact W.iret (v := (-1)) hx hb hr (fun t ht hW => ⟨⟨(-1), (), rfl, rfl, v1na0_0, v26na0_11, by rw [ht]; exact hP, va_K.moved hW.alike hK, hD⟩, hS.F ht⟩) hS.2.2 dX8_rests_37
    · obtain ⟨hw, h16_0, h16_1, h16_2, h16_3⟩ := hw
      subst hw
      have l16k2_a0_14 : (1 : Int) ≤ a0_14.toInt := h16_0
      have u16k2_a0_14 : a0_14.toInt ≤ (0 : Int) := ba0_14_u
      exact absurd (Int.le_trans l16k2_a0_14 u16k2_a0_14) (by decide)

set_option maxHeartbeats 4000000 in
set_option maxRecDepth 100000 in
theorem c0_X8_rest (l : Launch) (dC : Nat → ClassId) (dI : Nat → Nat → Nat) (sz : Nat) (a0 : Nat) (a1 : Int32) (a0_0 : Int32) (a0g_1 a0g_2 a0g_3 a0g_4 a0g_5 a0g_6 a0g_7 a0g_8 a0g_9 a0g_10 a0g_12 a0g_13 a0g_15 a0g_16 a0g_17 a0g_18 a0g_19 a0g_20 a0g_21 a0g_22 a0g_23 a0g_24 a0g_25 a0g_26 a0g_27 a0g_28 a0g_29 a0g_30 a0g_31 a0g_32 a0g_33 a0g_34 a0g_35 a0g_36 a0g_37 a0g_38 a0g_39 : Value) (a0_11 : Int32) (a0_14 : Int32) (ba0_14_l : (0 : Int) ≤ a0_14.toInt) (ba0_14_u : a0_14.toInt ≤ (0 : Int)) : zm l yX8_rest wsX8_rest ({ frames := 1, cells := 0, slots := 0, locals := 22 }) [.ref a0, .int a1] dC dI sz [(a0, .inr (8, [Value.int a0_0, a0g_1, a0g_2, a0g_3, a0g_4, a0g_5, a0g_6, a0g_7, a0g_8, a0g_9, a0g_10, Value.int a0_11, a0g_12, a0g_13, Value.int a0_14, a0g_15, a0g_16, a0g_17, a0g_18, a0g_19, a0g_20, a0g_21, a0g_22, a0g_23, a0g_24, a0g_25, a0g_26, a0g_27, a0g_28, a0g_29, a0g_30, a0g_31, a0g_32, a0g_33, a0g_34, a0g_35, a0g_36, a0g_37, a0g_38, a0g_39]))] [] (fun A _ => True) (fun A => va_Qi (fun (r : Int32) (_ : Unit) => r = (-1)) (fun (_ : Unit) (t : State) => ∃ na0_0 : Int32, ∃ na0_11 : Int32, ax_B dC dI A [(a0, .inr (8, [Value.int na0_0, a0g_1, a0g_2, a0g_3, a0g_4, a0g_5, a0g_6, a0g_7, a0g_8, a0g_9, a0g_10, Value.int na0_11, a0g_12, a0g_13, Value.int a0_14, a0g_15, a0g_16, a0g_17, a0g_18, a0g_19, a0g_20, a0g_21, a0g_22, a0g_23, a0g_24, a0g_25, a0g_26, a0g_27, a0g_28, a0g_29, a0g_30, a0g_31, a0g_32, a0g_33, a0g_34, a0g_35, a0g_36, a0g_37, a0g_38, a0g_39]))] [] t) A) := by
  refine zh (cc := cX8_rest) (maxL := 3) (ret := (some .int)) zn_RX8 rfl (Nat.le_of_ble_eq_true rfl) (fun p e s m below meth c A ls hx hb hml hr hts (hown : s.vm.findClass RX8 = some m.cls) hlocks hA hS hP hK hD hE (hl : lv_has ls 3 [(0, .ref a0), (1, .int a1)]) => ?_)
  refine lv_aload_n hx hb dX8_rest_0 rfl (lv_at hl 0 rfl) ?_
  refine va_callv (va_runV (As := []) (rest := []) ⟨hx, hb, hml, hown, hts⟩ (c_X8_good l dC dI s.heap.size a0 a0_0 a0g_1 a0g_2 a0g_3 a0g_4 a0g_5 a0g_6 a0g_7 a0g_8 a0g_9 a0g_10 a0g_12 a0g_13 (Value.int a0_14) a0g_15 a0g_16 a0g_17 a0g_18 a0g_19 a0g_20 a0g_21 a0g_22 a0g_23 a0g_24 a0g_25 a0g_26 a0g_27 a0g_28 a0g_29 a0g_30 a0g_31 a0g_32 a0g_33 a0g_34 a0g_35 a0g_36 a0g_37 a0g_38 a0g_39 a0_11 ) (cwV 0 hts gX8_rest_X8_good rfl rfl rfl zd_X8_good ⟨Nat.le_of_ble_eq_true rfl, Nat.le_of_ble_eq_true rfl⟩) ⟨ax_blind (fun _ _ _ _ _ => trivial), zr_8 (zp_K hK) (zp_P1 hP) (q0 := 0) rfl, ax_pre (zp_P1 hP) (zp_K hK) (zp_D1 hD) (fun _ _ => trivial)⟩ rfl rfl hl.1 rfl (lv_room (Nat.le_of_ble_eq_true rfl)) dX8_rest_1 ⟨Nat.le_of_ble_eq_true rfl, Nat.le_of_ble_eq_true rfl⟩) hS (fun q _ h => zp_F1 hD hS hA q h) (zp_F1 hD hS hA) (fun u t H locs ht hvm hw => zx_2 (fun v1na0_0 v1na0_11 hB hz1 hk1 hS1 => zo1 hB ht hP hD hk1 (zp_F1 hD hS hA) hS1 (fun hP hK1 hD hS => ?_)))
  refine lv_aload_n hx hb dX8_rest_4 rfl (lv_at hl 0 rfl) ?_
  refine lv_aload_n hx hb dX8_rest_5 rfl (lv_at hl 0 rfl) ?_
  refine va_get (D := (dC, dI)) (ci := 8) (v := .int a0_14) (C := RX8) (T := TX8) (N := 40) hx hb hts zi_X8_rest_8 hown hK hP 0 rfl rfl 14 (by decide) (hts (.fieldLink RX8 173 "WaxTurnsModel" "hasGallery" "Z") (zm_X8_rest_r1 (List.mem_of_getElem? (i := 0) rfl))) (fun _ h9 => h9) rfl dX8_rest_6 ?_
  refine lv_iload_n hx hb dX8_rest_9 rfl (lv_at hl 1 rfl) ?_
  refine lv_iconst (v := 0) hx hb dX8_rest_10 zk_iconst_0 ?_
  refine lv_bipush (v := 9) hx hb dX8_rest_11 zk_bipush_9 ?_
  refine va_calli (va_runS (As := [.int a1, .int 0, .int 9]) (rest := [.int a0_14, .ref a0]) ⟨hx, hb, hml, hown, hts⟩ (c_X8_in l dC dI H.size a1 0 9 ) (va_cwS 3 hts gX8_rest_X8_in rfl rfl rfl zd_X8_in.2 ⟨Nat.le_of_ble_eq_true rfl, Nat.le_of_ble_eq_true rfl⟩) ⟨ax_blind (fun _ _ _ _ _ => trivial), ax_pre (zp_P0 hP) (zp_K hK) (zp_D0 hD) (fun _ _ => trivial)⟩ rfl rfl hl.1 rfl (lv_room (Nat.le_of_ble_eq_true rfl)) dX8_rest_13 ⟨Nat.le_of_ble_eq_true rfl, Nat.le_of_ble_eq_true rfl⟩) hS (fun q _ h => zp_F0 hD hS hA q h) (zp_F0 hD hS hA) (fun r13 u t H locs ht hvm hw hB hz1 hk1 hS1 => zo0 hB ht hP hD hk1 (zp_F0 hD hS hA) hS1 (fun hP hK1 hD hS => ?_))
  rcases hw with hw | hw
  · obtain ⟨hw, h13⟩ := hw
    subst hw
    have l13k0_a1 : (0 : Int) ≤ a1.toInt := Int.le_trans zq5 h13.1
    have u13k0_a1 : a1.toInt ≤ (9 : Int) := Int.le_trans h13.2 zq3
    refine va_calli (va_runV (As := [.int a0_14, .int 1]) (rest := []) ⟨hx, hb, hml, hown, hts⟩ (c_X8_whyB l dC dI H.size a0 a0_14 1 (Value.int v1na0_0) a0g_1 a0g_2 a0g_3 a0g_4 a0g_5 a0g_6 a0g_7 a0g_8 a0g_9 a0g_10 (Value.int v1na0_11) a0g_12 a0g_13 (Value.int a0_14) a0g_15 a0g_16 a0g_17 a0g_18 a0g_19 a0g_20 a0g_21 a0g_22 a0g_23 a0g_24 a0g_25 a0g_26 a0g_27 a0g_28 a0g_29 a0g_30 a0g_31 a0g_32 a0g_33 a0g_34 a0g_35 a0g_36 a0g_37 a0g_38 a0g_39 ba0_14_l (Int.le_trans ba0_14_u zq4) (Int.le_trans zq4 zq1) zq0) (cwV 2 hts gX8_rest_X8_why rfl rfl rfl zd_X8_why ⟨Nat.le_of_ble_eq_true rfl, Nat.le_of_ble_eq_true rfl⟩) ⟨ax_blind (fun _ _ _ _ _ => trivial), zr_8 (zp_K hK) (zp_P1 hP) (q0 := 0) rfl, ax_pre (zp_P1 hP) (zp_K hK) (zp_D1 hD) (fun _ _ => trivial)⟩ rfl rfl hl.1 rfl (lv_room (Nat.le_of_ble_eq_true rfl)) dX8_rest_16 ⟨Nat.le_of_ble_eq_true rfl, Nat.le_of_ble_eq_true rfl⟩) hS (fun q _ h => zp_F1 hD hS hA q h) (zp_F1 hD hS hA) (fun r16 u t H locs ht hvm hw hB hz1 hk1 hS1 => zo1 hB ht hP hD hk1 (zp_F1 hD hS hA) hS1 (fun hP hK1 hD hS => ?_))
    rcases hw with hw | hw | hw
    · obtain ⟨hw, h16_0, h16_1, h16_2, h16_3⟩ := hw
      subst hw
      have l16k0_a0_14 : (1 : Int) ≤ a0_14.toInt := h16_0
      have u16k0_a0_14 : a0_14.toInt ≤ (0 : Int) := ba0_14_u
      exact absurd (Int.le_trans l16k0_a0_14 u16k0_a0_14) (by decide)
    · obtain ⟨hw, h16_0, h16_1⟩ := hw
      subst hw
      have l16k1_a0_14 : (0 : Int) ≤ a0_14.toInt := ba0_14_l
      have u16k1_a0_14 : a0_14.toInt ≤ (0 : Int) := ba0_14_u
      refine lv_istore_n (lv' := [(2, .int 1), (0, .ref a0), (1, .int a1)]) hx hb dX8_rest_19 rfl hl (by decide) rfl (fun ls hl => ?_)
      refine lv_iload_n hx hb dX8_rest_20 rfl (lv_at hl 0 rfl) ?_
      refine lv_if_eq (tgt := 30) hx hb dX8_rest_21 (by decide) (fun c21 => absurd c21 (by decide +kernel)) (fun _ => ?_)
      refine lv_aload_n hx hb dX8_rest_24 rfl (lv_at hl 1 rfl) ?_
      refine lv_iload_n hx hb dX8_rest_25 rfl (lv_at hl 0 rfl) ?_
      refine va_calli (va_runV (As := [.int 1]) (rest := []) ⟨hx, hb, hml, hown, hts⟩ (c_X8_no l dC dI H.size a0 1 (Value.int v1na0_0) a0g_1 a0g_2 a0g_3 a0g_4 a0g_5 a0g_6 a0g_7 a0g_8 a0g_9 a0g_10 a0g_12 a0g_13 (Value.int a0_14) a0g_15 a0g_16 a0g_17 a0g_18 a0g_19 a0g_20 a0g_21 a0g_22 a0g_23 a0g_24 a0g_25 a0g_26 a0g_27 a0g_28 a0g_29 a0g_30 a0g_31 a0g_32 a0g_33 a0g_34 a0g_35 a0g_36 a0g_37 a0g_38 a0g_39 v1na0_11 ) (cwV 1 hts gX8_rest_X8_no rfl rfl rfl zd_X8_no ⟨Nat.le_of_ble_eq_true rfl, Nat.le_of_ble_eq_true rfl⟩) ⟨ax_blind (fun _ _ _ _ _ => trivial), zr_8 (zp_K hK) (zp_P1 hP) (q0 := 0) rfl, ax_pre (zp_P1 hP) (zp_K hK) (zp_D1 hD) (fun _ _ => trivial)⟩ rfl rfl hl.1 rfl (lv_room (Nat.le_of_ble_eq_true rfl)) dX8_rest_26 ⟨Nat.le_of_ble_eq_true rfl, Nat.le_of_ble_eq_true rfl⟩) hS (fun q _ h => zp_F1 hD hS hA q h) (zp_F1 hD hS hA) (fun r26 u t H locs ht hvm hw => zx_1 (fun v26na0_11 hB hz1 hk1 hS1 => zo1 hB ht hP hD hk1 (zp_F1 hD hS hA) hS1 (fun hP hK1 hD hS => ?_)))
      have hw : r26 = (-1) := hw
      have hw := hw.symm
      subst hw
      exact W.iret (v := (-1)) hx hb hr (fun t ht hW => ⟨⟨(-1), (), rfl, rfl, v1na0_0, v26na0_11, by rw [ht]; exact hP, va_K.moved hW.alike hK, hD⟩, hS.F ht⟩) hS.2.2 dX8_rest_29
    · obtain ⟨hw, h16_0, h16_1, h16_2, h16_3⟩ := hw
      subst hw
      have l16k2_a0_14 : (1 : Int) ≤ a0_14.toInt := h16_0
      have u16k2_a0_14 : a0_14.toInt ≤ (0 : Int) := ba0_14_u
      exact absurd (Int.le_trans l16k2_a0_14 u16k2_a0_14) (by decide)
  · obtain ⟨hw, h13⟩ := hw
    subst hw
    refine va_calli (va_runV (As := [.int a0_14, .int 0]) (rest := []) ⟨hx, hb, hml, hown, hts⟩ (c_X8_whyB l dC dI H.size a0 a0_14 0 (Value.int v1na0_0) a0g_1 a0g_2 a0g_3 a0g_4 a0g_5 a0g_6 a0g_7 a0g_8 a0g_9 a0g_10 (Value.int v1na0_11) a0g_12 a0g_13 (Value.int a0_14) a0g_15 a0g_16 a0g_17 a0g_18 a0g_19 a0g_20 a0g_21 a0g_22 a0g_23 a0g_24 a0g_25 a0g_26 a0g_27 a0g_28 a0g_29 a0g_30 a0g_31 a0g_32 a0g_33 a0g_34 a0g_35 a0g_36 a0g_37 a0g_38 a0g_39 ba0_14_l (Int.le_trans ba0_14_u zq4) zq5 (Int.le_trans zq6 zq4)) (cwV 2 hts gX8_rest_X8_why rfl rfl rfl zd_X8_why ⟨Nat.le_of_ble_eq_true rfl, Nat.le_of_ble_eq_true rfl⟩) ⟨ax_blind (fun _ _ _ _ _ => trivial), zr_8 (zp_K hK) (zp_P1 hP) (q0 := 0) rfl, ax_pre (zp_P1 hP) (zp_K hK) (zp_D1 hD) (fun _ _ => trivial)⟩ rfl rfl hl.1 rfl (lv_room (Nat.le_of_ble_eq_true rfl)) dX8_rest_16 ⟨Nat.le_of_ble_eq_true rfl, Nat.le_of_ble_eq_true rfl⟩) hS (fun q _ h => zp_F1 hD hS hA q h) (zp_F1 hD hS hA) (fun r16 u t H locs ht hvm hw hB hz1 hk1 hS1 => zo1 hB ht hP hD hk1 (zp_F1 hD hS hA) hS1 (fun hP hK1 hD hS => ?_))
    rcases hw with hw | hw | hw
    · obtain ⟨hw, h16_0, h16_1, h16_2, h16_3⟩ := hw
      subst hw
      have l16k0_a0_14 : (1 : Int) ≤ a0_14.toInt := h16_0
      have u16k0_a0_14 : a0_14.toInt ≤ (0 : Int) := ba0_14_u
      exact absurd (Int.le_trans l16k0_a0_14 u16k0_a0_14) (by decide)
    · obtain ⟨hw, h16_0, h16_1⟩ := hw
      subst hw
      have l16k1_a0_14 : (0 : Int) ≤ a0_14.toInt := ba0_14_l
      have u16k1_a0_14 : a0_14.toInt ≤ (0 : Int) := ba0_14_u
      refine lv_istore_n (lv' := [(2, .int 1), (0, .ref a0), (1, .int a1)]) hx hb dX8_rest_19 rfl hl (by decide) rfl (fun ls hl => ?_)
      refine lv_iload_n hx hb dX8_rest_20 rfl (lv_at hl 0 rfl) ?_
      refine lv_if_eq (tgt := 30) hx hb dX8_rest_21 (by decide) (fun c21 => absurd c21 (by decide +kernel)) (fun _ => ?_)
      refine lv_aload_n hx hb dX8_rest_24 rfl (lv_at hl 1 rfl) ?_
      refine lv_iload_n hx hb dX8_rest_25 rfl (lv_at hl 0 rfl) ?_
      refine va_calli (va_runV (As := [.int 1]) (rest := []) ⟨hx, hb, hml, hown, hts⟩ (c_X8_no l dC dI H.size a0 1 (Value.int v1na0_0) a0g_1 a0g_2 a0g_3 a0g_4 a0g_5 a0g_6 a0g_7 a0g_8 a0g_9 a0g_10 a0g_12 a0g_13 (Value.int a0_14) a0g_15 a0g_16 a0g_17 a0g_18 a0g_19 a0g_20 a0g_21 a0g_22 a0g_23 a0g_24 a0g_25 a0g_26 a0g_27 a0g_28 a0g_29 a0g_30 a0g_31 a0g_32 a0g_33 a0g_34 a0g_35 a0g_36 a0g_37 a0g_38 a0g_39 v1na0_11 ) (cwV 1 hts gX8_rest_X8_no rfl rfl rfl zd_X8_no ⟨Nat.le_of_ble_eq_true rfl, Nat.le_of_ble_eq_true rfl⟩) ⟨ax_blind (fun _ _ _ _ _ => trivial), zr_8 (zp_K hK) (zp_P1 hP) (q0 := 0) rfl, ax_pre (zp_P1 hP) (zp_K hK) (zp_D1 hD) (fun _ _ => trivial)⟩ rfl rfl hl.1 rfl (lv_room (Nat.le_of_ble_eq_true rfl)) dX8_rest_26 ⟨Nat.le_of_ble_eq_true rfl, Nat.le_of_ble_eq_true rfl⟩) hS (fun q _ h => zp_F1 hD hS hA q h) (zp_F1 hD hS hA) (fun r26 u t H locs ht hvm hw => zx_1 (fun v26na0_11 hB hz1 hk1 hS1 => zo1 hB ht hP hD hk1 (zp_F1 hD hS hA) hS1 (fun hP hK1 hD hS => ?_)))
      have hw : r26 = (-1) := hw
      have hw := hw.symm
      subst hw
      exact W.iret (v := (-1)) hx hb hr (fun t ht hW => ⟨⟨(-1), (), rfl, rfl, v1na0_0, v26na0_11, by rw [ht]; exact hP, va_K.moved hW.alike hK, hD⟩, hS.F ht⟩) hS.2.2 dX8_rest_29
    · obtain ⟨hw, h16_0, h16_1, h16_2, h16_3⟩ := hw
      subst hw
      have l16k2_a0_14 : (1 : Int) ≤ a0_14.toInt := h16_0
      have u16k2_a0_14 : a0_14.toInt ≤ (0 : Int) := ba0_14_u
      exact absurd (Int.le_trans l16k2_a0_14 u16k2_a0_14) (by decide)

set_option maxHeartbeats 4000000 in
set_option maxRecDepth 100000 in
theorem c0_X8_drawn (l : Launch) (dC : Nat → ClassId) (dI : Nat → Nat → Nat) (sz : Nat) (a0 : Nat) (a1 : Int32) (a2 : Int32) (a3 : Int32) (a0_0 : Int32) (a0g_1 a0g_2 a0g_3 a0g_4 a0g_5 a0g_6 a0g_7 a0g_8 a0g_9 a0g_10 a0g_12 a0g_13 a0g_15 a0g_16 a0g_17 a0g_18 a0g_19 a0g_20 a0g_21 a0g_22 a0g_23 a0g_24 a0g_25 a0g_26 a0g_27 a0g_28 a0g_29 a0g_30 a0g_31 a0g_32 a0g_33 a0g_34 a0g_35 a0g_36 a0g_37 a0g_38 a0g_39 : Value) (a0_11 : Int32) (a0_14 : Int32) (ba0_14_l : (0 : Int) ≤ a0_14.toInt) (ba0_14_u : a0_14.toInt ≤ (0 : Int)) : zm l yX8_drawn wsX8_drawn ({ frames := 2, cells := 0, slots := 0, locals := 50 }) [.ref a0, .int a1, .int a2, .int a3] dC dI sz [(a0, .inr (8, [Value.int a0_0, a0g_1, a0g_2, a0g_3, a0g_4, a0g_5, a0g_6, a0g_7, a0g_8, a0g_9, a0g_10, Value.int a0_11, a0g_12, a0g_13, Value.int a0_14, a0g_15, a0g_16, a0g_17, a0g_18, a0g_19, a0g_20, a0g_21, a0g_22, a0g_23, a0g_24, a0g_25, a0g_26, a0g_27, a0g_28, a0g_29, a0g_30, a0g_31, a0g_32, a0g_33, a0g_34, a0g_35, a0g_36, a0g_37, a0g_38, a0g_39]))] [] (fun A _ => True) (fun A => va_Qi (fun (r : Int32) (_ : Unit) => r = (-1)) (fun (_ : Unit) (t : State) => ∃ na0_0 : Int32, ∃ na0_11 : Int32, ax_B dC dI A [(a0, .inr (8, [Value.int na0_0, a0g_1, a0g_2, a0g_3, a0g_4, a0g_5, a0g_6, a0g_7, a0g_8, a0g_9, a0g_10, Value.int na0_11, a0g_12, a0g_13, Value.int a0_14, a0g_15, a0g_16, a0g_17, a0g_18, a0g_19, a0g_20, a0g_21, a0g_22, a0g_23, a0g_24, a0g_25, a0g_26, a0g_27, a0g_28, a0g_29, a0g_30, a0g_31, a0g_32, a0g_33, a0g_34, a0g_35, a0g_36, a0g_37, a0g_38, a0g_39]))] [] t) A) := by
  refine zh (cc := cX8_drawn) (maxL := 5) (ret := (some .int)) zn_RX8 rfl (Nat.le_of_ble_eq_true rfl) (fun p e s m below meth c A ls hx hb hml hr hts (hown : s.vm.findClass RX8 = some m.cls) hlocks hA hS hP hK hD hE (hl : lv_has ls 5 [(0, .ref a0), (1, .int a1), (2, .int a2), (3, .int a3)]) => ?_)
  refine lv_aload_n hx hb dX8_drawn_0 rfl (lv_at hl 0 rfl) ?_
  refine va_callv (va_runV (As := []) (rest := []) ⟨hx, hb, hml, hown, hts⟩ (c_X8_good l dC dI s.heap.size a0 a0_0 a0g_1 a0g_2 a0g_3 a0g_4 a0g_5 a0g_6 a0g_7 a0g_8 a0g_9 a0g_10 a0g_12 a0g_13 (Value.int a0_14) a0g_15 a0g_16 a0g_17 a0g_18 a0g_19 a0g_20 a0g_21 a0g_22 a0g_23 a0g_24 a0g_25 a0g_26 a0g_27 a0g_28 a0g_29 a0g_30 a0g_31 a0g_32 a0g_33 a0g_34 a0g_35 a0g_36 a0g_37 a0g_38 a0g_39 a0_11 ) (cwV 0 hts gX8_drawn_X8_good rfl rfl rfl zd_X8_good ⟨Nat.le_of_ble_eq_true rfl, Nat.le_of_ble_eq_true rfl⟩) ⟨ax_blind (fun _ _ _ _ _ => trivial), zr_8 (zp_K hK) (zp_P1 hP) (q0 := 0) rfl, ax_pre (zp_P1 hP) (zp_K hK) (zp_D1 hD) (fun _ _ => trivial)⟩ rfl rfl hl.1 rfl (lv_room (Nat.le_of_ble_eq_true rfl)) dX8_drawn_1 ⟨Nat.le_of_ble_eq_true rfl, Nat.le_of_ble_eq_true rfl⟩) hS (fun q _ h => zp_F1 hD hS hA q h) (zp_F1 hD hS hA) (fun u t H locs ht hvm hw => zx_2 (fun v1na0_0 v1na0_11 hB hz1 hk1 hS1 => zo1 hB ht hP hD hk1 (zp_F1 hD hS hA) hS1 (fun hP hK1 hD hS => ?_)))
  refine lv_aload_n hx hb dX8_drawn_4 rfl (lv_at hl 0 rfl) ?_
  refine lv_aload_n hx hb dX8_drawn_5 rfl (lv_at hl 0 rfl) ?_
  refine lv_iload_n hx hb dX8_drawn_6 rfl (lv_at hl 1 rfl) ?_
  refine va_calli (va_runV (As := [.int a1]) (rest := [.ref a0]) ⟨hx, hb, hml, hown, hts⟩ (c0_X8_isFigure l dC dI H.size a0 a1 (Value.int v1na0_0) a0g_1 a0g_2 a0g_3 a0g_4 a0g_5 a0g_6 a0g_7 a0g_8 a0g_9 a0g_10 (Value.int v1na0_11) a0g_12 a0g_13 a0g_15 a0g_16 a0g_17 a0g_18 a0g_19 a0g_20 a0g_21 a0g_22 a0g_23 a0g_24 a0g_25 a0g_26 a0g_27 a0g_28 a0g_29 a0g_30 a0g_31 a0g_32 a0g_33 a0g_34 a0g_35 a0g_36 a0g_37 a0g_38 a0g_39 a0_14 ba0_14_l ba0_14_u) (cwV 1 hts gX8_drawn_X8_isFigure rfl rfl rfl zd_X8_isFigure ⟨Nat.le_of_ble_eq_true rfl, Nat.le_of_ble_eq_true rfl⟩) ⟨ax_blind (fun _ _ _ _ _ => trivial), zr_8 (zp_K hK) (zp_P1 hP) (q0 := 0) rfl, ax_pre (zp_P1 hP) (zp_K hK) (zp_D1 hD) (fun _ _ => trivial)⟩ rfl rfl hl.1 rfl (lv_room (Nat.le_of_ble_eq_true rfl)) dX8_drawn_7 ⟨Nat.le_of_ble_eq_true rfl, Nat.le_of_ble_eq_true rfl⟩) hS (fun q _ h => zp_F1 hD hS hA q h) (zp_F1 hD hS hA) (fun r7 u t H locs ht hvm hw hB hz1 hk1 hS1 => zo1 hB ht hP hD hk1 (zp_F1 hD hS hA) hS1 (fun hP hK1 hD hS => ?_))
  have hw : r7 = 0 := hw
  have hw := hw.symm
  subst hw
  refine lv_iload_n hx hb dX8_drawn_10 rfl (lv_at hl 1 rfl) ?_
  refine lv_iload_n hx hb dX8_drawn_11 rfl (lv_at hl 2 rfl) ?_
  refine lv_iload_n hx hb dX8_drawn_12 rfl (lv_at hl 3 rfl) ?_
  refine va_calli (va_runV (As := [.int 0, .int a1, .int a2, .int a3]) (rest := []) ⟨hx, hb, hml, hown, hts⟩ (c0_X8_drawWhy l dC dI H.size a0 0 a1 a2 a3 (Value.int v1na0_0) a0g_1 a0g_2 a0g_3 a0g_4 a0g_5 a0g_6 a0g_7 a0g_8 a0g_9 a0g_10 (Value.int v1na0_11) a0g_12 a0g_13 (Value.int a0_14) a0g_15 a0g_16 a0g_17 a0g_18 a0g_19 a0g_20 a0g_21 a0g_22 a0g_23 a0g_24 a0g_25 a0g_26 a0g_27 a0g_28 a0g_29 a0g_30 a0g_31 a0g_32 a0g_33 a0g_34 a0g_35 a0g_36 a0g_37 a0g_38 a0g_39 zq5 zq6) (cwV 4 hts gX8_drawn_X8_drawWhy rfl rfl rfl zd_X8_drawWhy ⟨Nat.le_of_ble_eq_true rfl, Nat.le_of_ble_eq_true rfl⟩) ⟨ax_blind (fun _ _ _ _ _ => trivial), zr_8 (zp_K hK) (zp_P1 hP) (q0 := 0) rfl, ax_pre (zp_P1 hP) (zp_K hK) (zp_D1 hD) (fun _ _ => trivial)⟩ rfl rfl hl.1 rfl (lv_room (Nat.le_of_ble_eq_true rfl)) dX8_drawn_13 ⟨Nat.le_of_ble_eq_true rfl, Nat.le_of_ble_eq_true rfl⟩) hS (fun q _ h => zp_F1 hD hS hA q h) (zp_F1 hD hS hA) (fun r13 u t H locs ht hvm hw hB hz1 hk1 hS1 => zo1 hB ht hP hD hk1 (zp_F1 hD hS hA) hS1 (fun hP hK1 hD hS => ?_))
  have hw : r13 = 1 := hw
  have hw := hw.symm
  subst hw
  refine lv_istore (lv' := [(4, .int 1), (0, .ref a0), (1, .int a1), (2, .int a2), (3, .int a3)]) hx hb dX8_drawn_16 hl (by decide) rfl (fun ls hl => ?_)
  refine lv_iload hx hb dX8_drawn_18 (lv_at hl 0 rfl) ?_
  refine lv_if_eq (tgt := 32) hx hb dX8_drawn_20 (by decide) (fun c20 => absurd c20 (by decide +kernel)) (fun _ => ?_)
  refine lv_aload_n hx hb dX8_drawn_23 rfl (lv_at hl 1 rfl) ?_
  refine lv_iload hx hb dX8_drawn_24 (lv_at hl 0 rfl) ?_
  refine va_calli (va_runV (As := [.int 1]) (rest := []) ⟨hx, hb, hml, hown, hts⟩ (c_X8_no l dC dI H.size a0 1 (Value.int v1na0_0) a0g_1 a0g_2 a0g_3 a0g_4 a0g_5 a0g_6 a0g_7 a0g_8 a0g_9 a0g_10 a0g_12 a0g_13 (Value.int a0_14) a0g_15 a0g_16 a0g_17 a0g_18 a0g_19 a0g_20 a0g_21 a0g_22 a0g_23 a0g_24 a0g_25 a0g_26 a0g_27 a0g_28 a0g_29 a0g_30 a0g_31 a0g_32 a0g_33 a0g_34 a0g_35 a0g_36 a0g_37 a0g_38 a0g_39 v1na0_11 ) (cwV 1 hts gX8_drawn_X8_no rfl rfl rfl zd_X8_no ⟨Nat.le_of_ble_eq_true rfl, Nat.le_of_ble_eq_true rfl⟩) ⟨ax_blind (fun _ _ _ _ _ => trivial), zr_8 (zp_K hK) (zp_P1 hP) (q0 := 0) rfl, ax_pre (zp_P1 hP) (zp_K hK) (zp_D1 hD) (fun _ _ => trivial)⟩ rfl rfl hl.1 rfl (lv_room (Nat.le_of_ble_eq_true rfl)) dX8_drawn_26 ⟨Nat.le_of_ble_eq_true rfl, Nat.le_of_ble_eq_true rfl⟩) hS (fun q _ h => zp_F1 hD hS hA q h) (zp_F1 hD hS hA) (fun r26 u t H locs ht hvm hw => zx_1 (fun v26na0_11 hB hz1 hk1 hS1 => zo1 hB ht hP hD hk1 (zp_F1 hD hS hA) hS1 (fun hP hK1 hD hS => ?_)))
  have hw : r26 = (-1) := hw
  have hw := hw.symm
  subst hw
  refine lv_goto (tgt := 36) hx hb dX8_drawn_29 (by decide) ?_
  exact W.iret (v := (-1)) hx hb hr (fun t ht hW => ⟨⟨(-1), (), rfl, rfl, v1na0_0, v26na0_11, by rw [ht]; exact hP, va_K.moved hW.alike hK, hD⟩, hS.F ht⟩) hS.2.2 dX8_drawn_36
end P280_05_safe
section P280_06_safe
set_option maxHeartbeats 4000000 in
set_option maxRecDepth 100000 in
theorem c0_X8_firstShut (l : Launch) (dC : Nat → ClassId) (dI : Nat → Nat → Nat) (sz : Nat) (a0 : Nat) (a1 : Int32) (a2 : Int32) (a0_0 : Int32) (a0g_1 a0g_2 a0g_3 a0g_4 a0g_5 a0g_6 a0g_7 a0g_8 a0g_9 a0g_10 a0g_12 a0g_13 a0g_15 a0g_16 a0g_17 a0g_18 a0g_19 a0g_20 a0g_21 a0g_22 a0g_23 a0g_24 a0g_25 a0g_26 a0g_27 a0g_28 a0g_29 a0g_30 a0g_31 a0g_32 a0g_33 a0g_34 a0g_35 a0g_36 a0g_37 a0g_38 a0g_39 : Value) (a0_11 : Int32) (a0_14 : Int32) (ba0_14_l : (0 : Int) ≤ a0_14.toInt) (ba0_14_u : a0_14.toInt ≤ (0 : Int)) : zm l yX8_firstShut wsX8_firstShut ({ frames := 2, cells := 0, slots := 0, locals := 50 }) [.ref a0, .int a1, .int a2] dC dI sz [(a0, .inr (8, [Value.int a0_0, a0g_1, a0g_2, a0g_3, a0g_4, a0g_5, a0g_6, a0g_7, a0g_8, a0g_9, a0g_10, Value.int a0_11, a0g_12, a0g_13, Value.int a0_14, a0g_15, a0g_16, a0g_17, a0g_18, a0g_19, a0g_20, a0g_21, a0g_22, a0g_23, a0g_24, a0g_25, a0g_26, a0g_27, a0g_28, a0g_29, a0g_30, a0g_31, a0g_32, a0g_33, a0g_34, a0g_35, a0g_36, a0g_37, a0g_38, a0g_39]))] [] (fun A _ => True) (fun A => va_Qi (fun (r : Int32) (_ : Unit) => r = (-1)) (fun (_ : Unit) (t : State) => ∃ na0_0 : Int32, ∃ na0_11 : Int32, ax_B dC dI A [(a0, .inr (8, [Value.int na0_0, a0g_1, a0g_2, a0g_3, a0g_4, a0g_5, a0g_6, a0g_7, a0g_8, a0g_9, a0g_10, Value.int na0_11, a0g_12, a0g_13, Value.int a0_14, a0g_15, a0g_16, a0g_17, a0g_18, a0g_19, a0g_20, a0g_21, a0g_22, a0g_23, a0g_24, a0g_25, a0g_26, a0g_27, a0g_28, a0g_29, a0g_30, a0g_31, a0g_32, a0g_33, a0g_34, a0g_35, a0g_36, a0g_37, a0g_38, a0g_39]))] [] t) A) := by
  refine zh (cc := cX8_firstShut) (maxL := 4) (ret := (some .int)) zn_RX8 rfl (Nat.le_of_ble_eq_true rfl) (fun p e s m below meth c A ls hx hb hml hr hts (hown : s.vm.findClass RX8 = some m.cls) hlocks hA hS hP hK hD hE (hl : lv_has ls 4 [(0, .ref a0), (1, .int a1), (2, .int a2)]) => ?_)
  refine lv_aload_n hx hb dX8_firstShut_0 rfl (lv_at hl 0 rfl) ?_
  refine va_callv (va_runV (As := []) (rest := []) ⟨hx, hb, hml, hown, hts⟩ (c_X8_good l dC dI s.heap.size a0 a0_0 a0g_1 a0g_2 a0g_3 a0g_4 a0g_5 a0g_6 a0g_7 a0g_8 a0g_9 a0g_10 a0g_12 a0g_13 (Value.int a0_14) a0g_15 a0g_16 a0g_17 a0g_18 a0g_19 a0g_20 a0g_21 a0g_22 a0g_23 a0g_24 a0g_25 a0g_26 a0g_27 a0g_28 a0g_29 a0g_30 a0g_31 a0g_32 a0g_33 a0g_34 a0g_35 a0g_36 a0g_37 a0g_38 a0g_39 a0_11 ) (cwV 0 hts gX8_firstShut_X8_good rfl rfl rfl zd_X8_good ⟨Nat.le_of_ble_eq_true rfl, Nat.le_of_ble_eq_true rfl⟩) ⟨ax_blind (fun _ _ _ _ _ => trivial), zr_8 (zp_K hK) (zp_P1 hP) (q0 := 0) rfl, ax_pre (zp_P1 hP) (zp_K hK) (zp_D1 hD) (fun _ _ => trivial)⟩ rfl rfl hl.1 rfl (lv_room (Nat.le_of_ble_eq_true rfl)) dX8_firstShut_1 ⟨Nat.le_of_ble_eq_true rfl, Nat.le_of_ble_eq_true rfl⟩) hS (fun q _ h => zp_F1 hD hS hA q h) (zp_F1 hD hS hA) (fun u t H locs ht hvm hw => zx_2 (fun v1na0_0 v1na0_11 hB hz1 hk1 hS1 => zo1 hB ht hP hD hk1 (zp_F1 hD hS hA) hS1 (fun hP hK1 hD hS => ?_)))
  refine lv_aload_n hx hb dX8_firstShut_4 rfl (lv_at hl 0 rfl) ?_
  refine lv_aload_n hx hb dX8_firstShut_5 rfl (lv_at hl 0 rfl) ?_
  refine va_get (D := (dC, dI)) (ci := 8) (v := .int a0_14) (C := RX8) (T := TX8) (N := 40) hx hb hts zi_X8_firstShut_8 hown hK hP 0 rfl rfl 14 (by decide) (hts (.fieldLink RX8 173 "WaxTurnsModel" "hasGallery" "Z") (zm_X8_firstShut_r1 (List.mem_of_getElem? (i := 0) rfl))) (fun _ h9 => h9) rfl dX8_firstShut_6 ?_
  refine lv_iconst (v := (-1)) hx hb dX8_firstShut_9 zk_iconst_n1 ?_
  refine lv_iload_n hx hb dX8_firstShut_10 rfl (lv_at hl 1 rfl) ?_
  refine lv_iload_n hx hb dX8_firstShut_11 rfl (lv_at hl 2 rfl) ?_
  refine va_calli (va_runV (As := [.int a0_14, .int (-1), .int a1, .int a2]) (rest := []) ⟨hx, hb, hml, hown, hts⟩ (c0_X8_drawWhy l dC dI H.size a0 a0_14 (-1) a1 a2 (Value.int v1na0_0) a0g_1 a0g_2 a0g_3 a0g_4 a0g_5 a0g_6 a0g_7 a0g_8 a0g_9 a0g_10 (Value.int v1na0_11) a0g_12 a0g_13 (Value.int a0_14) a0g_15 a0g_16 a0g_17 a0g_18 a0g_19 a0g_20 a0g_21 a0g_22 a0g_23 a0g_24 a0g_25 a0g_26 a0g_27 a0g_28 a0g_29 a0g_30 a0g_31 a0g_32 a0g_33 a0g_34 a0g_35 a0g_36 a0g_37 a0g_38 a0g_39 ba0_14_l ba0_14_u) (cwV 4 hts gX8_firstShut_X8_drawWhy rfl rfl rfl zd_X8_drawWhy ⟨Nat.le_of_ble_eq_true rfl, Nat.le_of_ble_eq_true rfl⟩) ⟨ax_blind (fun _ _ _ _ _ => trivial), zr_8 (zp_K hK) (zp_P1 hP) (q0 := 0) rfl, ax_pre (zp_P1 hP) (zp_K hK) (zp_D1 hD) (fun _ _ => trivial)⟩ rfl rfl hl.1 rfl (lv_room (Nat.le_of_ble_eq_true rfl)) dX8_firstShut_12 ⟨Nat.le_of_ble_eq_true rfl, Nat.le_of_ble_eq_true rfl⟩) hS (fun q _ h => zp_F1 hD hS hA q h) (zp_F1 hD hS hA) (fun r12 u t H locs ht hvm hw hB hz1 hk1 hS1 => zo1 hB ht hP hD hk1 (zp_F1 hD hS hA) hS1 (fun hP hK1 hD hS => ?_))
  have hw : r12 = 1 := hw
  have hw := hw.symm
  subst hw
  refine lv_istore_n (lv' := [(3, .int 1), (0, .ref a0), (1, .int a1), (2, .int a2)]) hx hb dX8_firstShut_15 rfl hl (by decide) rfl (fun ls hl => ?_)
  refine lv_iload_n hx hb dX8_firstShut_16 rfl (lv_at hl 0 rfl) ?_
  refine lv_if_eq (tgt := 28) hx hb dX8_firstShut_17 (by decide) (fun c17 => absurd c17 (by decide +kernel)) (fun _ => ?_)
  refine lv_aload_n hx hb dX8_firstShut_20 rfl (lv_at hl 1 rfl) ?_
  refine lv_iload_n hx hb dX8_firstShut_21 rfl (lv_at hl 0 rfl) ?_
  refine va_calli (va_runV (As := [.int 1]) (rest := []) ⟨hx, hb, hml, hown, hts⟩ (c_X8_no l dC dI H.size a0 1 (Value.int v1na0_0) a0g_1 a0g_2 a0g_3 a0g_4 a0g_5 a0g_6 a0g_7 a0g_8 a0g_9 a0g_10 a0g_12 a0g_13 (Value.int a0_14) a0g_15 a0g_16 a0g_17 a0g_18 a0g_19 a0g_20 a0g_21 a0g_22 a0g_23 a0g_24 a0g_25 a0g_26 a0g_27 a0g_28 a0g_29 a0g_30 a0g_31 a0g_32 a0g_33 a0g_34 a0g_35 a0g_36 a0g_37 a0g_38 a0g_39 v1na0_11 ) (cwV 1 hts gX8_firstShut_X8_no rfl rfl rfl zd_X8_no ⟨Nat.le_of_ble_eq_true rfl, Nat.le_of_ble_eq_true rfl⟩) ⟨ax_blind (fun _ _ _ _ _ => trivial), zr_8 (zp_K hK) (zp_P1 hP) (q0 := 0) rfl, ax_pre (zp_P1 hP) (zp_K hK) (zp_D1 hD) (fun _ _ => trivial)⟩ rfl rfl hl.1 rfl (lv_room (Nat.le_of_ble_eq_true rfl)) dX8_firstShut_22 ⟨Nat.le_of_ble_eq_true rfl, Nat.le_of_ble_eq_true rfl⟩) hS (fun q _ h => zp_F1 hD hS hA q h) (zp_F1 hD hS hA) (fun r22 u t H locs ht hvm hw => zx_1 (fun v22na0_11 hB hz1 hk1 hS1 => zo1 hB ht hP hD hk1 (zp_F1 hD hS hA) hS1 (fun hP hK1 hD hS => ?_)))
  have hw : r22 = (-1) := hw
  have hw := hw.symm
  subst hw
  refine lv_goto (tgt := 32) hx hb dX8_firstShut_25 (by decide) ?_
  exact W.iret (v := (-1)) hx hb hr (fun t ht hW => ⟨⟨(-1), (), rfl, rfl, v1na0_0, v22na0_11, by rw [ht]; exact hP, va_K.moved hW.alike hK, hD⟩, hS.F ht⟩) hS.2.2 dX8_firstShut_32

set_option maxHeartbeats 4000000 in
set_option maxRecDepth 100000 in
theorem c0_X8_go (l : Launch) (dC : Nat → ClassId) (dI : Nat → Nat → Nat) (sz : Nat) (a0 : Nat) (a1 : Int32) (a0_0 : Int32) (a0g_1 a0g_2 a0g_3 a0g_4 a0g_5 a0g_6 a0g_7 a0g_8 a0g_9 a0g_10 a0g_12 a0g_13 a0g_15 a0g_16 a0g_17 a0g_18 a0g_19 a0g_20 a0g_21 a0g_22 a0g_23 a0g_24 a0g_25 a0g_26 a0g_27 a0g_28 a0g_29 a0g_30 a0g_31 a0g_32 a0g_33 a0g_34 a0g_35 a0g_36 a0g_37 a0g_38 a0g_39 : Value) (a0_11 : Int32) (a0_14 : Int32) (ba0_14_l : (0 : Int) ≤ a0_14.toInt) (ba0_14_u : a0_14.toInt ≤ (0 : Int)) : zm l yX8_go wsX8_go ({ frames := 1, cells := 0, slots := 0, locals := 22 }) [.ref a0, .int a1] dC dI sz [(a0, .inr (8, [Value.int a0_0, a0g_1, a0g_2, a0g_3, a0g_4, a0g_5, a0g_6, a0g_7, a0g_8, a0g_9, a0g_10, Value.int a0_11, a0g_12, a0g_13, Value.int a0_14, a0g_15, a0g_16, a0g_17, a0g_18, a0g_19, a0g_20, a0g_21, a0g_22, a0g_23, a0g_24, a0g_25, a0g_26, a0g_27, a0g_28, a0g_29, a0g_30, a0g_31, a0g_32, a0g_33, a0g_34, a0g_35, a0g_36, a0g_37, a0g_38, a0g_39]))] [] (fun A _ => True) (fun A => va_Qi (fun (r : Int32) (_ : Unit) => r = (-1)) (fun (_ : Unit) (t : State) => ∃ na0_0 : Int32, ∃ na0_11 : Int32, ax_B dC dI A [(a0, .inr (8, [Value.int na0_0, a0g_1, a0g_2, a0g_3, a0g_4, a0g_5, a0g_6, a0g_7, a0g_8, a0g_9, a0g_10, Value.int na0_11, a0g_12, a0g_13, Value.int a0_14, a0g_15, a0g_16, a0g_17, a0g_18, a0g_19, a0g_20, a0g_21, a0g_22, a0g_23, a0g_24, a0g_25, a0g_26, a0g_27, a0g_28, a0g_29, a0g_30, a0g_31, a0g_32, a0g_33, a0g_34, a0g_35, a0g_36, a0g_37, a0g_38, a0g_39]))] [] t) A) := by
  refine zh (cc := cX8_go) (maxL := 5) (ret := (some .int)) zn_RX8 rfl (Nat.le_of_ble_eq_true rfl) (fun p e s m below meth c A ls hx hb hml hr hts (hown : s.vm.findClass RX8 = some m.cls) hlocks hA hS hP hK hD hE (hl : lv_has ls 5 [(0, .ref a0), (1, .int a1)]) => ?_)
  refine ai_open (fun K hK0 => ?_)
  refine (hK0 _ _ _).mpr ?_
  refine lv_aload_n hx hb dX8_go_0 rfl (lv_at hl 0 rfl) ?_
  refine va_callv (va_runV (As := []) (rest := []) ⟨hx, hb, hml, hown, hts⟩ (c_X8_good l dC dI s.heap.size a0 a0_0 a0g_1 a0g_2 a0g_3 a0g_4 a0g_5 a0g_6 a0g_7 a0g_8 a0g_9 a0g_10 a0g_12 a0g_13 (Value.int a0_14) a0g_15 a0g_16 a0g_17 a0g_18 a0g_19 a0g_20 a0g_21 a0g_22 a0g_23 a0g_24 a0g_25 a0g_26 a0g_27 a0g_28 a0g_29 a0g_30 a0g_31 a0g_32 a0g_33 a0g_34 a0g_35 a0g_36 a0g_37 a0g_38 a0g_39 a0_11 ) (cwV 0 hts gX8_go_X8_good rfl rfl rfl zd_X8_good ⟨Nat.le_of_ble_eq_true rfl, Nat.le_of_ble_eq_true rfl⟩) ⟨ax_blind (fun _ _ _ _ _ => trivial), zr_8 (zp_K hK) (zp_P1 hP) (q0 := 0) rfl, ax_pre (zp_P1 hP) (zp_K hK) (zp_D1 hD) (fun _ _ => trivial)⟩ rfl rfl hl.1 rfl (lv_room (Nat.le_of_ble_eq_true rfl)) dX8_go_1 ⟨Nat.le_of_ble_eq_true rfl, Nat.le_of_ble_eq_true rfl⟩) hS (fun q _ h => zp_F1 hD hS hA q h) (zp_F1 hD hS hA) (fun u t H locs ht hvm hw => zx_2 (fun v1na0_0 v1na0_11 hB hz1 hk1 hS1 => zo1 hB ht hP hD hk1 (zp_F1 hD hS hA) hS1 (fun hP hK1 hD hS => ?_)))
  refine lv_aload_n hx hb dX8_go_4 rfl (lv_at hl 0 rfl) ?_
  refine lv_aload_n hx hb dX8_go_5 rfl (lv_at hl 0 rfl) ?_
  refine va_get (D := (dC, dI)) (ci := 8) (v := .int a0_14) (C := RX8) (T := TX8) (N := 40) hx hb hts zi_X8_go_8 hown hK hP 0 rfl rfl 14 (by decide) (hts (.fieldLink RX8 173 "WaxTurnsModel" "hasGallery" "Z") (zm_X8_go_r1 (List.mem_of_getElem? (i := 0) rfl))) (fun _ h9 => h9) rfl dX8_go_6 ?_
  refine lv_iload_n hx hb dX8_go_9 rfl (lv_at hl 1 rfl) ?_
  refine lv_iconst (v := 1) hx hb dX8_go_10 zk_iconst_1 ?_
  refine lv_bipush (v := 60) hx hb dX8_go_11 zk_bipush_60 ?_
  refine va_calli (va_runS (As := [.int a1, .int 1, .int 60]) (rest := [.int a0_14, .ref a0]) ⟨hx, hb, hml, hown, hts⟩ (c_X8_in l dC dI H.size a1 1 60 ) (va_cwS 3 hts gX8_go_X8_in rfl rfl rfl zd_X8_in.2 ⟨Nat.le_of_ble_eq_true rfl, Nat.le_of_ble_eq_true rfl⟩) ⟨ax_blind (fun _ _ _ _ _ => trivial), ax_pre (zp_P0 hP) (zp_K hK) (zp_D0 hD) (fun _ _ => trivial)⟩ rfl rfl hl.1 rfl (lv_room (Nat.le_of_ble_eq_true rfl)) dX8_go_13 ⟨Nat.le_of_ble_eq_true rfl, Nat.le_of_ble_eq_true rfl⟩) hS (fun q _ h => zp_F0 hD hS hA q h) (zp_F0 hD hS hA) (fun r13 u t H locs ht hvm hw hB hz1 hk1 hS1 => zo0 hB ht hP hD hk1 (zp_F0 hD hS hA) hS1 (fun hP hK1 hD hS => ?_))
  rcases hw with hw | hw
  · obtain ⟨hw, h13⟩ := hw
    subst hw
    have l13k0_a1 : (1 : Int) ≤ a1.toInt := Int.le_trans zq1 h13.1
    have u13k0_a1 : a1.toInt ≤ (60 : Int) := Int.le_trans h13.2 zq46
    refine va_calli (va_runV (As := [.int a0_14, .int 1]) (rest := []) ⟨hx, hb, hml, hown, hts⟩ (c_X8_whyB l dC dI H.size a0 a0_14 1 (Value.int v1na0_0) a0g_1 a0g_2 a0g_3 a0g_4 a0g_5 a0g_6 a0g_7 a0g_8 a0g_9 a0g_10 (Value.int v1na0_11) a0g_12 a0g_13 (Value.int a0_14) a0g_15 a0g_16 a0g_17 a0g_18 a0g_19 a0g_20 a0g_21 a0g_22 a0g_23 a0g_24 a0g_25 a0g_26 a0g_27 a0g_28 a0g_29 a0g_30 a0g_31 a0g_32 a0g_33 a0g_34 a0g_35 a0g_36 a0g_37 a0g_38 a0g_39 ba0_14_l (Int.le_trans ba0_14_u zq4) (Int.le_trans zq4 zq1) zq0) (cwV 2 hts gX8_go_X8_why rfl rfl rfl zd_X8_why ⟨Nat.le_of_ble_eq_true rfl, Nat.le_of_ble_eq_true rfl⟩) ⟨ax_blind (fun _ _ _ _ _ => trivial), zr_8 (zp_K hK) (zp_P1 hP) (q0 := 0) rfl, ax_pre (zp_P1 hP) (zp_K hK) (zp_D1 hD) (fun _ _ => trivial)⟩ rfl rfl hl.1 rfl (lv_room (Nat.le_of_ble_eq_true rfl)) dX8_go_16 ⟨Nat.le_of_ble_eq_true rfl, Nat.le_of_ble_eq_true rfl⟩) hS (fun q _ h => zp_F1 hD hS hA q h) (zp_F1 hD hS hA) (fun r16 u t H locs ht hvm hw hB hz1 hk1 hS1 => zo1 hB ht hP hD hk1 (zp_F1 hD hS hA) hS1 (fun hP hK1 hD hS => ?_))
    rcases hw with hw | hw | hw
    · obtain ⟨hw, h16_0, h16_1, h16_2, h16_3⟩ := hw
      subst hw
      have l16k0_a0_14 : (1 : Int) ≤ a0_14.toInt := h16_0
      have u16k0_a0_14 : a0_14.toInt ≤ (0 : Int) := ba0_14_u
      exact absurd (Int.le_trans l16k0_a0_14 u16k0_a0_14) (by decide)
    · obtain ⟨hw, h16_0, h16_1⟩ := hw
      subst hw
      have l16k1_a0_14 : (0 : Int) ≤ a0_14.toInt := ba0_14_l
      have u16k1_a0_14 : a0_14.toInt ≤ (0 : Int) := ba0_14_u
      refine lv_istore_n (lv' := [(2, .int 1), (0, .ref a0), (1, .int a1)]) hx hb dX8_go_19 rfl hl (by decide) rfl (fun ls hl => ?_)
      refine lv_iload_n hx hb dX8_go_20 rfl (lv_at hl 0 rfl) ?_
      refine lv_if_ne (tgt := 41) hx hb dX8_go_21 (by decide) (fun _ => ?_) (fun c21 => absurd c21 (by decide +kernel))
      have J41 : ∀ (H : Heap) (locs : List Loc) (ls : Array Slot), va_P (dC, dI) vwCl [(a0, .inr (8, [Value.int v1na0_0, a0g_1, a0g_2, a0g_3, a0g_4, a0g_5, a0g_6, a0g_7, a0g_8, a0g_9, a0g_10, Value.int v1na0_11, a0g_12, a0g_13, Value.int a0_14, a0g_15, a0g_16, a0g_17, a0g_18, a0g_19, a0g_20, a0g_21, a0g_22, a0g_23, a0g_24, a0g_25, a0g_26, a0g_27, a0g_28, a0g_29, a0g_30, a0g_31, a0g_32, a0g_33, a0g_34, a0g_35, a0g_36, a0g_37, a0g_38, a0g_39]))] H → va_D A [(a0, .inr (8, [Value.int v1na0_0, a0g_1, a0g_2, a0g_3, a0g_4, a0g_5, a0g_6, a0g_7, a0g_8, a0g_9, a0g_10, Value.int v1na0_11, a0g_12, a0g_13, Value.int a0_14, a0g_15, a0g_16, a0g_17, a0g_18, a0g_19, a0g_20, a0g_21, a0g_22, a0g_23, a0g_24, a0g_25, a0g_26, a0g_27, a0g_28, a0g_29, a0g_30, a0g_31, a0g_32, a0g_33, a0g_34, a0g_35, a0g_36, a0g_37, a0g_38, a0g_39]))] → va_S A s.heap H locs → lv_has ls 5 [(0, .ref a0), (1, .int a1), (2, .int 1)] → K H locs (F0 m 41 ls []) := by
        intro  H locs ls   hP hD hS hl
        refine (hK0 _ _ _).mpr ?_
        refine lv_iload_n hx hb dX8_go_41 rfl (lv_at hl 2 rfl) ?_
        refine lv_if_eq (tgt := 51) hx hb dX8_go_42 (by decide) (fun c42 => absurd c42 (by decide +kernel)) (fun _ => ?_)
        refine lv_aload_n hx hb dX8_go_45 rfl (lv_at hl 0 rfl) ?_
        refine lv_iload_n hx hb dX8_go_46 rfl (lv_at hl 2 rfl) ?_
        refine va_calli (va_runV (As := [.int 1]) (rest := []) ⟨hx, hb, hml, hown, hts⟩ (c_X8_no l dC dI H.size a0 1 (Value.int v1na0_0) a0g_1 a0g_2 a0g_3 a0g_4 a0g_5 a0g_6 a0g_7 a0g_8 a0g_9 a0g_10 a0g_12 a0g_13 (Value.int a0_14) a0g_15 a0g_16 a0g_17 a0g_18 a0g_19 a0g_20 a0g_21 a0g_22 a0g_23 a0g_24 a0g_25 a0g_26 a0g_27 a0g_28 a0g_29 a0g_30 a0g_31 a0g_32 a0g_33 a0g_34 a0g_35 a0g_36 a0g_37 a0g_38 a0g_39 v1na0_11 ) (cwV 1 hts gX8_go_X8_no rfl rfl rfl zd_X8_no ⟨Nat.le_of_ble_eq_true rfl, Nat.le_of_ble_eq_true rfl⟩) ⟨ax_blind (fun _ _ _ _ _ => trivial), zr_8 (zp_K hK) (zp_P1 hP) (q0 := 0) rfl, ax_pre (zp_P1 hP) (zp_K hK) (zp_D1 hD) (fun _ _ => trivial)⟩ rfl rfl hl.1 rfl (lv_room (Nat.le_of_ble_eq_true rfl)) dX8_go_47 ⟨Nat.le_of_ble_eq_true rfl, Nat.le_of_ble_eq_true rfl⟩) hS (fun q _ h => zp_F1 hD hS hA q h) (zp_F1 hD hS hA) (fun r47 u t H locs ht hvm hw => zx_1 (fun v47na0_11 hB hz1 hk1 hS1 => zo1 hB ht hP hD hk1 (zp_F1 hD hS hA) hS1 (fun hP hK1 hD hS => ?_)))
        have hw : r47 = (-1) := hw
        have hw := hw.symm
        subst hw
        exact W.iret (v := (-1)) hx hb hr (fun t ht hW => ⟨⟨(-1), (), rfl, rfl, v1na0_0, v47na0_11, by rw [ht]; exact hP, va_K.moved hW.alike hK, hD⟩, hS.F ht⟩) hS.2.2 dX8_go_50
      exact (hK0 _ _ _).mp (J41  _ _ _   hP hD hS (lv_sub hl [1, 2, 0] rfl))
    · obtain ⟨hw, h16_0, h16_1, h16_2, h16_3⟩ := hw
      subst hw
      have l16k2_a0_14 : (1 : Int) ≤ a0_14.toInt := h16_0
      have u16k2_a0_14 : a0_14.toInt ≤ (0 : Int) := ba0_14_u
      exact absurd (Int.le_trans l16k2_a0_14 u16k2_a0_14) (by decide)
  · obtain ⟨hw, h13⟩ := hw
    subst hw
    refine va_calli (va_runV (As := [.int a0_14, .int 0]) (rest := []) ⟨hx, hb, hml, hown, hts⟩ (c_X8_whyB l dC dI H.size a0 a0_14 0 (Value.int v1na0_0) a0g_1 a0g_2 a0g_3 a0g_4 a0g_5 a0g_6 a0g_7 a0g_8 a0g_9 a0g_10 (Value.int v1na0_11) a0g_12 a0g_13 (Value.int a0_14) a0g_15 a0g_16 a0g_17 a0g_18 a0g_19 a0g_20 a0g_21 a0g_22 a0g_23 a0g_24 a0g_25 a0g_26 a0g_27 a0g_28 a0g_29 a0g_30 a0g_31 a0g_32 a0g_33 a0g_34 a0g_35 a0g_36 a0g_37 a0g_38 a0g_39 ba0_14_l (Int.le_trans ba0_14_u zq4) zq5 (Int.le_trans zq6 zq4)) (cwV 2 hts gX8_go_X8_why rfl rfl rfl zd_X8_why ⟨Nat.le_of_ble_eq_true rfl, Nat.le_of_ble_eq_true rfl⟩) ⟨ax_blind (fun _ _ _ _ _ => trivial), zr_8 (zp_K hK) (zp_P1 hP) (q0 := 0) rfl, ax_pre (zp_P1 hP) (zp_K hK) (zp_D1 hD) (fun _ _ => trivial)⟩ rfl rfl hl.1 rfl (lv_room (Nat.le_of_ble_eq_true rfl)) dX8_go_16 ⟨Nat.le_of_ble_eq_true rfl, Nat.le_of_ble_eq_true rfl⟩) hS (fun q _ h => zp_F1 hD hS hA q h) (zp_F1 hD hS hA) (fun r16 u t H locs ht hvm hw hB hz1 hk1 hS1 => zo1 hB ht hP hD hk1 (zp_F1 hD hS hA) hS1 (fun hP hK1 hD hS => ?_))
    rcases hw with hw | hw | hw
    · obtain ⟨hw, h16_0, h16_1, h16_2, h16_3⟩ := hw
      subst hw
      have l16k0_a0_14 : (1 : Int) ≤ a0_14.toInt := h16_0
      have u16k0_a0_14 : a0_14.toInt ≤ (0 : Int) := ba0_14_u
      exact absurd (Int.le_trans l16k0_a0_14 u16k0_a0_14) (by decide)
    · obtain ⟨hw, h16_0, h16_1⟩ := hw
      subst hw
      have l16k1_a0_14 : (0 : Int) ≤ a0_14.toInt := ba0_14_l
      have u16k1_a0_14 : a0_14.toInt ≤ (0 : Int) := ba0_14_u
      refine lv_istore_n (lv' := [(2, .int 1), (0, .ref a0), (1, .int a1)]) hx hb dX8_go_19 rfl hl (by decide) rfl (fun ls hl => ?_)
      refine lv_iload_n hx hb dX8_go_20 rfl (lv_at hl 0 rfl) ?_
      refine lv_if_ne (tgt := 41) hx hb dX8_go_21 (by decide) (fun _ => ?_) (fun c21 => absurd c21 (by decide +kernel))
      have J41 : ∀ (H : Heap) (locs : List Loc) (ls : Array Slot), va_P (dC, dI) vwCl [(a0, .inr (8, [Value.int v1na0_0, a0g_1, a0g_2, a0g_3, a0g_4, a0g_5, a0g_6, a0g_7, a0g_8, a0g_9, a0g_10, Value.int v1na0_11, a0g_12, a0g_13, Value.int a0_14, a0g_15, a0g_16, a0g_17, a0g_18, a0g_19, a0g_20, a0g_21, a0g_22, a0g_23, a0g_24, a0g_25, a0g_26, a0g_27, a0g_28, a0g_29, a0g_30, a0g_31, a0g_32, a0g_33, a0g_34, a0g_35, a0g_36, a0g_37, a0g_38, a0g_39]))] H → va_D A [(a0, .inr (8, [Value.int v1na0_0, a0g_1, a0g_2, a0g_3, a0g_4, a0g_5, a0g_6, a0g_7, a0g_8, a0g_9, a0g_10, Value.int v1na0_11, a0g_12, a0g_13, Value.int a0_14, a0g_15, a0g_16, a0g_17, a0g_18, a0g_19, a0g_20, a0g_21, a0g_22, a0g_23, a0g_24, a0g_25, a0g_26, a0g_27, a0g_28, a0g_29, a0g_30, a0g_31, a0g_32, a0g_33, a0g_34, a0g_35, a0g_36, a0g_37, a0g_38, a0g_39]))] → va_S A s.heap H locs → lv_has ls 5 [(0, .ref a0), (1, .int a1), (2, .int 1)] → K H locs (F0 m 41 ls []) := by
        intro  H locs ls   hP hD hS hl
        refine (hK0 _ _ _).mpr ?_
        refine lv_iload_n hx hb dX8_go_41 rfl (lv_at hl 2 rfl) ?_
        refine lv_if_eq (tgt := 51) hx hb dX8_go_42 (by decide) (fun c42 => absurd c42 (by decide +kernel)) (fun _ => ?_)
        refine lv_aload_n hx hb dX8_go_45 rfl (lv_at hl 0 rfl) ?_
        refine lv_iload_n hx hb dX8_go_46 rfl (lv_at hl 2 rfl) ?_
        refine va_calli (va_runV (As := [.int 1]) (rest := []) ⟨hx, hb, hml, hown, hts⟩ (c_X8_no l dC dI H.size a0 1 (Value.int v1na0_0) a0g_1 a0g_2 a0g_3 a0g_4 a0g_5 a0g_6 a0g_7 a0g_8 a0g_9 a0g_10 a0g_12 a0g_13 (Value.int a0_14) a0g_15 a0g_16 a0g_17 a0g_18 a0g_19 a0g_20 a0g_21 a0g_22 a0g_23 a0g_24 a0g_25 a0g_26 a0g_27 a0g_28 a0g_29 a0g_30 a0g_31 a0g_32 a0g_33 a0g_34 a0g_35 a0g_36 a0g_37 a0g_38 a0g_39 v1na0_11 ) (cwV 1 hts gX8_go_X8_no rfl rfl rfl zd_X8_no ⟨Nat.le_of_ble_eq_true rfl, Nat.le_of_ble_eq_true rfl⟩) ⟨ax_blind (fun _ _ _ _ _ => trivial), zr_8 (zp_K hK) (zp_P1 hP) (q0 := 0) rfl, ax_pre (zp_P1 hP) (zp_K hK) (zp_D1 hD) (fun _ _ => trivial)⟩ rfl rfl hl.1 rfl (lv_room (Nat.le_of_ble_eq_true rfl)) dX8_go_47 ⟨Nat.le_of_ble_eq_true rfl, Nat.le_of_ble_eq_true rfl⟩) hS (fun q _ h => zp_F1 hD hS hA q h) (zp_F1 hD hS hA) (fun r47 u t H locs ht hvm hw => zx_1 (fun v47na0_11 hB hz1 hk1 hS1 => zo1 hB ht hP hD hk1 (zp_F1 hD hS hA) hS1 (fun hP hK1 hD hS => ?_)))
        have hw : r47 = (-1) := hw
        have hw := hw.symm
        subst hw
        exact W.iret (v := (-1)) hx hb hr (fun t ht hW => ⟨⟨(-1), (), rfl, rfl, v1na0_0, v47na0_11, by rw [ht]; exact hP, va_K.moved hW.alike hK, hD⟩, hS.F ht⟩) hS.2.2 dX8_go_50
      exact (hK0 _ _ _).mp (J41  _ _ _   hP hD hS (lv_sub hl [1, 2, 0] rfl))
    · obtain ⟨hw, h16_0, h16_1, h16_2, h16_3⟩ := hw
      subst hw
      have l16k2_a0_14 : (1 : Int) ≤ a0_14.toInt := h16_0
      have u16k2_a0_14 : a0_14.toInt ≤ (0 : Int) := ba0_14_u
      exact absurd (Int.le_trans l16k2_a0_14 u16k2_a0_14) (by decide)

set_option maxHeartbeats 4000000 in
set_option maxRecDepth 100000 in
theorem c0_X8_put (l : Launch) (dC : Nat → ClassId) (dI : Nat → Nat → Nat) (sz : Nat) (a0 : Nat) (a1 : Int32) (a0_0 : Int32) (a0g_1 a0g_2 a0g_3 a0g_4 a0g_5 a0g_6 a0g_7 a0g_8 a0g_9 a0g_10 a0g_12 a0g_13 a0g_15 a0g_16 a0g_17 a0g_18 a0g_19 a0g_20 a0g_21 a0g_22 a0g_23 a0g_24 a0g_25 a0g_26 a0g_27 a0g_28 a0g_29 a0g_30 a0g_31 a0g_32 a0g_33 a0g_34 a0g_35 a0g_36 a0g_37 a0g_38 a0g_39 : Value) (a0_11 : Int32) (a0_14 : Int32) (ba0_14_l : (0 : Int) ≤ a0_14.toInt) (ba0_14_u : a0_14.toInt ≤ (0 : Int)) : zm l yX8_put wsX8_put ({ frames := 1, cells := 0, slots := 0, locals := 21 }) [.ref a0, .int a1] dC dI sz [(a0, .inr (8, [Value.int a0_0, a0g_1, a0g_2, a0g_3, a0g_4, a0g_5, a0g_6, a0g_7, a0g_8, a0g_9, a0g_10, Value.int a0_11, a0g_12, a0g_13, Value.int a0_14, a0g_15, a0g_16, a0g_17, a0g_18, a0g_19, a0g_20, a0g_21, a0g_22, a0g_23, a0g_24, a0g_25, a0g_26, a0g_27, a0g_28, a0g_29, a0g_30, a0g_31, a0g_32, a0g_33, a0g_34, a0g_35, a0g_36, a0g_37, a0g_38, a0g_39]))] [] (fun A _ => True) (fun A => va_Qi (fun (r : Int32) (_ : Unit) => r = (-1)) (fun (_ : Unit) (t : State) => ∃ na0_0 : Int32, ∃ na0_11 : Int32, ax_B dC dI A [(a0, .inr (8, [Value.int na0_0, a0g_1, a0g_2, a0g_3, a0g_4, a0g_5, a0g_6, a0g_7, a0g_8, a0g_9, a0g_10, Value.int na0_11, a0g_12, a0g_13, Value.int a0_14, a0g_15, a0g_16, a0g_17, a0g_18, a0g_19, a0g_20, a0g_21, a0g_22, a0g_23, a0g_24, a0g_25, a0g_26, a0g_27, a0g_28, a0g_29, a0g_30, a0g_31, a0g_32, a0g_33, a0g_34, a0g_35, a0g_36, a0g_37, a0g_38, a0g_39]))] [] t) A) := by
  refine zh (cc := cX8_put) (maxL := 3) (ret := (some .int)) zn_RX8 rfl (Nat.le_of_ble_eq_true rfl) (fun p e s m below meth c A ls hx hb hml hr hts (hown : s.vm.findClass RX8 = some m.cls) hlocks hA hS hP hK hD hE (hl : lv_has ls 3 [(0, .ref a0), (1, .int a1)]) => ?_)
  refine lv_aload_n hx hb dX8_put_0 rfl (lv_at hl 0 rfl) ?_
  refine va_callv (va_runV (As := []) (rest := []) ⟨hx, hb, hml, hown, hts⟩ (c_X8_good l dC dI s.heap.size a0 a0_0 a0g_1 a0g_2 a0g_3 a0g_4 a0g_5 a0g_6 a0g_7 a0g_8 a0g_9 a0g_10 a0g_12 a0g_13 (Value.int a0_14) a0g_15 a0g_16 a0g_17 a0g_18 a0g_19 a0g_20 a0g_21 a0g_22 a0g_23 a0g_24 a0g_25 a0g_26 a0g_27 a0g_28 a0g_29 a0g_30 a0g_31 a0g_32 a0g_33 a0g_34 a0g_35 a0g_36 a0g_37 a0g_38 a0g_39 a0_11 ) (cwV 0 hts gX8_put_X8_good rfl rfl rfl zd_X8_good ⟨Nat.le_of_ble_eq_true rfl, Nat.le_of_ble_eq_true rfl⟩) ⟨ax_blind (fun _ _ _ _ _ => trivial), zr_8 (zp_K hK) (zp_P1 hP) (q0 := 0) rfl, ax_pre (zp_P1 hP) (zp_K hK) (zp_D1 hD) (fun _ _ => trivial)⟩ rfl rfl hl.1 rfl (lv_room (Nat.le_of_ble_eq_true rfl)) dX8_put_1 ⟨Nat.le_of_ble_eq_true rfl, Nat.le_of_ble_eq_true rfl⟩) hS (fun q _ h => zp_F1 hD hS hA q h) (zp_F1 hD hS hA) (fun u t H locs ht hvm hw => zx_2 (fun v1na0_0 v1na0_11 hB hz1 hk1 hS1 => zo1 hB ht hP hD hk1 (zp_F1 hD hS hA) hS1 (fun hP hK1 hD hS => ?_)))
  refine lv_aload_n hx hb dX8_put_4 rfl (lv_at hl 0 rfl) ?_
  refine lv_iload_n hx hb dX8_put_5 rfl (lv_at hl 1 rfl) ?_
  refine va_calli (va_runV (As := [.int a1]) (rest := []) ⟨hx, hb, hml, hown, hts⟩ (c0_X8_isFigure l dC dI H.size a0 a1 (Value.int v1na0_0) a0g_1 a0g_2 a0g_3 a0g_4 a0g_5 a0g_6 a0g_7 a0g_8 a0g_9 a0g_10 (Value.int v1na0_11) a0g_12 a0g_13 a0g_15 a0g_16 a0g_17 a0g_18 a0g_19 a0g_20 a0g_21 a0g_22 a0g_23 a0g_24 a0g_25 a0g_26 a0g_27 a0g_28 a0g_29 a0g_30 a0g_31 a0g_32 a0g_33 a0g_34 a0g_35 a0g_36 a0g_37 a0g_38 a0g_39 a0_14 ba0_14_l ba0_14_u) (cwV 1 hts gX8_put_X8_isFigure rfl rfl rfl zd_X8_isFigure ⟨Nat.le_of_ble_eq_true rfl, Nat.le_of_ble_eq_true rfl⟩) ⟨ax_blind (fun _ _ _ _ _ => trivial), zr_8 (zp_K hK) (zp_P1 hP) (q0 := 0) rfl, ax_pre (zp_P1 hP) (zp_K hK) (zp_D1 hD) (fun _ _ => trivial)⟩ rfl rfl hl.1 rfl (lv_room (Nat.le_of_ble_eq_true rfl)) dX8_put_6 ⟨Nat.le_of_ble_eq_true rfl, Nat.le_of_ble_eq_true rfl⟩) hS (fun q _ h => zp_F1 hD hS hA q h) (zp_F1 hD hS hA) (fun r6 u t H locs ht hvm hw hB hz1 hk1 hS1 => zo1 hB ht hP hD hk1 (zp_F1 hD hS hA) hS1 (fun hP hK1 hD hS => ?_))
  have hw : r6 = 0 := hw
  have hw := hw.symm
  subst hw
  refine lv_if_ne (tgt := 18) hx hb dX8_put_9 (by decide) (fun c9 => absurd (by decide +kernel) c9) (fun _ => ?_)
  refine lv_aload_n hx hb dX8_put_12 rfl (lv_at hl 0 rfl) ?_
  refine lv_iconst (v := 1) hx hb dX8_put_13 zk_iconst_1 ?_
  refine va_calli (va_runV (As := [.int 1]) (rest := []) ⟨hx, hb, hml, hown, hts⟩ (c_X8_no l dC dI H.size a0 1 (Value.int v1na0_0) a0g_1 a0g_2 a0g_3 a0g_4 a0g_5 a0g_6 a0g_7 a0g_8 a0g_9 a0g_10 a0g_12 a0g_13 (Value.int a0_14) a0g_15 a0g_16 a0g_17 a0g_18 a0g_19 a0g_20 a0g_21 a0g_22 a0g_23 a0g_24 a0g_25 a0g_26 a0g_27 a0g_28 a0g_29 a0g_30 a0g_31 a0g_32 a0g_33 a0g_34 a0g_35 a0g_36 a0g_37 a0g_38 a0g_39 v1na0_11 ) (cwV 1 hts gX8_put_X8_no rfl rfl rfl zd_X8_no ⟨Nat.le_of_ble_eq_true rfl, Nat.le_of_ble_eq_true rfl⟩) ⟨ax_blind (fun _ _ _ _ _ => trivial), zr_8 (zp_K hK) (zp_P1 hP) (q0 := 0) rfl, ax_pre (zp_P1 hP) (zp_K hK) (zp_D1 hD) (fun _ _ => trivial)⟩ rfl rfl hl.1 rfl (lv_room (Nat.le_of_ble_eq_true rfl)) dX8_put_14 ⟨Nat.le_of_ble_eq_true rfl, Nat.le_of_ble_eq_true rfl⟩) hS (fun q _ h => zp_F1 hD hS hA q h) (zp_F1 hD hS hA) (fun r14 u t H locs ht hvm hw => zx_1 (fun v14na0_11 hB hz1 hk1 hS1 => zo1 hB ht hP hD hk1 (zp_F1 hD hS hA) hS1 (fun hP hK1 hD hS => ?_)))
  have hw : r14 = (-1) := hw
  have hw := hw.symm
  subst hw
  exact W.iret (v := (-1)) hx hb hr (fun t ht hW => ⟨⟨(-1), (), rfl, rfl, v1na0_0, v14na0_11, by rw [ht]; exact hP, va_K.moved hW.alike hK, hD⟩, hS.F ht⟩) hS.2.2 dX8_put_17

set_option maxHeartbeats 4000000 in
set_option maxRecDepth 100000 in
theorem c0_X8_wind (l : Launch) (dC : Nat → ClassId) (dI : Nat → Nat → Nat) (sz : Nat) (a0 : Nat) (a1 : Int32) (a0_0 : Int32) (a0g_1 a0g_2 a0g_3 a0g_4 a0g_5 a0g_6 a0g_7 a0g_8 a0g_9 a0g_10 a0g_12 a0g_13 a0g_15 a0g_16 a0g_17 a0g_18 a0g_19 a0g_20 a0g_21 a0g_22 a0g_23 a0g_24 a0g_25 a0g_26 a0g_27 a0g_28 a0g_29 a0g_30 a0g_31 a0g_32 a0g_33 a0g_34 a0g_35 a0g_36 a0g_37 a0g_38 a0g_39 : Value) (a0_11 : Int32) (a0_14 : Int32) (ba0_14_l : (0 : Int) ≤ a0_14.toInt) (ba0_14_u : a0_14.toInt ≤ (0 : Int)) : zm l yX8_wind wsX8_wind ({ frames := 1, cells := 0, slots := 0, locals := 21 }) [.ref a0, .int a1] dC dI sz [(a0, .inr (8, [Value.int a0_0, a0g_1, a0g_2, a0g_3, a0g_4, a0g_5, a0g_6, a0g_7, a0g_8, a0g_9, a0g_10, Value.int a0_11, a0g_12, a0g_13, Value.int a0_14, a0g_15, a0g_16, a0g_17, a0g_18, a0g_19, a0g_20, a0g_21, a0g_22, a0g_23, a0g_24, a0g_25, a0g_26, a0g_27, a0g_28, a0g_29, a0g_30, a0g_31, a0g_32, a0g_33, a0g_34, a0g_35, a0g_36, a0g_37, a0g_38, a0g_39]))] [] (fun A _ => True) (fun A => va_Qi (fun (r : Int32) (_ : Unit) => r = (-1)) (fun (_ : Unit) (t : State) => ∃ na0_0 : Int32, ∃ na0_11 : Int32, ax_B dC dI A [(a0, .inr (8, [Value.int na0_0, a0g_1, a0g_2, a0g_3, a0g_4, a0g_5, a0g_6, a0g_7, a0g_8, a0g_9, a0g_10, Value.int na0_11, a0g_12, a0g_13, Value.int a0_14, a0g_15, a0g_16, a0g_17, a0g_18, a0g_19, a0g_20, a0g_21, a0g_22, a0g_23, a0g_24, a0g_25, a0g_26, a0g_27, a0g_28, a0g_29, a0g_30, a0g_31, a0g_32, a0g_33, a0g_34, a0g_35, a0g_36, a0g_37, a0g_38, a0g_39]))] [] t) A) := by
  refine zh (cc := cX8_wind) (maxL := 3) (ret := (some .int)) zn_RX8 rfl (Nat.le_of_ble_eq_true rfl) (fun p e s m below meth c A ls hx hb hml hr hts (hown : s.vm.findClass RX8 = some m.cls) hlocks hA hS hP hK hD hE (hl : lv_has ls 3 [(0, .ref a0), (1, .int a1)]) => ?_)
  refine lv_aload_n hx hb dX8_wind_0 rfl (lv_at hl 0 rfl) ?_
  refine va_callv (va_runV (As := []) (rest := []) ⟨hx, hb, hml, hown, hts⟩ (c_X8_good l dC dI s.heap.size a0 a0_0 a0g_1 a0g_2 a0g_3 a0g_4 a0g_5 a0g_6 a0g_7 a0g_8 a0g_9 a0g_10 a0g_12 a0g_13 (Value.int a0_14) a0g_15 a0g_16 a0g_17 a0g_18 a0g_19 a0g_20 a0g_21 a0g_22 a0g_23 a0g_24 a0g_25 a0g_26 a0g_27 a0g_28 a0g_29 a0g_30 a0g_31 a0g_32 a0g_33 a0g_34 a0g_35 a0g_36 a0g_37 a0g_38 a0g_39 a0_11 ) (cwV 0 hts gX8_wind_X8_good rfl rfl rfl zd_X8_good ⟨Nat.le_of_ble_eq_true rfl, Nat.le_of_ble_eq_true rfl⟩) ⟨ax_blind (fun _ _ _ _ _ => trivial), zr_8 (zp_K hK) (zp_P1 hP) (q0 := 0) rfl, ax_pre (zp_P1 hP) (zp_K hK) (zp_D1 hD) (fun _ _ => trivial)⟩ rfl rfl hl.1 rfl (lv_room (Nat.le_of_ble_eq_true rfl)) dX8_wind_1 ⟨Nat.le_of_ble_eq_true rfl, Nat.le_of_ble_eq_true rfl⟩) hS (fun q _ h => zp_F1 hD hS hA q h) (zp_F1 hD hS hA) (fun u t H locs ht hvm hw => zx_2 (fun v1na0_0 v1na0_11 hB hz1 hk1 hS1 => zo1 hB ht hP hD hk1 (zp_F1 hD hS hA) hS1 (fun hP hK1 hD hS => ?_)))
  refine lv_aload_n hx hb dX8_wind_4 rfl (lv_at hl 0 rfl) ?_
  refine lv_iload_n hx hb dX8_wind_5 rfl (lv_at hl 1 rfl) ?_
  refine va_calli (va_runV (As := [.int a1]) (rest := []) ⟨hx, hb, hml, hown, hts⟩ (c0_X8_isFigure l dC dI H.size a0 a1 (Value.int v1na0_0) a0g_1 a0g_2 a0g_3 a0g_4 a0g_5 a0g_6 a0g_7 a0g_8 a0g_9 a0g_10 (Value.int v1na0_11) a0g_12 a0g_13 a0g_15 a0g_16 a0g_17 a0g_18 a0g_19 a0g_20 a0g_21 a0g_22 a0g_23 a0g_24 a0g_25 a0g_26 a0g_27 a0g_28 a0g_29 a0g_30 a0g_31 a0g_32 a0g_33 a0g_34 a0g_35 a0g_36 a0g_37 a0g_38 a0g_39 a0_14 ba0_14_l ba0_14_u) (cwV 1 hts gX8_wind_X8_isFigure rfl rfl rfl zd_X8_isFigure ⟨Nat.le_of_ble_eq_true rfl, Nat.le_of_ble_eq_true rfl⟩) ⟨ax_blind (fun _ _ _ _ _ => trivial), zr_8 (zp_K hK) (zp_P1 hP) (q0 := 0) rfl, ax_pre (zp_P1 hP) (zp_K hK) (zp_D1 hD) (fun _ _ => trivial)⟩ rfl rfl hl.1 rfl (lv_room (Nat.le_of_ble_eq_true rfl)) dX8_wind_6 ⟨Nat.le_of_ble_eq_true rfl, Nat.le_of_ble_eq_true rfl⟩) hS (fun q _ h => zp_F1 hD hS hA q h) (zp_F1 hD hS hA) (fun r6 u t H locs ht hvm hw hB hz1 hk1 hS1 => zo1 hB ht hP hD hk1 (zp_F1 hD hS hA) hS1 (fun hP hK1 hD hS => ?_))
  have hw : r6 = 0 := hw
  have hw := hw.symm
  subst hw
  refine lv_if_ne (tgt := 18) hx hb dX8_wind_9 (by decide) (fun c9 => absurd (by decide +kernel) c9) (fun _ => ?_)
  refine lv_aload_n hx hb dX8_wind_12 rfl (lv_at hl 0 rfl) ?_
  refine lv_iconst (v := 1) hx hb dX8_wind_13 zk_iconst_1 ?_
  refine va_calli (va_runV (As := [.int 1]) (rest := []) ⟨hx, hb, hml, hown, hts⟩ (c_X8_no l dC dI H.size a0 1 (Value.int v1na0_0) a0g_1 a0g_2 a0g_3 a0g_4 a0g_5 a0g_6 a0g_7 a0g_8 a0g_9 a0g_10 a0g_12 a0g_13 (Value.int a0_14) a0g_15 a0g_16 a0g_17 a0g_18 a0g_19 a0g_20 a0g_21 a0g_22 a0g_23 a0g_24 a0g_25 a0g_26 a0g_27 a0g_28 a0g_29 a0g_30 a0g_31 a0g_32 a0g_33 a0g_34 a0g_35 a0g_36 a0g_37 a0g_38 a0g_39 v1na0_11 ) (cwV 1 hts gX8_wind_X8_no rfl rfl rfl zd_X8_no ⟨Nat.le_of_ble_eq_true rfl, Nat.le_of_ble_eq_true rfl⟩) ⟨ax_blind (fun _ _ _ _ _ => trivial), zr_8 (zp_K hK) (zp_P1 hP) (q0 := 0) rfl, ax_pre (zp_P1 hP) (zp_K hK) (zp_D1 hD) (fun _ _ => trivial)⟩ rfl rfl hl.1 rfl (lv_room (Nat.le_of_ble_eq_true rfl)) dX8_wind_14 ⟨Nat.le_of_ble_eq_true rfl, Nat.le_of_ble_eq_true rfl⟩) hS (fun q _ h => zp_F1 hD hS hA q h) (zp_F1 hD hS hA) (fun r14 u t H locs ht hvm hw => zx_1 (fun v14na0_11 hB hz1 hk1 hS1 => zo1 hB ht hP hD hk1 (zp_F1 hD hS hA) hS1 (fun hP hK1 hD hS => ?_)))
  have hw : r14 = (-1) := hw
  have hw := hw.symm
  subst hw
  exact W.iret (v := (-1)) hx hb hr (fun t ht hW => ⟨⟨(-1), (), rfl, rfl, v1na0_0, v14na0_11, by rw [ht]; exact hP, va_K.moved hW.alike hK, hD⟩, hS.F ht⟩) hS.2.2 dX8_wind_17

set_option maxHeartbeats 4000000 in
set_option maxRecDepth 100000 in
theorem c0_X8_image (l : Launch) (dC : Nat → ClassId) (dI : Nat → Nat → Nat) (sz : Nat) (a0 : Nat) (a0_0 : Int32) (a0g_1 a0g_2 a0g_3 a0g_4 a0g_5 a0g_6 a0g_7 a0g_8 a0g_9 a0g_10 a0g_12 a0g_13 a0g_15 a0g_16 a0g_17 a0g_18 a0g_19 a0g_20 a0g_21 a0g_22 a0g_23 a0g_24 a0g_25 a0g_26 a0g_27 a0g_28 a0g_29 a0g_30 a0g_31 a0g_32 a0g_33 a0g_34 a0g_35 a0g_36 a0g_37 a0g_38 a0g_39 : Value) (a0_11 : Int32) (a0_14 : Int32) (ba0_14_l : (0 : Int) ≤ a0_14.toInt) (ba0_14_u : a0_14.toInt ≤ (0 : Int)) : zm l yX8_image wsX8_image ({ frames := 1, cells := 0, slots := 0, locals := 21 }) [.ref a0] dC dI sz [(a0, .inr (8, [Value.int a0_0, a0g_1, a0g_2, a0g_3, a0g_4, a0g_5, a0g_6, a0g_7, a0g_8, a0g_9, a0g_10, Value.int a0_11, a0g_12, a0g_13, Value.int a0_14, a0g_15, a0g_16, a0g_17, a0g_18, a0g_19, a0g_20, a0g_21, a0g_22, a0g_23, a0g_24, a0g_25, a0g_26, a0g_27, a0g_28, a0g_29, a0g_30, a0g_31, a0g_32, a0g_33, a0g_34, a0g_35, a0g_36, a0g_37, a0g_38, a0g_39]))] [] (fun A _ => True) (fun A => va_Qi (fun (r : Int32) (_ : Unit) => r = (-1)) (fun (_ : Unit) (t : State) => ∃ na0_0 : Int32, ∃ na0_11 : Int32, ax_B dC dI A [(a0, .inr (8, [Value.int na0_0, a0g_1, a0g_2, a0g_3, a0g_4, a0g_5, a0g_6, a0g_7, a0g_8, a0g_9, a0g_10, Value.int na0_11, a0g_12, a0g_13, Value.int a0_14, a0g_15, a0g_16, a0g_17, a0g_18, a0g_19, a0g_20, a0g_21, a0g_22, a0g_23, a0g_24, a0g_25, a0g_26, a0g_27, a0g_28, a0g_29, a0g_30, a0g_31, a0g_32, a0g_33, a0g_34, a0g_35, a0g_36, a0g_37, a0g_38, a0g_39]))] [] t) A) := by
  refine zh (cc := cX8_image) (maxL := 1) (ret := (some .int)) zn_RX8 rfl (Nat.le_of_ble_eq_true rfl) (fun p e s m below meth c A ls hx hb hml hr hts (hown : s.vm.findClass RX8 = some m.cls) hlocks hA hS hP hK hD hE (hl : lv_has ls 1 [(0, .ref a0)]) => ?_)
  refine lv_aload_n hx hb dX8_image_0 rfl (lv_at hl 0 rfl) ?_
  refine va_callv (va_runV (As := []) (rest := []) ⟨hx, hb, hml, hown, hts⟩ (c_X8_good l dC dI s.heap.size a0 a0_0 a0g_1 a0g_2 a0g_3 a0g_4 a0g_5 a0g_6 a0g_7 a0g_8 a0g_9 a0g_10 a0g_12 a0g_13 (Value.int a0_14) a0g_15 a0g_16 a0g_17 a0g_18 a0g_19 a0g_20 a0g_21 a0g_22 a0g_23 a0g_24 a0g_25 a0g_26 a0g_27 a0g_28 a0g_29 a0g_30 a0g_31 a0g_32 a0g_33 a0g_34 a0g_35 a0g_36 a0g_37 a0g_38 a0g_39 a0_11 ) (cwV 0 hts gX8_image_X8_good rfl rfl rfl zd_X8_good ⟨Nat.le_of_ble_eq_true rfl, Nat.le_of_ble_eq_true rfl⟩) ⟨ax_blind (fun _ _ _ _ _ => trivial), zr_8 (zp_K hK) (zp_P1 hP) (q0 := 0) rfl, ax_pre (zp_P1 hP) (zp_K hK) (zp_D1 hD) (fun _ _ => trivial)⟩ rfl rfl hl.1 rfl (lv_room (Nat.le_of_ble_eq_true rfl)) dX8_image_1 ⟨Nat.le_of_ble_eq_true rfl, Nat.le_of_ble_eq_true rfl⟩) hS (fun q _ h => zp_F1 hD hS hA q h) (zp_F1 hD hS hA) (fun u t H locs ht hvm hw => zx_2 (fun v1na0_0 v1na0_11 hB hz1 hk1 hS1 => zo1 hB ht hP hD hk1 (zp_F1 hD hS hA) hS1 (fun hP hK1 hD hS => ?_)))
  refine lv_aload_n hx hb dX8_image_4 rfl (lv_at hl 0 rfl) ?_
  refine va_get (D := (dC, dI)) (ci := 8) (v := .int a0_14) (C := RX8) (T := TX8) (N := 40) hx hb hts zi_X8_image_8 hown hK hP 0 rfl rfl 14 (by decide) (hts (.fieldLink RX8 173 "WaxTurnsModel" "hasGallery" "Z") (List.mem_cons_of_mem _ (List.mem_append_left _ (List.mem_of_getElem? (i := 0) rfl)))) (fun _ h9 => h9) rfl dX8_image_5 ?_
  refine lv_if_ne (tgt := 17) hx hb dX8_image_8 (by decide) (fun c8 => ?_) (fun c8 => ?_)
  · have gc8 := ai_ne c8
    have l8t_a0_14 : (1 : Int) ≤ a0_14.toInt := (by first | exact zg_l ba0_14_l gc8 (by decide) (by decide) | (have h1 := ba0_14_l; have h2 : (0 : Int32).toInt = 0 := (by decide); rw [h2] at gc8; omega))
    have u8t_a0_14 : a0_14.toInt ≤ (-1 : Int) := (by first | exact zg_u ba0_14_u gc8 (by decide) (by decide) | (have h1 := ba0_14_u; have h2 : (0 : Int32).toInt = 0 := (by decide); rw [h2] at gc8; omega))
    exact absurd (Int.le_trans l8t_a0_14 u8t_a0_14) (by decide)
  · have gc8 := ai_eq c8
    have u8f_a0_14 : a0_14.toInt ≤ (0 : Int) := ba0_14_u
    have l8f_a0_14 : (0 : Int) ≤ a0_14.toInt := ba0_14_l
    refine lv_aload_n hx hb dX8_image_11 rfl (lv_at hl 0 rfl) ?_
    refine lv_iconst (v := 1) hx hb dX8_image_12 zk_iconst_1 ?_
    refine va_calli (va_runV (As := [.int 1]) (rest := []) ⟨hx, hb, hml, hown, hts⟩ (c_X8_no l dC dI H.size a0 1 (Value.int v1na0_0) a0g_1 a0g_2 a0g_3 a0g_4 a0g_5 a0g_6 a0g_7 a0g_8 a0g_9 a0g_10 a0g_12 a0g_13 (Value.int a0_14) a0g_15 a0g_16 a0g_17 a0g_18 a0g_19 a0g_20 a0g_21 a0g_22 a0g_23 a0g_24 a0g_25 a0g_26 a0g_27 a0g_28 a0g_29 a0g_30 a0g_31 a0g_32 a0g_33 a0g_34 a0g_35 a0g_36 a0g_37 a0g_38 a0g_39 v1na0_11 ) (cwV 1 hts gX8_image_X8_no rfl rfl rfl zd_X8_no ⟨Nat.le_of_ble_eq_true rfl, Nat.le_of_ble_eq_true rfl⟩) ⟨ax_blind (fun _ _ _ _ _ => trivial), zr_8 (zp_K hK) (zp_P1 hP) (q0 := 0) rfl, ax_pre (zp_P1 hP) (zp_K hK) (zp_D1 hD) (fun _ _ => trivial)⟩ rfl rfl hl.1 rfl (lv_room (Nat.le_of_ble_eq_true rfl)) dX8_image_13 ⟨Nat.le_of_ble_eq_true rfl, Nat.le_of_ble_eq_true rfl⟩) hS (fun q _ h => zp_F1 hD hS hA q h) (zp_F1 hD hS hA) (fun r13 u t H locs ht hvm hw => zx_1 (fun v13na0_11 hB hz1 hk1 hS1 => zo1 hB ht hP hD hk1 (zp_F1 hD hS hA) hS1 (fun hP hK1 hD hS => ?_)))
    have hw : r13 = (-1) := hw
    have hw := hw.symm
    subst hw
    exact W.iret (v := (-1)) hx hb hr (fun t ht hW => ⟨⟨(-1), (), rfl, rfl, v1na0_0, v13na0_11, by rw [ht]; exact hP, va_K.moved hW.alike hK, hD⟩, hS.F ht⟩) hS.2.2 dX8_image_16

set_option maxHeartbeats 4000000 in
set_option maxRecDepth 100000 in
theorem c0_X8_watcher (l : Launch) (dC : Nat → ClassId) (dI : Nat → Nat → Nat) (sz : Nat) (a0 : Nat) (a1 : Int32) (a2 : Int32) (a0_0 : Int32) (a0g_1 a0g_2 a0g_3 a0g_4 a0g_5 a0g_6 a0g_7 a0g_8 a0g_9 a0g_10 a0g_12 a0g_13 a0g_15 a0g_16 a0g_17 a0g_18 a0g_19 a0g_20 a0g_21 a0g_22 a0g_23 a0g_24 a0g_25 a0g_26 a0g_27 a0g_28 a0g_29 a0g_30 a0g_31 a0g_32 a0g_33 a0g_34 a0g_35 a0g_36 a0g_37 a0g_38 a0g_39 : Value) (a0_11 : Int32) (a0_14 : Int32) (ba0_14_l : (0 : Int) ≤ a0_14.toInt) (ba0_14_u : a0_14.toInt ≤ (0 : Int)) : zm l yX8_watcher wsX8_watcher ({ frames := 1, cells := 0, slots := 0, locals := 21 }) [.ref a0, .int a1, .int a2] dC dI sz [(a0, .inr (8, [Value.int a0_0, a0g_1, a0g_2, a0g_3, a0g_4, a0g_5, a0g_6, a0g_7, a0g_8, a0g_9, a0g_10, Value.int a0_11, a0g_12, a0g_13, Value.int a0_14, a0g_15, a0g_16, a0g_17, a0g_18, a0g_19, a0g_20, a0g_21, a0g_22, a0g_23, a0g_24, a0g_25, a0g_26, a0g_27, a0g_28, a0g_29, a0g_30, a0g_31, a0g_32, a0g_33, a0g_34, a0g_35, a0g_36, a0g_37, a0g_38, a0g_39]))] [] (fun A _ => True) (fun A => va_Qi (fun (r : Int32) (_ : Unit) => r = (-1)) (fun (_ : Unit) (t : State) => ∃ na0_0 : Int32, ∃ na0_11 : Int32, ax_B dC dI A [(a0, .inr (8, [Value.int na0_0, a0g_1, a0g_2, a0g_3, a0g_4, a0g_5, a0g_6, a0g_7, a0g_8, a0g_9, a0g_10, Value.int na0_11, a0g_12, a0g_13, Value.int a0_14, a0g_15, a0g_16, a0g_17, a0g_18, a0g_19, a0g_20, a0g_21, a0g_22, a0g_23, a0g_24, a0g_25, a0g_26, a0g_27, a0g_28, a0g_29, a0g_30, a0g_31, a0g_32, a0g_33, a0g_34, a0g_35, a0g_36, a0g_37, a0g_38, a0g_39]))] [] t) A) := by
  refine zh (cc := cX8_watcher) (maxL := 3) (ret := (some .int)) zn_RX8 rfl (Nat.le_of_ble_eq_true rfl) (fun p e s m below meth c A ls hx hb hml hr hts (hown : s.vm.findClass RX8 = some m.cls) hlocks hA hS hP hK hD hE (hl : lv_has ls 3 [(0, .ref a0), (1, .int a1), (2, .int a2)]) => ?_)
  refine lv_aload_n hx hb dX8_watcher_0 rfl (lv_at hl 0 rfl) ?_
  refine va_callv (va_runV (As := []) (rest := []) ⟨hx, hb, hml, hown, hts⟩ (c_X8_good l dC dI s.heap.size a0 a0_0 a0g_1 a0g_2 a0g_3 a0g_4 a0g_5 a0g_6 a0g_7 a0g_8 a0g_9 a0g_10 a0g_12 a0g_13 (Value.int a0_14) a0g_15 a0g_16 a0g_17 a0g_18 a0g_19 a0g_20 a0g_21 a0g_22 a0g_23 a0g_24 a0g_25 a0g_26 a0g_27 a0g_28 a0g_29 a0g_30 a0g_31 a0g_32 a0g_33 a0g_34 a0g_35 a0g_36 a0g_37 a0g_38 a0g_39 a0_11 ) (cwV 0 hts gX8_watcher_X8_good rfl rfl rfl zd_X8_good ⟨Nat.le_of_ble_eq_true rfl, Nat.le_of_ble_eq_true rfl⟩) ⟨ax_blind (fun _ _ _ _ _ => trivial), zr_8 (zp_K hK) (zp_P1 hP) (q0 := 0) rfl, ax_pre (zp_P1 hP) (zp_K hK) (zp_D1 hD) (fun _ _ => trivial)⟩ rfl rfl hl.1 rfl (lv_room (Nat.le_of_ble_eq_true rfl)) dX8_watcher_1 ⟨Nat.le_of_ble_eq_true rfl, Nat.le_of_ble_eq_true rfl⟩) hS (fun q _ h => zp_F1 hD hS hA q h) (zp_F1 hD hS hA) (fun u t H locs ht hvm hw => zx_2 (fun v1na0_0 v1na0_11 hB hz1 hk1 hS1 => zo1 hB ht hP hD hk1 (zp_F1 hD hS hA) hS1 (fun hP hK1 hD hS => ?_)))
  refine lv_aload_n hx hb dX8_watcher_4 rfl (lv_at hl 0 rfl) ?_
  refine lv_iload_n hx hb dX8_watcher_5 rfl (lv_at hl 1 rfl) ?_
  refine va_calli (va_runV (As := [.int a1]) (rest := []) ⟨hx, hb, hml, hown, hts⟩ (c0_X8_isWatcher l dC dI H.size a0 a1 (Value.int v1na0_0) a0g_1 a0g_2 a0g_3 a0g_4 a0g_5 a0g_6 a0g_7 a0g_8 a0g_9 a0g_10 (Value.int v1na0_11) a0g_12 a0g_13 a0g_15 a0g_16 a0g_17 a0g_18 a0g_19 a0g_20 a0g_21 a0g_22 a0g_23 a0g_24 a0g_25 a0g_26 a0g_27 a0g_28 a0g_29 a0g_30 a0g_31 a0g_32 a0g_33 a0g_34 a0g_35 a0g_36 a0g_37 a0g_38 a0g_39 a0_14 ba0_14_l ba0_14_u) (cwV 1 hts gX8_watcher_X8_isWatcher rfl rfl rfl zd_X8_isWatcher ⟨Nat.le_of_ble_eq_true rfl, Nat.le_of_ble_eq_true rfl⟩) ⟨ax_blind (fun _ _ _ _ _ => trivial), zr_8 (zp_K hK) (zp_P1 hP) (q0 := 0) rfl, ax_pre (zp_P1 hP) (zp_K hK) (zp_D1 hD) (fun _ _ => trivial)⟩ rfl rfl hl.1 rfl (lv_room (Nat.le_of_ble_eq_true rfl)) dX8_watcher_6 ⟨Nat.le_of_ble_eq_true rfl, Nat.le_of_ble_eq_true rfl⟩) hS (fun q _ h => zp_F1 hD hS hA q h) (zp_F1 hD hS hA) (fun r6 u t H locs ht hvm hw hB hz1 hk1 hS1 => zo1 hB ht hP hD hk1 (zp_F1 hD hS hA) hS1 (fun hP hK1 hD hS => ?_))
  have hw : r6 = 0 := hw
  have hw := hw.symm
  subst hw
  refine lv_if_eq (tgt := 21) hx hb dX8_watcher_9 (by decide) (fun _ => ?_) (fun c9 => absurd (by decide +kernel) c9)
  refine lv_aload_n hx hb dX8_watcher_21 rfl (lv_at hl 0 rfl) ?_
  refine lv_iconst (v := 1) hx hb dX8_watcher_22 zk_iconst_1 ?_
  refine va_calli (va_runV (As := [.int 1]) (rest := []) ⟨hx, hb, hml, hown, hts⟩ (c_X8_no l dC dI H.size a0 1 (Value.int v1na0_0) a0g_1 a0g_2 a0g_3 a0g_4 a0g_5 a0g_6 a0g_7 a0g_8 a0g_9 a0g_10 a0g_12 a0g_13 (Value.int a0_14) a0g_15 a0g_16 a0g_17 a0g_18 a0g_19 a0g_20 a0g_21 a0g_22 a0g_23 a0g_24 a0g_25 a0g_26 a0g_27 a0g_28 a0g_29 a0g_30 a0g_31 a0g_32 a0g_33 a0g_34 a0g_35 a0g_36 a0g_37 a0g_38 a0g_39 v1na0_11 ) (cwV 1 hts gX8_watcher_X8_no rfl rfl rfl zd_X8_no ⟨Nat.le_of_ble_eq_true rfl, Nat.le_of_ble_eq_true rfl⟩) ⟨ax_blind (fun _ _ _ _ _ => trivial), zr_8 (zp_K hK) (zp_P1 hP) (q0 := 0) rfl, ax_pre (zp_P1 hP) (zp_K hK) (zp_D1 hD) (fun _ _ => trivial)⟩ rfl rfl hl.1 rfl (lv_room (Nat.le_of_ble_eq_true rfl)) dX8_watcher_23 ⟨Nat.le_of_ble_eq_true rfl, Nat.le_of_ble_eq_true rfl⟩) hS (fun q _ h => zp_F1 hD hS hA q h) (zp_F1 hD hS hA) (fun r23 u t H locs ht hvm hw => zx_1 (fun v23na0_11 hB hz1 hk1 hS1 => zo1 hB ht hP hD hk1 (zp_F1 hD hS hA) hS1 (fun hP hK1 hD hS => ?_)))
  have hw : r23 = (-1) := hw
  have hw := hw.symm
  subst hw
  exact W.iret (v := (-1)) hx hb hr (fun t ht hW => ⟨⟨(-1), (), rfl, rfl, v1na0_0, v23na0_11, by rw [ht]; exact hP, va_K.moved hW.alike hK, hD⟩, hS.F ht⟩) hS.2.2 dX8_watcher_26

set_option maxHeartbeats 4000000 in
set_option maxRecDepth 100000 in
theorem c0_X8_watch (l : Launch) (dC : Nat → ClassId) (dI : Nat → Nat → Nat) (sz : Nat) (a0 : Nat) (a1 : Int32) (a2 : Int32) (a0_0 : Int32) (a0g_1 a0g_2 a0g_3 a0g_4 a0g_5 a0g_6 a0g_7 a0g_8 a0g_9 a0g_10 a0g_12 a0g_13 a0g_15 a0g_16 a0g_17 a0g_18 a0g_19 a0g_20 a0g_21 a0g_22 a0g_23 a0g_24 a0g_25 a0g_26 a0g_27 a0g_28 a0g_29 a0g_30 a0g_31 a0g_32 a0g_33 a0g_34 a0g_35 a0g_36 a0g_37 a0g_38 a0g_39 : Value) (a0_11 : Int32) (a0_14 : Int32) (ba0_14_l : (0 : Int) ≤ a0_14.toInt) (ba0_14_u : a0_14.toInt ≤ (0 : Int)) : zm l yX8_watch wsX8_watch ({ frames := 2, cells := 0, slots := 0, locals := 45 }) [.ref a0, .int a1, .int a2] dC dI sz [(a0, .inr (8, [Value.int a0_0, a0g_1, a0g_2, a0g_3, a0g_4, a0g_5, a0g_6, a0g_7, a0g_8, a0g_9, a0g_10, Value.int a0_11, a0g_12, a0g_13, Value.int a0_14, a0g_15, a0g_16, a0g_17, a0g_18, a0g_19, a0g_20, a0g_21, a0g_22, a0g_23, a0g_24, a0g_25, a0g_26, a0g_27, a0g_28, a0g_29, a0g_30, a0g_31, a0g_32, a0g_33, a0g_34, a0g_35, a0g_36, a0g_37, a0g_38, a0g_39]))] [] (fun A _ => True) (fun A => va_Qi (fun (r : Int32) (_ : Unit) => r = (-1)) (fun (_ : Unit) (t : State) => ∃ na0_0 : Int32, ∃ na0_11 : Int32, ax_B dC dI A [(a0, .inr (8, [Value.int na0_0, a0g_1, a0g_2, a0g_3, a0g_4, a0g_5, a0g_6, a0g_7, a0g_8, a0g_9, a0g_10, Value.int na0_11, a0g_12, a0g_13, Value.int a0_14, a0g_15, a0g_16, a0g_17, a0g_18, a0g_19, a0g_20, a0g_21, a0g_22, a0g_23, a0g_24, a0g_25, a0g_26, a0g_27, a0g_28, a0g_29, a0g_30, a0g_31, a0g_32, a0g_33, a0g_34, a0g_35, a0g_36, a0g_37, a0g_38, a0g_39]))] [] t) A) := by
  refine zh (cc := cX8_watch) (maxL := 4) (ret := (some .int)) zn_RX8 rfl (Nat.le_of_ble_eq_true rfl) (fun p e s m below meth c A ls hx hb hml hr hts (hown : s.vm.findClass RX8 = some m.cls) hlocks hA hS hP hK hD hE (hl : lv_has ls 4 [(0, .ref a0), (1, .int a1), (2, .int a2)]) => ?_)
  refine lv_aload_n hx hb dX8_watch_0 rfl (lv_at hl 0 rfl) ?_
  refine va_callv (va_runV (As := []) (rest := []) ⟨hx, hb, hml, hown, hts⟩ (c_X8_good l dC dI s.heap.size a0 a0_0 a0g_1 a0g_2 a0g_3 a0g_4 a0g_5 a0g_6 a0g_7 a0g_8 a0g_9 a0g_10 a0g_12 a0g_13 (Value.int a0_14) a0g_15 a0g_16 a0g_17 a0g_18 a0g_19 a0g_20 a0g_21 a0g_22 a0g_23 a0g_24 a0g_25 a0g_26 a0g_27 a0g_28 a0g_29 a0g_30 a0g_31 a0g_32 a0g_33 a0g_34 a0g_35 a0g_36 a0g_37 a0g_38 a0g_39 a0_11 ) (cwV 0 hts gX8_watch_X8_good rfl rfl rfl zd_X8_good ⟨Nat.le_of_ble_eq_true rfl, Nat.le_of_ble_eq_true rfl⟩) ⟨ax_blind (fun _ _ _ _ _ => trivial), zr_8 (zp_K hK) (zp_P1 hP) (q0 := 0) rfl, ax_pre (zp_P1 hP) (zp_K hK) (zp_D1 hD) (fun _ _ => trivial)⟩ rfl rfl hl.1 rfl (lv_room (Nat.le_of_ble_eq_true rfl)) dX8_watch_1 ⟨Nat.le_of_ble_eq_true rfl, Nat.le_of_ble_eq_true rfl⟩) hS (fun q _ h => zp_F1 hD hS hA q h) (zp_F1 hD hS hA) (fun u t H locs ht hvm hw => zx_2 (fun v1na0_0 v1na0_11 hB hz1 hk1 hS1 => zo1 hB ht hP hD hk1 (zp_F1 hD hS hA) hS1 (fun hP hK1 hD hS => ?_)))
  refine lv_aload_n hx hb dX8_watch_4 rfl (lv_at hl 0 rfl) ?_
  refine lv_aload_n hx hb dX8_watch_5 rfl (lv_at hl 0 rfl) ?_
  refine lv_iload_n hx hb dX8_watch_6 rfl (lv_at hl 1 rfl) ?_
  refine va_calli (va_runV (As := [.int a1]) (rest := [.ref a0]) ⟨hx, hb, hml, hown, hts⟩ (c0_X8_isWatcher l dC dI H.size a0 a1 (Value.int v1na0_0) a0g_1 a0g_2 a0g_3 a0g_4 a0g_5 a0g_6 a0g_7 a0g_8 a0g_9 a0g_10 (Value.int v1na0_11) a0g_12 a0g_13 a0g_15 a0g_16 a0g_17 a0g_18 a0g_19 a0g_20 a0g_21 a0g_22 a0g_23 a0g_24 a0g_25 a0g_26 a0g_27 a0g_28 a0g_29 a0g_30 a0g_31 a0g_32 a0g_33 a0g_34 a0g_35 a0g_36 a0g_37 a0g_38 a0g_39 a0_14 ba0_14_l ba0_14_u) (cwV 1 hts gX8_watch_X8_isWatcher rfl rfl rfl zd_X8_isWatcher ⟨Nat.le_of_ble_eq_true rfl, Nat.le_of_ble_eq_true rfl⟩) ⟨ax_blind (fun _ _ _ _ _ => trivial), zr_8 (zp_K hK) (zp_P1 hP) (q0 := 0) rfl, ax_pre (zp_P1 hP) (zp_K hK) (zp_D1 hD) (fun _ _ => trivial)⟩ rfl rfl hl.1 rfl (lv_room (Nat.le_of_ble_eq_true rfl)) dX8_watch_7 ⟨Nat.le_of_ble_eq_true rfl, Nat.le_of_ble_eq_true rfl⟩) hS (fun q _ h => zp_F1 hD hS hA q h) (zp_F1 hD hS hA) (fun r7 u t H locs ht hvm hw hB hz1 hk1 hS1 => zo1 hB ht hP hD hk1 (zp_F1 hD hS hA) hS1 (fun hP hK1 hD hS => ?_))
  have hw : r7 = 0 := hw
  have hw := hw.symm
  subst hw
  refine lv_iconst (v := 1) hx hb dX8_watch_10 zk_iconst_1 ?_
  refine lv_iload_n hx hb dX8_watch_11 rfl (lv_at hl 2 rfl) ?_
  refine va_calli (va_runV (As := [.int 0, .int 1, .int a2]) (rest := []) ⟨hx, hb, hml, hown, hts⟩ (c_X8_aheadWhy l dC dI H.size a0 0 1 a2 (Value.int v1na0_0) a0g_1 a0g_2 a0g_3 a0g_4 a0g_5 a0g_6 a0g_7 a0g_8 a0g_9 a0g_10 (Value.int v1na0_11) a0g_12 a0g_13 (Value.int a0_14) a0g_15 a0g_16 a0g_17 a0g_18 a0g_19 a0g_20 a0g_21 a0g_22 a0g_23 a0g_24 a0g_25 a0g_26 a0g_27 a0g_28 a0g_29 a0g_30 a0g_31 a0g_32 a0g_33 a0g_34 a0g_35 a0g_36 a0g_37 a0g_38 a0g_39 zq5 (Int.le_trans zq6 zq4) (Int.le_trans zq4 zq1) zq0) (cwV 3 hts gX8_watch_X8_aheadWhy rfl rfl rfl zd_X8_aheadWhy ⟨Nat.le_of_ble_eq_true rfl, Nat.le_of_ble_eq_true rfl⟩) ⟨ax_blind (fun _ _ _ _ _ => trivial), zr_8 (zp_K hK) (zp_P1 hP) (q0 := 0) rfl, ax_pre (zp_P1 hP) (zp_K hK) (zp_D1 hD) (fun _ _ => trivial)⟩ rfl rfl hl.1 rfl (lv_room (Nat.le_of_ble_eq_true rfl)) dX8_watch_12 ⟨Nat.le_of_ble_eq_true rfl, Nat.le_of_ble_eq_true rfl⟩) hS (fun q _ h => zp_F1 hD hS hA q h) (zp_F1 hD hS hA) (fun r12 u t H locs ht hvm hw hB hz1 hk1 hS1 => zo1 hB ht hP hD hk1 (zp_F1 hD hS hA) hS1 (fun hP hK1 hD hS => ?_))
  rcases hw with hw | hw | hw
  · obtain ⟨hw, h12_0, h12_1⟩ := hw
    subst hw
    exact absurd h12_0 (by decide)
  · obtain ⟨hw, h12_0, h12_1⟩ := hw
    subst hw
    refine lv_istore_n (lv' := [(3, .int 1), (0, .ref a0), (1, .int a1), (2, .int a2)]) hx hb dX8_watch_15 rfl hl (by decide) rfl (fun ls hl => ?_)
    refine lv_iload_n hx hb dX8_watch_16 rfl (lv_at hl 0 rfl) ?_
    refine lv_if_eq (tgt := 26) hx hb dX8_watch_17 (by decide) (fun c17 => absurd c17 (by decide +kernel)) (fun _ => ?_)
    refine lv_aload_n hx hb dX8_watch_20 rfl (lv_at hl 1 rfl) ?_
    refine lv_iload_n hx hb dX8_watch_21 rfl (lv_at hl 0 rfl) ?_
    refine va_calli (va_runV (As := [.int 1]) (rest := []) ⟨hx, hb, hml, hown, hts⟩ (c_X8_no l dC dI H.size a0 1 (Value.int v1na0_0) a0g_1 a0g_2 a0g_3 a0g_4 a0g_5 a0g_6 a0g_7 a0g_8 a0g_9 a0g_10 a0g_12 a0g_13 (Value.int a0_14) a0g_15 a0g_16 a0g_17 a0g_18 a0g_19 a0g_20 a0g_21 a0g_22 a0g_23 a0g_24 a0g_25 a0g_26 a0g_27 a0g_28 a0g_29 a0g_30 a0g_31 a0g_32 a0g_33 a0g_34 a0g_35 a0g_36 a0g_37 a0g_38 a0g_39 v1na0_11 ) (cwV 1 hts gX8_watch_X8_no rfl rfl rfl zd_X8_no ⟨Nat.le_of_ble_eq_true rfl, Nat.le_of_ble_eq_true rfl⟩) ⟨ax_blind (fun _ _ _ _ _ => trivial), zr_8 (zp_K hK) (zp_P1 hP) (q0 := 0) rfl, ax_pre (zp_P1 hP) (zp_K hK) (zp_D1 hD) (fun _ _ => trivial)⟩ rfl rfl hl.1 rfl (lv_room (Nat.le_of_ble_eq_true rfl)) dX8_watch_22 ⟨Nat.le_of_ble_eq_true rfl, Nat.le_of_ble_eq_true rfl⟩) hS (fun q _ h => zp_F1 hD hS hA q h) (zp_F1 hD hS hA) (fun r22 u t H locs ht hvm hw => zx_1 (fun v22na0_11 hB hz1 hk1 hS1 => zo1 hB ht hP hD hk1 (zp_F1 hD hS hA) hS1 (fun hP hK1 hD hS => ?_)))
    have hw : r22 = (-1) := hw
    have hw := hw.symm
    subst hw
    exact W.iret (v := (-1)) hx hb hr (fun t ht hW => ⟨⟨(-1), (), rfl, rfl, v1na0_0, v22na0_11, by rw [ht]; exact hP, va_K.moved hW.alike hK, hD⟩, hS.F ht⟩) hS.2.2 dX8_watch_25
  · obtain ⟨hw, h12_0, h12_1, h12_2, h12_3⟩ := hw
    subst hw
    exact absurd h12_0 (by decide)
end P280_06_safe
section P280_07_safe
set_option maxHeartbeats 4000000 in
set_option maxRecDepth 100000 in
theorem c0_X8_meets (l : Launch) (dC : Nat → ClassId) (dI : Nat → Nat → Nat) (sz : Nat) (a0 : Nat) (a1 : Int32) (a0_0 : Int32) (a0g_1 a0g_2 a0g_3 a0g_4 a0g_5 a0g_6 a0g_7 a0g_8 a0g_9 a0g_10 a0g_12 a0g_13 a0g_15 a0g_16 a0g_17 a0g_18 a0g_19 a0g_20 a0g_21 a0g_22 a0g_23 a0g_24 a0g_25 a0g_26 a0g_27 a0g_28 a0g_29 a0g_30 a0g_31 a0g_32 a0g_33 a0g_34 a0g_35 a0g_36 a0g_37 a0g_38 a0g_39 : Value) (a0_11 : Int32) (a0_14 : Int32) (ba0_14_l : (0 : Int) ≤ a0_14.toInt) (ba0_14_u : a0_14.toInt ≤ (0 : Int)) : zm l yX8_meets wsX8_meets ({ frames := 1, cells := 0, slots := 0, locals := 21 }) [.ref a0, .int a1] dC dI sz [(a0, .inr (8, [Value.int a0_0, a0g_1, a0g_2, a0g_3, a0g_4, a0g_5, a0g_6, a0g_7, a0g_8, a0g_9, a0g_10, Value.int a0_11, a0g_12, a0g_13, Value.int a0_14, a0g_15, a0g_16, a0g_17, a0g_18, a0g_19, a0g_20, a0g_21, a0g_22, a0g_23, a0g_24, a0g_25, a0g_26, a0g_27, a0g_28, a0g_29, a0g_30, a0g_31, a0g_32, a0g_33, a0g_34, a0g_35, a0g_36, a0g_37, a0g_38, a0g_39]))] [] (fun A _ => True) (fun A => va_Qi (fun (r : Int32) (_ : Unit) => r = (-1)) (fun (_ : Unit) (t : State) => ∃ na0_0 : Int32, ∃ na0_11 : Int32, ax_B dC dI A [(a0, .inr (8, [Value.int na0_0, a0g_1, a0g_2, a0g_3, a0g_4, a0g_5, a0g_6, a0g_7, a0g_8, a0g_9, a0g_10, Value.int na0_11, a0g_12, a0g_13, Value.int a0_14, a0g_15, a0g_16, a0g_17, a0g_18, a0g_19, a0g_20, a0g_21, a0g_22, a0g_23, a0g_24, a0g_25, a0g_26, a0g_27, a0g_28, a0g_29, a0g_30, a0g_31, a0g_32, a0g_33, a0g_34, a0g_35, a0g_36, a0g_37, a0g_38, a0g_39]))] [] t) A) := by
  refine zh (cc := cX8_meets) (maxL := 4) (ret := (some .int)) zn_RX8 rfl (Nat.le_of_ble_eq_true rfl) (fun p e s m below meth c A ls hx hb hml hr hts (hown : s.vm.findClass RX8 = some m.cls) hlocks hA hS hP hK hD hE (hl : lv_has ls 4 [(0, .ref a0), (1, .int a1)]) => ?_)
  refine ai_open (fun K hK0 => ?_)
  refine (hK0 _ _ _).mpr ?_
  refine lv_aload_n hx hb dX8_meets_0 rfl (lv_at hl 0 rfl) ?_
  refine va_callv (va_runV (As := []) (rest := []) ⟨hx, hb, hml, hown, hts⟩ (c_X8_good l dC dI s.heap.size a0 a0_0 a0g_1 a0g_2 a0g_3 a0g_4 a0g_5 a0g_6 a0g_7 a0g_8 a0g_9 a0g_10 a0g_12 a0g_13 (Value.int a0_14) a0g_15 a0g_16 a0g_17 a0g_18 a0g_19 a0g_20 a0g_21 a0g_22 a0g_23 a0g_24 a0g_25 a0g_26 a0g_27 a0g_28 a0g_29 a0g_30 a0g_31 a0g_32 a0g_33 a0g_34 a0g_35 a0g_36 a0g_37 a0g_38 a0g_39 a0_11 ) (cwV 0 hts gX8_meets_X8_good rfl rfl rfl zd_X8_good ⟨Nat.le_of_ble_eq_true rfl, Nat.le_of_ble_eq_true rfl⟩) ⟨ax_blind (fun _ _ _ _ _ => trivial), zr_8 (zp_K hK) (zp_P1 hP) (q0 := 0) rfl, ax_pre (zp_P1 hP) (zp_K hK) (zp_D1 hD) (fun _ _ => trivial)⟩ rfl rfl hl.1 rfl (lv_room (Nat.le_of_ble_eq_true rfl)) dX8_meets_1 ⟨Nat.le_of_ble_eq_true rfl, Nat.le_of_ble_eq_true rfl⟩) hS (fun q _ h => zp_F1 hD hS hA q h) (zp_F1 hD hS hA) (fun u t H locs ht hvm hw => zx_2 (fun v1na0_0 v1na0_11 hB hz1 hk1 hS1 => zo1 hB ht hP hD hk1 (zp_F1 hD hS hA) hS1 (fun hP hK1 hD hS => ?_)))
  refine lv_aload_n hx hb dX8_meets_4 rfl (lv_at hl 0 rfl) ?_
  refine lv_iload_n hx hb dX8_meets_5 rfl (lv_at hl 1 rfl) ?_
  refine va_calli (va_runV (As := [.int a1]) (rest := []) ⟨hx, hb, hml, hown, hts⟩ (c0_X8_isWatcher l dC dI H.size a0 a1 (Value.int v1na0_0) a0g_1 a0g_2 a0g_3 a0g_4 a0g_5 a0g_6 a0g_7 a0g_8 a0g_9 a0g_10 (Value.int v1na0_11) a0g_12 a0g_13 a0g_15 a0g_16 a0g_17 a0g_18 a0g_19 a0g_20 a0g_21 a0g_22 a0g_23 a0g_24 a0g_25 a0g_26 a0g_27 a0g_28 a0g_29 a0g_30 a0g_31 a0g_32 a0g_33 a0g_34 a0g_35 a0g_36 a0g_37 a0g_38 a0g_39 a0_14 ba0_14_l ba0_14_u) (cwV 1 hts gX8_meets_X8_isWatcher rfl rfl rfl zd_X8_isWatcher ⟨Nat.le_of_ble_eq_true rfl, Nat.le_of_ble_eq_true rfl⟩) ⟨ax_blind (fun _ _ _ _ _ => trivial), zr_8 (zp_K hK) (zp_P1 hP) (q0 := 0) rfl, ax_pre (zp_P1 hP) (zp_K hK) (zp_D1 hD) (fun _ _ => trivial)⟩ rfl rfl hl.1 rfl (lv_room (Nat.le_of_ble_eq_true rfl)) dX8_meets_6 ⟨Nat.le_of_ble_eq_true rfl, Nat.le_of_ble_eq_true rfl⟩) hS (fun q _ h => zp_F1 hD hS hA q h) (zp_F1 hD hS hA) (fun r6 u t H locs ht hvm hw hB hz1 hk1 hS1 => zo1 hB ht hP hD hk1 (zp_F1 hD hS hA) hS1 (fun hP hK1 hD hS => ?_))
  have hw : r6 = 0 := hw
  have hw := hw.symm
  subst hw
  refine lv_if_ne (tgt := 18) hx hb dX8_meets_9 (by decide) (fun c9 => absurd (by decide +kernel) c9) (fun _ => ?_)
  refine lv_aload_n hx hb dX8_meets_12 rfl (lv_at hl 0 rfl) ?_
  refine lv_iconst (v := 1) hx hb dX8_meets_13 zk_iconst_1 ?_
  refine va_calli (va_runV (As := [.int 1]) (rest := []) ⟨hx, hb, hml, hown, hts⟩ (c_X8_no l dC dI H.size a0 1 (Value.int v1na0_0) a0g_1 a0g_2 a0g_3 a0g_4 a0g_5 a0g_6 a0g_7 a0g_8 a0g_9 a0g_10 a0g_12 a0g_13 (Value.int a0_14) a0g_15 a0g_16 a0g_17 a0g_18 a0g_19 a0g_20 a0g_21 a0g_22 a0g_23 a0g_24 a0g_25 a0g_26 a0g_27 a0g_28 a0g_29 a0g_30 a0g_31 a0g_32 a0g_33 a0g_34 a0g_35 a0g_36 a0g_37 a0g_38 a0g_39 v1na0_11 ) (cwV 1 hts gX8_meets_X8_no rfl rfl rfl zd_X8_no ⟨Nat.le_of_ble_eq_true rfl, Nat.le_of_ble_eq_true rfl⟩) ⟨ax_blind (fun _ _ _ _ _ => trivial), zr_8 (zp_K hK) (zp_P1 hP) (q0 := 0) rfl, ax_pre (zp_P1 hP) (zp_K hK) (zp_D1 hD) (fun _ _ => trivial)⟩ rfl rfl hl.1 rfl (lv_room (Nat.le_of_ble_eq_true rfl)) dX8_meets_14 ⟨Nat.le_of_ble_eq_true rfl, Nat.le_of_ble_eq_true rfl⟩) hS (fun q _ h => zp_F1 hD hS hA q h) (zp_F1 hD hS hA) (fun r14 u t H locs ht hvm hw => zx_1 (fun v14na0_11 hB hz1 hk1 hS1 => zo1 hB ht hP hD hk1 (zp_F1 hD hS hA) hS1 (fun hP hK1 hD hS => ?_)))
  have hw : r14 = (-1) := hw
  have hw := hw.symm
  subst hw
  exact W.iret (v := (-1)) hx hb hr (fun t ht hW => ⟨⟨(-1), (), rfl, rfl, v1na0_0, v14na0_11, by rw [ht]; exact hP, va_K.moved hW.alike hK, hD⟩, hS.F ht⟩) hS.2.2 dX8_meets_17

set_option maxHeartbeats 4000000 in
set_option maxRecDepth 100000 in
theorem c0_X8_patrol (l : Launch) (dC : Nat → ClassId) (dI : Nat → Nat → Nat) (sz : Nat) (a0 : Nat) (a1 : Int32) (a2 : Int32) (a0_0 : Int32) (a0g_1 a0g_2 a0g_3 a0g_4 a0g_5 a0g_6 a0g_7 a0g_8 a0g_9 a0g_10 a0g_12 a0g_13 a0g_15 a0g_16 a0g_17 a0g_18 a0g_19 a0g_20 a0g_21 a0g_22 a0g_23 a0g_24 a0g_25 a0g_26 a0g_27 a0g_28 a0g_29 a0g_30 a0g_31 a0g_32 a0g_33 a0g_34 a0g_35 a0g_36 a0g_37 a0g_38 a0g_39 : Value) (a0_11 : Int32) (a0_14 : Int32) (ba0_14_l : (0 : Int) ≤ a0_14.toInt) (ba0_14_u : a0_14.toInt ≤ (0 : Int)) : zm l yX8_patrol wsX8_patrol ({ frames := 1, cells := 0, slots := 0, locals := 22 }) [.ref a0, .int a1, .int a2] dC dI sz [(a0, .inr (8, [Value.int a0_0, a0g_1, a0g_2, a0g_3, a0g_4, a0g_5, a0g_6, a0g_7, a0g_8, a0g_9, a0g_10, Value.int a0_11, a0g_12, a0g_13, Value.int a0_14, a0g_15, a0g_16, a0g_17, a0g_18, a0g_19, a0g_20, a0g_21, a0g_22, a0g_23, a0g_24, a0g_25, a0g_26, a0g_27, a0g_28, a0g_29, a0g_30, a0g_31, a0g_32, a0g_33, a0g_34, a0g_35, a0g_36, a0g_37, a0g_38, a0g_39]))] [] (fun A _ => True) (fun A => va_Qi (fun (r : Int32) (_ : Unit) => r = (-1)) (fun (_ : Unit) (t : State) => ∃ na0_0 : Int32, ∃ na0_11 : Int32, ax_B dC dI A [(a0, .inr (8, [Value.int na0_0, a0g_1, a0g_2, a0g_3, a0g_4, a0g_5, a0g_6, a0g_7, a0g_8, a0g_9, a0g_10, Value.int na0_11, a0g_12, a0g_13, Value.int a0_14, a0g_15, a0g_16, a0g_17, a0g_18, a0g_19, a0g_20, a0g_21, a0g_22, a0g_23, a0g_24, a0g_25, a0g_26, a0g_27, a0g_28, a0g_29, a0g_30, a0g_31, a0g_32, a0g_33, a0g_34, a0g_35, a0g_36, a0g_37, a0g_38, a0g_39]))] [] t) A) := by
  refine zh (cc := cX8_patrol) (maxL := 9) (ret := (some .int)) zn_RX8 rfl (Nat.le_of_ble_eq_true rfl) (fun p e s m below meth c A ls hx hb hml hr hts (hown : s.vm.findClass RX8 = some m.cls) hlocks hA hS hP hK hD hE (hl : lv_has ls 9 [(0, .ref a0), (1, .int a1), (2, .int a2)]) => ?_)
  refine ai_open (fun K hK0 => ?_)
  refine (hK0 _ _ _).mpr ?_
  refine lv_aload_n hx hb dX8_patrol_0 rfl (lv_at hl 0 rfl) ?_
  refine va_callv (va_runV (As := []) (rest := []) ⟨hx, hb, hml, hown, hts⟩ (c_X8_good l dC dI s.heap.size a0 a0_0 a0g_1 a0g_2 a0g_3 a0g_4 a0g_5 a0g_6 a0g_7 a0g_8 a0g_9 a0g_10 a0g_12 a0g_13 (Value.int a0_14) a0g_15 a0g_16 a0g_17 a0g_18 a0g_19 a0g_20 a0g_21 a0g_22 a0g_23 a0g_24 a0g_25 a0g_26 a0g_27 a0g_28 a0g_29 a0g_30 a0g_31 a0g_32 a0g_33 a0g_34 a0g_35 a0g_36 a0g_37 a0g_38 a0g_39 a0_11 ) (cwV 0 hts gX8_patrol_X8_good rfl rfl rfl zd_X8_good ⟨Nat.le_of_ble_eq_true rfl, Nat.le_of_ble_eq_true rfl⟩) ⟨ax_blind (fun _ _ _ _ _ => trivial), zr_8 (zp_K hK) (zp_P1 hP) (q0 := 0) rfl, ax_pre (zp_P1 hP) (zp_K hK) (zp_D1 hD) (fun _ _ => trivial)⟩ rfl rfl hl.1 rfl (lv_room (Nat.le_of_ble_eq_true rfl)) dX8_patrol_1 ⟨Nat.le_of_ble_eq_true rfl, Nat.le_of_ble_eq_true rfl⟩) hS (fun q _ h => zp_F1 hD hS hA q h) (zp_F1 hD hS hA) (fun u t H locs ht hvm hw => zx_2 (fun v1na0_0 v1na0_11 hB hz1 hk1 hS1 => zo1 hB ht hP hD hk1 (zp_F1 hD hS hA) hS1 (fun hP hK1 hD hS => ?_)))
  refine lv_aload_n hx hb dX8_patrol_4 rfl (lv_at hl 0 rfl) ?_
  refine lv_aload_n hx hb dX8_patrol_5 rfl (lv_at hl 0 rfl) ?_
  refine lv_iload_n hx hb dX8_patrol_6 rfl (lv_at hl 1 rfl) ?_
  refine va_calli (va_runV (As := [.int a1]) (rest := [.ref a0]) ⟨hx, hb, hml, hown, hts⟩ (c0_X8_isWatcher l dC dI H.size a0 a1 (Value.int v1na0_0) a0g_1 a0g_2 a0g_3 a0g_4 a0g_5 a0g_6 a0g_7 a0g_8 a0g_9 a0g_10 (Value.int v1na0_11) a0g_12 a0g_13 a0g_15 a0g_16 a0g_17 a0g_18 a0g_19 a0g_20 a0g_21 a0g_22 a0g_23 a0g_24 a0g_25 a0g_26 a0g_27 a0g_28 a0g_29 a0g_30 a0g_31 a0g_32 a0g_33 a0g_34 a0g_35 a0g_36 a0g_37 a0g_38 a0g_39 a0_14 ba0_14_l ba0_14_u) (cwV 1 hts gX8_patrol_X8_isWatcher rfl rfl rfl zd_X8_isWatcher ⟨Nat.le_of_ble_eq_true rfl, Nat.le_of_ble_eq_true rfl⟩) ⟨ax_blind (fun _ _ _ _ _ => trivial), zr_8 (zp_K hK) (zp_P1 hP) (q0 := 0) rfl, ax_pre (zp_P1 hP) (zp_K hK) (zp_D1 hD) (fun _ _ => trivial)⟩ rfl rfl hl.1 rfl (lv_room (Nat.le_of_ble_eq_true rfl)) dX8_patrol_7 ⟨Nat.le_of_ble_eq_true rfl, Nat.le_of_ble_eq_true rfl⟩) hS (fun q _ h => zp_F1 hD hS hA q h) (zp_F1 hD hS hA) (fun r7 u t H locs ht hvm hw hB hz1 hk1 hS1 => zo1 hB ht hP hD hk1 (zp_F1 hD hS hA) hS1 (fun hP hK1 hD hS => ?_))
  have hw : r7 = 0 := hw
  have hw := hw.symm
  subst hw
  refine lv_iload_n hx hb dX8_patrol_10 rfl (lv_at hl 2 rfl) ?_
  refine lv_iconst (v := 1) hx hb dX8_patrol_11 zk_iconst_1 ?_
  refine lv_bipush (v := 60) hx hb dX8_patrol_12 zk_bipush_60 ?_
  refine va_calli (va_runS (As := [.int a2, .int 1, .int 60]) (rest := [.int 0, .ref a0]) ⟨hx, hb, hml, hown, hts⟩ (c_X8_in l dC dI H.size a2 1 60 ) (va_cwS 3 hts gX8_patrol_X8_in rfl rfl rfl zd_X8_in.2 ⟨Nat.le_of_ble_eq_true rfl, Nat.le_of_ble_eq_true rfl⟩) ⟨ax_blind (fun _ _ _ _ _ => trivial), ax_pre (zp_P0 hP) (zp_K hK) (zp_D0 hD) (fun _ _ => trivial)⟩ rfl rfl hl.1 rfl (lv_room (Nat.le_of_ble_eq_true rfl)) dX8_patrol_14 ⟨Nat.le_of_ble_eq_true rfl, Nat.le_of_ble_eq_true rfl⟩) hS (fun q _ h => zp_F0 hD hS hA q h) (zp_F0 hD hS hA) (fun r14 u t H locs ht hvm hw hB hz1 hk1 hS1 => zo0 hB ht hP hD hk1 (zp_F0 hD hS hA) hS1 (fun hP hK1 hD hS => ?_))
  rcases hw with hw | hw
  · obtain ⟨hw, h14⟩ := hw
    subst hw
    have l14k0_a2 : (1 : Int) ≤ a2.toInt := Int.le_trans zq1 h14.1
    have u14k0_a2 : a2.toInt ≤ (60 : Int) := Int.le_trans h14.2 zq46
    refine va_calli (va_runV (As := [.int 0, .int 1]) (rest := []) ⟨hx, hb, hml, hown, hts⟩ (c_X8_whyB l dC dI H.size a0 0 1 (Value.int v1na0_0) a0g_1 a0g_2 a0g_3 a0g_4 a0g_5 a0g_6 a0g_7 a0g_8 a0g_9 a0g_10 (Value.int v1na0_11) a0g_12 a0g_13 (Value.int a0_14) a0g_15 a0g_16 a0g_17 a0g_18 a0g_19 a0g_20 a0g_21 a0g_22 a0g_23 a0g_24 a0g_25 a0g_26 a0g_27 a0g_28 a0g_29 a0g_30 a0g_31 a0g_32 a0g_33 a0g_34 a0g_35 a0g_36 a0g_37 a0g_38 a0g_39 zq5 (Int.le_trans zq6 zq4) (Int.le_trans zq4 zq1) zq0) (cwV 2 hts gX8_patrol_X8_why rfl rfl rfl zd_X8_why ⟨Nat.le_of_ble_eq_true rfl, Nat.le_of_ble_eq_true rfl⟩) ⟨ax_blind (fun _ _ _ _ _ => trivial), zr_8 (zp_K hK) (zp_P1 hP) (q0 := 0) rfl, ax_pre (zp_P1 hP) (zp_K hK) (zp_D1 hD) (fun _ _ => trivial)⟩ rfl rfl hl.1 rfl (lv_room (Nat.le_of_ble_eq_true rfl)) dX8_patrol_17 ⟨Nat.le_of_ble_eq_true rfl, Nat.le_of_ble_eq_true rfl⟩) hS (fun q _ h => zp_F1 hD hS hA q h) (zp_F1 hD hS hA) (fun r17 u t H locs ht hvm hw hB hz1 hk1 hS1 => zo1 hB ht hP hD hk1 (zp_F1 hD hS hA) hS1 (fun hP hK1 hD hS => ?_))
    rcases hw with hw | hw | hw
    · obtain ⟨hw, h17_0, h17_1, h17_2, h17_3⟩ := hw
      subst hw
      exact absurd h17_0 (by decide)
    · obtain ⟨hw, h17_0, h17_1⟩ := hw
      subst hw
      refine lv_istore_n (lv' := [(3, .int 1), (0, .ref a0), (1, .int a1), (2, .int a2)]) hx hb dX8_patrol_20 rfl hl (by decide) rfl (fun ls hl => ?_)
      refine lv_iload_n hx hb dX8_patrol_21 rfl (lv_at hl 0 rfl) ?_
      refine lv_if_eq (tgt := 31) hx hb dX8_patrol_22 (by decide) (fun c22 => absurd c22 (by decide +kernel)) (fun _ => ?_)
      refine lv_aload_n hx hb dX8_patrol_25 rfl (lv_at hl 1 rfl) ?_
      refine lv_iload_n hx hb dX8_patrol_26 rfl (lv_at hl 0 rfl) ?_
      refine va_calli (va_runV (As := [.int 1]) (rest := []) ⟨hx, hb, hml, hown, hts⟩ (c_X8_no l dC dI H.size a0 1 (Value.int v1na0_0) a0g_1 a0g_2 a0g_3 a0g_4 a0g_5 a0g_6 a0g_7 a0g_8 a0g_9 a0g_10 a0g_12 a0g_13 (Value.int a0_14) a0g_15 a0g_16 a0g_17 a0g_18 a0g_19 a0g_20 a0g_21 a0g_22 a0g_23 a0g_24 a0g_25 a0g_26 a0g_27 a0g_28 a0g_29 a0g_30 a0g_31 a0g_32 a0g_33 a0g_34 a0g_35 a0g_36 a0g_37 a0g_38 a0g_39 v1na0_11 ) (cwV 1 hts gX8_patrol_X8_no rfl rfl rfl zd_X8_no ⟨Nat.le_of_ble_eq_true rfl, Nat.le_of_ble_eq_true rfl⟩) ⟨ax_blind (fun _ _ _ _ _ => trivial), zr_8 (zp_K hK) (zp_P1 hP) (q0 := 0) rfl, ax_pre (zp_P1 hP) (zp_K hK) (zp_D1 hD) (fun _ _ => trivial)⟩ rfl rfl hl.1 rfl (lv_room (Nat.le_of_ble_eq_true rfl)) dX8_patrol_27 ⟨Nat.le_of_ble_eq_true rfl, Nat.le_of_ble_eq_true rfl⟩) hS (fun q _ h => zp_F1 hD hS hA q h) (zp_F1 hD hS hA) (fun r27 u t H locs ht hvm hw => zx_1 (fun v27na0_11 hB hz1 hk1 hS1 => zo1 hB ht hP hD hk1 (zp_F1 hD hS hA) hS1 (fun hP hK1 hD hS => ?_)))
      have hw : r27 = (-1) := hw
      have hw := hw.symm
      subst hw
      exact W.iret (v := (-1)) hx hb hr (fun t ht hW => ⟨⟨(-1), (), rfl, rfl, v1na0_0, v27na0_11, by rw [ht]; exact hP, va_K.moved hW.alike hK, hD⟩, hS.F ht⟩) hS.2.2 dX8_patrol_30
    · obtain ⟨hw, h17_0, h17_1, h17_2, h17_3⟩ := hw
      subst hw
      exact absurd h17_0 (by decide)
  · obtain ⟨hw, h14⟩ := hw
    subst hw
    refine va_calli (va_runV (As := [.int 0, .int 0]) (rest := []) ⟨hx, hb, hml, hown, hts⟩ (c_X8_whyB l dC dI H.size a0 0 0 (Value.int v1na0_0) a0g_1 a0g_2 a0g_3 a0g_4 a0g_5 a0g_6 a0g_7 a0g_8 a0g_9 a0g_10 (Value.int v1na0_11) a0g_12 a0g_13 (Value.int a0_14) a0g_15 a0g_16 a0g_17 a0g_18 a0g_19 a0g_20 a0g_21 a0g_22 a0g_23 a0g_24 a0g_25 a0g_26 a0g_27 a0g_28 a0g_29 a0g_30 a0g_31 a0g_32 a0g_33 a0g_34 a0g_35 a0g_36 a0g_37 a0g_38 a0g_39 zq5 (Int.le_trans zq6 zq4) zq5 (Int.le_trans zq6 zq4)) (cwV 2 hts gX8_patrol_X8_why rfl rfl rfl zd_X8_why ⟨Nat.le_of_ble_eq_true rfl, Nat.le_of_ble_eq_true rfl⟩) ⟨ax_blind (fun _ _ _ _ _ => trivial), zr_8 (zp_K hK) (zp_P1 hP) (q0 := 0) rfl, ax_pre (zp_P1 hP) (zp_K hK) (zp_D1 hD) (fun _ _ => trivial)⟩ rfl rfl hl.1 rfl (lv_room (Nat.le_of_ble_eq_true rfl)) dX8_patrol_17 ⟨Nat.le_of_ble_eq_true rfl, Nat.le_of_ble_eq_true rfl⟩) hS (fun q _ h => zp_F1 hD hS hA q h) (zp_F1 hD hS hA) (fun r17 u t H locs ht hvm hw hB hz1 hk1 hS1 => zo1 hB ht hP hD hk1 (zp_F1 hD hS hA) hS1 (fun hP hK1 hD hS => ?_))
    rcases hw with hw | hw | hw
    · obtain ⟨hw, h17_0, h17_1, h17_2, h17_3⟩ := hw
      subst hw
      exact absurd h17_0 (by decide)
    · obtain ⟨hw, h17_0, h17_1⟩ := hw
      subst hw
      refine lv_istore_n (lv' := [(3, .int 1), (0, .ref a0), (1, .int a1), (2, .int a2)]) hx hb dX8_patrol_20 rfl hl (by decide) rfl (fun ls hl => ?_)
      refine lv_iload_n hx hb dX8_patrol_21 rfl (lv_at hl 0 rfl) ?_
      refine lv_if_eq (tgt := 31) hx hb dX8_patrol_22 (by decide) (fun c22 => absurd c22 (by decide +kernel)) (fun _ => ?_)
      refine lv_aload_n hx hb dX8_patrol_25 rfl (lv_at hl 1 rfl) ?_
      refine lv_iload_n hx hb dX8_patrol_26 rfl (lv_at hl 0 rfl) ?_
      refine va_calli (va_runV (As := [.int 1]) (rest := []) ⟨hx, hb, hml, hown, hts⟩ (c_X8_no l dC dI H.size a0 1 (Value.int v1na0_0) a0g_1 a0g_2 a0g_3 a0g_4 a0g_5 a0g_6 a0g_7 a0g_8 a0g_9 a0g_10 a0g_12 a0g_13 (Value.int a0_14) a0g_15 a0g_16 a0g_17 a0g_18 a0g_19 a0g_20 a0g_21 a0g_22 a0g_23 a0g_24 a0g_25 a0g_26 a0g_27 a0g_28 a0g_29 a0g_30 a0g_31 a0g_32 a0g_33 a0g_34 a0g_35 a0g_36 a0g_37 a0g_38 a0g_39 v1na0_11 ) (cwV 1 hts gX8_patrol_X8_no rfl rfl rfl zd_X8_no ⟨Nat.le_of_ble_eq_true rfl, Nat.le_of_ble_eq_true rfl⟩) ⟨ax_blind (fun _ _ _ _ _ => trivial), zr_8 (zp_K hK) (zp_P1 hP) (q0 := 0) rfl, ax_pre (zp_P1 hP) (zp_K hK) (zp_D1 hD) (fun _ _ => trivial)⟩ rfl rfl hl.1 rfl (lv_room (Nat.le_of_ble_eq_true rfl)) dX8_patrol_27 ⟨Nat.le_of_ble_eq_true rfl, Nat.le_of_ble_eq_true rfl⟩) hS (fun q _ h => zp_F1 hD hS hA q h) (zp_F1 hD hS hA) (fun r27 u t H locs ht hvm hw => zx_1 (fun v27na0_11 hB hz1 hk1 hS1 => zo1 hB ht hP hD hk1 (zp_F1 hD hS hA) hS1 (fun hP hK1 hD hS => ?_)))
      have hw : r27 = (-1) := hw
      have hw := hw.symm
      subst hw
      exact W.iret (v := (-1)) hx hb hr (fun t ht hW => ⟨⟨(-1), (), rfl, rfl, v1na0_0, v27na0_11, by rw [ht]; exact hP, va_K.moved hW.alike hK, hD⟩, hS.F ht⟩) hS.2.2 dX8_patrol_30
    · obtain ⟨hw, h17_0, h17_1, h17_2, h17_3⟩ := hw
      subst hw
      exact absurd h17_0 (by decide)

set_option maxHeartbeats 4000000 in
set_option maxRecDepth 100000 in
theorem c0_X8_odds (l : Launch) (dC : Nat → ClassId) (dI : Nat → Nat → Nat) (sz : Nat) (a0 : Nat) (a1 : Int32) (a2 : Int32) (a3 : Int32) (a0_0 : Int32) (a0g_1 a0g_2 a0g_3 a0g_4 a0g_5 a0g_6 a0g_7 a0g_8 a0g_9 a0g_10 a0g_12 a0g_13 a0g_15 a0g_16 a0g_17 a0g_18 a0g_19 a0g_20 a0g_21 a0g_22 a0g_23 a0g_24 a0g_25 a0g_26 a0g_27 a0g_28 a0g_29 a0g_30 a0g_31 a0g_32 a0g_33 a0g_34 a0g_35 a0g_36 a0g_37 a0g_38 a0g_39 : Value) (a0_11 : Int32) (a0_14 : Int32) (ba0_14_l : (0 : Int) ≤ a0_14.toInt) (ba0_14_u : a0_14.toInt ≤ (0 : Int)) : zm l yX8_odds wsX8_odds ({ frames := 1, cells := 0, slots := 0, locals := 22 }) [.ref a0, .int a1, .int a2, .int a3] dC dI sz [(a0, .inr (8, [Value.int a0_0, a0g_1, a0g_2, a0g_3, a0g_4, a0g_5, a0g_6, a0g_7, a0g_8, a0g_9, a0g_10, Value.int a0_11, a0g_12, a0g_13, Value.int a0_14, a0g_15, a0g_16, a0g_17, a0g_18, a0g_19, a0g_20, a0g_21, a0g_22, a0g_23, a0g_24, a0g_25, a0g_26, a0g_27, a0g_28, a0g_29, a0g_30, a0g_31, a0g_32, a0g_33, a0g_34, a0g_35, a0g_36, a0g_37, a0g_38, a0g_39]))] [] (fun A _ => True) (fun A => va_Ql (fun (r : Int64) (_ : Unit) => True) (fun (_ : Unit) (t : State) => ∃ na0_0 : Int32, ∃ na0_11 : Int32, ax_B dC dI A [(a0, .inr (8, [Value.int na0_0, a0g_1, a0g_2, a0g_3, a0g_4, a0g_5, a0g_6, a0g_7, a0g_8, a0g_9, a0g_10, Value.int na0_11, a0g_12, a0g_13, Value.int a0_14, a0g_15, a0g_16, a0g_17, a0g_18, a0g_19, a0g_20, a0g_21, a0g_22, a0g_23, a0g_24, a0g_25, a0g_26, a0g_27, a0g_28, a0g_29, a0g_30, a0g_31, a0g_32, a0g_33, a0g_34, a0g_35, a0g_36, a0g_37, a0g_38, a0g_39]))] [] t) A) := by
  refine zh (cc := cX8_odds) (maxL := 11) (ret := (some .long)) zn_RX8 rfl (Nat.le_of_ble_eq_true rfl) (fun p e s m below meth c A ls hx hb hml hr hts (hown : s.vm.findClass RX8 = some m.cls) hlocks hA hS hP hK hD hE (hl : lv_has ls 11 [(0, .ref a0), (1, .int a1), (2, .int a2), (3, .int a3)]) => ?_)
  refine ai_open (fun K hK0 => ?_)
  refine (hK0 _ _ _).mpr ?_
  refine lv_aload_n hx hb dX8_odds_0 rfl (lv_at hl 0 rfl) ?_
  refine va_callv (va_runV (As := []) (rest := []) ⟨hx, hb, hml, hown, hts⟩ (c_X8_good l dC dI s.heap.size a0 a0_0 a0g_1 a0g_2 a0g_3 a0g_4 a0g_5 a0g_6 a0g_7 a0g_8 a0g_9 a0g_10 a0g_12 a0g_13 (Value.int a0_14) a0g_15 a0g_16 a0g_17 a0g_18 a0g_19 a0g_20 a0g_21 a0g_22 a0g_23 a0g_24 a0g_25 a0g_26 a0g_27 a0g_28 a0g_29 a0g_30 a0g_31 a0g_32 a0g_33 a0g_34 a0g_35 a0g_36 a0g_37 a0g_38 a0g_39 a0_11 ) (cwV 0 hts gX8_odds_X8_good rfl rfl rfl zd_X8_good ⟨Nat.le_of_ble_eq_true rfl, Nat.le_of_ble_eq_true rfl⟩) ⟨ax_blind (fun _ _ _ _ _ => trivial), zr_8 (zp_K hK) (zp_P1 hP) (q0 := 0) rfl, ax_pre (zp_P1 hP) (zp_K hK) (zp_D1 hD) (fun _ _ => trivial)⟩ rfl rfl hl.1 rfl (lv_room (Nat.le_of_ble_eq_true rfl)) dX8_odds_1 ⟨Nat.le_of_ble_eq_true rfl, Nat.le_of_ble_eq_true rfl⟩) hS (fun q _ h => zp_F1 hD hS hA q h) (zp_F1 hD hS hA) (fun u t H locs ht hvm hw => zx_2 (fun v1na0_0 v1na0_11 hB hz1 hk1 hS1 => zo1 hB ht hP hD hk1 (zp_F1 hD hS hA) hS1 (fun hP hK1 hD hS => ?_)))
  refine lv_aload_n hx hb dX8_odds_4 rfl (lv_at hl 0 rfl) ?_
  refine lv_aload_n hx hb dX8_odds_5 rfl (lv_at hl 0 rfl) ?_
  refine lv_iload_n hx hb dX8_odds_6 rfl (lv_at hl 1 rfl) ?_
  refine va_calli (va_runV (As := [.int a1]) (rest := [.ref a0]) ⟨hx, hb, hml, hown, hts⟩ (c0_X8_isFigure l dC dI H.size a0 a1 (Value.int v1na0_0) a0g_1 a0g_2 a0g_3 a0g_4 a0g_5 a0g_6 a0g_7 a0g_8 a0g_9 a0g_10 (Value.int v1na0_11) a0g_12 a0g_13 a0g_15 a0g_16 a0g_17 a0g_18 a0g_19 a0g_20 a0g_21 a0g_22 a0g_23 a0g_24 a0g_25 a0g_26 a0g_27 a0g_28 a0g_29 a0g_30 a0g_31 a0g_32 a0g_33 a0g_34 a0g_35 a0g_36 a0g_37 a0g_38 a0g_39 a0_14 ba0_14_l ba0_14_u) (cwV 1 hts gX8_odds_X8_isFigure rfl rfl rfl zd_X8_isFigure ⟨Nat.le_of_ble_eq_true rfl, Nat.le_of_ble_eq_true rfl⟩) ⟨ax_blind (fun _ _ _ _ _ => trivial), zr_8 (zp_K hK) (zp_P1 hP) (q0 := 0) rfl, ax_pre (zp_P1 hP) (zp_K hK) (zp_D1 hD) (fun _ _ => trivial)⟩ rfl rfl hl.1 rfl (lv_room (Nat.le_of_ble_eq_true rfl)) dX8_odds_7 ⟨Nat.le_of_ble_eq_true rfl, Nat.le_of_ble_eq_true rfl⟩) hS (fun q _ h => zp_F1 hD hS hA q h) (zp_F1 hD hS hA) (fun r7 u t H locs ht hvm hw hB hz1 hk1 hS1 => zo1 hB ht hP hD hk1 (zp_F1 hD hS hA) hS1 (fun hP hK1 hD hS => ?_))
  have hw : r7 = 0 := hw
  have hw := hw.symm
  subst hw
  refine lv_iload_n hx hb dX8_odds_10 rfl (lv_at hl 2 rfl) ?_
  refine lv_iconst (v := 0) hx hb dX8_odds_11 zk_iconst_0 ?_
  refine lv_bipush (v := 8) hx hb dX8_odds_12 zk_bipush_8 ?_
  refine va_calli (va_runS (As := [.int a2, .int 0, .int 8]) (rest := [.int 0, .ref a0]) ⟨hx, hb, hml, hown, hts⟩ (c_X8_in l dC dI H.size a2 0 8 ) (va_cwS 3 hts gX8_odds_X8_in rfl rfl rfl zd_X8_in.2 ⟨Nat.le_of_ble_eq_true rfl, Nat.le_of_ble_eq_true rfl⟩) ⟨ax_blind (fun _ _ _ _ _ => trivial), ax_pre (zp_P0 hP) (zp_K hK) (zp_D0 hD) (fun _ _ => trivial)⟩ rfl rfl hl.1 rfl (lv_room (Nat.le_of_ble_eq_true rfl)) dX8_odds_14 ⟨Nat.le_of_ble_eq_true rfl, Nat.le_of_ble_eq_true rfl⟩) hS (fun q _ h => zp_F0 hD hS hA q h) (zp_F0 hD hS hA) (fun r14 u t H locs ht hvm hw hB hz1 hk1 hS1 => zo0 hB ht hP hD hk1 (zp_F0 hD hS hA) hS1 (fun hP hK1 hD hS => ?_))
  rcases hw with hw | hw
  · obtain ⟨hw, h14⟩ := hw
    subst hw
    have l14k0_a2 : (0 : Int) ≤ a2.toInt := Int.le_trans zq5 h14.1
    have u14k0_a2 : a2.toInt ≤ (8 : Int) := Int.le_trans h14.2 zq28
    refine va_calli (va_runV (As := [.int 0, .int 1]) (rest := []) ⟨hx, hb, hml, hown, hts⟩ (c_X8_whyB l dC dI H.size a0 0 1 (Value.int v1na0_0) a0g_1 a0g_2 a0g_3 a0g_4 a0g_5 a0g_6 a0g_7 a0g_8 a0g_9 a0g_10 (Value.int v1na0_11) a0g_12 a0g_13 (Value.int a0_14) a0g_15 a0g_16 a0g_17 a0g_18 a0g_19 a0g_20 a0g_21 a0g_22 a0g_23 a0g_24 a0g_25 a0g_26 a0g_27 a0g_28 a0g_29 a0g_30 a0g_31 a0g_32 a0g_33 a0g_34 a0g_35 a0g_36 a0g_37 a0g_38 a0g_39 zq5 (Int.le_trans zq6 zq4) (Int.le_trans zq4 zq1) zq0) (cwV 2 hts gX8_odds_X8_why rfl rfl rfl zd_X8_why ⟨Nat.le_of_ble_eq_true rfl, Nat.le_of_ble_eq_true rfl⟩) ⟨ax_blind (fun _ _ _ _ _ => trivial), zr_8 (zp_K hK) (zp_P1 hP) (q0 := 0) rfl, ax_pre (zp_P1 hP) (zp_K hK) (zp_D1 hD) (fun _ _ => trivial)⟩ rfl rfl hl.1 rfl (lv_room (Nat.le_of_ble_eq_true rfl)) dX8_odds_17 ⟨Nat.le_of_ble_eq_true rfl, Nat.le_of_ble_eq_true rfl⟩) hS (fun q _ h => zp_F1 hD hS hA q h) (zp_F1 hD hS hA) (fun r17 u t H locs ht hvm hw hB hz1 hk1 hS1 => zo1 hB ht hP hD hk1 (zp_F1 hD hS hA) hS1 (fun hP hK1 hD hS => ?_))
    rcases hw with hw | hw | hw
    · obtain ⟨hw, h17_0, h17_1, h17_2, h17_3⟩ := hw
      subst hw
      exact absurd h17_0 (by decide)
    · obtain ⟨hw, h17_0, h17_1⟩ := hw
      subst hw
      refine lv_istore (lv' := [(4, .int 1), (0, .ref a0), (1, .int a1), (2, .int a2), (3, .int a3)]) hx hb dX8_odds_20 hl (by decide) rfl (fun ls hl => ?_)
      refine lv_iload hx hb dX8_odds_22 (lv_at hl 0 rfl) ?_
      refine lv_if_eq (tgt := 35) hx hb dX8_odds_24 (by decide) (fun c24 => absurd c24 (by decide +kernel)) (fun _ => ?_)
      refine lv_aload_n hx hb dX8_odds_27 rfl (lv_at hl 1 rfl) ?_
      refine lv_iload hx hb dX8_odds_28 (lv_at hl 0 rfl) ?_
      refine va_calli (va_runV (As := [.int 1]) (rest := []) ⟨hx, hb, hml, hown, hts⟩ (c_X8_no l dC dI H.size a0 1 (Value.int v1na0_0) a0g_1 a0g_2 a0g_3 a0g_4 a0g_5 a0g_6 a0g_7 a0g_8 a0g_9 a0g_10 a0g_12 a0g_13 (Value.int a0_14) a0g_15 a0g_16 a0g_17 a0g_18 a0g_19 a0g_20 a0g_21 a0g_22 a0g_23 a0g_24 a0g_25 a0g_26 a0g_27 a0g_28 a0g_29 a0g_30 a0g_31 a0g_32 a0g_33 a0g_34 a0g_35 a0g_36 a0g_37 a0g_38 a0g_39 v1na0_11 ) (cwV 1 hts gX8_odds_X8_no rfl rfl rfl zd_X8_no ⟨Nat.le_of_ble_eq_true rfl, Nat.le_of_ble_eq_true rfl⟩) ⟨ax_blind (fun _ _ _ _ _ => trivial), zr_8 (zp_K hK) (zp_P1 hP) (q0 := 0) rfl, ax_pre (zp_P1 hP) (zp_K hK) (zp_D1 hD) (fun _ _ => trivial)⟩ rfl rfl hl.1 rfl (lv_room (Nat.le_of_ble_eq_true rfl)) dX8_odds_30 ⟨Nat.le_of_ble_eq_true rfl, Nat.le_of_ble_eq_true rfl⟩) hS (fun q _ h => zp_F1 hD hS hA q h) (zp_F1 hD hS hA) (fun r30 u t H locs ht hvm hw => zx_1 (fun v30na0_11 hB hz1 hk1 hS1 => zo1 hB ht hP hD hk1 (zp_F1 hD hS hA) hS1 (fun hP hK1 hD hS => ?_)))
      have hw : r30 = (-1) := hw
      have hw := hw.symm
      subst hw
      obtain ⟨x33, ex33⟩ : ∃ y : Int64, y = ((-1) : Int32).toInt64 := ⟨_, rfl⟩
      refine lv_i2l (v := x33) hx hb dX8_odds_33 ex33.symm ?_
      exact W.lret (v := x33) hx hb hr (fun t ht hW => ⟨⟨x33, (), rfl, trivial, v1na0_0, v30na0_11, by rw [ht]; exact hP, va_K.moved hW.alike hK, hD⟩, hS.F ht⟩) hS.2.2 dX8_odds_34
    · obtain ⟨hw, h17_0, h17_1, h17_2, h17_3⟩ := hw
      subst hw
      exact absurd h17_0 (by decide)
  · obtain ⟨hw, h14⟩ := hw
    subst hw
    refine va_calli (va_runV (As := [.int 0, .int 0]) (rest := []) ⟨hx, hb, hml, hown, hts⟩ (c_X8_whyB l dC dI H.size a0 0 0 (Value.int v1na0_0) a0g_1 a0g_2 a0g_3 a0g_4 a0g_5 a0g_6 a0g_7 a0g_8 a0g_9 a0g_10 (Value.int v1na0_11) a0g_12 a0g_13 (Value.int a0_14) a0g_15 a0g_16 a0g_17 a0g_18 a0g_19 a0g_20 a0g_21 a0g_22 a0g_23 a0g_24 a0g_25 a0g_26 a0g_27 a0g_28 a0g_29 a0g_30 a0g_31 a0g_32 a0g_33 a0g_34 a0g_35 a0g_36 a0g_37 a0g_38 a0g_39 zq5 (Int.le_trans zq6 zq4) zq5 (Int.le_trans zq6 zq4)) (cwV 2 hts gX8_odds_X8_why rfl rfl rfl zd_X8_why ⟨Nat.le_of_ble_eq_true rfl, Nat.le_of_ble_eq_true rfl⟩) ⟨ax_blind (fun _ _ _ _ _ => trivial), zr_8 (zp_K hK) (zp_P1 hP) (q0 := 0) rfl, ax_pre (zp_P1 hP) (zp_K hK) (zp_D1 hD) (fun _ _ => trivial)⟩ rfl rfl hl.1 rfl (lv_room (Nat.le_of_ble_eq_true rfl)) dX8_odds_17 ⟨Nat.le_of_ble_eq_true rfl, Nat.le_of_ble_eq_true rfl⟩) hS (fun q _ h => zp_F1 hD hS hA q h) (zp_F1 hD hS hA) (fun r17 u t H locs ht hvm hw hB hz1 hk1 hS1 => zo1 hB ht hP hD hk1 (zp_F1 hD hS hA) hS1 (fun hP hK1 hD hS => ?_))
    rcases hw with hw | hw | hw
    · obtain ⟨hw, h17_0, h17_1, h17_2, h17_3⟩ := hw
      subst hw
      exact absurd h17_0 (by decide)
    · obtain ⟨hw, h17_0, h17_1⟩ := hw
      subst hw
      refine lv_istore (lv' := [(4, .int 1), (0, .ref a0), (1, .int a1), (2, .int a2), (3, .int a3)]) hx hb dX8_odds_20 hl (by decide) rfl (fun ls hl => ?_)
      refine lv_iload hx hb dX8_odds_22 (lv_at hl 0 rfl) ?_
      refine lv_if_eq (tgt := 35) hx hb dX8_odds_24 (by decide) (fun c24 => absurd c24 (by decide +kernel)) (fun _ => ?_)
      refine lv_aload_n hx hb dX8_odds_27 rfl (lv_at hl 1 rfl) ?_
      refine lv_iload hx hb dX8_odds_28 (lv_at hl 0 rfl) ?_
      refine va_calli (va_runV (As := [.int 1]) (rest := []) ⟨hx, hb, hml, hown, hts⟩ (c_X8_no l dC dI H.size a0 1 (Value.int v1na0_0) a0g_1 a0g_2 a0g_3 a0g_4 a0g_5 a0g_6 a0g_7 a0g_8 a0g_9 a0g_10 a0g_12 a0g_13 (Value.int a0_14) a0g_15 a0g_16 a0g_17 a0g_18 a0g_19 a0g_20 a0g_21 a0g_22 a0g_23 a0g_24 a0g_25 a0g_26 a0g_27 a0g_28 a0g_29 a0g_30 a0g_31 a0g_32 a0g_33 a0g_34 a0g_35 a0g_36 a0g_37 a0g_38 a0g_39 v1na0_11 ) (cwV 1 hts gX8_odds_X8_no rfl rfl rfl zd_X8_no ⟨Nat.le_of_ble_eq_true rfl, Nat.le_of_ble_eq_true rfl⟩) ⟨ax_blind (fun _ _ _ _ _ => trivial), zr_8 (zp_K hK) (zp_P1 hP) (q0 := 0) rfl, ax_pre (zp_P1 hP) (zp_K hK) (zp_D1 hD) (fun _ _ => trivial)⟩ rfl rfl hl.1 rfl (lv_room (Nat.le_of_ble_eq_true rfl)) dX8_odds_30 ⟨Nat.le_of_ble_eq_true rfl, Nat.le_of_ble_eq_true rfl⟩) hS (fun q _ h => zp_F1 hD hS hA q h) (zp_F1 hD hS hA) (fun r30 u t H locs ht hvm hw => zx_1 (fun v30na0_11 hB hz1 hk1 hS1 => zo1 hB ht hP hD hk1 (zp_F1 hD hS hA) hS1 (fun hP hK1 hD hS => ?_)))
      have hw : r30 = (-1) := hw
      have hw := hw.symm
      subst hw
      obtain ⟨x33, ex33⟩ : ∃ y : Int64, y = ((-1) : Int32).toInt64 := ⟨_, rfl⟩
      refine lv_i2l (v := x33) hx hb dX8_odds_33 ex33.symm ?_
      exact W.lret (v := x33) hx hb hr (fun t ht hW => ⟨⟨x33, (), rfl, trivial, v1na0_0, v30na0_11, by rw [ht]; exact hP, va_K.moved hW.alike hK, hD⟩, hS.F ht⟩) hS.2.2 dX8_odds_34
    · obtain ⟨hw, h17_0, h17_1, h17_2, h17_3⟩ := hw
      subst hw
      exact absurd h17_0 (by decide)

set_option maxHeartbeats 4000000 in
set_option maxRecDepth 100000 in
theorem c0_X8_mean (l : Launch) (dC : Nat → ClassId) (dI : Nat → Nat → Nat) (sz : Nat) (a0 : Nat) (a1 : Int32) (a2 : Int32) (a3 : Int32) (a0_0 : Int32) (a0g_1 a0g_2 a0g_3 a0g_4 a0g_5 a0g_6 a0g_7 a0g_8 a0g_9 a0g_10 a0g_12 a0g_13 a0g_15 a0g_16 a0g_17 a0g_18 a0g_19 a0g_20 a0g_21 a0g_22 a0g_23 a0g_24 a0g_25 a0g_26 a0g_27 a0g_28 a0g_29 a0g_30 a0g_31 a0g_32 a0g_33 a0g_34 a0g_35 a0g_36 a0g_37 a0g_38 a0g_39 : Value) (a0_11 : Int32) (a0_14 : Int32) (ba0_14_l : (0 : Int) ≤ a0_14.toInt) (ba0_14_u : a0_14.toInt ≤ (0 : Int)) : zm l yX8_mean wsX8_mean ({ frames := 1, cells := 0, slots := 0, locals := 22 }) [.ref a0, .int a1, .int a2, .int a3] dC dI sz [(a0, .inr (8, [Value.int a0_0, a0g_1, a0g_2, a0g_3, a0g_4, a0g_5, a0g_6, a0g_7, a0g_8, a0g_9, a0g_10, Value.int a0_11, a0g_12, a0g_13, Value.int a0_14, a0g_15, a0g_16, a0g_17, a0g_18, a0g_19, a0g_20, a0g_21, a0g_22, a0g_23, a0g_24, a0g_25, a0g_26, a0g_27, a0g_28, a0g_29, a0g_30, a0g_31, a0g_32, a0g_33, a0g_34, a0g_35, a0g_36, a0g_37, a0g_38, a0g_39]))] [] (fun A _ => True) (fun A => va_Ql (fun (r : Int64) (_ : Unit) => True) (fun (_ : Unit) (t : State) => ∃ na0_0 : Int32, ∃ na0_11 : Int32, ax_B dC dI A [(a0, .inr (8, [Value.int na0_0, a0g_1, a0g_2, a0g_3, a0g_4, a0g_5, a0g_6, a0g_7, a0g_8, a0g_9, a0g_10, Value.int na0_11, a0g_12, a0g_13, Value.int a0_14, a0g_15, a0g_16, a0g_17, a0g_18, a0g_19, a0g_20, a0g_21, a0g_22, a0g_23, a0g_24, a0g_25, a0g_26, a0g_27, a0g_28, a0g_29, a0g_30, a0g_31, a0g_32, a0g_33, a0g_34, a0g_35, a0g_36, a0g_37, a0g_38, a0g_39]))] [] t) A) := by
  refine zh (cc := cX8_mean) (maxL := 5) (ret := (some .long)) zn_RX8 rfl (Nat.le_of_ble_eq_true rfl) (fun p e s m below meth c A ls hx hb hml hr hts (hown : s.vm.findClass RX8 = some m.cls) hlocks hA hS hP hK hD hE (hl : lv_has ls 5 [(0, .ref a0), (1, .int a1), (2, .int a2), (3, .int a3)]) => ?_)
  refine lv_aload_n hx hb dX8_mean_0 rfl (lv_at hl 0 rfl) ?_
  refine va_callv (va_runV (As := []) (rest := []) ⟨hx, hb, hml, hown, hts⟩ (c_X8_good l dC dI s.heap.size a0 a0_0 a0g_1 a0g_2 a0g_3 a0g_4 a0g_5 a0g_6 a0g_7 a0g_8 a0g_9 a0g_10 a0g_12 a0g_13 (Value.int a0_14) a0g_15 a0g_16 a0g_17 a0g_18 a0g_19 a0g_20 a0g_21 a0g_22 a0g_23 a0g_24 a0g_25 a0g_26 a0g_27 a0g_28 a0g_29 a0g_30 a0g_31 a0g_32 a0g_33 a0g_34 a0g_35 a0g_36 a0g_37 a0g_38 a0g_39 a0_11 ) (cwV 0 hts gX8_mean_X8_good rfl rfl rfl zd_X8_good ⟨Nat.le_of_ble_eq_true rfl, Nat.le_of_ble_eq_true rfl⟩) ⟨ax_blind (fun _ _ _ _ _ => trivial), zr_8 (zp_K hK) (zp_P1 hP) (q0 := 0) rfl, ax_pre (zp_P1 hP) (zp_K hK) (zp_D1 hD) (fun _ _ => trivial)⟩ rfl rfl hl.1 rfl (lv_room (Nat.le_of_ble_eq_true rfl)) dX8_mean_1 ⟨Nat.le_of_ble_eq_true rfl, Nat.le_of_ble_eq_true rfl⟩) hS (fun q _ h => zp_F1 hD hS hA q h) (zp_F1 hD hS hA) (fun u t H locs ht hvm hw => zx_2 (fun v1na0_0 v1na0_11 hB hz1 hk1 hS1 => zo1 hB ht hP hD hk1 (zp_F1 hD hS hA) hS1 (fun hP hK1 hD hS => ?_)))
  refine lv_aload_n hx hb dX8_mean_4 rfl (lv_at hl 0 rfl) ?_
  refine lv_aload_n hx hb dX8_mean_5 rfl (lv_at hl 0 rfl) ?_
  refine lv_iload_n hx hb dX8_mean_6 rfl (lv_at hl 1 rfl) ?_
  refine va_calli (va_runV (As := [.int a1]) (rest := [.ref a0]) ⟨hx, hb, hml, hown, hts⟩ (c0_X8_isFigure l dC dI H.size a0 a1 (Value.int v1na0_0) a0g_1 a0g_2 a0g_3 a0g_4 a0g_5 a0g_6 a0g_7 a0g_8 a0g_9 a0g_10 (Value.int v1na0_11) a0g_12 a0g_13 a0g_15 a0g_16 a0g_17 a0g_18 a0g_19 a0g_20 a0g_21 a0g_22 a0g_23 a0g_24 a0g_25 a0g_26 a0g_27 a0g_28 a0g_29 a0g_30 a0g_31 a0g_32 a0g_33 a0g_34 a0g_35 a0g_36 a0g_37 a0g_38 a0g_39 a0_14 ba0_14_l ba0_14_u) (cwV 1 hts gX8_mean_X8_isFigure rfl rfl rfl zd_X8_isFigure ⟨Nat.le_of_ble_eq_true rfl, Nat.le_of_ble_eq_true rfl⟩) ⟨ax_blind (fun _ _ _ _ _ => trivial), zr_8 (zp_K hK) (zp_P1 hP) (q0 := 0) rfl, ax_pre (zp_P1 hP) (zp_K hK) (zp_D1 hD) (fun _ _ => trivial)⟩ rfl rfl hl.1 rfl (lv_room (Nat.le_of_ble_eq_true rfl)) dX8_mean_7 ⟨Nat.le_of_ble_eq_true rfl, Nat.le_of_ble_eq_true rfl⟩) hS (fun q _ h => zp_F1 hD hS hA q h) (zp_F1 hD hS hA) (fun r7 u t H locs ht hvm hw hB hz1 hk1 hS1 => zo1 hB ht hP hD hk1 (zp_F1 hD hS hA) hS1 (fun hP hK1 hD hS => ?_))
  have hw : r7 = 0 := hw
  have hw := hw.symm
  subst hw
  refine lv_iload_n hx hb dX8_mean_10 rfl (lv_at hl 2 rfl) ?_
  refine lv_iconst (v := 0) hx hb dX8_mean_11 zk_iconst_0 ?_
  refine lv_bipush (v := 8) hx hb dX8_mean_12 zk_bipush_8 ?_
  refine va_calli (va_runS (As := [.int a2, .int 0, .int 8]) (rest := [.int 0, .ref a0]) ⟨hx, hb, hml, hown, hts⟩ (c_X8_in l dC dI H.size a2 0 8 ) (va_cwS 3 hts gX8_mean_X8_in rfl rfl rfl zd_X8_in.2 ⟨Nat.le_of_ble_eq_true rfl, Nat.le_of_ble_eq_true rfl⟩) ⟨ax_blind (fun _ _ _ _ _ => trivial), ax_pre (zp_P0 hP) (zp_K hK) (zp_D0 hD) (fun _ _ => trivial)⟩ rfl rfl hl.1 rfl (lv_room (Nat.le_of_ble_eq_true rfl)) dX8_mean_14 ⟨Nat.le_of_ble_eq_true rfl, Nat.le_of_ble_eq_true rfl⟩) hS (fun q _ h => zp_F0 hD hS hA q h) (zp_F0 hD hS hA) (fun r14 u t H locs ht hvm hw hB hz1 hk1 hS1 => zo0 hB ht hP hD hk1 (zp_F0 hD hS hA) hS1 (fun hP hK1 hD hS => ?_))
  rcases hw with hw | hw
  · obtain ⟨hw, h14⟩ := hw
    subst hw
    have l14k0_a2 : (0 : Int) ≤ a2.toInt := Int.le_trans zq5 h14.1
    have u14k0_a2 : a2.toInt ≤ (8 : Int) := Int.le_trans h14.2 zq28
    refine va_calli (va_runV (As := [.int 0, .int 1]) (rest := []) ⟨hx, hb, hml, hown, hts⟩ (c_X8_whyB l dC dI H.size a0 0 1 (Value.int v1na0_0) a0g_1 a0g_2 a0g_3 a0g_4 a0g_5 a0g_6 a0g_7 a0g_8 a0g_9 a0g_10 (Value.int v1na0_11) a0g_12 a0g_13 (Value.int a0_14) a0g_15 a0g_16 a0g_17 a0g_18 a0g_19 a0g_20 a0g_21 a0g_22 a0g_23 a0g_24 a0g_25 a0g_26 a0g_27 a0g_28 a0g_29 a0g_30 a0g_31 a0g_32 a0g_33 a0g_34 a0g_35 a0g_36 a0g_37 a0g_38 a0g_39 zq5 (Int.le_trans zq6 zq4) (Int.le_trans zq4 zq1) zq0) (cwV 2 hts gX8_mean_X8_why rfl rfl rfl zd_X8_why ⟨Nat.le_of_ble_eq_true rfl, Nat.le_of_ble_eq_true rfl⟩) ⟨ax_blind (fun _ _ _ _ _ => trivial), zr_8 (zp_K hK) (zp_P1 hP) (q0 := 0) rfl, ax_pre (zp_P1 hP) (zp_K hK) (zp_D1 hD) (fun _ _ => trivial)⟩ rfl rfl hl.1 rfl (lv_room (Nat.le_of_ble_eq_true rfl)) dX8_mean_17 ⟨Nat.le_of_ble_eq_true rfl, Nat.le_of_ble_eq_true rfl⟩) hS (fun q _ h => zp_F1 hD hS hA q h) (zp_F1 hD hS hA) (fun r17 u t H locs ht hvm hw hB hz1 hk1 hS1 => zo1 hB ht hP hD hk1 (zp_F1 hD hS hA) hS1 (fun hP hK1 hD hS => ?_))
    rcases hw with hw | hw | hw
    · obtain ⟨hw, h17_0, h17_1, h17_2, h17_3⟩ := hw
      subst hw
      exact absurd h17_0 (by decide)
    · obtain ⟨hw, h17_0, h17_1⟩ := hw
      subst hw
      refine lv_istore (lv' := [(4, .int 1), (0, .ref a0), (1, .int a1), (2, .int a2), (3, .int a3)]) hx hb dX8_mean_20 hl (by decide) rfl (fun ls hl => ?_)
      refine lv_iload hx hb dX8_mean_22 (lv_at hl 0 rfl) ?_
      refine lv_if_eq (tgt := 35) hx hb dX8_mean_24 (by decide) (fun c24 => absurd c24 (by decide +kernel)) (fun _ => ?_)
      refine lv_aload_n hx hb dX8_mean_27 rfl (lv_at hl 1 rfl) ?_
      refine lv_iload hx hb dX8_mean_28 (lv_at hl 0 rfl) ?_
      refine va_calli (va_runV (As := [.int 1]) (rest := []) ⟨hx, hb, hml, hown, hts⟩ (c_X8_no l dC dI H.size a0 1 (Value.int v1na0_0) a0g_1 a0g_2 a0g_3 a0g_4 a0g_5 a0g_6 a0g_7 a0g_8 a0g_9 a0g_10 a0g_12 a0g_13 (Value.int a0_14) a0g_15 a0g_16 a0g_17 a0g_18 a0g_19 a0g_20 a0g_21 a0g_22 a0g_23 a0g_24 a0g_25 a0g_26 a0g_27 a0g_28 a0g_29 a0g_30 a0g_31 a0g_32 a0g_33 a0g_34 a0g_35 a0g_36 a0g_37 a0g_38 a0g_39 v1na0_11 ) (cwV 1 hts gX8_mean_X8_no rfl rfl rfl zd_X8_no ⟨Nat.le_of_ble_eq_true rfl, Nat.le_of_ble_eq_true rfl⟩) ⟨ax_blind (fun _ _ _ _ _ => trivial), zr_8 (zp_K hK) (zp_P1 hP) (q0 := 0) rfl, ax_pre (zp_P1 hP) (zp_K hK) (zp_D1 hD) (fun _ _ => trivial)⟩ rfl rfl hl.1 rfl (lv_room (Nat.le_of_ble_eq_true rfl)) dX8_mean_30 ⟨Nat.le_of_ble_eq_true rfl, Nat.le_of_ble_eq_true rfl⟩) hS (fun q _ h => zp_F1 hD hS hA q h) (zp_F1 hD hS hA) (fun r30 u t H locs ht hvm hw => zx_1 (fun v30na0_11 hB hz1 hk1 hS1 => zo1 hB ht hP hD hk1 (zp_F1 hD hS hA) hS1 (fun hP hK1 hD hS => ?_)))
      have hw : r30 = (-1) := hw
      have hw := hw.symm
      subst hw
      obtain ⟨x33, ex33⟩ : ∃ y : Int64, y = ((-1) : Int32).toInt64 := ⟨_, rfl⟩
      refine lv_i2l (v := x33) hx hb dX8_mean_33 ex33.symm ?_
      exact W.lret (v := x33) hx hb hr (fun t ht hW => ⟨⟨x33, (), rfl, trivial, v1na0_0, v30na0_11, by rw [ht]; exact hP, va_K.moved hW.alike hK, hD⟩, hS.F ht⟩) hS.2.2 dX8_mean_34
    · obtain ⟨hw, h17_0, h17_1, h17_2, h17_3⟩ := hw
      subst hw
      exact absurd h17_0 (by decide)
  · obtain ⟨hw, h14⟩ := hw
    subst hw
    refine va_calli (va_runV (As := [.int 0, .int 0]) (rest := []) ⟨hx, hb, hml, hown, hts⟩ (c_X8_whyB l dC dI H.size a0 0 0 (Value.int v1na0_0) a0g_1 a0g_2 a0g_3 a0g_4 a0g_5 a0g_6 a0g_7 a0g_8 a0g_9 a0g_10 (Value.int v1na0_11) a0g_12 a0g_13 (Value.int a0_14) a0g_15 a0g_16 a0g_17 a0g_18 a0g_19 a0g_20 a0g_21 a0g_22 a0g_23 a0g_24 a0g_25 a0g_26 a0g_27 a0g_28 a0g_29 a0g_30 a0g_31 a0g_32 a0g_33 a0g_34 a0g_35 a0g_36 a0g_37 a0g_38 a0g_39 zq5 (Int.le_trans zq6 zq4) zq5 (Int.le_trans zq6 zq4)) (cwV 2 hts gX8_mean_X8_why rfl rfl rfl zd_X8_why ⟨Nat.le_of_ble_eq_true rfl, Nat.le_of_ble_eq_true rfl⟩) ⟨ax_blind (fun _ _ _ _ _ => trivial), zr_8 (zp_K hK) (zp_P1 hP) (q0 := 0) rfl, ax_pre (zp_P1 hP) (zp_K hK) (zp_D1 hD) (fun _ _ => trivial)⟩ rfl rfl hl.1 rfl (lv_room (Nat.le_of_ble_eq_true rfl)) dX8_mean_17 ⟨Nat.le_of_ble_eq_true rfl, Nat.le_of_ble_eq_true rfl⟩) hS (fun q _ h => zp_F1 hD hS hA q h) (zp_F1 hD hS hA) (fun r17 u t H locs ht hvm hw hB hz1 hk1 hS1 => zo1 hB ht hP hD hk1 (zp_F1 hD hS hA) hS1 (fun hP hK1 hD hS => ?_))
    rcases hw with hw | hw | hw
    · obtain ⟨hw, h17_0, h17_1, h17_2, h17_3⟩ := hw
      subst hw
      exact absurd h17_0 (by decide)
    · obtain ⟨hw, h17_0, h17_1⟩ := hw
      subst hw
      refine lv_istore (lv' := [(4, .int 1), (0, .ref a0), (1, .int a1), (2, .int a2), (3, .int a3)]) hx hb dX8_mean_20 hl (by decide) rfl (fun ls hl => ?_)
      refine lv_iload hx hb dX8_mean_22 (lv_at hl 0 rfl) ?_
      refine lv_if_eq (tgt := 35) hx hb dX8_mean_24 (by decide) (fun c24 => absurd c24 (by decide +kernel)) (fun _ => ?_)
      refine lv_aload_n hx hb dX8_mean_27 rfl (lv_at hl 1 rfl) ?_
      refine lv_iload hx hb dX8_mean_28 (lv_at hl 0 rfl) ?_
      refine va_calli (va_runV (As := [.int 1]) (rest := []) ⟨hx, hb, hml, hown, hts⟩ (c_X8_no l dC dI H.size a0 1 (Value.int v1na0_0) a0g_1 a0g_2 a0g_3 a0g_4 a0g_5 a0g_6 a0g_7 a0g_8 a0g_9 a0g_10 a0g_12 a0g_13 (Value.int a0_14) a0g_15 a0g_16 a0g_17 a0g_18 a0g_19 a0g_20 a0g_21 a0g_22 a0g_23 a0g_24 a0g_25 a0g_26 a0g_27 a0g_28 a0g_29 a0g_30 a0g_31 a0g_32 a0g_33 a0g_34 a0g_35 a0g_36 a0g_37 a0g_38 a0g_39 v1na0_11 ) (cwV 1 hts gX8_mean_X8_no rfl rfl rfl zd_X8_no ⟨Nat.le_of_ble_eq_true rfl, Nat.le_of_ble_eq_true rfl⟩) ⟨ax_blind (fun _ _ _ _ _ => trivial), zr_8 (zp_K hK) (zp_P1 hP) (q0 := 0) rfl, ax_pre (zp_P1 hP) (zp_K hK) (zp_D1 hD) (fun _ _ => trivial)⟩ rfl rfl hl.1 rfl (lv_room (Nat.le_of_ble_eq_true rfl)) dX8_mean_30 ⟨Nat.le_of_ble_eq_true rfl, Nat.le_of_ble_eq_true rfl⟩) hS (fun q _ h => zp_F1 hD hS hA q h) (zp_F1 hD hS hA) (fun r30 u t H locs ht hvm hw => zx_1 (fun v30na0_11 hB hz1 hk1 hS1 => zo1 hB ht hP hD hk1 (zp_F1 hD hS hA) hS1 (fun hP hK1 hD hS => ?_)))
      have hw : r30 = (-1) := hw
      have hw := hw.symm
      subst hw
      obtain ⟨x33, ex33⟩ : ∃ y : Int64, y = ((-1) : Int32).toInt64 := ⟨_, rfl⟩
      refine lv_i2l (v := x33) hx hb dX8_mean_33 ex33.symm ?_
      exact W.lret (v := x33) hx hb hr (fun t ht hW => ⟨⟨x33, (), rfl, trivial, v1na0_0, v30na0_11, by rw [ht]; exact hP, va_K.moved hW.alike hK, hD⟩, hS.F ht⟩) hS.2.2 dX8_mean_34
    · obtain ⟨hw, h17_0, h17_1, h17_2, h17_3⟩ := hw
      subst hw
      exact absurd h17_0 (by decide)

set_option maxHeartbeats 4000000 in
set_option maxRecDepth 100000 in
theorem c0_X8_dares (l : Launch) (dC : Nat → ClassId) (dI : Nat → Nat → Nat) (sz : Nat) (a0 : Nat) (a1 : Int32) (a2 : Int32) (a3 : Int32) (a4 : Int32) (a0_0 : Int32) (a0g_1 a0g_2 a0g_3 a0g_4 a0g_5 a0g_6 a0g_7 a0g_8 a0g_9 a0g_10 a0g_12 a0g_13 a0g_15 a0g_16 a0g_17 a0g_18 a0g_19 a0g_20 a0g_21 a0g_22 a0g_23 a0g_24 a0g_25 a0g_26 a0g_27 a0g_28 a0g_29 a0g_30 a0g_31 a0g_32 a0g_33 a0g_34 a0g_35 a0g_36 a0g_37 a0g_38 a0g_39 : Value) (a0_11 : Int32) (a0_14 : Int32) (ba0_14_l : (0 : Int) ≤ a0_14.toInt) (ba0_14_u : a0_14.toInt ≤ (0 : Int)) : zm l yX8_dares wsX8_dares ({ frames := 1, cells := 0, slots := 0, locals := 22 }) [.ref a0, .int a1, .int a2, .int a3, .int a4] dC dI sz [(a0, .inr (8, [Value.int a0_0, a0g_1, a0g_2, a0g_3, a0g_4, a0g_5, a0g_6, a0g_7, a0g_8, a0g_9, a0g_10, Value.int a0_11, a0g_12, a0g_13, Value.int a0_14, a0g_15, a0g_16, a0g_17, a0g_18, a0g_19, a0g_20, a0g_21, a0g_22, a0g_23, a0g_24, a0g_25, a0g_26, a0g_27, a0g_28, a0g_29, a0g_30, a0g_31, a0g_32, a0g_33, a0g_34, a0g_35, a0g_36, a0g_37, a0g_38, a0g_39]))] [] (fun A _ => True) (fun A => va_Qi (fun (r : Int32) (_ : Unit) => r = (-100)) (fun (_ : Unit) (t : State) => ∃ na0_0 : Int32, ∃ na0_11 : Int32, ax_B dC dI A [(a0, .inr (8, [Value.int na0_0, a0g_1, a0g_2, a0g_3, a0g_4, a0g_5, a0g_6, a0g_7, a0g_8, a0g_9, a0g_10, Value.int na0_11, a0g_12, a0g_13, Value.int a0_14, a0g_15, a0g_16, a0g_17, a0g_18, a0g_19, a0g_20, a0g_21, a0g_22, a0g_23, a0g_24, a0g_25, a0g_26, a0g_27, a0g_28, a0g_29, a0g_30, a0g_31, a0g_32, a0g_33, a0g_34, a0g_35, a0g_36, a0g_37, a0g_38, a0g_39]))] [] t) A) := by
  refine zh (cc := cX8_dares) (maxL := 6) (ret := (some .int)) zn_RX8 rfl (Nat.le_of_ble_eq_true rfl) (fun p e s m below meth c A ls hx hb hml hr hts (hown : s.vm.findClass RX8 = some m.cls) hlocks hA hS hP hK hD hE (hl : lv_has ls 6 [(0, .ref a0), (1, .int a1), (2, .int a2), (3, .int a3), (4, .int a4)]) => ?_)
  refine lv_aload_n hx hb dX8_dares_0 rfl (lv_at hl 0 rfl) ?_
  refine va_callv (va_runV (As := []) (rest := []) ⟨hx, hb, hml, hown, hts⟩ (c_X8_good l dC dI s.heap.size a0 a0_0 a0g_1 a0g_2 a0g_3 a0g_4 a0g_5 a0g_6 a0g_7 a0g_8 a0g_9 a0g_10 a0g_12 a0g_13 (Value.int a0_14) a0g_15 a0g_16 a0g_17 a0g_18 a0g_19 a0g_20 a0g_21 a0g_22 a0g_23 a0g_24 a0g_25 a0g_26 a0g_27 a0g_28 a0g_29 a0g_30 a0g_31 a0g_32 a0g_33 a0g_34 a0g_35 a0g_36 a0g_37 a0g_38 a0g_39 a0_11 ) (cwV 0 hts gX8_dares_X8_good rfl rfl rfl zd_X8_good ⟨Nat.le_of_ble_eq_true rfl, Nat.le_of_ble_eq_true rfl⟩) ⟨ax_blind (fun _ _ _ _ _ => trivial), zr_8 (zp_K hK) (zp_P1 hP) (q0 := 0) rfl, ax_pre (zp_P1 hP) (zp_K hK) (zp_D1 hD) (fun _ _ => trivial)⟩ rfl rfl hl.1 rfl (lv_room (Nat.le_of_ble_eq_true rfl)) dX8_dares_1 ⟨Nat.le_of_ble_eq_true rfl, Nat.le_of_ble_eq_true rfl⟩) hS (fun q _ h => zp_F1 hD hS hA q h) (zp_F1 hD hS hA) (fun u t H locs ht hvm hw => zx_2 (fun v1na0_0 v1na0_11 hB hz1 hk1 hS1 => zo1 hB ht hP hD hk1 (zp_F1 hD hS hA) hS1 (fun hP hK1 hD hS => ?_)))
  refine lv_aload_n hx hb dX8_dares_4 rfl (lv_at hl 0 rfl) ?_
  refine lv_aload_n hx hb dX8_dares_5 rfl (lv_at hl 0 rfl) ?_
  refine va_get (D := (dC, dI)) (ci := 8) (v := .int a0_14) (C := RX8) (T := TX8) (N := 40) hx hb hts zi_X8_dares_8 hown hK hP 0 rfl rfl 14 (by decide) (hts (.fieldLink RX8 173 "WaxTurnsModel" "hasGallery" "Z") (List.mem_cons_of_mem _ (List.mem_append_left _ (List.mem_of_getElem? (i := 0) rfl)))) (fun _ h9 => h9) rfl dX8_dares_6 ?_
  refine lv_iload_n hx hb dX8_dares_9 rfl (lv_at hl 1 rfl) ?_
  refine lv_iconst (v := 0) hx hb dX8_dares_10 zk_iconst_0 ?_
  refine lv_bipush (v := 9) hx hb dX8_dares_11 zk_bipush_9 ?_
  refine va_calli (va_runS (As := [.int a1, .int 0, .int 9]) (rest := [.int a0_14, .ref a0]) ⟨hx, hb, hml, hown, hts⟩ (c_X8_in l dC dI H.size a1 0 9 ) (va_cwS 3 hts gX8_dares_X8_in rfl rfl rfl zd_X8_in.2 ⟨Nat.le_of_ble_eq_true rfl, Nat.le_of_ble_eq_true rfl⟩) ⟨ax_blind (fun _ _ _ _ _ => trivial), ax_pre (zp_P0 hP) (zp_K hK) (zp_D0 hD) (fun _ _ => trivial)⟩ rfl rfl hl.1 rfl (lv_room (Nat.le_of_ble_eq_true rfl)) dX8_dares_13 ⟨Nat.le_of_ble_eq_true rfl, Nat.le_of_ble_eq_true rfl⟩) hS (fun q _ h => zp_F0 hD hS hA q h) (zp_F0 hD hS hA) (fun r13 u t H locs ht hvm hw hB hz1 hk1 hS1 => zo0 hB ht hP hD hk1 (zp_F0 hD hS hA) hS1 (fun hP hK1 hD hS => ?_))
  rcases hw with hw | hw
  · obtain ⟨hw, h13⟩ := hw
    subst hw
    have l13k0_a1 : (0 : Int) ≤ a1.toInt := Int.le_trans zq5 h13.1
    have u13k0_a1 : a1.toInt ≤ (9 : Int) := Int.le_trans h13.2 zq3
    refine va_calli (va_runV (As := [.int a0_14, .int 1]) (rest := []) ⟨hx, hb, hml, hown, hts⟩ (c_X8_whyB l dC dI H.size a0 a0_14 1 (Value.int v1na0_0) a0g_1 a0g_2 a0g_3 a0g_4 a0g_5 a0g_6 a0g_7 a0g_8 a0g_9 a0g_10 (Value.int v1na0_11) a0g_12 a0g_13 (Value.int a0_14) a0g_15 a0g_16 a0g_17 a0g_18 a0g_19 a0g_20 a0g_21 a0g_22 a0g_23 a0g_24 a0g_25 a0g_26 a0g_27 a0g_28 a0g_29 a0g_30 a0g_31 a0g_32 a0g_33 a0g_34 a0g_35 a0g_36 a0g_37 a0g_38 a0g_39 ba0_14_l (Int.le_trans ba0_14_u zq4) (Int.le_trans zq4 zq1) zq0) (cwV 2 hts gX8_dares_X8_why rfl rfl rfl zd_X8_why ⟨Nat.le_of_ble_eq_true rfl, Nat.le_of_ble_eq_true rfl⟩) ⟨ax_blind (fun _ _ _ _ _ => trivial), zr_8 (zp_K hK) (zp_P1 hP) (q0 := 0) rfl, ax_pre (zp_P1 hP) (zp_K hK) (zp_D1 hD) (fun _ _ => trivial)⟩ rfl rfl hl.1 rfl (lv_room (Nat.le_of_ble_eq_true rfl)) dX8_dares_16 ⟨Nat.le_of_ble_eq_true rfl, Nat.le_of_ble_eq_true rfl⟩) hS (fun q _ h => zp_F1 hD hS hA q h) (zp_F1 hD hS hA) (fun r16 u t H locs ht hvm hw hB hz1 hk1 hS1 => zo1 hB ht hP hD hk1 (zp_F1 hD hS hA) hS1 (fun hP hK1 hD hS => ?_))
    rcases hw with hw | hw | hw
    · obtain ⟨hw, h16_0, h16_1, h16_2, h16_3⟩ := hw
      subst hw
      have l16k0_a0_14 : (1 : Int) ≤ a0_14.toInt := h16_0
      have u16k0_a0_14 : a0_14.toInt ≤ (0 : Int) := ba0_14_u
      exact absurd (Int.le_trans l16k0_a0_14 u16k0_a0_14) (by decide)
    · obtain ⟨hw, h16_0, h16_1⟩ := hw
      subst hw
      have l16k1_a0_14 : (0 : Int) ≤ a0_14.toInt := ba0_14_l
      have u16k1_a0_14 : a0_14.toInt ≤ (0 : Int) := ba0_14_u
      refine lv_istore (lv' := [(5, .int 1), (0, .ref a0), (1, .int a1), (2, .int a2), (3, .int a3), (4, .int a4)]) hx hb dX8_dares_19 hl (by decide) rfl (fun ls hl => ?_)
      refine lv_iload hx hb dX8_dares_21 (lv_at hl 0 rfl) ?_
      refine lv_if_ne (tgt := 46) hx hb dX8_dares_23 (by decide) (fun _ => ?_) (fun c23 => absurd c23 (by decide +kernel))
      refine lv_aload_n hx hb dX8_dares_46 rfl (lv_at hl 1 rfl) ?_
      refine lv_iload hx hb dX8_dares_47 (lv_at hl 0 rfl) ?_
      refine va_put (D := (dC, dI)) (ci := 8) (v := .int 1) (ty := .int) (C := RX8) (T := TX8) (N := 40) hx hb hts zi_X8_dares_8 tyX8 tyX8_ok nmX8 hown hK hP hD hS 0 rfl rfl 11 (by decide) (hts (.fieldLink RX8 62 "WaxTurnsModel" "trouble" "I") (List.mem_cons_of_mem _ (List.mem_append_left _ (List.mem_of_getElem? (i := 1) rfl)))) (fun _ h9 => h9) rfl (tyX8_ok 11 (by decide)) rfl rfl (Nat.le_of_ble_eq_true rfl) dX8_dares_49 (fun H locs hP hD hS => ?_)
      refine zs_0 (y := (a0, .inr (8, [Value.int v1na0_0, a0g_1, a0g_2, a0g_3, a0g_4, a0g_5, a0g_6, a0g_7, a0g_8, a0g_9, a0g_10, Value.int 1, a0g_12, a0g_13, Value.int a0_14, a0g_15, a0g_16, a0g_17, a0g_18, a0g_19, a0g_20, a0g_21, a0g_22, a0g_23, a0g_24, a0g_25, a0g_26, a0g_27, a0g_28, a0g_29, a0g_30, a0g_31, a0g_32, a0g_33, a0g_34, a0g_35, a0g_36, a0g_37, a0g_38, a0g_39]))) hP hD rfl (fun hP hD => ?_)
      refine lv_bipush (v := (-100)) hx hb dX8_dares_52 zk_bipush_n100 ?_
      exact W.iret (v := (-100)) hx hb hr (fun t ht hW => ⟨⟨(-100), (), rfl, rfl, v1na0_0, 1, by rw [ht]; exact hP, va_K.moved hW.alike hK, hD⟩, hS.F ht⟩) hS.2.2 dX8_dares_54
    · obtain ⟨hw, h16_0, h16_1, h16_2, h16_3⟩ := hw
      subst hw
      have l16k2_a0_14 : (1 : Int) ≤ a0_14.toInt := h16_0
      have u16k2_a0_14 : a0_14.toInt ≤ (0 : Int) := ba0_14_u
      exact absurd (Int.le_trans l16k2_a0_14 u16k2_a0_14) (by decide)
  · obtain ⟨hw, h13⟩ := hw
    subst hw
    refine va_calli (va_runV (As := [.int a0_14, .int 0]) (rest := []) ⟨hx, hb, hml, hown, hts⟩ (c_X8_whyB l dC dI H.size a0 a0_14 0 (Value.int v1na0_0) a0g_1 a0g_2 a0g_3 a0g_4 a0g_5 a0g_6 a0g_7 a0g_8 a0g_9 a0g_10 (Value.int v1na0_11) a0g_12 a0g_13 (Value.int a0_14) a0g_15 a0g_16 a0g_17 a0g_18 a0g_19 a0g_20 a0g_21 a0g_22 a0g_23 a0g_24 a0g_25 a0g_26 a0g_27 a0g_28 a0g_29 a0g_30 a0g_31 a0g_32 a0g_33 a0g_34 a0g_35 a0g_36 a0g_37 a0g_38 a0g_39 ba0_14_l (Int.le_trans ba0_14_u zq4) zq5 (Int.le_trans zq6 zq4)) (cwV 2 hts gX8_dares_X8_why rfl rfl rfl zd_X8_why ⟨Nat.le_of_ble_eq_true rfl, Nat.le_of_ble_eq_true rfl⟩) ⟨ax_blind (fun _ _ _ _ _ => trivial), zr_8 (zp_K hK) (zp_P1 hP) (q0 := 0) rfl, ax_pre (zp_P1 hP) (zp_K hK) (zp_D1 hD) (fun _ _ => trivial)⟩ rfl rfl hl.1 rfl (lv_room (Nat.le_of_ble_eq_true rfl)) dX8_dares_16 ⟨Nat.le_of_ble_eq_true rfl, Nat.le_of_ble_eq_true rfl⟩) hS (fun q _ h => zp_F1 hD hS hA q h) (zp_F1 hD hS hA) (fun r16 u t H locs ht hvm hw hB hz1 hk1 hS1 => zo1 hB ht hP hD hk1 (zp_F1 hD hS hA) hS1 (fun hP hK1 hD hS => ?_))
    rcases hw with hw | hw | hw
    · obtain ⟨hw, h16_0, h16_1, h16_2, h16_3⟩ := hw
      subst hw
      have l16k0_a0_14 : (1 : Int) ≤ a0_14.toInt := h16_0
      have u16k0_a0_14 : a0_14.toInt ≤ (0 : Int) := ba0_14_u
      exact absurd (Int.le_trans l16k0_a0_14 u16k0_a0_14) (by decide)
    · obtain ⟨hw, h16_0, h16_1⟩ := hw
      subst hw
      have l16k1_a0_14 : (0 : Int) ≤ a0_14.toInt := ba0_14_l
      have u16k1_a0_14 : a0_14.toInt ≤ (0 : Int) := ba0_14_u
      refine lv_istore (lv' := [(5, .int 1), (0, .ref a0), (1, .int a1), (2, .int a2), (3, .int a3), (4, .int a4)]) hx hb dX8_dares_19 hl (by decide) rfl (fun ls hl => ?_)
      refine lv_iload hx hb dX8_dares_21 (lv_at hl 0 rfl) ?_
      refine lv_if_ne (tgt := 46) hx hb dX8_dares_23 (by decide) (fun _ => ?_) (fun c23 => absurd c23 (by decide +kernel))
      refine lv_aload_n hx hb dX8_dares_46 rfl (lv_at hl 1 rfl) ?_
      refine lv_iload hx hb dX8_dares_47 (lv_at hl 0 rfl) ?_
      refine va_put (D := (dC, dI)) (ci := 8) (v := .int 1) (ty := .int) (C := RX8) (T := TX8) (N := 40) hx hb hts zi_X8_dares_8 tyX8 tyX8_ok nmX8 hown hK hP hD hS 0 rfl rfl 11 (by decide) (hts (.fieldLink RX8 62 "WaxTurnsModel" "trouble" "I") (List.mem_cons_of_mem _ (List.mem_append_left _ (List.mem_of_getElem? (i := 1) rfl)))) (fun _ h9 => h9) rfl (tyX8_ok 11 (by decide)) rfl rfl (Nat.le_of_ble_eq_true rfl) dX8_dares_49 (fun H locs hP hD hS => ?_)
      refine zs_0 (y := (a0, .inr (8, [Value.int v1na0_0, a0g_1, a0g_2, a0g_3, a0g_4, a0g_5, a0g_6, a0g_7, a0g_8, a0g_9, a0g_10, Value.int 1, a0g_12, a0g_13, Value.int a0_14, a0g_15, a0g_16, a0g_17, a0g_18, a0g_19, a0g_20, a0g_21, a0g_22, a0g_23, a0g_24, a0g_25, a0g_26, a0g_27, a0g_28, a0g_29, a0g_30, a0g_31, a0g_32, a0g_33, a0g_34, a0g_35, a0g_36, a0g_37, a0g_38, a0g_39]))) hP hD rfl (fun hP hD => ?_)
      refine lv_bipush (v := (-100)) hx hb dX8_dares_52 zk_bipush_n100 ?_
      exact W.iret (v := (-100)) hx hb hr (fun t ht hW => ⟨⟨(-100), (), rfl, rfl, v1na0_0, 1, by rw [ht]; exact hP, va_K.moved hW.alike hK, hD⟩, hS.F ht⟩) hS.2.2 dX8_dares_54
    · obtain ⟨hw, h16_0, h16_1, h16_2, h16_3⟩ := hw
      subst hw
      have l16k2_a0_14 : (1 : Int) ≤ a0_14.toInt := h16_0
      have u16k2_a0_14 : a0_14.toInt ≤ (0 : Int) := ba0_14_u
      exact absurd (Int.le_trans l16k2_a0_14 u16k2_a0_14) (by decide)
end P280_07_safe
section P280_08_safe
set_option maxHeartbeats 4000000 in
set_option maxRecDepth 100000 in
theorem c0_X8_size (l : Launch) (dC : Nat → ClassId) (dI : Nat → Nat → Nat) (sz : Nat) (a0 : Nat) (a1 : Int32) (a0_0 : Int32) (a0g_1 a0g_3 a0g_4 a0g_5 a0g_6 a0g_7 a0g_8 a0g_9 a0g_10 a0g_11 a0g_12 a0g_13 a0g_15 a0g_16 a0g_17 a0g_18 a0g_19 a0g_20 a0g_21 a0g_22 a0g_23 a0g_24 a0g_25 a0g_26 a0g_27 a0g_28 a0g_29 a0g_30 a0g_31 a0g_32 a0g_33 a0g_34 a0g_35 a0g_36 a0g_37 a0g_38 a0g_39 : Value) (a0_2 : Int32) (a0_14 : Int32) (ba0_2_l : (0 : Int) ≤ a0_2.toInt) (ba0_2_u : a0_2.toInt ≤ (900 : Int)) (ba0_14_l : (0 : Int) ≤ a0_14.toInt) (ba0_14_u : a0_14.toInt ≤ (0 : Int)) : zm l yX8_size wsX8_size ({ frames := 1, cells := 0, slots := 0, locals := 22 }) [.ref a0, .int a1] dC dI sz [(a0, .inr (8, [Value.int a0_0, a0g_1, Value.int a0_2, a0g_3, a0g_4, a0g_5, a0g_6, a0g_7, a0g_8, a0g_9, a0g_10, a0g_11, a0g_12, a0g_13, Value.int a0_14, a0g_15, a0g_16, a0g_17, a0g_18, a0g_19, a0g_20, a0g_21, a0g_22, a0g_23, a0g_24, a0g_25, a0g_26, a0g_27, a0g_28, a0g_29, a0g_30, a0g_31, a0g_32, a0g_33, a0g_34, a0g_35, a0g_36, a0g_37, a0g_38, a0g_39]))] [] (fun A _ => True) (fun A => va_Qi (fun (r : Int32) (_ : Unit) => (-1 : Int) ≤ r.toInt ∧ r.toInt ≤ (900 : Int)) (fun (_ : Unit) (t : State) => ∃ na0_0 : Int32, ax_B dC dI A [(a0, .inr (8, [Value.int na0_0, a0g_1, Value.int a0_2, a0g_3, a0g_4, a0g_5, a0g_6, a0g_7, a0g_8, a0g_9, a0g_10, a0g_11, a0g_12, a0g_13, Value.int a0_14, a0g_15, a0g_16, a0g_17, a0g_18, a0g_19, a0g_20, a0g_21, a0g_22, a0g_23, a0g_24, a0g_25, a0g_26, a0g_27, a0g_28, a0g_29, a0g_30, a0g_31, a0g_32, a0g_33, a0g_34, a0g_35, a0g_36, a0g_37, a0g_38, a0g_39]))] [] t) A) := by
  refine zh (cc := cX8_size) (maxL := 2) (ret := (some .int)) zn_RX8 rfl (Nat.le_of_ble_eq_true rfl) (fun p e s m below meth c A ls hx hb hml hr hts (hown : s.vm.findClass RX8 = some m.cls) hlocks hA hS hP hK hD hE (hl : lv_has ls 2 [(0, .ref a0), (1, .int a1)]) => ?_)
  refine lv_aload_n hx hb dX8_size_0 rfl (lv_at hl 0 rfl) ?_
  refine lv_iconst (v := 0) hx hb dX8_size_1 zk_iconst_0 ?_
  refine va_put (D := (dC, dI)) (ci := 8) (v := .int 0) (ty := .int) (C := RX8) (T := TX8) (N := 40) hx hb hts zi_X8_size_8 tyX8 tyX8_ok nmX8 hown hK hP hD hS 0 rfl rfl 0 (by decide) (hts (.fieldLink RX8 59 "WaxTurnsModel" "thrown" "I") (List.mem_cons_of_mem _ (List.mem_append_left _ (List.mem_of_getElem? (i := 0) rfl)))) (fun _ h9 => h9) rfl (tyX8_ok 0 (by decide)) rfl rfl (Nat.le_of_ble_eq_true rfl) dX8_size_2 (fun H locs hP hD hS => ?_)
  refine zs_0 (y := (a0, .inr (8, [Value.int 0, a0g_1, Value.int a0_2, a0g_3, a0g_4, a0g_5, a0g_6, a0g_7, a0g_8, a0g_9, a0g_10, a0g_11, a0g_12, a0g_13, Value.int a0_14, a0g_15, a0g_16, a0g_17, a0g_18, a0g_19, a0g_20, a0g_21, a0g_22, a0g_23, a0g_24, a0g_25, a0g_26, a0g_27, a0g_28, a0g_29, a0g_30, a0g_31, a0g_32, a0g_33, a0g_34, a0g_35, a0g_36, a0g_37, a0g_38, a0g_39]))) hP hD rfl (fun hP hD => ?_)
  refine lv_iload_n hx hb dX8_size_5 rfl (lv_at hl 1 rfl) ?_
  refine lv_bipush (v := 13) hx hb dX8_size_6 zk_bipush_13 ?_
  refine lv_icmp_ne (tgt := 16) hx hb dX8_size_8 (by decide) (fun c8 => ?_) (fun c8 => ?_)
  · have gc8 := ai_ne c8
    refine lv_aload_n hx hb dX8_size_16 rfl (lv_at hl 0 rfl) ?_
    refine va_get (D := (dC, dI)) (ci := 8) (v := .int a0_14) (C := RX8) (T := TX8) (N := 40) hx hb hts zi_X8_size_8 hown hK hP 0 rfl rfl 14 (by decide) (hts (.fieldLink RX8 173 "WaxTurnsModel" "hasGallery" "Z") (List.mem_cons_of_mem _ (List.mem_append_left _ (List.mem_of_getElem? (i := 2) rfl)))) (fun _ h9 => h9) rfl dX8_size_17 ?_
    refine lv_if_ne (tgt := 39) hx hb dX8_size_20 (by decide) (fun c20 => ?_) (fun c20 => ?_)
    · have gc20 := ai_ne c20
      have l20t_a0_14 : (1 : Int) ≤ a0_14.toInt := (by first | exact zg_l ba0_14_l gc20 (by decide) (by decide) | (have h1 := ba0_14_l; have h2 : (0 : Int32).toInt = 0 := (by decide); rw [h2] at gc20; omega))
      have u20t_a0_14 : a0_14.toInt ≤ (-1 : Int) := (by first | exact zg_u ba0_14_u gc20 (by decide) (by decide) | (have h1 := ba0_14_u; have h2 : (0 : Int32).toInt = 0 := (by decide); rw [h2] at gc20; omega))
      exact absurd (Int.le_trans l20t_a0_14 u20t_a0_14) (by decide)
    · have gc20 := ai_eq c20
      have u20f_a0_14 : a0_14.toInt ≤ (0 : Int) := ba0_14_u
      have l20f_a0_14 : (0 : Int) ≤ a0_14.toInt := ba0_14_l
      refine lv_iload_n hx hb dX8_size_23 rfl (lv_at hl 1 rfl) ?_
      refine lv_iconst (v := 0) hx hb dX8_size_24 zk_iconst_0 ?_
      refine lv_bipush (v := 12) hx hb dX8_size_25 zk_bipush_12 ?_
      refine va_calli (va_runS (As := [.int a1, .int 0, .int 12]) (rest := []) ⟨hx, hb, hml, hown, hts⟩ (c_X8_in l dC dI H.size a1 0 12 ) (va_cwS 3 hts gX8_size_X8_in rfl rfl rfl zd_X8_in.2 ⟨Nat.le_of_ble_eq_true rfl, Nat.le_of_ble_eq_true rfl⟩) ⟨ax_blind (fun _ _ _ _ _ => trivial), ax_pre (zp_P0 hP) (zp_K hK) (zp_D0 hD) (fun _ _ => trivial)⟩ rfl rfl hl.1 rfl (lv_room (Nat.le_of_ble_eq_true rfl)) dX8_size_27 ⟨Nat.le_of_ble_eq_true rfl, Nat.le_of_ble_eq_true rfl⟩) hS (fun q _ h => zp_F0 hD hS hA q h) (zp_F0 hD hS hA) (fun r27 u t H locs ht hvm hw hB hz1 hk1 hS1 => zo0 hB ht hP hD hk1 (zp_F0 hD hS hA) hS1 (fun hP hK1 hD hS => ?_))
      rcases hw with hw | hw
      · obtain ⟨hw, h27⟩ := hw
        subst hw
        have l27k0_a1 : (0 : Int) ≤ a1.toInt := Int.le_trans zq5 h27.1
        have u27k0_a1 : a1.toInt ≤ (12 : Int) := Int.le_trans h27.2 zq120
        refine lv_if_eq (tgt := 37) hx hb dX8_size_30 (by decide) (fun c30 => absurd c30 (by decide +kernel)) (fun _ => ?_)
        refine lv_iconst (v := 0) hx hb dX8_size_33 zk_iconst_0 ?_
        refine lv_goto (tgt := 38) hx hb dX8_size_34 (by decide) ?_
        exact W.iret (v := 0) hx hb hr (fun t ht hW => ⟨⟨0, (), rfl, ⟨(Int.le_trans zq69 zq5), (Int.le_trans zq6 zq40)⟩, 0, by rw [ht]; exact hP, va_K.moved hW.alike hK, hD⟩, hS.F ht⟩) hS.2.2 dX8_size_38
      · obtain ⟨hw, h27⟩ := hw
        subst hw
        refine lv_if_eq (tgt := 37) hx hb dX8_size_30 (by decide) (fun _ => ?_) (fun c30 => absurd (by decide +kernel) c30)
        refine lv_iconst (v := (-1)) hx hb dX8_size_37 zk_iconst_n1 ?_
        exact W.iret (v := (-1)) hx hb hr (fun t ht hW => ⟨⟨(-1), (), rfl, ⟨zq70, (Int.le_trans zq71 zq228)⟩, 0, by rw [ht]; exact hP, va_K.moved hW.alike hK, hD⟩, hS.F ht⟩) hS.2.2 dX8_size_38
  · have gc8 := ai_eq c8
    have u8f_a1 : a1.toInt ≤ (13 : Int) := Int.le_trans (Int.le_of_eq gc8) zq122
    have l8f_a1 : (13 : Int) ≤ a1.toInt := Int.le_trans zq121 (Int.le_of_eq gc8.symm)
    refine lv_aload_n hx hb dX8_size_11 rfl (lv_at hl 0 rfl) ?_
    refine va_get (D := (dC, dI)) (ci := 8) (v := .int a0_2) (C := RX8) (T := TX8) (N := 40) hx hb hts zi_X8_size_8 hown hK hP 0 rfl rfl 2 (by decide) (hts (.fieldLink RX8 65 "WaxTurnsModel" "taped" "I") (List.mem_cons_of_mem _ (List.mem_append_left _ (List.mem_of_getElem? (i := 1) rfl)))) (fun _ h9 => h9) rfl dX8_size_12 ?_
    exact W.iret (v := a0_2) hx hb hr (fun t ht hW => ⟨⟨a0_2, (), rfl, ⟨(Int.le_trans zq69 ba0_2_l), ba0_2_u⟩, 0, by rw [ht]; exact hP, va_K.moved hW.alike hK, hD⟩, hS.F ht⟩) hS.2.2 dX8_size_15

set_option maxHeartbeats 4000000 in
set_option maxRecDepth 100000 in
theorem c0_X8_led (l : Launch) (dC : Nat → ClassId) (dI : Nat → Nat → Nat) (sz : Nat) (a0 : Nat) (a1 : Int32) (a0_0 : Int32) (a0g_1 a0g_2 a0g_3 a0g_4 a0g_5 a0g_6 a0g_7 a0g_8 a0g_9 a0g_10 a0g_11 a0g_12 a0g_13 a0g_15 a0g_16 a0g_17 a0g_18 a0g_19 a0g_20 a0g_21 a0g_22 a0g_23 a0g_24 a0g_25 a0g_26 a0g_27 a0g_28 a0g_29 a0g_30 a0g_31 a0g_32 a0g_33 a0g_34 a0g_35 a0g_36 a0g_37 a0g_38 a0g_39 : Value) (a0_14 : Int32) (ba0_14_l : (0 : Int) ≤ a0_14.toInt) (ba0_14_u : a0_14.toInt ≤ (0 : Int)) : zm l yX8_led wsX8_led ({ frames := 0, cells := 0, slots := 0, locals := 0 }) [.ref a0, .int a1] dC dI sz [(a0, .inr (8, [Value.int a0_0, a0g_1, a0g_2, a0g_3, a0g_4, a0g_5, a0g_6, a0g_7, a0g_8, a0g_9, a0g_10, a0g_11, a0g_12, a0g_13, Value.int a0_14, a0g_15, a0g_16, a0g_17, a0g_18, a0g_19, a0g_20, a0g_21, a0g_22, a0g_23, a0g_24, a0g_25, a0g_26, a0g_27, a0g_28, a0g_29, a0g_30, a0g_31, a0g_32, a0g_33, a0g_34, a0g_35, a0g_36, a0g_37, a0g_38, a0g_39]))] [] (fun A _ => True) (fun A => va_Qi (fun (r : Int32) (_ : Unit) => r = 0) (fun (_ : Unit) (t : State) => ∃ na0_0 : Int32, ax_B dC dI A [(a0, .inr (8, [Value.int na0_0, a0g_1, a0g_2, a0g_3, a0g_4, a0g_5, a0g_6, a0g_7, a0g_8, a0g_9, a0g_10, a0g_11, a0g_12, a0g_13, Value.int a0_14, a0g_15, a0g_16, a0g_17, a0g_18, a0g_19, a0g_20, a0g_21, a0g_22, a0g_23, a0g_24, a0g_25, a0g_26, a0g_27, a0g_28, a0g_29, a0g_30, a0g_31, a0g_32, a0g_33, a0g_34, a0g_35, a0g_36, a0g_37, a0g_38, a0g_39]))] [] t) A) := by
  refine zh (cc := cX8_led) (maxL := 4) (ret := (some .int)) zn_RX8 rfl (Nat.le_of_ble_eq_true rfl) (fun p e s m below meth c A ls hx hb hml hr hts (hown : s.vm.findClass RX8 = some m.cls) hlocks hA hS hP hK hD hE (hl : lv_has ls 4 [(0, .ref a0), (1, .int a1)]) => ?_)
  refine ai_open (fun K hK0 => ?_)
  refine (hK0 _ _ _).mpr ?_
  refine lv_iconst (v := 0) hx hb dX8_led_0 zk_iconst_0 ?_
  refine lv_istore_n (lv' := [(2, .int 0), (0, .ref a0), (1, .int a1)]) hx hb dX8_led_1 rfl hl (by decide) rfl (fun ls hl => ?_)
  refine lv_iconst (v := 0) hx hb dX8_led_2 zk_iconst_0 ?_
  refine lv_istore_n (lv' := [(3, .int 0), (2, .int 0), (0, .ref a0), (1, .int a1)]) hx hb dX8_led_3 rfl hl (by decide) rfl (fun ls hl => ?_)
  refine lv_aload_n hx hb dX8_led_4 rfl (lv_at hl 2 rfl) ?_
  refine va_get (D := (dC, dI)) (ci := 8) (v := .int a0_14) (C := RX8) (T := TX8) (N := 40) hx hb hts zi_X8_led_8 hown hK hP 0 rfl rfl 14 (by decide) (hts (.fieldLink RX8 173 "WaxTurnsModel" "hasGallery" "Z") (List.mem_cons_of_mem _ (List.mem_append_left _ (List.mem_of_getElem? (i := 0) rfl)))) (fun _ h9 => h9) rfl dX8_led_5 ?_
  have J55 : ∀ (H : Heap) (locs : List Loc) (ls : Array Slot), va_P (dC, dI) vwCl [(a0, .inr (8, [Value.int a0_0, a0g_1, a0g_2, a0g_3, a0g_4, a0g_5, a0g_6, a0g_7, a0g_8, a0g_9, a0g_10, a0g_11, a0g_12, a0g_13, Value.int a0_14, a0g_15, a0g_16, a0g_17, a0g_18, a0g_19, a0g_20, a0g_21, a0g_22, a0g_23, a0g_24, a0g_25, a0g_26, a0g_27, a0g_28, a0g_29, a0g_30, a0g_31, a0g_32, a0g_33, a0g_34, a0g_35, a0g_36, a0g_37, a0g_38, a0g_39]))] H → va_D A [(a0, .inr (8, [Value.int a0_0, a0g_1, a0g_2, a0g_3, a0g_4, a0g_5, a0g_6, a0g_7, a0g_8, a0g_9, a0g_10, a0g_11, a0g_12, a0g_13, Value.int a0_14, a0g_15, a0g_16, a0g_17, a0g_18, a0g_19, a0g_20, a0g_21, a0g_22, a0g_23, a0g_24, a0g_25, a0g_26, a0g_27, a0g_28, a0g_29, a0g_30, a0g_31, a0g_32, a0g_33, a0g_34, a0g_35, a0g_36, a0g_37, a0g_38, a0g_39]))] → va_S A s.heap H locs → lv_has ls 4 [(0, .ref a0)] → K H locs (F0 m 55 ls []) := by
    intro  H locs ls   hP hD hS hl
    refine (hK0 _ _ _).mpr ?_
    refine lv_aload_n hx hb dX8_led_55 rfl (lv_at hl 0 rfl) ?_
    refine lv_iconst (v := 1) hx hb dX8_led_56 zk_iconst_1 ?_
    refine va_put (D := (dC, dI)) (ci := 8) (v := .int 1) (ty := .int) (C := RX8) (T := TX8) (N := 40) hx hb hts zi_X8_led_8 tyX8 tyX8_ok nmX8 hown hK hP hD hS 0 rfl rfl 0 (by decide) (hts (.fieldLink RX8 59 "WaxTurnsModel" "thrown" "I") (List.mem_cons_of_mem _ (List.mem_append_left _ (List.mem_of_getElem? (i := 3) rfl)))) (fun _ h9 => h9) rfl (tyX8_ok 0 (by decide)) rfl rfl (Nat.le_of_ble_eq_true rfl) dX8_led_57 (fun H locs hP hD hS => ?_)
    refine zs_0 (y := (a0, .inr (8, [Value.int 1, a0g_1, a0g_2, a0g_3, a0g_4, a0g_5, a0g_6, a0g_7, a0g_8, a0g_9, a0g_10, a0g_11, a0g_12, a0g_13, Value.int a0_14, a0g_15, a0g_16, a0g_17, a0g_18, a0g_19, a0g_20, a0g_21, a0g_22, a0g_23, a0g_24, a0g_25, a0g_26, a0g_27, a0g_28, a0g_29, a0g_30, a0g_31, a0g_32, a0g_33, a0g_34, a0g_35, a0g_36, a0g_37, a0g_38, a0g_39]))) hP hD rfl (fun hP hD => ?_)
    refine lv_iconst (v := 0) hx hb dX8_led_60 zk_iconst_0 ?_
    exact W.iret (v := 0) hx hb hr (fun t ht hW => ⟨⟨0, (), rfl, rfl, 1, by rw [ht]; exact hP, va_K.moved hW.alike hK, hD⟩, hS.F ht⟩) hS.2.2 dX8_led_61
  refine lv_if_eq (tgt := 55) hx hb dX8_led_8 (by decide) (fun c8 => ?_) (fun c8 => ?_)
  · have gc8 := ai_eq c8
    have u8t_a0_14 : a0_14.toInt ≤ (0 : Int) := ba0_14_u
    have l8t_a0_14 : (0 : Int) ≤ a0_14.toInt := ba0_14_l
    exact (hK0 _ _ _).mp (J55  _ _ _   hP hD hS (lv_sub hl [2] rfl))
  · have gc8 := ai_ne c8
    have l8f_a0_14 : (1 : Int) ≤ a0_14.toInt := (by first | exact zg_l ba0_14_l gc8 (by decide) (by decide) | (have h1 := ba0_14_l; have h2 : (0 : Int32).toInt = 0 := (by decide); rw [h2] at gc8; omega))
    have u8f_a0_14 : a0_14.toInt ≤ (-1 : Int) := (by first | exact zg_u ba0_14_u gc8 (by decide) (by decide) | (have h1 := ba0_14_u; have h2 : (0 : Int32).toInt = 0 := (by decide); rw [h2] at gc8; omega))
    exact absurd (Int.le_trans l8f_a0_14 u8f_a0_14) (by decide)

set_option maxHeartbeats 4000000 in
set_option maxRecDepth 100000 in
theorem c0_X8_routeAt (l : Launch) (dC : Nat → ClassId) (dI : Nat → Nat → Nat) (sz : Nat) (a0 : Nat) (a1 : Int32) (a2 : Int32) (a3 : Int32) (a0_0 : Int32) (a0g_1 a0g_2 a0g_3 a0g_4 a0g_5 a0g_6 a0g_7 a0g_8 a0g_9 a0g_10 a0g_12 a0g_13 a0g_15 a0g_16 a0g_17 a0g_18 a0g_19 a0g_20 a0g_21 a0g_22 a0g_23 a0g_24 a0g_25 a0g_26 a0g_27 a0g_28 a0g_29 a0g_30 a0g_31 a0g_32 a0g_33 a0g_34 a0g_35 a0g_36 a0g_37 a0g_38 a0g_39 : Value) (a0_11 : Int32) (a0_14 : Int32) (ba0_14_l : (0 : Int) ≤ a0_14.toInt) (ba0_14_u : a0_14.toInt ≤ (0 : Int)) : zm l yX8_routeAt wsX8_routeAt ({ frames := 2, cells := 0, slots := 0, locals := 44 }) [.ref a0, .int a1, .int a2, .int a3] dC dI sz [(a0, .inr (8, [Value.int a0_0, a0g_1, a0g_2, a0g_3, a0g_4, a0g_5, a0g_6, a0g_7, a0g_8, a0g_9, a0g_10, Value.int a0_11, a0g_12, a0g_13, Value.int a0_14, a0g_15, a0g_16, a0g_17, a0g_18, a0g_19, a0g_20, a0g_21, a0g_22, a0g_23, a0g_24, a0g_25, a0g_26, a0g_27, a0g_28, a0g_29, a0g_30, a0g_31, a0g_32, a0g_33, a0g_34, a0g_35, a0g_36, a0g_37, a0g_38, a0g_39]))] [] (fun A _ => True) (fun A => va_Qi (fun (r : Int32) (_ : Unit) => r = (-1)) (fun (_ : Unit) (t : State) => ∃ na0_0 : Int32, ∃ na0_11 : Int32, ax_B dC dI A [(a0, .inr (8, [Value.int na0_0, a0g_1, a0g_2, a0g_3, a0g_4, a0g_5, a0g_6, a0g_7, a0g_8, a0g_9, a0g_10, Value.int na0_11, a0g_12, a0g_13, Value.int a0_14, a0g_15, a0g_16, a0g_17, a0g_18, a0g_19, a0g_20, a0g_21, a0g_22, a0g_23, a0g_24, a0g_25, a0g_26, a0g_27, a0g_28, a0g_29, a0g_30, a0g_31, a0g_32, a0g_33, a0g_34, a0g_35, a0g_36, a0g_37, a0g_38, a0g_39]))] [] t) A) := by
  refine zh (cc := cX8_routeAt) (maxL := 7) (ret := (some .int)) zn_RX8 rfl (Nat.le_of_ble_eq_true rfl) (fun p e s m below meth c A ls hx hb hml hr hts (hown : s.vm.findClass RX8 = some m.cls) hlocks hA hS hP hK hD hE (hl : lv_has ls 7 [(0, .ref a0), (1, .int a1), (2, .int a2), (3, .int a3)]) => ?_)
  refine ai_open (fun K hK0 => ?_)
  refine (hK0 _ _ _).mpr ?_
  refine lv_aload_n hx hb dX8_routeAt_0 rfl (lv_at hl 0 rfl) ?_
  refine va_callv (va_runV (As := []) (rest := []) ⟨hx, hb, hml, hown, hts⟩ (c_X8_good l dC dI s.heap.size a0 a0_0 a0g_1 a0g_2 a0g_3 a0g_4 a0g_5 a0g_6 a0g_7 a0g_8 a0g_9 a0g_10 a0g_12 a0g_13 (Value.int a0_14) a0g_15 a0g_16 a0g_17 a0g_18 a0g_19 a0g_20 a0g_21 a0g_22 a0g_23 a0g_24 a0g_25 a0g_26 a0g_27 a0g_28 a0g_29 a0g_30 a0g_31 a0g_32 a0g_33 a0g_34 a0g_35 a0g_36 a0g_37 a0g_38 a0g_39 a0_11 ) (cwV 0 hts gX8_routeAt_X8_good rfl rfl rfl zd_X8_good ⟨Nat.le_of_ble_eq_true rfl, Nat.le_of_ble_eq_true rfl⟩) ⟨ax_blind (fun _ _ _ _ _ => trivial), zr_8 (zp_K hK) (zp_P1 hP) (q0 := 0) rfl, ax_pre (zp_P1 hP) (zp_K hK) (zp_D1 hD) (fun _ _ => trivial)⟩ rfl rfl hl.1 rfl (lv_room (Nat.le_of_ble_eq_true rfl)) dX8_routeAt_1 ⟨Nat.le_of_ble_eq_true rfl, Nat.le_of_ble_eq_true rfl⟩) hS (fun q _ h => zp_F1 hD hS hA q h) (zp_F1 hD hS hA) (fun u t H locs ht hvm hw => zx_2 (fun v1na0_0 v1na0_11 hB hz1 hk1 hS1 => zo1 hB ht hP hD hk1 (zp_F1 hD hS hA) hS1 (fun hP hK1 hD hS => ?_)))
  refine lv_aload_n hx hb dX8_routeAt_4 rfl (lv_at hl 0 rfl) ?_
  refine lv_iload_n hx hb dX8_routeAt_5 rfl (lv_at hl 1 rfl) ?_
  refine lv_iload_n hx hb dX8_routeAt_6 rfl (lv_at hl 2 rfl) ?_
  refine va_calli (va_runV (As := [.int a1, .int a2]) (rest := []) ⟨hx, hb, hml, hown, hts⟩ (c0_X8_routeWhy l dC dI H.size a0 a1 a2 (Value.int v1na0_0) a0g_1 a0g_2 a0g_3 a0g_4 a0g_5 a0g_6 a0g_7 a0g_8 a0g_9 a0g_10 (Value.int v1na0_11) a0g_12 a0g_13 a0g_15 a0g_16 a0g_17 a0g_18 a0g_19 a0g_20 a0g_21 a0g_22 a0g_23 a0g_24 a0g_25 a0g_26 a0g_27 a0g_28 a0g_29 a0g_30 a0g_31 a0g_32 a0g_33 a0g_34 a0g_35 a0g_36 a0g_37 a0g_38 a0g_39 a0_14 ba0_14_l ba0_14_u) (cwV 2 hts gX8_routeAt_X8_routeWhy rfl rfl rfl zd_X8_routeWhy ⟨Nat.le_of_ble_eq_true rfl, Nat.le_of_ble_eq_true rfl⟩) ⟨ax_blind (fun _ _ _ _ _ => trivial), zr_8 (zp_K hK) (zp_P1 hP) (q0 := 0) rfl, ax_pre (zp_P1 hP) (zp_K hK) (zp_D1 hD) (fun _ _ => trivial)⟩ rfl rfl hl.1 rfl (lv_room (Nat.le_of_ble_eq_true rfl)) dX8_routeAt_7 ⟨Nat.le_of_ble_eq_true rfl, Nat.le_of_ble_eq_true rfl⟩) hS (fun q _ h => zp_F1 hD hS hA q h) (zp_F1 hD hS hA) (fun r7 u t H locs ht hvm hw hB hz1 hk1 hS1 => zo1 hB ht hP hD hk1 (zp_F1 hD hS hA) hS1 (fun hP hK1 hD hS => ?_))
  have hw : r7 = 1 := hw
  have hw := hw.symm
  subst hw
  refine lv_istore (lv' := [(4, .int 1), (0, .ref a0), (1, .int a1), (2, .int a2), (3, .int a3)]) hx hb dX8_routeAt_10 hl (by decide) rfl (fun ls hl => ?_)
  refine lv_iload hx hb dX8_routeAt_12 (lv_at hl 0 rfl) ?_
  refine lv_if_ne (tgt := 29) hx hb dX8_routeAt_14 (by decide) (fun _ => ?_) (fun c14 => absurd c14 (by decide +kernel))
  refine lv_iload hx hb dX8_routeAt_29 (lv_at hl 0 rfl) ?_
  refine lv_if_eq (tgt := 41) hx hb dX8_routeAt_31 (by decide) (fun c31 => absurd c31 (by decide +kernel)) (fun _ => ?_)
  refine lv_aload_n hx hb dX8_routeAt_34 rfl (lv_at hl 1 rfl) ?_
  refine lv_iload hx hb dX8_routeAt_35 (lv_at hl 0 rfl) ?_
  refine va_calli (va_runV (As := [.int 1]) (rest := []) ⟨hx, hb, hml, hown, hts⟩ (c_X8_no l dC dI H.size a0 1 (Value.int v1na0_0) a0g_1 a0g_2 a0g_3 a0g_4 a0g_5 a0g_6 a0g_7 a0g_8 a0g_9 a0g_10 a0g_12 a0g_13 (Value.int a0_14) a0g_15 a0g_16 a0g_17 a0g_18 a0g_19 a0g_20 a0g_21 a0g_22 a0g_23 a0g_24 a0g_25 a0g_26 a0g_27 a0g_28 a0g_29 a0g_30 a0g_31 a0g_32 a0g_33 a0g_34 a0g_35 a0g_36 a0g_37 a0g_38 a0g_39 v1na0_11 ) (cwV 1 hts gX8_routeAt_X8_no rfl rfl rfl zd_X8_no ⟨Nat.le_of_ble_eq_true rfl, Nat.le_of_ble_eq_true rfl⟩) ⟨ax_blind (fun _ _ _ _ _ => trivial), zr_8 (zp_K hK) (zp_P1 hP) (q0 := 0) rfl, ax_pre (zp_P1 hP) (zp_K hK) (zp_D1 hD) (fun _ _ => trivial)⟩ rfl rfl hl.1 rfl (lv_room (Nat.le_of_ble_eq_true rfl)) dX8_routeAt_37 ⟨Nat.le_of_ble_eq_true rfl, Nat.le_of_ble_eq_true rfl⟩) hS (fun q _ h => zp_F1 hD hS hA q h) (zp_F1 hD hS hA) (fun r37 u t H locs ht hvm hw => zx_1 (fun v37na0_11 hB hz1 hk1 hS1 => zo1 hB ht hP hD hk1 (zp_F1 hD hS hA) hS1 (fun hP hK1 hD hS => ?_)))
  have hw : r37 = (-1) := hw
  have hw := hw.symm
  subst hw
  exact W.iret (v := (-1)) hx hb hr (fun t ht hW => ⟨⟨(-1), (), rfl, rfl, v1na0_0, v37na0_11, by rw [ht]; exact hP, va_K.moved hW.alike hK, hD⟩, hS.F ht⟩) hS.2.2 dX8_routeAt_40
end P280_08_safe
section P305_fg
section FG
theorem fg_o {f : Nat → Int32} {i : Nat} {v : Int32} (h : ((1 : Int) ≤ (f 11).toInt → (2 : Int) ≤ (f 0).toInt ∧ (1 : Int) ≤ (f 1).toInt)) (hi : i ≠ 0 ∧ i ≠ 1 ∧ i ≠ 11) : ((1 : Int) ≤ (upd f i v 11).toInt → (2 : Int) ≤ (upd f i v 0).toInt ∧ (1 : Int) ≤ (upd f i v 1).toInt) := by
  unfold upd; rw [if_neg (by omega), if_neg (by omega), if_neg (by omega)]; exact h
theorem fg_0 {f : Nat → Int32} {i : Nat} {v : Int32} (h : ((1 : Int) ≤ (f 11).toInt → (2 : Int) ≤ (f 0).toInt ∧ (1 : Int) ≤ (f 1).toInt)) (hi : i = 0) (hv : (2 : Int) ≤ v.toInt) : ((1 : Int) ≤ (upd f i v 11).toInt → (2 : Int) ≤ (upd f i v 0).toInt ∧ (1 : Int) ≤ (upd f i v 1).toInt) := by
  subst hi; intro h9; unfold upd at h9 ⊢; rw [if_neg (by omega)] at h9; rw [if_pos rfl, if_neg (by omega)]; exact ⟨hv, (h h9).2⟩
theorem fg_1 {f : Nat → Int32} {i : Nat} {v : Int32} (h : ((1 : Int) ≤ (f 11).toInt → (2 : Int) ≤ (f 0).toInt ∧ (1 : Int) ≤ (f 1).toInt)) (hi : i = 1) (hv : (1 : Int) ≤ v.toInt) : ((1 : Int) ≤ (upd f i v 11).toInt → (2 : Int) ≤ (upd f i v 0).toInt ∧ (1 : Int) ≤ (upd f i v 1).toInt) := by
  subst hi; intro h9; unfold upd at h9 ⊢; rw [if_neg (by omega)] at h9; rw [if_pos rfl, if_neg (by omega)]; exact ⟨(h h9).1, hv⟩
theorem fg_11 {f : Nat → Int32} {i : Nat} {v : Int32} (hi : i = 11) (h0 : (2 : Int) ≤ (f 0).toInt) (h1 : (1 : Int) ≤ (f 1).toInt) : ((1 : Int) ≤ (upd f i v 11).toInt → (2 : Int) ≤ (upd f i v 0).toInt ∧ (1 : Int) ≤ (upd f i v 1).toInt) := by
  subst hi; intro h9; unfold upd; rw [if_neg (by omega), if_neg (by omega)]; exact ⟨h0, h1⟩
theorem fg_ko {f : Nat → Int32} {n : Nat} {v : Int32} (h : (∀ (j i0 i : Int32), (0 : Int) ≤ j.toInt → j.toInt ≤ 8 → i0.toInt = 12 + 2 * j.toInt → i.toInt = 13 + 2 * j.toInt → (f i0.toNatClampNeg).toInt = (1 : Int32).toInt → (1 : Int) ≤ (f i.toNatClampNeg).toInt)) (hn : n < 12 ∨ 29 < n) : (∀ (j i0 i : Int32), (0 : Int) ≤ j.toInt → j.toInt ≤ 8 → i0.toInt = 12 + 2 * j.toInt → i.toInt = 13 + 2 * j.toInt → (upd f n v i0.toNatClampNeg).toInt = (1 : Int32).toInt → (1 : Int) ≤ (upd f n v i.toNatClampNeg).toInt) := by
  intro j i0 i a b e1 e2
  have q1 : i0.toNatClampNeg = i0.toInt.toNat := rfl
  have q2 : i.toNatClampNeg = i.toInt.toNat := rfl
  unfold upd
  rw [if_neg (by omega), if_neg (by omega)]
  exact h j i0 i a b e1 e2
theorem fg_kp {f g : Nat → Int32} {k k2 m v v2 : Int32} (h : (∀ (j i0 i : Int32), (0 : Int) ≤ j.toInt → j.toInt ≤ 8 → i0.toInt = 12 + 2 * j.toInt → i.toInt = 13 + 2 * j.toInt → (f i0.toNatClampNeg).toInt = (1 : Int32).toInt → (1 : Int) ≤ (f i.toNatClampNeg).toInt)) (e : g = upd f k.toNatClampNeg v) (hk : k.toInt = 12 + 2 * m.toInt) (h2 : k2.toInt = 13 + 2 * m.toInt) (hm : 0 ≤ m.toInt) (hm8 : m.toInt ≤ 8) (hv : (1 : Int) ≤ v2.toInt) : (∀ (j i0 i : Int32), (0 : Int) ≤ j.toInt → j.toInt ≤ 8 → i0.toInt = 12 + 2 * j.toInt → i.toInt = 13 + 2 * j.toInt → (upd g k2.toNatClampNeg v2 i0.toNatClampNeg).toInt = (1 : Int32).toInt → (1 : Int) ≤ (upd g k2.toNatClampNeg v2 i.toNatClampNeg).toInt) := by
  subst e
  intro j i0 i a b e1 e2
  have q1 : i0.toNatClampNeg = i0.toInt.toNat := rfl
  have q2 : i.toNatClampNeg = i.toInt.toNat := rfl
  have q3 : k.toNatClampNeg = k.toInt.toNat := rfl
  have q4 : k2.toNatClampNeg = k2.toInt.toNat := rfl
  unfold upd
  by_cases hj : j.toInt = m.toInt
  · intro _; rw [if_pos (by omega)]; exact hv
  · rw [if_neg (by omega), if_neg (by omega), if_neg (by omega), if_neg (by omega)]; exact h j i0 i a b e1 e2
theorem fg_z {f : Nat → Int32} (h : ∀ i : Nat, i < 156 → f i = 0) : ((∀ k : Nat, 0 ≤ k → k ≤ 0 → (0 : Int) ≤ (f k).toInt ∧ (f k).toInt ≤ 9) ∧ (∀ k : Nat, 1 ≤ k → k ≤ 1 → (0 : Int) ≤ (f k).toInt ∧ (f k).toInt ≤ 20) ∧ (∀ k : Nat, 2 ≤ k → k ≤ 2 → (0 : Int) ≤ (f k).toInt ∧ (f k).toInt ≤ 8) ∧ (∀ k : Nat, 3 ≤ k → k ≤ 3 → (0 : Int) ≤ (f k).toInt ∧ (f k).toInt ≤ 100) ∧ (∀ k : Nat, 4 ≤ k → k ≤ 4 → (0 : Int) ≤ (f k).toInt ∧ (f k).toInt ≤ 9) ∧ (∀ k : Nat, 5 ≤ k → k ≤ 5 → (0 : Int) ≤ (f k).toInt ∧ (f k).toInt ≤ 3) ∧ (∀ k : Nat, 6 ≤ k → k ≤ 6 → (0 : Int) ≤ (f k).toInt ∧ (f k).toInt ≤ 6) ∧ (∀ k : Nat, 7 ≤ k → k ≤ 9 → (0 : Int) ≤ (f k).toInt ∧ (f k).toInt ≤ 8) ∧ (∀ k : Nat, 10 ≤ k → k ≤ 11 → (0 : Int) ≤ (f k).toInt ∧ (f k).toInt ≤ 1) ∧ (∀ k : Nat, 12 ≤ k → k ≤ 29 → (0 : Int) ≤ (f k).toInt ∧ (f k).toInt ≤ 20) ∧ (∀ k : Nat, 30 ≤ k → k ≤ 35 → (0 : Int) ≤ (f k).toInt ∧ (f k).toInt ≤ 8) ∧ (∀ k : Nat, 36 ≤ k → k ≤ 47 → (0 : Int) ≤ (f k).toInt ∧ (f k).toInt ≤ 999) ∧ (∀ k : Nat, 48 ≤ k → k ≤ 59 → (0 : Int) ≤ (f k).toInt ∧ (f k).toInt ≤ 8) ∧ ((1 : Int) ≤ (f 11).toInt → (2 : Int) ≤ (f 0).toInt ∧ (1 : Int) ≤ (f 1).toInt) ∧ (∀ (j i0 i : Int32), (0 : Int) ≤ j.toInt → j.toInt ≤ 8 → i0.toInt = 12 + 2 * j.toInt → i.toInt = 13 + 2 * j.toInt → (f i0.toNatClampNeg).toInt = (1 : Int32).toInt → (1 : Int) ≤ (f i.toNatClampNeg).toInt)) := ⟨fun k a b => by rw [h k (by omega)]; decide, fun k a b => by rw [h k (by omega)]; decide, fun k a b => by rw [h k (by omega)]; decide, fun k a b => by rw [h k (by omega)]; decide, fun k a b => by rw [h k (by omega)]; decide, fun k a b => by rw [h k (by omega)]; decide, fun k a b => by rw [h k (by omega)]; decide, fun k a b => by rw [h k (by omega)]; decide, fun k a b => by rw [h k (by omega)]; decide, fun k a b => by rw [h k (by omega)]; decide, fun k a b => by rw [h k (by omega)]; decide, fun k a b => by rw [h k (by omega)]; decide, fun k a b => by rw [h k (by omega)]; decide, fun h9 => by rw [h 11 (by omega)] at h9; exact absurd h9 (by decide), fun j i0 i a b e1 e2 h9 => by
  have q1 : i0.toNatClampNeg = i0.toInt.toNat := rfl
  rw [h _ (by omega)] at h9; exact absurd h9 (by decide)⟩
theorem fg_zs {f g : Nat → Int32} {k k2 : Int32} (h : ∀ i : Nat, i < k.toNatClampNeg → f i = 0) (e : g = upd f k.toNatClampNeg 0) (hk : k2.toInt = k.toInt + 1) (h0 : (0 : Int) ≤ k.toInt) : ∀ i : Nat, i < k2.toNatClampNeg → g i = 0 := by
  intro i a
  rw [cp_k hk h0] at a
  rw [e]; unfold upd; split
  · rfl
  · exact h i (by omega)
theorem fg_z0 {f : Nat → Int32} {n : Nat} (h : n = 0) : ∀ i : Nat, i < n → f i = 0 := fun i a => by omega
theorem fg_ze {f : Nat → Int32} {k : Int32} (h : ∀ i : Nat, i < k.toNatClampNeg → f i = 0) (hk : (156 : Int) ≤ k.toInt) : ∀ i : Nat, i < 156 → f i = 0 := by
  intro i a
  have q1 : k.toNatClampNeg = k.toInt.toNat := rfl
  exact h i (by omega)
theorem fg_r {f g r : Nat → Int32} {sp dp : Nat} (e : r = va_cpy f g sp dp 156) (h1 : sp = 0) (h2 : dp = 0) (hf : ((∀ k : Nat, 0 ≤ k → k ≤ 0 → (0 : Int) ≤ (f k).toInt ∧ (f k).toInt ≤ 9) ∧ (∀ k : Nat, 1 ≤ k → k ≤ 1 → (0 : Int) ≤ (f k).toInt ∧ (f k).toInt ≤ 20) ∧ (∀ k : Nat, 2 ≤ k → k ≤ 2 → (0 : Int) ≤ (f k).toInt ∧ (f k).toInt ≤ 8) ∧ (∀ k : Nat, 3 ≤ k → k ≤ 3 → (0 : Int) ≤ (f k).toInt ∧ (f k).toInt ≤ 100) ∧ (∀ k : Nat, 4 ≤ k → k ≤ 4 → (0 : Int) ≤ (f k).toInt ∧ (f k).toInt ≤ 9) ∧ (∀ k : Nat, 5 ≤ k → k ≤ 5 → (0 : Int) ≤ (f k).toInt ∧ (f k).toInt ≤ 3) ∧ (∀ k : Nat, 6 ≤ k → k ≤ 6 → (0 : Int) ≤ (f k).toInt ∧ (f k).toInt ≤ 6) ∧ (∀ k : Nat, 7 ≤ k → k ≤ 9 → (0 : Int) ≤ (f k).toInt ∧ (f k).toInt ≤ 8) ∧ (∀ k : Nat, 10 ≤ k → k ≤ 11 → (0 : Int) ≤ (f k).toInt ∧ (f k).toInt ≤ 1) ∧ (∀ k : Nat, 12 ≤ k → k ≤ 29 → (0 : Int) ≤ (f k).toInt ∧ (f k).toInt ≤ 20) ∧ (∀ k : Nat, 30 ≤ k → k ≤ 35 → (0 : Int) ≤ (f k).toInt ∧ (f k).toInt ≤ 8) ∧ (∀ k : Nat, 36 ≤ k → k ≤ 47 → (0 : Int) ≤ (f k).toInt ∧ (f k).toInt ≤ 999) ∧ (∀ k : Nat, 48 ≤ k → k ≤ 59 → (0 : Int) ≤ (f k).toInt ∧ (f k).toInt ≤ 8) ∧ ((1 : Int) ≤ (f 11).toInt → (2 : Int) ≤ (f 0).toInt ∧ (1 : Int) ≤ (f 1).toInt) ∧ (∀ (j i0 i : Int32), (0 : Int) ≤ j.toInt → j.toInt ≤ 8 → i0.toInt = 12 + 2 * j.toInt → i.toInt = 13 + 2 * j.toInt → (f i0.toNatClampNeg).toInt = (1 : Int32).toInt → (1 : Int) ≤ (f i.toNatClampNeg).toInt))) (h : (1 : Int) ≤ (f 11).toInt) : ((∀ k : Nat, 0 ≤ k → k ≤ 0 → (2 : Int) ≤ (r k).toInt ∧ (r k).toInt ≤ 9) ∧ (∀ k : Nat, 1 ≤ k → k ≤ 1 → (1 : Int) ≤ (r k).toInt ∧ (r k).toInt ≤ 20) ∧ (∀ k : Nat, 2 ≤ k → k ≤ 2 → (0 : Int) ≤ (r k).toInt ∧ (r k).toInt ≤ 8) ∧ (∀ k : Nat, 3 ≤ k → k ≤ 3 → (0 : Int) ≤ (r k).toInt ∧ (r k).toInt ≤ 100) ∧ (∀ k : Nat, 4 ≤ k → k ≤ 4 → (0 : Int) ≤ (r k).toInt ∧ (r k).toInt ≤ 9) ∧ (∀ k : Nat, 5 ≤ k → k ≤ 5 → (0 : Int) ≤ (r k).toInt ∧ (r k).toInt ≤ 3) ∧ (∀ k : Nat, 6 ≤ k → k ≤ 6 → (0 : Int) ≤ (r k).toInt ∧ (r k).toInt ≤ 6) ∧ (∀ k : Nat, 7 ≤ k → k ≤ 9 → (0 : Int) ≤ (r k).toInt ∧ (r k).toInt ≤ 8) ∧ (∀ k : Nat, 12 ≤ k → k ≤ 29 → (0 : Int) ≤ (r k).toInt ∧ (r k).toInt ≤ 20) ∧ (∀ k : Nat, 30 ≤ k → k ≤ 35 → (0 : Int) ≤ (r k).toInt ∧ (r k).toInt ≤ 8) ∧ (∀ k : Nat, 36 ≤ k → k ≤ 47 → (0 : Int) ≤ (r k).toInt ∧ (r k).toInt ≤ 999)) := by
  have q : ∀ k : Nat, k < 156 → r k = f k := fun k hk => by rw [e, pk_cpy_in (by omega) (by omega)]; exact congrArg f (by omega)
  have h11 := hf.2.2.2.2.2.2.2.2.2.2.2.2.2.1
  exact ⟨fun k a b => by rw [q k (by omega)]; have e : k = 0 := (by omega); subst e; exact ⟨(h11 h).1, (hf.1 0 (by omega) (by omega)).2⟩, fun k a b => by rw [q k (by omega)]; have e : k = 1 := (by omega); subst e; exact ⟨(h11 h).2, (hf.2.1 1 (by omega) (by omega)).2⟩, fun k a b => by rw [q k (by omega)]; exact hf.2.2.1 k (by omega) (by omega), fun k a b => by rw [q k (by omega)]; exact hf.2.2.2.1 k (by omega) (by omega), fun k a b => by rw [q k (by omega)]; exact hf.2.2.2.2.1 k (by omega) (by omega), fun k a b => by rw [q k (by omega)]; exact hf.2.2.2.2.2.1 k (by omega) (by omega), fun k a b => by rw [q k (by omega)]; exact hf.2.2.2.2.2.2.1 k (by omega) (by omega), fun k a b => by rw [q k (by omega)]; exact hf.2.2.2.2.2.2.2.1 k (by omega) (by omega), fun k a b => by rw [q k (by omega)]; exact hf.2.2.2.2.2.2.2.2.2.1 k (by omega) (by omega), fun k a b => by rw [q k (by omega)]; exact hf.2.2.2.2.2.2.2.2.2.2.1 k (by omega) (by omega), fun k a b => by rw [q k (by omega)]; exact hf.2.2.2.2.2.2.2.2.2.2.2.1 k (by omega) (by omega)⟩
theorem fg_rk {f g r : Nat → Int32} {sp dp : Nat} (e : r = va_cpy f g sp dp 156) (h1 : sp = 0) (h2 : dp = 0) (hf : ((∀ k : Nat, 0 ≤ k → k ≤ 0 → (0 : Int) ≤ (f k).toInt ∧ (f k).toInt ≤ 9) ∧ (∀ k : Nat, 1 ≤ k → k ≤ 1 → (0 : Int) ≤ (f k).toInt ∧ (f k).toInt ≤ 20) ∧ (∀ k : Nat, 2 ≤ k → k ≤ 2 → (0 : Int) ≤ (f k).toInt ∧ (f k).toInt ≤ 8) ∧ (∀ k : Nat, 3 ≤ k → k ≤ 3 → (0 : Int) ≤ (f k).toInt ∧ (f k).toInt ≤ 100) ∧ (∀ k : Nat, 4 ≤ k → k ≤ 4 → (0 : Int) ≤ (f k).toInt ∧ (f k).toInt ≤ 9) ∧ (∀ k : Nat, 5 ≤ k → k ≤ 5 → (0 : Int) ≤ (f k).toInt ∧ (f k).toInt ≤ 3) ∧ (∀ k : Nat, 6 ≤ k → k ≤ 6 → (0 : Int) ≤ (f k).toInt ∧ (f k).toInt ≤ 6) ∧ (∀ k : Nat, 7 ≤ k → k ≤ 9 → (0 : Int) ≤ (f k).toInt ∧ (f k).toInt ≤ 8) ∧ (∀ k : Nat, 10 ≤ k → k ≤ 11 → (0 : Int) ≤ (f k).toInt ∧ (f k).toInt ≤ 1) ∧ (∀ k : Nat, 12 ≤ k → k ≤ 29 → (0 : Int) ≤ (f k).toInt ∧ (f k).toInt ≤ 20) ∧ (∀ k : Nat, 30 ≤ k → k ≤ 35 → (0 : Int) ≤ (f k).toInt ∧ (f k).toInt ≤ 8) ∧ (∀ k : Nat, 36 ≤ k → k ≤ 47 → (0 : Int) ≤ (f k).toInt ∧ (f k).toInt ≤ 999) ∧ (∀ k : Nat, 48 ≤ k → k ≤ 59 → (0 : Int) ≤ (f k).toInt ∧ (f k).toInt ≤ 8) ∧ ((1 : Int) ≤ (f 11).toInt → (2 : Int) ≤ (f 0).toInt ∧ (1 : Int) ≤ (f 1).toInt) ∧ (∀ (j i0 i : Int32), (0 : Int) ≤ j.toInt → j.toInt ≤ 8 → i0.toInt = 12 + 2 * j.toInt → i.toInt = 13 + 2 * j.toInt → (f i0.toNatClampNeg).toInt = (1 : Int32).toInt → (1 : Int) ≤ (f i.toNatClampNeg).toInt))) : (∀ (j i0 i : Int32), (0 : Int) ≤ j.toInt → j.toInt ≤ 8 → i0.toInt = 12 + 2 * j.toInt → i.toInt = 13 + 2 * j.toInt → (r i0.toNatClampNeg).toInt = (1 : Int32).toInt → (1 : Int) ≤ (r i.toNatClampNeg).toInt) := by
  have q : ∀ k : Nat, k < 156 → r k = f k := fun k hk => by rw [e, pk_cpy_in (by omega) (by omega)]; exact congrArg f (by omega)
  have hk := hf.2.2.2.2.2.2.2.2.2.2.2.2.2.2
  intro j i0 i a b e1 e2
  have q1 : i0.toNatClampNeg = i0.toInt.toNat := rfl
  have q2 : i.toNatClampNeg = i.toInt.toNat := rfl
  rw [q _ (by omega), q _ (by omega)]
  exact hk j i0 i a b e1 e2
theorem fz_s {f f2 g : Nat → Int32} {i v : Int32} (h : ∀ k : Nat, k < 48 → f k = g k) (e : f2 = upd f i.toNatClampNeg v) (hi : (48 : Int) ≤ i.toInt) : ∀ k : Nat, k < 48 → f2 k = g k := by
  intro k hk
  have q1 : i.toNatClampNeg = i.toInt.toNat := rfl
  rw [e]; unfold upd; rw [if_neg (by omega)]; exact h k hk
theorem fg_u {f g : Nat → Int32} {k v : Int32} {m : Nat} (e : g = upd f k.toNatClampNeg v) (hk : (12 : Int) ≤ k.toInt) (hm : m < 12) : g m = f m := by
  have q1 : k.toNatClampNeg = k.toInt.toNat := rfl
  rw [e]; unfold upd; rw [if_neg (by omega)]
theorem fg_le {f : Nat → Int32} {x : Int32} {m : Nat} {b : Int} (e : x = f m) (h : (f m).toInt ≤ b) : x.toInt ≤ b := by rw [e]; exact h
end FG
end P305_fg
section P306_good
set_option maxRecDepth 20000 in
theorem gX8_next_X8_see : GoodIn wsX8_next (wsV RX8 74 RX8 yX8_see wsX8_see) := goodIn_s _ [(7, 7), (20, 40)] rfl (by decide +kernel)
set_option maxRecDepth 20000 in
theorem gX8_next_X8_isSmall : GoodIn wsX8_next (va_wsS RX8 90 yX8_isSmall wsX8_isSmall) := goodIn_s _ [(14, 2), (10, 1), (16, 1)] rfl (by decide +kernel)
set_option maxRecDepth 20000 in
theorem gX8_next_X8_isDigit : GoodIn wsX8_next (va_wsS RX8 94 yX8_isDigit wsX8_isDigit) := goodIn_s _ [(17, 2), (10, 1), (19, 1)] rfl (by decide +kernel)
set_option maxRecDepth 20000 in
theorem gX8_isWord_J0_length_8abf5 : GoodIn wsX8_isWord (wsV RX8 104 RJ0 yJ0_length_8abf5 wsJ0_length_8abf5) := goodIn_s _ [(5, 9), (8, 1), (14, 3)] rfl (by decide +kernel)
set_option maxRecDepth 20000 in
theorem gX8_isWord_J0_charAt_5068e : GoodIn wsX8_isWord (wsV RX8 110 RJ0 yJ0_charAt_5068e wsJ0_charAt_5068e) := goodIn_s _ [(17, 3), (8, 1), (20, 1), (10, 1), (21, 3), (8, 1), (24, 1), (15, 2), (25, 29)] rfl (by decide +kernel)
set_option maxRecDepth 20000 in
theorem gX8_takesWord_X8_isWord : GoodIn wsX8_takesWord (wsV RX8 114 RX8 yX8_isWord wsX8_isWord) := goodIn_s _ [(1, 58), (78, 40)] rfl (by decide +kernel)
set_option maxRecDepth 20000 in
theorem gX8_takesWord_X8_next : GoodIn wsX8_takesWord (wsV RX8 118 RX8 yX8_next wsX8_next) := goodIn_s _ [(59, 3), (4, 1), (62, 3), (8, 1), (65, 1), (7, 1), (9, 1), (66, 3), (4, 1), (69, 49)] rfl (by decide +kernel)
set_option maxRecDepth 20000 in
theorem gX8_must_X8_takesWord : GoodIn wsX8_must (wsV RX8 121 RX8 yX8_takesWord wsX8_takesWord) := goodIn_s _ [(3, 8), (6, 1), (11, 1), (1, 1), (12, 57), (2, 1), (69, 13), (88, 40)] rfl (by decide +kernel)
set_option maxRecDepth 20000 in
theorem gX8_must_X8_wrong : GoodIn wsX8_must (wsV RX8 124 RX8 yX8_wrong wsX8_wrong) := goodIn_s _ [(82, 3), (6, 1), (85, 1), (1, 1), (86, 42)] rfl (by decide +kernel)
set_option maxRecDepth 20000 in
theorem gX8_newName_X8_isWord : GoodIn wsX8_newName (wsV RX8 114 RX8 yX8_isWord wsX8_isWord) := goodIn_s _ [(7, 5), (1, 2), (4, 1), (6, 1), (12, 49), (89, 40)] rfl (by decide +kernel)
set_option maxRecDepth 20000 in
theorem gX8_newName_X8_wrong : GoodIn wsX8_newName (wsV RX8 124 RX8 yX8_wrong wsX8_wrong) := goodIn_s _ [(61, 3), (10, 1), (64, 1), (1, 1), (65, 2), (89, 40)] rfl (by decide +kernel)
set_option maxRecDepth 20000 in
theorem gX8_newName_X8_isKnown : GoodIn wsX8_newName (wsV RX8 138 RX8 yX8_isKnown wsX8_isKnown) := goodIn_s _ [(67, 3), (10, 1), (70, 1), (5, 1), (4, 1), (6, 1), (89, 40)] rfl (by decide +kernel)
set_option maxRecDepth 20000 in
theorem gX8_newName_X8_next : GoodIn wsX8_newName (wsV RX8 118 RX8 yX8_next wsX8_next) := goodIn_s _ [(71, 3), (10, 1), (74, 2), (3, 2), (76, 1), (2, 1), (6, 1), (77, 3), (10, 1), (80, 49)] rfl (by decide +kernel)
set_option maxRecDepth 20000 in
theorem gX8_pass_X8_next : GoodIn wsX8_pass (wsV RX8 118 RX8 yX8_next wsX8_next) := goodIn_s _ [(2, 14), (5, 1), (16, 49)] rfl (by decide +kernel)
set_option maxRecDepth 20000 in
theorem gX8_numberHere_X8_wrong : GoodIn wsX8_numberHere (wsV RX8 124 RX8 yX8_wrong wsX8_wrong) := goodIn_s _ [(5, 5), (1, 1), (10, 2), (15, 40)] rfl (by decide +kernel)
set_option maxRecDepth 20000 in
theorem gX8_numberHere_X8_in : GoodIn wsX8_numberHere (va_wsS RX8 142 yX8_in wsX8_in) := goodIn_s _ [(12, 2), (8, 1), (14, 1)] rfl (by decide +kernel)
set_option maxRecDepth 20000 in
theorem gX8_number_X8_numberHere : GoodIn wsX8_number (wsV RX8 146 RX8 yX8_numberHere wsX8_numberHere) := goodIn_s _ [(1, 12), (4, 1), (13, 6), (42, 40)] rfl (by decide +kernel)
set_option maxRecDepth 20000 in
theorem gX8_number_X8_pass : GoodIn wsX8_number (wsV RX8 150 RX8 yX8_pass wsX8_pass) := goodIn_s _ [(19, 3), (4, 1), (22, 1), (6, 1), (23, 3), (4, 1), (26, 2), (8, 1), (28, 1), (9, 1), (7, 1), (29, 53)] rfl (by decide +kernel)
set_option maxRecDepth 20000 in
theorem gX8_after_X8_must : GoodIn wsX8_after (wsV RX8 153 RX8 yX8_must wsX8_must) := goodIn_s _ [(1, 10), (4, 1), (11, 81), (107, 40)] rfl (by decide +kernel)
set_option maxRecDepth 20000 in
theorem gX8_after_X8_number : GoodIn wsX8_after (wsV RX8 157 RX8 yX8_number wsX8_number) := goodIn_s _ [(92, 3), (4, 1), (95, 4), (4, 1), (99, 1), (6, 1), (16, 1), (7, 1), (73, 1), (86, 6), (100, 7), (68, 5), (17, 2), (74, 12), (107, 40)] rfl (by decide +kernel)
set_option maxRecDepth 20000 in
theorem gX8_gallery_X8_good : GoodIn wsX8_gallery (wsV RX8 160 RX8 yX8_good wsX8_good) := goodIn_s _ [(14, 7), (171, 40)] rfl (by decide +kernel)
set_option maxRecDepth 20000 in
theorem gX8_gallery_X8_in : GoodIn wsX8_gallery (va_wsS RX8 142 yX8_in wsX8_in) := goodIn_s _ [(21, 2), (17, 1), (23, 1)] rfl (by decide +kernel)
set_option maxRecDepth 20000 in
theorem gX8_gallery_X8_no : GoodIn wsX8_gallery (wsV RX8 163 RX8 yX8_no wsX8_no) := goodIn_s _ [(24, 3), (17, 1), (27, 1), (20, 1), (171, 40)] rfl (by decide +kernel)
set_option maxRecDepth 20000 in
theorem gX8_gallery_X8_next : GoodIn wsX8_gallery (wsV RX8 118 RX8 yX8_next wsX8_next) := goodIn_s _ [(28, 3), (17, 1), (31, 1), (6, 1), (8, 1), (32, 2), (7, 1), (34, 4), (17, 1), (38, 1), (5, 1), (39, 7), (171, 40)] rfl (by decide +kernel)
set_option maxRecDepth 20000 in
theorem gX8_gallery_X8_readLine : GoodIn wsX8_gallery (wsV RX8 166 RX8 yX8_readLine wsX8_readLine) := goodIn_s _ [(46, 3), (17, 1), (49, 1), (4, 1), (8, 1), (50, 3), (17, 1), (53, 1), (3, 1), (7, 1), (32, 1), (34, 1), (54, 57), (2, 1), (111, 1), (28, 4), (6, 1), (33, 1), (35, 4), (5, 1), (39, 7), (112, 20), (21, 3), (132, 36), (171, 40)] rfl (by decide +kernel)
set_option maxRecDepth 20000 in
theorem gX8_gallery_X8_wrong : GoodIn wsX8_gallery (wsV RX8 124 RX8 yX8_wrong wsX8_wrong) := goodIn_s _ [(107, 3), (17, 1), (110, 1), (3, 1), (2, 1), (111, 1), (171, 40)] rfl (by decide +kernel)
set_option maxRecDepth 20000 in
theorem gX8_gallery_X8_copy : GoodIn wsX8_gallery (va_wsS RX8 169 yX8_copy wsX8_copy) := goodIn_s _ [(168, 2), (17, 1), (170, 1)] rfl (by decide +kernel)
set_option maxRecDepth 20000 in
theorem gX8_begins_X8_isWord : GoodIn wsX8_begins (wsV RX8 114 RX8 yX8_isWord wsX8_isWord) := goodIn_s _ [(3, 58), (89, 40)] rfl (by decide +kernel)
set_option maxRecDepth 20000 in
theorem gX8_begins_X8_wrong : GoodIn wsX8_begins (wsV RX8 124 RX8 yX8_wrong wsX8_wrong) := goodIn_s _ [(61, 3), (6, 1), (64, 1), (8, 1), (65, 2), (89, 40)] rfl (by decide +kernel)
set_option maxRecDepth 20000 in
theorem gX8_begins_X8_pass : GoodIn wsX8_begins (wsV RX8 150 RX8 yX8_pass wsX8_pass) := goodIn_s _ [(67, 3), (6, 1), (70, 1), (8, 1), (71, 3), (6, 1), (74, 2), (1, 1), (10, 1), (76, 1), (9, 1), (11, 1), (77, 52)] rfl (by decide +kernel)
end P306_good
