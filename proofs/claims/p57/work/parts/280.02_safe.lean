section P280_02_safe
set_option maxHeartbeats 4000000 in
set_option maxRecDepth 100000 in
theorem c0_X8_stairs (l : Launch) (dC : Nat → ClassId) (dI : Nat → Nat → Nat) (sz : Nat) (a0 : Nat) (a0_0 : Int32) (a0g_1 a0g_2 a0g_3 a0g_4 a0g_5 a0g_6 a0g_7 a0g_8 a0g_9 a0g_10 a0g_12 a0g_13 a0g_15 a0g_16 a0g_17 a0g_18 a0g_19 a0g_20 a0g_21 a0g_22 a0g_23 a0g_24 a0g_25 a0g_26 a0g_27 a0g_28 a0g_29 a0g_30 a0g_31 a0g_32 a0g_33 a0g_34 a0g_35 a0g_36 a0g_37 a0g_38 a0g_39 : Value) (a0_11 : Int32) (a0_14 : Int32) (ba0_14_l : (0 : Int) ≤ a0_14.toInt) (ba0_14_u : a0_14.toInt ≤ (0 : Int)) : zm l yX8_stairs wsX8_stairs ({ frames := 1, cells := 0, slots := 0, locals := 21 }) [.ref a0] dC dI sz [(a0, .inr (8, [Value.int a0_0, a0g_1, a0g_2, a0g_3, a0g_4, a0g_5, a0g_6, a0g_7, a0g_8, a0g_9, a0g_10, Value.int a0_11, a0g_12, a0g_13, Value.int a0_14, a0g_15, a0g_16, a0g_17, a0g_18, a0g_19, a0g_20, a0g_21, a0g_22, a0g_23, a0g_24, a0g_25, a0g_26, a0g_27, a0g_28, a0g_29, a0g_30, a0g_31, a0g_32, a0g_33, a0g_34, a0g_35, a0g_36, a0g_37, a0g_38, a0g_39]))] [] (fun A _ => True) (fun A => va_Qi (fun (r : Int32) (_ : Unit) => r = (-1)) (fun (_ : Unit) (t : State) => ∃ na0_0 : Int32, ∃ na0_11 : Int32, ax_B dC dI A [(a0, .inr (8, [Value.int na0_0, a0g_1, a0g_2, a0g_3, a0g_4, a0g_5, a0g_6, a0g_7, a0g_8, a0g_9, a0g_10, Value.int na0_11, a0g_12, a0g_13, Value.int a0_14, a0g_15, a0g_16, a0g_17, a0g_18, a0g_19, a0g_20, a0g_21, a0g_22, a0g_23, a0g_24, a0g_25, a0g_26, a0g_27, a0g_28, a0g_29, a0g_30, a0g_31, a0g_32, a0g_33, a0g_34, a0g_35, a0g_36, a0g_37, a0g_38, a0g_39]))] [] t) A) := by
  refine zh (cc := cX8_stairs) (maxL := 1) (ret := (some .int)) zn_RX8 rfl (Nat.le_of_ble_eq_true rfl) (fun p e s m below meth c A ls hx hb hml hr hts (hown : s.vm.findClass RX8 = some m.cls) hlocks hA hS hP hK hD hE (hl : lv_has ls 1 [(0, .ref a0)]) => ?_)
  refine lv_aload_n hx hb dX8_stairs_0 rfl (lv_at hl 0 rfl) ?_
  refine va_callv (va_runV (As := []) (rest := []) ⟨hx, hb, hml, hown, hts⟩ (c_X8_good l dC dI s.heap.size a0 a0_0 a0g_1 a0g_2 a0g_3 a0g_4 a0g_5 a0g_6 a0g_7 a0g_8 a0g_9 a0g_10 a0g_12 a0g_13 (Value.int a0_14) a0g_15 a0g_16 a0g_17 a0g_18 a0g_19 a0g_20 a0g_21 a0g_22 a0g_23 a0g_24 a0g_25 a0g_26 a0g_27 a0g_28 a0g_29 a0g_30 a0g_31 a0g_32 a0g_33 a0g_34 a0g_35 a0g_36 a0g_37 a0g_38 a0g_39 a0_11 ) (cwV 0 hts gX8_stairs_X8_good rfl rfl rfl zd_X8_good ⟨Nat.le_of_ble_eq_true rfl, Nat.le_of_ble_eq_true rfl⟩) ⟨ax_blind (fun _ _ _ _ _ => trivial), zr_8 (zp_K hK) (zp_P1 hP) (q0 := 0) rfl, ax_pre (zp_P1 hP) (zp_K hK) (zp_D1 hD) (fun _ _ => trivial)⟩ rfl rfl hl.1 rfl (lv_room (Nat.le_of_ble_eq_true rfl)) dX8_stairs_1 ⟨Nat.le_of_ble_eq_true rfl, Nat.le_of_ble_eq_true rfl⟩) hS (fun q _ h => zp_F1 hD hS hA q h) (zp_F1 hD hS hA) (fun u t H locs ht hvm hw => zx_2 (fun v1na0_0 v1na0_11 hB hz1 hk1 hS1 => zo1 hB ht hP hD hk1 (zp_F1 hD hS hA) hS1 (fun hP hK1 hD hS => ?_)))
  refine lv_aload_n hx hb dX8_stairs_4 rfl (lv_at hl 0 rfl) ?_
  refine va_get (D := (dC, dI)) (ci := 8) (v := .int a0_14) (C := RX8) (T := TX8) (N := 40) hx hb hts zi_X8_stairs_8 hown hK hP 0 rfl rfl 14 (by decide) (hts (.fieldLink RX8 173 "WaxTurnsModel" "hasGallery" "Z") (zm_X8_stairs_r1 (List.mem_of_getElem? (i := 0) rfl))) (fun _ h9 => h9) rfl dX8_stairs_5 ?_
  refine lv_if_ne (tgt := 17) hx hb dX8_stairs_8 (by decide) (fun c8 => ?_) (fun c8 => ?_)
  · have gc8 := ai_ne c8
    have l8t_a0_14 : (1 : Int) ≤ a0_14.toInt := (by first | exact zg_l ba0_14_l gc8 (by decide) (by decide) | (have h1 := ba0_14_l; have h2 : (0 : Int32).toInt = 0 := (by decide); rw [h2] at gc8; omega))
    have u8t_a0_14 : a0_14.toInt ≤ (-1 : Int) := (by first | exact zg_u ba0_14_u gc8 (by decide) (by decide) | (have h1 := ba0_14_u; have h2 : (0 : Int32).toInt = 0 := (by decide); rw [h2] at gc8; omega))
    exact absurd (Int.le_trans l8t_a0_14 u8t_a0_14) (by decide)
  · have gc8 := ai_eq c8
    have u8f_a0_14 : a0_14.toInt ≤ (0 : Int) := ba0_14_u
    have l8f_a0_14 : (0 : Int) ≤ a0_14.toInt := ba0_14_l
    refine lv_aload_n hx hb dX8_stairs_11 rfl (lv_at hl 0 rfl) ?_
    refine lv_iconst (v := 1) hx hb dX8_stairs_12 zk_iconst_1 ?_
    refine va_calli (va_runV (As := [.int 1]) (rest := []) ⟨hx, hb, hml, hown, hts⟩ (c_X8_no l dC dI H.size a0 1 (Value.int v1na0_0) a0g_1 a0g_2 a0g_3 a0g_4 a0g_5 a0g_6 a0g_7 a0g_8 a0g_9 a0g_10 a0g_12 a0g_13 (Value.int a0_14) a0g_15 a0g_16 a0g_17 a0g_18 a0g_19 a0g_20 a0g_21 a0g_22 a0g_23 a0g_24 a0g_25 a0g_26 a0g_27 a0g_28 a0g_29 a0g_30 a0g_31 a0g_32 a0g_33 a0g_34 a0g_35 a0g_36 a0g_37 a0g_38 a0g_39 v1na0_11 ) (cwV 1 hts gX8_stairs_X8_no rfl rfl rfl zd_X8_no ⟨Nat.le_of_ble_eq_true rfl, Nat.le_of_ble_eq_true rfl⟩) ⟨ax_blind (fun _ _ _ _ _ => trivial), zr_8 (zp_K hK) (zp_P1 hP) (q0 := 0) rfl, ax_pre (zp_P1 hP) (zp_K hK) (zp_D1 hD) (fun _ _ => trivial)⟩ rfl rfl hl.1 rfl (lv_room (Nat.le_of_ble_eq_true rfl)) dX8_stairs_13 ⟨Nat.le_of_ble_eq_true rfl, Nat.le_of_ble_eq_true rfl⟩) hS (fun q _ h => zp_F1 hD hS hA q h) (zp_F1 hD hS hA) (fun r13 u t H locs ht hvm hw => zx_1 (fun v13na0_11 hB hz1 hk1 hS1 => zo1 hB ht hP hD hk1 (zp_F1 hD hS hA) hS1 (fun hP hK1 hD hS => ?_)))
    have hw : r13 = (-1) := hw
    have hw := hw.symm
    subst hw
    exact W.iret (v := (-1)) hx hb hr (fun t ht hW => ⟨⟨(-1), (), rfl, rfl, v1na0_0, v13na0_11, by rw [ht]; exact hP, va_K.moved hW.alike hK, hD⟩, hS.F ht⟩) hS.2.2 dX8_stairs_16

set_option maxHeartbeats 4000000 in
set_option maxRecDepth 100000 in
theorem c0_X8_catches (l : Launch) (dC : Nat → ClassId) (dI : Nat → Nat → Nat) (sz : Nat) (a0 : Nat) (a1 : Int32) (a0_0 : Int32) (a0g_1 a0g_2 a0g_3 a0g_4 a0g_5 a0g_6 a0g_7 a0g_8 a0g_9 a0g_10 a0g_12 a0g_13 a0g_15 a0g_16 a0g_17 a0g_18 a0g_19 a0g_20 a0g_21 a0g_22 a0g_23 a0g_24 a0g_25 a0g_26 a0g_27 a0g_28 a0g_29 a0g_30 a0g_31 a0g_32 a0g_33 a0g_34 a0g_35 a0g_36 a0g_37 a0g_38 a0g_39 : Value) (a0_11 : Int32) (a0_14 : Int32) (ba0_14_l : (0 : Int) ≤ a0_14.toInt) (ba0_14_u : a0_14.toInt ≤ (0 : Int)) : zm l yX8_catches wsX8_catches ({ frames := 2, cells := 0, slots := 0, locals := 45 }) [.ref a0, .int a1] dC dI sz [(a0, .inr (8, [Value.int a0_0, a0g_1, a0g_2, a0g_3, a0g_4, a0g_5, a0g_6, a0g_7, a0g_8, a0g_9, a0g_10, Value.int a0_11, a0g_12, a0g_13, Value.int a0_14, a0g_15, a0g_16, a0g_17, a0g_18, a0g_19, a0g_20, a0g_21, a0g_22, a0g_23, a0g_24, a0g_25, a0g_26, a0g_27, a0g_28, a0g_29, a0g_30, a0g_31, a0g_32, a0g_33, a0g_34, a0g_35, a0g_36, a0g_37, a0g_38, a0g_39]))] [] (fun A _ => True) (fun A => va_Qi (fun (r : Int32) (_ : Unit) => r = (-1)) (fun (_ : Unit) (t : State) => ∃ na0_0 : Int32, ∃ na0_11 : Int32, ax_B dC dI A [(a0, .inr (8, [Value.int na0_0, a0g_1, a0g_2, a0g_3, a0g_4, a0g_5, a0g_6, a0g_7, a0g_8, a0g_9, a0g_10, Value.int na0_11, a0g_12, a0g_13, Value.int a0_14, a0g_15, a0g_16, a0g_17, a0g_18, a0g_19, a0g_20, a0g_21, a0g_22, a0g_23, a0g_24, a0g_25, a0g_26, a0g_27, a0g_28, a0g_29, a0g_30, a0g_31, a0g_32, a0g_33, a0g_34, a0g_35, a0g_36, a0g_37, a0g_38, a0g_39]))] [] t) A) := by
  refine zh (cc := cX8_catches) (maxL := 3) (ret := (some .int)) zn_RX8 rfl (Nat.le_of_ble_eq_true rfl) (fun p e s m below meth c A ls hx hb hml hr hts (hown : s.vm.findClass RX8 = some m.cls) hlocks hA hS hP hK hD hE (hl : lv_has ls 3 [(0, .ref a0), (1, .int a1)]) => ?_)
  refine lv_aload_n hx hb dX8_catches_0 rfl (lv_at hl 0 rfl) ?_
  refine va_callv (va_runV (As := []) (rest := []) ⟨hx, hb, hml, hown, hts⟩ (c_X8_good l dC dI s.heap.size a0 a0_0 a0g_1 a0g_2 a0g_3 a0g_4 a0g_5 a0g_6 a0g_7 a0g_8 a0g_9 a0g_10 a0g_12 a0g_13 (Value.int a0_14) a0g_15 a0g_16 a0g_17 a0g_18 a0g_19 a0g_20 a0g_21 a0g_22 a0g_23 a0g_24 a0g_25 a0g_26 a0g_27 a0g_28 a0g_29 a0g_30 a0g_31 a0g_32 a0g_33 a0g_34 a0g_35 a0g_36 a0g_37 a0g_38 a0g_39 a0_11 ) (cwV 0 hts gX8_catches_X8_good rfl rfl rfl zd_X8_good ⟨Nat.le_of_ble_eq_true rfl, Nat.le_of_ble_eq_true rfl⟩) ⟨ax_blind (fun _ _ _ _ _ => trivial), zr_8 (zp_K hK) (zp_P1 hP) (q0 := 0) rfl, ax_pre (zp_P1 hP) (zp_K hK) (zp_D1 hD) (fun _ _ => trivial)⟩ rfl rfl hl.1 rfl (lv_room (Nat.le_of_ble_eq_true rfl)) dX8_catches_1 ⟨Nat.le_of_ble_eq_true rfl, Nat.le_of_ble_eq_true rfl⟩) hS (fun q _ h => zp_F1 hD hS hA q h) (zp_F1 hD hS hA) (fun u t H locs ht hvm hw => zx_2 (fun v1na0_0 v1na0_11 hB hz1 hk1 hS1 => zo1 hB ht hP hD hk1 (zp_F1 hD hS hA) hS1 (fun hP hK1 hD hS => ?_)))
  refine lv_aload_n hx hb dX8_catches_4 rfl (lv_at hl 0 rfl) ?_
  refine lv_aload_n hx hb dX8_catches_5 rfl (lv_at hl 0 rfl) ?_
  refine va_get (D := (dC, dI)) (ci := 8) (v := .int a0_14) (C := RX8) (T := TX8) (N := 40) hx hb hts zi_X8_catches_8 hown hK hP 0 rfl rfl 14 (by decide) (hts (.fieldLink RX8 173 "WaxTurnsModel" "hasGallery" "Z") (zm_X8_catches_r1 (List.mem_of_getElem? (i := 0) rfl))) (fun _ h9 => h9) rfl dX8_catches_6 ?_
  refine lv_iconst (v := 0) hx hb dX8_catches_9 zk_iconst_0 ?_
  refine lv_iload_n hx hb dX8_catches_10 rfl (lv_at hl 1 rfl) ?_
  refine va_calli (va_runV (As := [.int a0_14, .int 0, .int a1]) (rest := []) ⟨hx, hb, hml, hown, hts⟩ (c_X8_aheadWhy l dC dI H.size a0 a0_14 0 a1 (Value.int v1na0_0) a0g_1 a0g_2 a0g_3 a0g_4 a0g_5 a0g_6 a0g_7 a0g_8 a0g_9 a0g_10 (Value.int v1na0_11) a0g_12 a0g_13 (Value.int a0_14) a0g_15 a0g_16 a0g_17 a0g_18 a0g_19 a0g_20 a0g_21 a0g_22 a0g_23 a0g_24 a0g_25 a0g_26 a0g_27 a0g_28 a0g_29 a0g_30 a0g_31 a0g_32 a0g_33 a0g_34 a0g_35 a0g_36 a0g_37 a0g_38 a0g_39 ba0_14_l (Int.le_trans ba0_14_u zq4) zq5 (Int.le_trans zq6 zq4)) (cwV 3 hts gX8_catches_X8_aheadWhy rfl rfl rfl zd_X8_aheadWhy ⟨Nat.le_of_ble_eq_true rfl, Nat.le_of_ble_eq_true rfl⟩) ⟨ax_blind (fun _ _ _ _ _ => trivial), zr_8 (zp_K hK) (zp_P1 hP) (q0 := 0) rfl, ax_pre (zp_P1 hP) (zp_K hK) (zp_D1 hD) (fun _ _ => trivial)⟩ rfl rfl hl.1 rfl (lv_room (Nat.le_of_ble_eq_true rfl)) dX8_catches_11 ⟨Nat.le_of_ble_eq_true rfl, Nat.le_of_ble_eq_true rfl⟩) hS (fun q _ h => zp_F1 hD hS hA q h) (zp_F1 hD hS hA) (fun r11 u t H locs ht hvm hw hB hz1 hk1 hS1 => zo1 hB ht hP hD hk1 (zp_F1 hD hS hA) hS1 (fun hP hK1 hD hS => ?_))
  rcases hw with hw | hw | hw
  · obtain ⟨hw, h11_0, h11_1⟩ := hw
    subst hw
    have l11k0_a0_14 : (1 : Int) ≤ a0_14.toInt := h11_0
    have u11k0_a0_14 : a0_14.toInt ≤ (0 : Int) := ba0_14_u
    exact absurd (Int.le_trans l11k0_a0_14 u11k0_a0_14) (by decide)
  · obtain ⟨hw, h11_0, h11_1⟩ := hw
    subst hw
    have l11k1_a0_14 : (0 : Int) ≤ a0_14.toInt := ba0_14_l
    have u11k1_a0_14 : a0_14.toInt ≤ (0 : Int) := ba0_14_u
    refine lv_istore_n (lv' := [(2, .int 1), (0, .ref a0), (1, .int a1)]) hx hb dX8_catches_14 rfl hl (by decide) rfl (fun ls hl => ?_)
    refine lv_iload_n hx hb dX8_catches_15 rfl (lv_at hl 0 rfl) ?_
    refine lv_if_eq (tgt := 25) hx hb dX8_catches_16 (by decide) (fun c16 => absurd c16 (by decide +kernel)) (fun _ => ?_)
    refine lv_aload_n hx hb dX8_catches_19 rfl (lv_at hl 1 rfl) ?_
    refine lv_iload_n hx hb dX8_catches_20 rfl (lv_at hl 0 rfl) ?_
    refine va_calli (va_runV (As := [.int 1]) (rest := []) ⟨hx, hb, hml, hown, hts⟩ (c_X8_no l dC dI H.size a0 1 (Value.int v1na0_0) a0g_1 a0g_2 a0g_3 a0g_4 a0g_5 a0g_6 a0g_7 a0g_8 a0g_9 a0g_10 a0g_12 a0g_13 (Value.int a0_14) a0g_15 a0g_16 a0g_17 a0g_18 a0g_19 a0g_20 a0g_21 a0g_22 a0g_23 a0g_24 a0g_25 a0g_26 a0g_27 a0g_28 a0g_29 a0g_30 a0g_31 a0g_32 a0g_33 a0g_34 a0g_35 a0g_36 a0g_37 a0g_38 a0g_39 v1na0_11 ) (cwV 1 hts gX8_catches_X8_no rfl rfl rfl zd_X8_no ⟨Nat.le_of_ble_eq_true rfl, Nat.le_of_ble_eq_true rfl⟩) ⟨ax_blind (fun _ _ _ _ _ => trivial), zr_8 (zp_K hK) (zp_P1 hP) (q0 := 0) rfl, ax_pre (zp_P1 hP) (zp_K hK) (zp_D1 hD) (fun _ _ => trivial)⟩ rfl rfl hl.1 rfl (lv_room (Nat.le_of_ble_eq_true rfl)) dX8_catches_21 ⟨Nat.le_of_ble_eq_true rfl, Nat.le_of_ble_eq_true rfl⟩) hS (fun q _ h => zp_F1 hD hS hA q h) (zp_F1 hD hS hA) (fun r21 u t H locs ht hvm hw => zx_1 (fun v21na0_11 hB hz1 hk1 hS1 => zo1 hB ht hP hD hk1 (zp_F1 hD hS hA) hS1 (fun hP hK1 hD hS => ?_)))
    have hw : r21 = (-1) := hw
    have hw := hw.symm
    subst hw
    exact W.iret (v := (-1)) hx hb hr (fun t ht hW => ⟨⟨(-1), (), rfl, rfl, v1na0_0, v21na0_11, by rw [ht]; exact hP, va_K.moved hW.alike hK, hD⟩, hS.F ht⟩) hS.2.2 dX8_catches_24
  · obtain ⟨hw, h11_0, h11_1, h11_2, h11_3⟩ := hw
    subst hw
    have l11k2_a0_14 : (1 : Int) ≤ a0_14.toInt := h11_0
    have u11k2_a0_14 : a0_14.toInt ≤ (0 : Int) := ba0_14_u
    exact absurd (Int.le_trans l11k2_a0_14 u11k2_a0_14) (by decide)

set_option maxHeartbeats 4000000 in
set_option maxRecDepth 100000 in
theorem c0_X8_heard (l : Launch) (dC : Nat → ClassId) (dI : Nat → Nat → Nat) (sz : Nat) (a0 : Nat) (a1 : Int32) (a2 : Int32) (a0_0 : Int32) (a0g_1 a0g_2 a0g_3 a0g_4 a0g_5 a0g_6 a0g_7 a0g_8 a0g_9 a0g_10 a0g_12 a0g_13 a0g_15 a0g_16 a0g_17 a0g_18 a0g_19 a0g_20 a0g_21 a0g_22 a0g_23 a0g_24 a0g_25 a0g_26 a0g_27 a0g_28 a0g_29 a0g_30 a0g_31 a0g_32 a0g_33 a0g_34 a0g_35 a0g_36 a0g_37 a0g_38 a0g_39 : Value) (a0_11 : Int32) (a0_14 : Int32) (ba0_14_l : (0 : Int) ≤ a0_14.toInt) (ba0_14_u : a0_14.toInt ≤ (0 : Int)) : zm l yX8_heard wsX8_heard ({ frames := 2, cells := 0, slots := 0, locals := 45 }) [.ref a0, .int a1, .int a2] dC dI sz [(a0, .inr (8, [Value.int a0_0, a0g_1, a0g_2, a0g_3, a0g_4, a0g_5, a0g_6, a0g_7, a0g_8, a0g_9, a0g_10, Value.int a0_11, a0g_12, a0g_13, Value.int a0_14, a0g_15, a0g_16, a0g_17, a0g_18, a0g_19, a0g_20, a0g_21, a0g_22, a0g_23, a0g_24, a0g_25, a0g_26, a0g_27, a0g_28, a0g_29, a0g_30, a0g_31, a0g_32, a0g_33, a0g_34, a0g_35, a0g_36, a0g_37, a0g_38, a0g_39]))] [] (fun A _ => True) (fun A => va_Qi (fun (r : Int32) (_ : Unit) => r = (-1)) (fun (_ : Unit) (t : State) => ∃ na0_0 : Int32, ∃ na0_11 : Int32, ax_B dC dI A [(a0, .inr (8, [Value.int na0_0, a0g_1, a0g_2, a0g_3, a0g_4, a0g_5, a0g_6, a0g_7, a0g_8, a0g_9, a0g_10, Value.int na0_11, a0g_12, a0g_13, Value.int a0_14, a0g_15, a0g_16, a0g_17, a0g_18, a0g_19, a0g_20, a0g_21, a0g_22, a0g_23, a0g_24, a0g_25, a0g_26, a0g_27, a0g_28, a0g_29, a0g_30, a0g_31, a0g_32, a0g_33, a0g_34, a0g_35, a0g_36, a0g_37, a0g_38, a0g_39]))] [] t) A) := by
  refine zh (cc := cX8_heard) (maxL := 5) (ret := (some .int)) zn_RX8 rfl (Nat.le_of_ble_eq_true rfl) (fun p e s m below meth c A ls hx hb hml hr hts (hown : s.vm.findClass RX8 = some m.cls) hlocks hA hS hP hK hD hE (hl : lv_has ls 5 [(0, .ref a0), (1, .int a1), (2, .int a2)]) => ?_)
  refine ai_open (fun K hK0 => ?_)
  refine (hK0 _ _ _).mpr ?_
  refine lv_aload_n hx hb dX8_heard_0 rfl (lv_at hl 0 rfl) ?_
  refine va_callv (va_runV (As := []) (rest := []) ⟨hx, hb, hml, hown, hts⟩ (c_X8_good l dC dI s.heap.size a0 a0_0 a0g_1 a0g_2 a0g_3 a0g_4 a0g_5 a0g_6 a0g_7 a0g_8 a0g_9 a0g_10 a0g_12 a0g_13 (Value.int a0_14) a0g_15 a0g_16 a0g_17 a0g_18 a0g_19 a0g_20 a0g_21 a0g_22 a0g_23 a0g_24 a0g_25 a0g_26 a0g_27 a0g_28 a0g_29 a0g_30 a0g_31 a0g_32 a0g_33 a0g_34 a0g_35 a0g_36 a0g_37 a0g_38 a0g_39 a0_11 ) (cwV 0 hts gX8_heard_X8_good rfl rfl rfl zd_X8_good ⟨Nat.le_of_ble_eq_true rfl, Nat.le_of_ble_eq_true rfl⟩) ⟨ax_blind (fun _ _ _ _ _ => trivial), zr_8 (zp_K hK) (zp_P1 hP) (q0 := 0) rfl, ax_pre (zp_P1 hP) (zp_K hK) (zp_D1 hD) (fun _ _ => trivial)⟩ rfl rfl hl.1 rfl (lv_room (Nat.le_of_ble_eq_true rfl)) dX8_heard_1 ⟨Nat.le_of_ble_eq_true rfl, Nat.le_of_ble_eq_true rfl⟩) hS (fun q _ h => zp_F1 hD hS hA q h) (zp_F1 hD hS hA) (fun u t H locs ht hvm hw => zx_2 (fun v1na0_0 v1na0_11 hB hz1 hk1 hS1 => zo1 hB ht hP hD hk1 (zp_F1 hD hS hA) hS1 (fun hP hK1 hD hS => ?_)))
  refine lv_aload_n hx hb dX8_heard_4 rfl (lv_at hl 0 rfl) ?_
  refine lv_aload_n hx hb dX8_heard_5 rfl (lv_at hl 0 rfl) ?_
  refine lv_iload_n hx hb dX8_heard_6 rfl (lv_at hl 1 rfl) ?_
  refine va_calli (va_runV (As := [.int a1]) (rest := [.ref a0]) ⟨hx, hb, hml, hown, hts⟩ (c0_X8_isFigure l dC dI H.size a0 a1 (Value.int v1na0_0) a0g_1 a0g_2 a0g_3 a0g_4 a0g_5 a0g_6 a0g_7 a0g_8 a0g_9 a0g_10 (Value.int v1na0_11) a0g_12 a0g_13 a0g_15 a0g_16 a0g_17 a0g_18 a0g_19 a0g_20 a0g_21 a0g_22 a0g_23 a0g_24 a0g_25 a0g_26 a0g_27 a0g_28 a0g_29 a0g_30 a0g_31 a0g_32 a0g_33 a0g_34 a0g_35 a0g_36 a0g_37 a0g_38 a0g_39 a0_14 ba0_14_l ba0_14_u) (cwV 1 hts gX8_heard_X8_isFigure rfl rfl rfl zd_X8_isFigure ⟨Nat.le_of_ble_eq_true rfl, Nat.le_of_ble_eq_true rfl⟩) ⟨ax_blind (fun _ _ _ _ _ => trivial), zr_8 (zp_K hK) (zp_P1 hP) (q0 := 0) rfl, ax_pre (zp_P1 hP) (zp_K hK) (zp_D1 hD) (fun _ _ => trivial)⟩ rfl rfl hl.1 rfl (lv_room (Nat.le_of_ble_eq_true rfl)) dX8_heard_7 ⟨Nat.le_of_ble_eq_true rfl, Nat.le_of_ble_eq_true rfl⟩) hS (fun q _ h => zp_F1 hD hS hA q h) (zp_F1 hD hS hA) (fun r7 u t H locs ht hvm hw hB hz1 hk1 hS1 => zo1 hB ht hP hD hk1 (zp_F1 hD hS hA) hS1 (fun hP hK1 hD hS => ?_))
  have hw : r7 = 0 := hw
  have hw := hw.symm
  subst hw
  refine lv_iconst (v := 0) hx hb dX8_heard_10 zk_iconst_0 ?_
  refine lv_iload_n hx hb dX8_heard_11 rfl (lv_at hl 2 rfl) ?_
  refine va_calli (va_runV (As := [.int 0, .int 0, .int a2]) (rest := []) ⟨hx, hb, hml, hown, hts⟩ (c_X8_aheadWhy l dC dI H.size a0 0 0 a2 (Value.int v1na0_0) a0g_1 a0g_2 a0g_3 a0g_4 a0g_5 a0g_6 a0g_7 a0g_8 a0g_9 a0g_10 (Value.int v1na0_11) a0g_12 a0g_13 (Value.int a0_14) a0g_15 a0g_16 a0g_17 a0g_18 a0g_19 a0g_20 a0g_21 a0g_22 a0g_23 a0g_24 a0g_25 a0g_26 a0g_27 a0g_28 a0g_29 a0g_30 a0g_31 a0g_32 a0g_33 a0g_34 a0g_35 a0g_36 a0g_37 a0g_38 a0g_39 zq5 (Int.le_trans zq6 zq4) zq5 (Int.le_trans zq6 zq4)) (cwV 3 hts gX8_heard_X8_aheadWhy rfl rfl rfl zd_X8_aheadWhy ⟨Nat.le_of_ble_eq_true rfl, Nat.le_of_ble_eq_true rfl⟩) ⟨ax_blind (fun _ _ _ _ _ => trivial), zr_8 (zp_K hK) (zp_P1 hP) (q0 := 0) rfl, ax_pre (zp_P1 hP) (zp_K hK) (zp_D1 hD) (fun _ _ => trivial)⟩ rfl rfl hl.1 rfl (lv_room (Nat.le_of_ble_eq_true rfl)) dX8_heard_12 ⟨Nat.le_of_ble_eq_true rfl, Nat.le_of_ble_eq_true rfl⟩) hS (fun q _ h => zp_F1 hD hS hA q h) (zp_F1 hD hS hA) (fun r12 u t H locs ht hvm hw hB hz1 hk1 hS1 => zo1 hB ht hP hD hk1 (zp_F1 hD hS hA) hS1 (fun hP hK1 hD hS => ?_))
  rcases hw with hw | hw | hw
  · obtain ⟨hw, h12_0, h12_1⟩ := hw
    subst hw
    exact absurd h12_0 (by decide)
  · obtain ⟨hw, h12_0, h12_1⟩ := hw
    subst hw
    refine lv_istore_n (lv' := [(3, .int 1), (0, .ref a0), (1, .int a1), (2, .int a2)]) hx hb dX8_heard_15 rfl hl (by decide) rfl (fun ls hl => ?_)
    refine lv_iload_n hx hb dX8_heard_16 rfl (lv_at hl 0 rfl) ?_
    refine lv_if_eq (tgt := 26) hx hb dX8_heard_17 (by decide) (fun c17 => absurd c17 (by decide +kernel)) (fun _ => ?_)
    refine lv_aload_n hx hb dX8_heard_20 rfl (lv_at hl 1 rfl) ?_
    refine lv_iload_n hx hb dX8_heard_21 rfl (lv_at hl 0 rfl) ?_
    refine va_calli (va_runV (As := [.int 1]) (rest := []) ⟨hx, hb, hml, hown, hts⟩ (c_X8_no l dC dI H.size a0 1 (Value.int v1na0_0) a0g_1 a0g_2 a0g_3 a0g_4 a0g_5 a0g_6 a0g_7 a0g_8 a0g_9 a0g_10 a0g_12 a0g_13 (Value.int a0_14) a0g_15 a0g_16 a0g_17 a0g_18 a0g_19 a0g_20 a0g_21 a0g_22 a0g_23 a0g_24 a0g_25 a0g_26 a0g_27 a0g_28 a0g_29 a0g_30 a0g_31 a0g_32 a0g_33 a0g_34 a0g_35 a0g_36 a0g_37 a0g_38 a0g_39 v1na0_11 ) (cwV 1 hts gX8_heard_X8_no rfl rfl rfl zd_X8_no ⟨Nat.le_of_ble_eq_true rfl, Nat.le_of_ble_eq_true rfl⟩) ⟨ax_blind (fun _ _ _ _ _ => trivial), zr_8 (zp_K hK) (zp_P1 hP) (q0 := 0) rfl, ax_pre (zp_P1 hP) (zp_K hK) (zp_D1 hD) (fun _ _ => trivial)⟩ rfl rfl hl.1 rfl (lv_room (Nat.le_of_ble_eq_true rfl)) dX8_heard_22 ⟨Nat.le_of_ble_eq_true rfl, Nat.le_of_ble_eq_true rfl⟩) hS (fun q _ h => zp_F1 hD hS hA q h) (zp_F1 hD hS hA) (fun r22 u t H locs ht hvm hw => zx_1 (fun v22na0_11 hB hz1 hk1 hS1 => zo1 hB ht hP hD hk1 (zp_F1 hD hS hA) hS1 (fun hP hK1 hD hS => ?_)))
    have hw : r22 = (-1) := hw
    have hw := hw.symm
    subst hw
    exact W.iret (v := (-1)) hx hb hr (fun t ht hW => ⟨⟨(-1), (), rfl, rfl, v1na0_0, v22na0_11, by rw [ht]; exact hP, va_K.moved hW.alike hK, hD⟩, hS.F ht⟩) hS.2.2 dX8_heard_25
  · obtain ⟨hw, h12_0, h12_1, h12_2, h12_3⟩ := hw
    subst hw
    exact absurd h12_0 (by decide)

set_option maxHeartbeats 4000000 in
set_option maxRecDepth 100000 in
theorem c0_X8_allIn (l : Launch) (dC : Nat → ClassId) (dI : Nat → Nat → Nat) (sz : Nat) (a0 : Nat) (a1 : Int32) (a0_0 : Int32) (a0g_1 a0g_2 a0g_3 a0g_4 a0g_5 a0g_6 a0g_7 a0g_8 a0g_9 a0g_10 a0g_12 a0g_13 a0g_15 a0g_16 a0g_17 a0g_18 a0g_19 a0g_20 a0g_21 a0g_22 a0g_23 a0g_24 a0g_25 a0g_26 a0g_27 a0g_28 a0g_29 a0g_30 a0g_31 a0g_32 a0g_33 a0g_34 a0g_35 a0g_36 a0g_37 a0g_38 a0g_39 : Value) (a0_11 : Int32) (a0_14 : Int32) (ba0_14_l : (0 : Int) ≤ a0_14.toInt) (ba0_14_u : a0_14.toInt ≤ (0 : Int)) : zm l yX8_allIn wsX8_allIn ({ frames := 1, cells := 0, slots := 0, locals := 21 }) [.ref a0, .int a1] dC dI sz [(a0, .inr (8, [Value.int a0_0, a0g_1, a0g_2, a0g_3, a0g_4, a0g_5, a0g_6, a0g_7, a0g_8, a0g_9, a0g_10, Value.int a0_11, a0g_12, a0g_13, Value.int a0_14, a0g_15, a0g_16, a0g_17, a0g_18, a0g_19, a0g_20, a0g_21, a0g_22, a0g_23, a0g_24, a0g_25, a0g_26, a0g_27, a0g_28, a0g_29, a0g_30, a0g_31, a0g_32, a0g_33, a0g_34, a0g_35, a0g_36, a0g_37, a0g_38, a0g_39]))] [] (fun A _ => True) (fun A => va_Qi (fun (r : Int32) (_ : Unit) => r = (-1)) (fun (_ : Unit) (t : State) => ∃ na0_0 : Int32, ∃ na0_11 : Int32, ax_B dC dI A [(a0, .inr (8, [Value.int na0_0, a0g_1, a0g_2, a0g_3, a0g_4, a0g_5, a0g_6, a0g_7, a0g_8, a0g_9, a0g_10, Value.int na0_11, a0g_12, a0g_13, Value.int a0_14, a0g_15, a0g_16, a0g_17, a0g_18, a0g_19, a0g_20, a0g_21, a0g_22, a0g_23, a0g_24, a0g_25, a0g_26, a0g_27, a0g_28, a0g_29, a0g_30, a0g_31, a0g_32, a0g_33, a0g_34, a0g_35, a0g_36, a0g_37, a0g_38, a0g_39]))] [] t) A) := by
  refine zh (cc := cX8_allIn) (maxL := 4) (ret := (some .int)) zn_RX8 rfl (Nat.le_of_ble_eq_true rfl) (fun p e s m below meth c A ls hx hb hml hr hts (hown : s.vm.findClass RX8 = some m.cls) hlocks hA hS hP hK hD hE (hl : lv_has ls 4 [(0, .ref a0), (1, .int a1)]) => ?_)
  refine ai_open (fun K hK0 => ?_)
  refine (hK0 _ _ _).mpr ?_
  refine lv_aload_n hx hb dX8_allIn_0 rfl (lv_at hl 0 rfl) ?_
  refine va_callv (va_runV (As := []) (rest := []) ⟨hx, hb, hml, hown, hts⟩ (c_X8_good l dC dI s.heap.size a0 a0_0 a0g_1 a0g_2 a0g_3 a0g_4 a0g_5 a0g_6 a0g_7 a0g_8 a0g_9 a0g_10 a0g_12 a0g_13 (Value.int a0_14) a0g_15 a0g_16 a0g_17 a0g_18 a0g_19 a0g_20 a0g_21 a0g_22 a0g_23 a0g_24 a0g_25 a0g_26 a0g_27 a0g_28 a0g_29 a0g_30 a0g_31 a0g_32 a0g_33 a0g_34 a0g_35 a0g_36 a0g_37 a0g_38 a0g_39 a0_11 ) (cwV 0 hts gX8_allIn_X8_good rfl rfl rfl zd_X8_good ⟨Nat.le_of_ble_eq_true rfl, Nat.le_of_ble_eq_true rfl⟩) ⟨ax_blind (fun _ _ _ _ _ => trivial), zr_8 (zp_K hK) (zp_P1 hP) (q0 := 0) rfl, ax_pre (zp_P1 hP) (zp_K hK) (zp_D1 hD) (fun _ _ => trivial)⟩ rfl rfl hl.1 rfl (lv_room (Nat.le_of_ble_eq_true rfl)) dX8_allIn_1 ⟨Nat.le_of_ble_eq_true rfl, Nat.le_of_ble_eq_true rfl⟩) hS (fun q _ h => zp_F1 hD hS hA q h) (zp_F1 hD hS hA) (fun u t H locs ht hvm hw => zx_2 (fun v1na0_0 v1na0_11 hB hz1 hk1 hS1 => zo1 hB ht hP hD hk1 (zp_F1 hD hS hA) hS1 (fun hP hK1 hD hS => ?_)))
  refine lv_aload_n hx hb dX8_allIn_4 rfl (lv_at hl 0 rfl) ?_
  refine lv_iload_n hx hb dX8_allIn_5 rfl (lv_at hl 1 rfl) ?_
  refine va_calli (va_runV (As := [.int a1]) (rest := []) ⟨hx, hb, hml, hown, hts⟩ (c0_X8_isFigure l dC dI H.size a0 a1 (Value.int v1na0_0) a0g_1 a0g_2 a0g_3 a0g_4 a0g_5 a0g_6 a0g_7 a0g_8 a0g_9 a0g_10 (Value.int v1na0_11) a0g_12 a0g_13 a0g_15 a0g_16 a0g_17 a0g_18 a0g_19 a0g_20 a0g_21 a0g_22 a0g_23 a0g_24 a0g_25 a0g_26 a0g_27 a0g_28 a0g_29 a0g_30 a0g_31 a0g_32 a0g_33 a0g_34 a0g_35 a0g_36 a0g_37 a0g_38 a0g_39 a0_14 ba0_14_l ba0_14_u) (cwV 1 hts gX8_allIn_X8_isFigure rfl rfl rfl zd_X8_isFigure ⟨Nat.le_of_ble_eq_true rfl, Nat.le_of_ble_eq_true rfl⟩) ⟨ax_blind (fun _ _ _ _ _ => trivial), zr_8 (zp_K hK) (zp_P1 hP) (q0 := 0) rfl, ax_pre (zp_P1 hP) (zp_K hK) (zp_D1 hD) (fun _ _ => trivial)⟩ rfl rfl hl.1 rfl (lv_room (Nat.le_of_ble_eq_true rfl)) dX8_allIn_6 ⟨Nat.le_of_ble_eq_true rfl, Nat.le_of_ble_eq_true rfl⟩) hS (fun q _ h => zp_F1 hD hS hA q h) (zp_F1 hD hS hA) (fun r6 u t H locs ht hvm hw hB hz1 hk1 hS1 => zo1 hB ht hP hD hk1 (zp_F1 hD hS hA) hS1 (fun hP hK1 hD hS => ?_))
  have hw : r6 = 0 := hw
  have hw := hw.symm
  subst hw
  refine lv_if_ne (tgt := 18) hx hb dX8_allIn_9 (by decide) (fun c9 => absurd (by decide +kernel) c9) (fun _ => ?_)
  refine lv_aload_n hx hb dX8_allIn_12 rfl (lv_at hl 0 rfl) ?_
  refine lv_iconst (v := 1) hx hb dX8_allIn_13 zk_iconst_1 ?_
  refine va_calli (va_runV (As := [.int 1]) (rest := []) ⟨hx, hb, hml, hown, hts⟩ (c_X8_no l dC dI H.size a0 1 (Value.int v1na0_0) a0g_1 a0g_2 a0g_3 a0g_4 a0g_5 a0g_6 a0g_7 a0g_8 a0g_9 a0g_10 a0g_12 a0g_13 (Value.int a0_14) a0g_15 a0g_16 a0g_17 a0g_18 a0g_19 a0g_20 a0g_21 a0g_22 a0g_23 a0g_24 a0g_25 a0g_26 a0g_27 a0g_28 a0g_29 a0g_30 a0g_31 a0g_32 a0g_33 a0g_34 a0g_35 a0g_36 a0g_37 a0g_38 a0g_39 v1na0_11 ) (cwV 1 hts gX8_allIn_X8_no rfl rfl rfl zd_X8_no ⟨Nat.le_of_ble_eq_true rfl, Nat.le_of_ble_eq_true rfl⟩) ⟨ax_blind (fun _ _ _ _ _ => trivial), zr_8 (zp_K hK) (zp_P1 hP) (q0 := 0) rfl, ax_pre (zp_P1 hP) (zp_K hK) (zp_D1 hD) (fun _ _ => trivial)⟩ rfl rfl hl.1 rfl (lv_room (Nat.le_of_ble_eq_true rfl)) dX8_allIn_14 ⟨Nat.le_of_ble_eq_true rfl, Nat.le_of_ble_eq_true rfl⟩) hS (fun q _ h => zp_F1 hD hS hA q h) (zp_F1 hD hS hA) (fun r14 u t H locs ht hvm hw => zx_1 (fun v14na0_11 hB hz1 hk1 hS1 => zo1 hB ht hP hD hk1 (zp_F1 hD hS hA) hS1 (fun hP hK1 hD hS => ?_)))
  have hw : r14 = (-1) := hw
  have hw := hw.symm
  subst hw
  exact W.iret (v := (-1)) hx hb hr (fun t ht hW => ⟨⟨(-1), (), rfl, rfl, v1na0_0, v14na0_11, by rw [ht]; exact hP, va_K.moved hW.alike hK, hD⟩, hS.F ht⟩) hS.2.2 dX8_allIn_17

set_option maxHeartbeats 4000000 in
set_option maxRecDepth 100000 in
theorem c0_X8_crowd (l : Launch) (dC : Nat → ClassId) (dI : Nat → Nat → Nat) (sz : Nat) (a0 : Nat) (a1 : Int32) (a0_0 : Int32) (a0g_1 a0g_2 a0g_3 a0g_4 a0g_5 a0g_6 a0g_7 a0g_8 a0g_9 a0g_10 a0g_12 a0g_13 a0g_15 a0g_16 a0g_17 a0g_18 a0g_19 a0g_20 a0g_21 a0g_22 a0g_23 a0g_24 a0g_25 a0g_26 a0g_27 a0g_28 a0g_29 a0g_30 a0g_31 a0g_32 a0g_33 a0g_34 a0g_35 a0g_36 a0g_37 a0g_38 a0g_39 : Value) (a0_11 : Int32) (a0_14 : Int32) (ba0_14_l : (0 : Int) ≤ a0_14.toInt) (ba0_14_u : a0_14.toInt ≤ (0 : Int)) : zm l yX8_crowd wsX8_crowd ({ frames := 2, cells := 0, slots := 0, locals := 45 }) [.ref a0, .int a1] dC dI sz [(a0, .inr (8, [Value.int a0_0, a0g_1, a0g_2, a0g_3, a0g_4, a0g_5, a0g_6, a0g_7, a0g_8, a0g_9, a0g_10, Value.int a0_11, a0g_12, a0g_13, Value.int a0_14, a0g_15, a0g_16, a0g_17, a0g_18, a0g_19, a0g_20, a0g_21, a0g_22, a0g_23, a0g_24, a0g_25, a0g_26, a0g_27, a0g_28, a0g_29, a0g_30, a0g_31, a0g_32, a0g_33, a0g_34, a0g_35, a0g_36, a0g_37, a0g_38, a0g_39]))] [] (fun A _ => True) (fun A => va_Qi (fun (r : Int32) (_ : Unit) => r = (-1)) (fun (_ : Unit) (t : State) => ∃ na0_0 : Int32, ∃ na0_11 : Int32, ax_B dC dI A [(a0, .inr (8, [Value.int na0_0, a0g_1, a0g_2, a0g_3, a0g_4, a0g_5, a0g_6, a0g_7, a0g_8, a0g_9, a0g_10, Value.int na0_11, a0g_12, a0g_13, Value.int a0_14, a0g_15, a0g_16, a0g_17, a0g_18, a0g_19, a0g_20, a0g_21, a0g_22, a0g_23, a0g_24, a0g_25, a0g_26, a0g_27, a0g_28, a0g_29, a0g_30, a0g_31, a0g_32, a0g_33, a0g_34, a0g_35, a0g_36, a0g_37, a0g_38, a0g_39]))] [] t) A) := by
  refine zh (cc := cX8_crowd) (maxL := 8) (ret := (some .int)) zn_RX8 rfl (Nat.le_of_ble_eq_true rfl) (fun p e s m below meth c A ls hx hb hml hr hts (hown : s.vm.findClass RX8 = some m.cls) hlocks hA hS hP hK hD hE (hl : lv_has ls 8 [(0, .ref a0), (1, .int a1)]) => ?_)
  refine ai_open (fun K hK0 => ?_)
  refine (hK0 _ _ _).mpr ?_
  refine lv_aload_n hx hb dX8_crowd_0 rfl (lv_at hl 0 rfl) ?_
  refine va_callv (va_runV (As := []) (rest := []) ⟨hx, hb, hml, hown, hts⟩ (c_X8_good l dC dI s.heap.size a0 a0_0 a0g_1 a0g_2 a0g_3 a0g_4 a0g_5 a0g_6 a0g_7 a0g_8 a0g_9 a0g_10 a0g_12 a0g_13 (Value.int a0_14) a0g_15 a0g_16 a0g_17 a0g_18 a0g_19 a0g_20 a0g_21 a0g_22 a0g_23 a0g_24 a0g_25 a0g_26 a0g_27 a0g_28 a0g_29 a0g_30 a0g_31 a0g_32 a0g_33 a0g_34 a0g_35 a0g_36 a0g_37 a0g_38 a0g_39 a0_11 ) (cwV 0 hts gX8_crowd_X8_good rfl rfl rfl zd_X8_good ⟨Nat.le_of_ble_eq_true rfl, Nat.le_of_ble_eq_true rfl⟩) ⟨ax_blind (fun _ _ _ _ _ => trivial), zr_8 (zp_K hK) (zp_P1 hP) (q0 := 0) rfl, ax_pre (zp_P1 hP) (zp_K hK) (zp_D1 hD) (fun _ _ => trivial)⟩ rfl rfl hl.1 rfl (lv_room (Nat.le_of_ble_eq_true rfl)) dX8_crowd_1 ⟨Nat.le_of_ble_eq_true rfl, Nat.le_of_ble_eq_true rfl⟩) hS (fun q _ h => zp_F1 hD hS hA q h) (zp_F1 hD hS hA) (fun u t H locs ht hvm hw => zx_2 (fun v1na0_0 v1na0_11 hB hz1 hk1 hS1 => zo1 hB ht hP hD hk1 (zp_F1 hD hS hA) hS1 (fun hP hK1 hD hS => ?_)))
  refine lv_aload_n hx hb dX8_crowd_4 rfl (lv_at hl 0 rfl) ?_
  refine lv_aload_n hx hb dX8_crowd_5 rfl (lv_at hl 0 rfl) ?_
  refine va_get (D := (dC, dI)) (ci := 8) (v := .int a0_14) (C := RX8) (T := TX8) (N := 40) hx hb hts zi_X8_crowd_8 hown hK hP 0 rfl rfl 14 (by decide) (hts (.fieldLink RX8 173 "WaxTurnsModel" "hasGallery" "Z") (zm_X8_crowd_r1 (List.mem_of_getElem? (i := 0) rfl))) (fun _ h9 => h9) rfl dX8_crowd_6 ?_
  refine lv_iconst (v := 0) hx hb dX8_crowd_9 zk_iconst_0 ?_
  refine lv_iload_n hx hb dX8_crowd_10 rfl (lv_at hl 1 rfl) ?_
  refine va_calli (va_runV (As := [.int a0_14, .int 0, .int a1]) (rest := []) ⟨hx, hb, hml, hown, hts⟩ (c_X8_aheadWhy l dC dI H.size a0 a0_14 0 a1 (Value.int v1na0_0) a0g_1 a0g_2 a0g_3 a0g_4 a0g_5 a0g_6 a0g_7 a0g_8 a0g_9 a0g_10 (Value.int v1na0_11) a0g_12 a0g_13 (Value.int a0_14) a0g_15 a0g_16 a0g_17 a0g_18 a0g_19 a0g_20 a0g_21 a0g_22 a0g_23 a0g_24 a0g_25 a0g_26 a0g_27 a0g_28 a0g_29 a0g_30 a0g_31 a0g_32 a0g_33 a0g_34 a0g_35 a0g_36 a0g_37 a0g_38 a0g_39 ba0_14_l (Int.le_trans ba0_14_u zq4) zq5 (Int.le_trans zq6 zq4)) (cwV 3 hts gX8_crowd_X8_aheadWhy rfl rfl rfl zd_X8_aheadWhy ⟨Nat.le_of_ble_eq_true rfl, Nat.le_of_ble_eq_true rfl⟩) ⟨ax_blind (fun _ _ _ _ _ => trivial), zr_8 (zp_K hK) (zp_P1 hP) (q0 := 0) rfl, ax_pre (zp_P1 hP) (zp_K hK) (zp_D1 hD) (fun _ _ => trivial)⟩ rfl rfl hl.1 rfl (lv_room (Nat.le_of_ble_eq_true rfl)) dX8_crowd_11 ⟨Nat.le_of_ble_eq_true rfl, Nat.le_of_ble_eq_true rfl⟩) hS (fun q _ h => zp_F1 hD hS hA q h) (zp_F1 hD hS hA) (fun r11 u t H locs ht hvm hw hB hz1 hk1 hS1 => zo1 hB ht hP hD hk1 (zp_F1 hD hS hA) hS1 (fun hP hK1 hD hS => ?_))
  rcases hw with hw | hw | hw
  · obtain ⟨hw, h11_0, h11_1⟩ := hw
    subst hw
    have l11k0_a0_14 : (1 : Int) ≤ a0_14.toInt := h11_0
    have u11k0_a0_14 : a0_14.toInt ≤ (0 : Int) := ba0_14_u
    exact absurd (Int.le_trans l11k0_a0_14 u11k0_a0_14) (by decide)
  · obtain ⟨hw, h11_0, h11_1⟩ := hw
    subst hw
    have l11k1_a0_14 : (0 : Int) ≤ a0_14.toInt := ba0_14_l
    have u11k1_a0_14 : a0_14.toInt ≤ (0 : Int) := ba0_14_u
    refine lv_istore_n (lv' := [(2, .int 1), (0, .ref a0), (1, .int a1)]) hx hb dX8_crowd_14 rfl hl (by decide) rfl (fun ls hl => ?_)
    refine lv_iload_n hx hb dX8_crowd_15 rfl (lv_at hl 0 rfl) ?_
    refine lv_if_eq (tgt := 25) hx hb dX8_crowd_16 (by decide) (fun c16 => absurd c16 (by decide +kernel)) (fun _ => ?_)
    refine lv_aload_n hx hb dX8_crowd_19 rfl (lv_at hl 1 rfl) ?_
    refine lv_iload_n hx hb dX8_crowd_20 rfl (lv_at hl 0 rfl) ?_
    refine va_calli (va_runV (As := [.int 1]) (rest := []) ⟨hx, hb, hml, hown, hts⟩ (c_X8_no l dC dI H.size a0 1 (Value.int v1na0_0) a0g_1 a0g_2 a0g_3 a0g_4 a0g_5 a0g_6 a0g_7 a0g_8 a0g_9 a0g_10 a0g_12 a0g_13 (Value.int a0_14) a0g_15 a0g_16 a0g_17 a0g_18 a0g_19 a0g_20 a0g_21 a0g_22 a0g_23 a0g_24 a0g_25 a0g_26 a0g_27 a0g_28 a0g_29 a0g_30 a0g_31 a0g_32 a0g_33 a0g_34 a0g_35 a0g_36 a0g_37 a0g_38 a0g_39 v1na0_11 ) (cwV 1 hts gX8_crowd_X8_no rfl rfl rfl zd_X8_no ⟨Nat.le_of_ble_eq_true rfl, Nat.le_of_ble_eq_true rfl⟩) ⟨ax_blind (fun _ _ _ _ _ => trivial), zr_8 (zp_K hK) (zp_P1 hP) (q0 := 0) rfl, ax_pre (zp_P1 hP) (zp_K hK) (zp_D1 hD) (fun _ _ => trivial)⟩ rfl rfl hl.1 rfl (lv_room (Nat.le_of_ble_eq_true rfl)) dX8_crowd_21 ⟨Nat.le_of_ble_eq_true rfl, Nat.le_of_ble_eq_true rfl⟩) hS (fun q _ h => zp_F1 hD hS hA q h) (zp_F1 hD hS hA) (fun r21 u t H locs ht hvm hw => zx_1 (fun v21na0_11 hB hz1 hk1 hS1 => zo1 hB ht hP hD hk1 (zp_F1 hD hS hA) hS1 (fun hP hK1 hD hS => ?_)))
    have hw : r21 = (-1) := hw
    have hw := hw.symm
    subst hw
    exact W.iret (v := (-1)) hx hb hr (fun t ht hW => ⟨⟨(-1), (), rfl, rfl, v1na0_0, v21na0_11, by rw [ht]; exact hP, va_K.moved hW.alike hK, hD⟩, hS.F ht⟩) hS.2.2 dX8_crowd_24
  · obtain ⟨hw, h11_0, h11_1, h11_2, h11_3⟩ := hw
    subst hw
    have l11k2_a0_14 : (1 : Int) ≤ a0_14.toInt := h11_0
    have u11k2_a0_14 : a0_14.toInt ≤ (0 : Int) := ba0_14_u
    exact absurd (Int.le_trans l11k2_a0_14 u11k2_a0_14) (by decide)

set_option maxHeartbeats 4000000 in
set_option maxRecDepth 100000 in
theorem c0_X8_farthest (l : Launch) (dC : Nat → ClassId) (dI : Nat → Nat → Nat) (sz : Nat) (a0 : Nat) (a1 : Int32) (a0_0 : Int32) (a0g_1 a0g_2 a0g_3 a0g_4 a0g_5 a0g_6 a0g_7 a0g_8 a0g_9 a0g_10 a0g_12 a0g_13 a0g_15 a0g_16 a0g_17 a0g_18 a0g_19 a0g_20 a0g_21 a0g_22 a0g_23 a0g_24 a0g_25 a0g_26 a0g_27 a0g_28 a0g_29 a0g_30 a0g_31 a0g_32 a0g_33 a0g_34 a0g_35 a0g_36 a0g_37 a0g_38 a0g_39 : Value) (a0_11 : Int32) (a0_14 : Int32) (ba0_14_l : (0 : Int) ≤ a0_14.toInt) (ba0_14_u : a0_14.toInt ≤ (0 : Int)) : zm l yX8_farthest wsX8_farthest ({ frames := 2, cells := 0, slots := 0, locals := 45 }) [.ref a0, .int a1] dC dI sz [(a0, .inr (8, [Value.int a0_0, a0g_1, a0g_2, a0g_3, a0g_4, a0g_5, a0g_6, a0g_7, a0g_8, a0g_9, a0g_10, Value.int a0_11, a0g_12, a0g_13, Value.int a0_14, a0g_15, a0g_16, a0g_17, a0g_18, a0g_19, a0g_20, a0g_21, a0g_22, a0g_23, a0g_24, a0g_25, a0g_26, a0g_27, a0g_28, a0g_29, a0g_30, a0g_31, a0g_32, a0g_33, a0g_34, a0g_35, a0g_36, a0g_37, a0g_38, a0g_39]))] [] (fun A _ => True) (fun A => va_Qi (fun (r : Int32) (_ : Unit) => r = (-1)) (fun (_ : Unit) (t : State) => ∃ na0_0 : Int32, ∃ na0_11 : Int32, ax_B dC dI A [(a0, .inr (8, [Value.int na0_0, a0g_1, a0g_2, a0g_3, a0g_4, a0g_5, a0g_6, a0g_7, a0g_8, a0g_9, a0g_10, Value.int na0_11, a0g_12, a0g_13, Value.int a0_14, a0g_15, a0g_16, a0g_17, a0g_18, a0g_19, a0g_20, a0g_21, a0g_22, a0g_23, a0g_24, a0g_25, a0g_26, a0g_27, a0g_28, a0g_29, a0g_30, a0g_31, a0g_32, a0g_33, a0g_34, a0g_35, a0g_36, a0g_37, a0g_38, a0g_39]))] [] t) A) := by
  refine zh (cc := cX8_farthest) (maxL := 5) (ret := (some .int)) zn_RX8 rfl (Nat.le_of_ble_eq_true rfl) (fun p e s m below meth c A ls hx hb hml hr hts (hown : s.vm.findClass RX8 = some m.cls) hlocks hA hS hP hK hD hE (hl : lv_has ls 5 [(0, .ref a0), (1, .int a1)]) => ?_)
  refine ai_open (fun K hK0 => ?_)
  refine (hK0 _ _ _).mpr ?_
  refine lv_aload_n hx hb dX8_farthest_0 rfl (lv_at hl 0 rfl) ?_
  refine va_callv (va_runV (As := []) (rest := []) ⟨hx, hb, hml, hown, hts⟩ (c_X8_good l dC dI s.heap.size a0 a0_0 a0g_1 a0g_2 a0g_3 a0g_4 a0g_5 a0g_6 a0g_7 a0g_8 a0g_9 a0g_10 a0g_12 a0g_13 (Value.int a0_14) a0g_15 a0g_16 a0g_17 a0g_18 a0g_19 a0g_20 a0g_21 a0g_22 a0g_23 a0g_24 a0g_25 a0g_26 a0g_27 a0g_28 a0g_29 a0g_30 a0g_31 a0g_32 a0g_33 a0g_34 a0g_35 a0g_36 a0g_37 a0g_38 a0g_39 a0_11 ) (cwV 0 hts gX8_farthest_X8_good rfl rfl rfl zd_X8_good ⟨Nat.le_of_ble_eq_true rfl, Nat.le_of_ble_eq_true rfl⟩) ⟨ax_blind (fun _ _ _ _ _ => trivial), zr_8 (zp_K hK) (zp_P1 hP) (q0 := 0) rfl, ax_pre (zp_P1 hP) (zp_K hK) (zp_D1 hD) (fun _ _ => trivial)⟩ rfl rfl hl.1 rfl (lv_room (Nat.le_of_ble_eq_true rfl)) dX8_farthest_1 ⟨Nat.le_of_ble_eq_true rfl, Nat.le_of_ble_eq_true rfl⟩) hS (fun q _ h => zp_F1 hD hS hA q h) (zp_F1 hD hS hA) (fun u t H locs ht hvm hw => zx_2 (fun v1na0_0 v1na0_11 hB hz1 hk1 hS1 => zo1 hB ht hP hD hk1 (zp_F1 hD hS hA) hS1 (fun hP hK1 hD hS => ?_)))
  refine lv_aload_n hx hb dX8_farthest_4 rfl (lv_at hl 0 rfl) ?_
  refine lv_aload_n hx hb dX8_farthest_5 rfl (lv_at hl 0 rfl) ?_
  refine va_get (D := (dC, dI)) (ci := 8) (v := .int a0_14) (C := RX8) (T := TX8) (N := 40) hx hb hts zi_X8_farthest_8 hown hK hP 0 rfl rfl 14 (by decide) (hts (.fieldLink RX8 173 "WaxTurnsModel" "hasGallery" "Z") (zm_X8_farthest_r1 (List.mem_of_getElem? (i := 0) rfl))) (fun _ h9 => h9) rfl dX8_farthest_6 ?_
  refine lv_iconst (v := 0) hx hb dX8_farthest_9 zk_iconst_0 ?_
  refine lv_iload_n hx hb dX8_farthest_10 rfl (lv_at hl 1 rfl) ?_
  refine va_calli (va_runV (As := [.int a0_14, .int 0, .int a1]) (rest := []) ⟨hx, hb, hml, hown, hts⟩ (c_X8_aheadWhy l dC dI H.size a0 a0_14 0 a1 (Value.int v1na0_0) a0g_1 a0g_2 a0g_3 a0g_4 a0g_5 a0g_6 a0g_7 a0g_8 a0g_9 a0g_10 (Value.int v1na0_11) a0g_12 a0g_13 (Value.int a0_14) a0g_15 a0g_16 a0g_17 a0g_18 a0g_19 a0g_20 a0g_21 a0g_22 a0g_23 a0g_24 a0g_25 a0g_26 a0g_27 a0g_28 a0g_29 a0g_30 a0g_31 a0g_32 a0g_33 a0g_34 a0g_35 a0g_36 a0g_37 a0g_38 a0g_39 ba0_14_l (Int.le_trans ba0_14_u zq4) zq5 (Int.le_trans zq6 zq4)) (cwV 3 hts gX8_farthest_X8_aheadWhy rfl rfl rfl zd_X8_aheadWhy ⟨Nat.le_of_ble_eq_true rfl, Nat.le_of_ble_eq_true rfl⟩) ⟨ax_blind (fun _ _ _ _ _ => trivial), zr_8 (zp_K hK) (zp_P1 hP) (q0 := 0) rfl, ax_pre (zp_P1 hP) (zp_K hK) (zp_D1 hD) (fun _ _ => trivial)⟩ rfl rfl hl.1 rfl (lv_room (Nat.le_of_ble_eq_true rfl)) dX8_farthest_11 ⟨Nat.le_of_ble_eq_true rfl, Nat.le_of_ble_eq_true rfl⟩) hS (fun q _ h => zp_F1 hD hS hA q h) (zp_F1 hD hS hA) (fun r11 u t H locs ht hvm hw hB hz1 hk1 hS1 => zo1 hB ht hP hD hk1 (zp_F1 hD hS hA) hS1 (fun hP hK1 hD hS => ?_))
  rcases hw with hw | hw | hw
  · obtain ⟨hw, h11_0, h11_1⟩ := hw
    subst hw
    have l11k0_a0_14 : (1 : Int) ≤ a0_14.toInt := h11_0
    have u11k0_a0_14 : a0_14.toInt ≤ (0 : Int) := ba0_14_u
    exact absurd (Int.le_trans l11k0_a0_14 u11k0_a0_14) (by decide)
  · obtain ⟨hw, h11_0, h11_1⟩ := hw
    subst hw
    have l11k1_a0_14 : (0 : Int) ≤ a0_14.toInt := ba0_14_l
    have u11k1_a0_14 : a0_14.toInt ≤ (0 : Int) := ba0_14_u
    refine lv_istore_n (lv' := [(2, .int 1), (0, .ref a0), (1, .int a1)]) hx hb dX8_farthest_14 rfl hl (by decide) rfl (fun ls hl => ?_)
    refine lv_iload_n hx hb dX8_farthest_15 rfl (lv_at hl 0 rfl) ?_
    refine lv_if_eq (tgt := 25) hx hb dX8_farthest_16 (by decide) (fun c16 => absurd c16 (by decide +kernel)) (fun _ => ?_)
    refine lv_aload_n hx hb dX8_farthest_19 rfl (lv_at hl 1 rfl) ?_
    refine lv_iload_n hx hb dX8_farthest_20 rfl (lv_at hl 0 rfl) ?_
    refine va_calli (va_runV (As := [.int 1]) (rest := []) ⟨hx, hb, hml, hown, hts⟩ (c_X8_no l dC dI H.size a0 1 (Value.int v1na0_0) a0g_1 a0g_2 a0g_3 a0g_4 a0g_5 a0g_6 a0g_7 a0g_8 a0g_9 a0g_10 a0g_12 a0g_13 (Value.int a0_14) a0g_15 a0g_16 a0g_17 a0g_18 a0g_19 a0g_20 a0g_21 a0g_22 a0g_23 a0g_24 a0g_25 a0g_26 a0g_27 a0g_28 a0g_29 a0g_30 a0g_31 a0g_32 a0g_33 a0g_34 a0g_35 a0g_36 a0g_37 a0g_38 a0g_39 v1na0_11 ) (cwV 1 hts gX8_farthest_X8_no rfl rfl rfl zd_X8_no ⟨Nat.le_of_ble_eq_true rfl, Nat.le_of_ble_eq_true rfl⟩) ⟨ax_blind (fun _ _ _ _ _ => trivial), zr_8 (zp_K hK) (zp_P1 hP) (q0 := 0) rfl, ax_pre (zp_P1 hP) (zp_K hK) (zp_D1 hD) (fun _ _ => trivial)⟩ rfl rfl hl.1 rfl (lv_room (Nat.le_of_ble_eq_true rfl)) dX8_farthest_21 ⟨Nat.le_of_ble_eq_true rfl, Nat.le_of_ble_eq_true rfl⟩) hS (fun q _ h => zp_F1 hD hS hA q h) (zp_F1 hD hS hA) (fun r21 u t H locs ht hvm hw => zx_1 (fun v21na0_11 hB hz1 hk1 hS1 => zo1 hB ht hP hD hk1 (zp_F1 hD hS hA) hS1 (fun hP hK1 hD hS => ?_)))
    have hw : r21 = (-1) := hw
    have hw := hw.symm
    subst hw
    exact W.iret (v := (-1)) hx hb hr (fun t ht hW => ⟨⟨(-1), (), rfl, rfl, v1na0_0, v21na0_11, by rw [ht]; exact hP, va_K.moved hW.alike hK, hD⟩, hS.F ht⟩) hS.2.2 dX8_farthest_24
  · obtain ⟨hw, h11_0, h11_1, h11_2, h11_3⟩ := hw
    subst hw
    have l11k2_a0_14 : (1 : Int) ≤ a0_14.toInt := h11_0
    have u11k2_a0_14 : a0_14.toInt ≤ (0 : Int) := ba0_14_u
    exact absurd (Int.le_trans l11k2_a0_14 u11k2_a0_14) (by decide)

set_option maxHeartbeats 4000000 in
set_option maxRecDepth 100000 in
theorem c0_X8_nearBy (l : Launch) (dC : Nat → ClassId) (dI : Nat → Nat → Nat) (sz : Nat) (a0 : Nat) (a1 : Int32) (a2 : Int32) (a0_0 : Int32) (a0g_1 a0g_2 a0g_3 a0g_4 a0g_5 a0g_6 a0g_7 a0g_8 a0g_9 a0g_10 a0g_12 a0g_13 a0g_15 a0g_16 a0g_17 a0g_18 a0g_19 a0g_20 a0g_21 a0g_22 a0g_23 a0g_24 a0g_25 a0g_26 a0g_27 a0g_28 a0g_29 a0g_30 a0g_31 a0g_32 a0g_33 a0g_34 a0g_35 a0g_36 a0g_37 a0g_38 a0g_39 : Value) (a0_11 : Int32) (a0_14 : Int32) (ba0_14_l : (0 : Int) ≤ a0_14.toInt) (ba0_14_u : a0_14.toInt ≤ (0 : Int)) : zm l yX8_nearBy wsX8_nearBy ({ frames := 2, cells := 0, slots := 0, locals := 45 }) [.ref a0, .int a1, .int a2] dC dI sz [(a0, .inr (8, [Value.int a0_0, a0g_1, a0g_2, a0g_3, a0g_4, a0g_5, a0g_6, a0g_7, a0g_8, a0g_9, a0g_10, Value.int a0_11, a0g_12, a0g_13, Value.int a0_14, a0g_15, a0g_16, a0g_17, a0g_18, a0g_19, a0g_20, a0g_21, a0g_22, a0g_23, a0g_24, a0g_25, a0g_26, a0g_27, a0g_28, a0g_29, a0g_30, a0g_31, a0g_32, a0g_33, a0g_34, a0g_35, a0g_36, a0g_37, a0g_38, a0g_39]))] [] (fun A _ => True) (fun A => va_Qi (fun (r : Int32) (_ : Unit) => r = (-1)) (fun (_ : Unit) (t : State) => ∃ na0_0 : Int32, ∃ na0_11 : Int32, ax_B dC dI A [(a0, .inr (8, [Value.int na0_0, a0g_1, a0g_2, a0g_3, a0g_4, a0g_5, a0g_6, a0g_7, a0g_8, a0g_9, a0g_10, Value.int na0_11, a0g_12, a0g_13, Value.int a0_14, a0g_15, a0g_16, a0g_17, a0g_18, a0g_19, a0g_20, a0g_21, a0g_22, a0g_23, a0g_24, a0g_25, a0g_26, a0g_27, a0g_28, a0g_29, a0g_30, a0g_31, a0g_32, a0g_33, a0g_34, a0g_35, a0g_36, a0g_37, a0g_38, a0g_39]))] [] t) A) := by
  refine zh (cc := cX8_nearBy) (maxL := 7) (ret := (some .int)) zn_RX8 rfl (Nat.le_of_ble_eq_true rfl) (fun p e s m below meth c A ls hx hb hml hr hts (hown : s.vm.findClass RX8 = some m.cls) hlocks hA hS hP hK hD hE (hl : lv_has ls 7 [(0, .ref a0), (1, .int a1), (2, .int a2)]) => ?_)
  refine ai_open (fun K hK0 => ?_)
  refine (hK0 _ _ _).mpr ?_
  refine lv_aload_n hx hb dX8_nearBy_0 rfl (lv_at hl 0 rfl) ?_
  refine va_callv (va_runV (As := []) (rest := []) ⟨hx, hb, hml, hown, hts⟩ (c_X8_good l dC dI s.heap.size a0 a0_0 a0g_1 a0g_2 a0g_3 a0g_4 a0g_5 a0g_6 a0g_7 a0g_8 a0g_9 a0g_10 a0g_12 a0g_13 (Value.int a0_14) a0g_15 a0g_16 a0g_17 a0g_18 a0g_19 a0g_20 a0g_21 a0g_22 a0g_23 a0g_24 a0g_25 a0g_26 a0g_27 a0g_28 a0g_29 a0g_30 a0g_31 a0g_32 a0g_33 a0g_34 a0g_35 a0g_36 a0g_37 a0g_38 a0g_39 a0_11 ) (cwV 0 hts gX8_nearBy_X8_good rfl rfl rfl zd_X8_good ⟨Nat.le_of_ble_eq_true rfl, Nat.le_of_ble_eq_true rfl⟩) ⟨ax_blind (fun _ _ _ _ _ => trivial), zr_8 (zp_K hK) (zp_P1 hP) (q0 := 0) rfl, ax_pre (zp_P1 hP) (zp_K hK) (zp_D1 hD) (fun _ _ => trivial)⟩ rfl rfl hl.1 rfl (lv_room (Nat.le_of_ble_eq_true rfl)) dX8_nearBy_1 ⟨Nat.le_of_ble_eq_true rfl, Nat.le_of_ble_eq_true rfl⟩) hS (fun q _ h => zp_F1 hD hS hA q h) (zp_F1 hD hS hA) (fun u t H locs ht hvm hw => zx_2 (fun v1na0_0 v1na0_11 hB hz1 hk1 hS1 => zo1 hB ht hP hD hk1 (zp_F1 hD hS hA) hS1 (fun hP hK1 hD hS => ?_)))
  refine lv_aload_n hx hb dX8_nearBy_4 rfl (lv_at hl 0 rfl) ?_
  refine lv_aload_n hx hb dX8_nearBy_5 rfl (lv_at hl 0 rfl) ?_
  refine lv_iload_n hx hb dX8_nearBy_6 rfl (lv_at hl 1 rfl) ?_
  refine va_calli (va_runV (As := [.int a1]) (rest := [.ref a0]) ⟨hx, hb, hml, hown, hts⟩ (c0_X8_isFigure l dC dI H.size a0 a1 (Value.int v1na0_0) a0g_1 a0g_2 a0g_3 a0g_4 a0g_5 a0g_6 a0g_7 a0g_8 a0g_9 a0g_10 (Value.int v1na0_11) a0g_12 a0g_13 a0g_15 a0g_16 a0g_17 a0g_18 a0g_19 a0g_20 a0g_21 a0g_22 a0g_23 a0g_24 a0g_25 a0g_26 a0g_27 a0g_28 a0g_29 a0g_30 a0g_31 a0g_32 a0g_33 a0g_34 a0g_35 a0g_36 a0g_37 a0g_38 a0g_39 a0_14 ba0_14_l ba0_14_u) (cwV 1 hts gX8_nearBy_X8_isFigure rfl rfl rfl zd_X8_isFigure ⟨Nat.le_of_ble_eq_true rfl, Nat.le_of_ble_eq_true rfl⟩) ⟨ax_blind (fun _ _ _ _ _ => trivial), zr_8 (zp_K hK) (zp_P1 hP) (q0 := 0) rfl, ax_pre (zp_P1 hP) (zp_K hK) (zp_D1 hD) (fun _ _ => trivial)⟩ rfl rfl hl.1 rfl (lv_room (Nat.le_of_ble_eq_true rfl)) dX8_nearBy_7 ⟨Nat.le_of_ble_eq_true rfl, Nat.le_of_ble_eq_true rfl⟩) hS (fun q _ h => zp_F1 hD hS hA q h) (zp_F1 hD hS hA) (fun r7 u t H locs ht hvm hw hB hz1 hk1 hS1 => zo1 hB ht hP hD hk1 (zp_F1 hD hS hA) hS1 (fun hP hK1 hD hS => ?_))
  have hw : r7 = 0 := hw
  have hw := hw.symm
  subst hw
  refine lv_iconst (v := 0) hx hb dX8_nearBy_10 zk_iconst_0 ?_
  refine lv_iload_n hx hb dX8_nearBy_11 rfl (lv_at hl 2 rfl) ?_
  refine va_calli (va_runV (As := [.int 0, .int 0, .int a2]) (rest := []) ⟨hx, hb, hml, hown, hts⟩ (c_X8_aheadWhy l dC dI H.size a0 0 0 a2 (Value.int v1na0_0) a0g_1 a0g_2 a0g_3 a0g_4 a0g_5 a0g_6 a0g_7 a0g_8 a0g_9 a0g_10 (Value.int v1na0_11) a0g_12 a0g_13 (Value.int a0_14) a0g_15 a0g_16 a0g_17 a0g_18 a0g_19 a0g_20 a0g_21 a0g_22 a0g_23 a0g_24 a0g_25 a0g_26 a0g_27 a0g_28 a0g_29 a0g_30 a0g_31 a0g_32 a0g_33 a0g_34 a0g_35 a0g_36 a0g_37 a0g_38 a0g_39 zq5 (Int.le_trans zq6 zq4) zq5 (Int.le_trans zq6 zq4)) (cwV 3 hts gX8_nearBy_X8_aheadWhy rfl rfl rfl zd_X8_aheadWhy ⟨Nat.le_of_ble_eq_true rfl, Nat.le_of_ble_eq_true rfl⟩) ⟨ax_blind (fun _ _ _ _ _ => trivial), zr_8 (zp_K hK) (zp_P1 hP) (q0 := 0) rfl, ax_pre (zp_P1 hP) (zp_K hK) (zp_D1 hD) (fun _ _ => trivial)⟩ rfl rfl hl.1 rfl (lv_room (Nat.le_of_ble_eq_true rfl)) dX8_nearBy_12 ⟨Nat.le_of_ble_eq_true rfl, Nat.le_of_ble_eq_true rfl⟩) hS (fun q _ h => zp_F1 hD hS hA q h) (zp_F1 hD hS hA) (fun r12 u t H locs ht hvm hw hB hz1 hk1 hS1 => zo1 hB ht hP hD hk1 (zp_F1 hD hS hA) hS1 (fun hP hK1 hD hS => ?_))
  rcases hw with hw | hw | hw
  · obtain ⟨hw, h12_0, h12_1⟩ := hw
    subst hw
    exact absurd h12_0 (by decide)
  · obtain ⟨hw, h12_0, h12_1⟩ := hw
    subst hw
    refine lv_istore_n (lv' := [(3, .int 1), (0, .ref a0), (1, .int a1), (2, .int a2)]) hx hb dX8_nearBy_15 rfl hl (by decide) rfl (fun ls hl => ?_)
    refine lv_iload_n hx hb dX8_nearBy_16 rfl (lv_at hl 0 rfl) ?_
    refine lv_if_eq (tgt := 26) hx hb dX8_nearBy_17 (by decide) (fun c17 => absurd c17 (by decide +kernel)) (fun _ => ?_)
    refine lv_aload_n hx hb dX8_nearBy_20 rfl (lv_at hl 1 rfl) ?_
    refine lv_iload_n hx hb dX8_nearBy_21 rfl (lv_at hl 0 rfl) ?_
    refine va_calli (va_runV (As := [.int 1]) (rest := []) ⟨hx, hb, hml, hown, hts⟩ (c_X8_no l dC dI H.size a0 1 (Value.int v1na0_0) a0g_1 a0g_2 a0g_3 a0g_4 a0g_5 a0g_6 a0g_7 a0g_8 a0g_9 a0g_10 a0g_12 a0g_13 (Value.int a0_14) a0g_15 a0g_16 a0g_17 a0g_18 a0g_19 a0g_20 a0g_21 a0g_22 a0g_23 a0g_24 a0g_25 a0g_26 a0g_27 a0g_28 a0g_29 a0g_30 a0g_31 a0g_32 a0g_33 a0g_34 a0g_35 a0g_36 a0g_37 a0g_38 a0g_39 v1na0_11 ) (cwV 1 hts gX8_nearBy_X8_no rfl rfl rfl zd_X8_no ⟨Nat.le_of_ble_eq_true rfl, Nat.le_of_ble_eq_true rfl⟩) ⟨ax_blind (fun _ _ _ _ _ => trivial), zr_8 (zp_K hK) (zp_P1 hP) (q0 := 0) rfl, ax_pre (zp_P1 hP) (zp_K hK) (zp_D1 hD) (fun _ _ => trivial)⟩ rfl rfl hl.1 rfl (lv_room (Nat.le_of_ble_eq_true rfl)) dX8_nearBy_22 ⟨Nat.le_of_ble_eq_true rfl, Nat.le_of_ble_eq_true rfl⟩) hS (fun q _ h => zp_F1 hD hS hA q h) (zp_F1 hD hS hA) (fun r22 u t H locs ht hvm hw => zx_1 (fun v22na0_11 hB hz1 hk1 hS1 => zo1 hB ht hP hD hk1 (zp_F1 hD hS hA) hS1 (fun hP hK1 hD hS => ?_)))
    have hw : r22 = (-1) := hw
    have hw := hw.symm
    subst hw
    exact W.iret (v := (-1)) hx hb hr (fun t ht hW => ⟨⟨(-1), (), rfl, rfl, v1na0_0, v22na0_11, by rw [ht]; exact hP, va_K.moved hW.alike hK, hD⟩, hS.F ht⟩) hS.2.2 dX8_nearBy_25
  · obtain ⟨hw, h12_0, h12_1, h12_2, h12_3⟩ := hw
    subst hw
    exact absurd h12_0 (by decide)
end P280_02_safe
section P280_03_safe
set_option maxHeartbeats 4000000 in
set_option maxRecDepth 100000 in
theorem c0_X8_spoken (l : Launch) (dC : Nat → ClassId) (dI : Nat → Nat → Nat) (sz : Nat) (a0 : Nat) (a1 : Int32) (a2 : Int32) (a0_0 : Int32) (a0g_1 a0g_2 a0g_3 a0g_4 a0g_5 a0g_6 a0g_7 a0g_8 a0g_9 a0g_10 a0g_12 a0g_13 a0g_15 a0g_16 a0g_17 a0g_18 a0g_19 a0g_20 a0g_21 a0g_22 a0g_23 a0g_24 a0g_25 a0g_26 a0g_27 a0g_28 a0g_29 a0g_30 a0g_31 a0g_32 a0g_33 a0g_34 a0g_35 a0g_36 a0g_37 a0g_38 a0g_39 : Value) (a0_11 : Int32) (a0_14 : Int32) (ba0_14_l : (0 : Int) ≤ a0_14.toInt) (ba0_14_u : a0_14.toInt ≤ (0 : Int)) : zm l yX8_spoken wsX8_spoken ({ frames := 2, cells := 0, slots := 0, locals := 45 }) [.ref a0, .int a1, .int a2] dC dI sz [(a0, .inr (8, [Value.int a0_0, a0g_1, a0g_2, a0g_3, a0g_4, a0g_5, a0g_6, a0g_7, a0g_8, a0g_9, a0g_10, Value.int a0_11, a0g_12, a0g_13, Value.int a0_14, a0g_15, a0g_16, a0g_17, a0g_18, a0g_19, a0g_20, a0g_21, a0g_22, a0g_23, a0g_24, a0g_25, a0g_26, a0g_27, a0g_28, a0g_29, a0g_30, a0g_31, a0g_32, a0g_33, a0g_34, a0g_35, a0g_36, a0g_37, a0g_38, a0g_39]))] [] (fun A _ => True) (fun A => va_Qi (fun (r : Int32) (_ : Unit) => r = (-1)) (fun (_ : Unit) (t : State) => ∃ na0_0 : Int32, ∃ na0_11 : Int32, ax_B dC dI A [(a0, .inr (8, [Value.int na0_0, a0g_1, a0g_2, a0g_3, a0g_4, a0g_5, a0g_6, a0g_7, a0g_8, a0g_9, a0g_10, Value.int na0_11, a0g_12, a0g_13, Value.int a0_14, a0g_15, a0g_16, a0g_17, a0g_18, a0g_19, a0g_20, a0g_21, a0g_22, a0g_23, a0g_24, a0g_25, a0g_26, a0g_27, a0g_28, a0g_29, a0g_30, a0g_31, a0g_32, a0g_33, a0g_34, a0g_35, a0g_36, a0g_37, a0g_38, a0g_39]))] [] t) A) := by
  refine zh (cc := cX8_spoken) (maxL := 6) (ret := (some .int)) zn_RX8 rfl (Nat.le_of_ble_eq_true rfl) (fun p e s m below meth c A ls hx hb hml hr hts (hown : s.vm.findClass RX8 = some m.cls) hlocks hA hS hP hK hD hE (hl : lv_has ls 6 [(0, .ref a0), (1, .int a1), (2, .int a2)]) => ?_)
  refine ai_open (fun K hK0 => ?_)
  refine (hK0 _ _ _).mpr ?_
  refine lv_aload_n hx hb dX8_spoken_0 rfl (lv_at hl 0 rfl) ?_
  refine va_callv (va_runV (As := []) (rest := []) ⟨hx, hb, hml, hown, hts⟩ (c_X8_good l dC dI s.heap.size a0 a0_0 a0g_1 a0g_2 a0g_3 a0g_4 a0g_5 a0g_6 a0g_7 a0g_8 a0g_9 a0g_10 a0g_12 a0g_13 (Value.int a0_14) a0g_15 a0g_16 a0g_17 a0g_18 a0g_19 a0g_20 a0g_21 a0g_22 a0g_23 a0g_24 a0g_25 a0g_26 a0g_27 a0g_28 a0g_29 a0g_30 a0g_31 a0g_32 a0g_33 a0g_34 a0g_35 a0g_36 a0g_37 a0g_38 a0g_39 a0_11 ) (cwV 0 hts gX8_spoken_X8_good rfl rfl rfl zd_X8_good ⟨Nat.le_of_ble_eq_true rfl, Nat.le_of_ble_eq_true rfl⟩) ⟨ax_blind (fun _ _ _ _ _ => trivial), zr_8 (zp_K hK) (zp_P1 hP) (q0 := 0) rfl, ax_pre (zp_P1 hP) (zp_K hK) (zp_D1 hD) (fun _ _ => trivial)⟩ rfl rfl hl.1 rfl (lv_room (Nat.le_of_ble_eq_true rfl)) dX8_spoken_1 ⟨Nat.le_of_ble_eq_true rfl, Nat.le_of_ble_eq_true rfl⟩) hS (fun q _ h => zp_F1 hD hS hA q h) (zp_F1 hD hS hA) (fun u t H locs ht hvm hw => zx_2 (fun v1na0_0 v1na0_11 hB hz1 hk1 hS1 => zo1 hB ht hP hD hk1 (zp_F1 hD hS hA) hS1 (fun hP hK1 hD hS => ?_)))
  refine lv_aload_n hx hb dX8_spoken_4 rfl (lv_at hl 0 rfl) ?_
  refine lv_aload_n hx hb dX8_spoken_5 rfl (lv_at hl 0 rfl) ?_
  refine lv_iload_n hx hb dX8_spoken_6 rfl (lv_at hl 1 rfl) ?_
  refine va_calli (va_runV (As := [.int a1]) (rest := [.ref a0]) ⟨hx, hb, hml, hown, hts⟩ (c0_X8_isFigure l dC dI H.size a0 a1 (Value.int v1na0_0) a0g_1 a0g_2 a0g_3 a0g_4 a0g_5 a0g_6 a0g_7 a0g_8 a0g_9 a0g_10 (Value.int v1na0_11) a0g_12 a0g_13 a0g_15 a0g_16 a0g_17 a0g_18 a0g_19 a0g_20 a0g_21 a0g_22 a0g_23 a0g_24 a0g_25 a0g_26 a0g_27 a0g_28 a0g_29 a0g_30 a0g_31 a0g_32 a0g_33 a0g_34 a0g_35 a0g_36 a0g_37 a0g_38 a0g_39 a0_14 ba0_14_l ba0_14_u) (cwV 1 hts gX8_spoken_X8_isFigure rfl rfl rfl zd_X8_isFigure ⟨Nat.le_of_ble_eq_true rfl, Nat.le_of_ble_eq_true rfl⟩) ⟨ax_blind (fun _ _ _ _ _ => trivial), zr_8 (zp_K hK) (zp_P1 hP) (q0 := 0) rfl, ax_pre (zp_P1 hP) (zp_K hK) (zp_D1 hD) (fun _ _ => trivial)⟩ rfl rfl hl.1 rfl (lv_room (Nat.le_of_ble_eq_true rfl)) dX8_spoken_7 ⟨Nat.le_of_ble_eq_true rfl, Nat.le_of_ble_eq_true rfl⟩) hS (fun q _ h => zp_F1 hD hS hA q h) (zp_F1 hD hS hA) (fun r7 u t H locs ht hvm hw hB hz1 hk1 hS1 => zo1 hB ht hP hD hk1 (zp_F1 hD hS hA) hS1 (fun hP hK1 hD hS => ?_))
  have hw : r7 = 0 := hw
  have hw := hw.symm
  subst hw
  refine lv_iconst (v := 0) hx hb dX8_spoken_10 zk_iconst_0 ?_
  refine lv_iload_n hx hb dX8_spoken_11 rfl (lv_at hl 2 rfl) ?_
  refine va_calli (va_runV (As := [.int 0, .int 0, .int a2]) (rest := []) ⟨hx, hb, hml, hown, hts⟩ (c_X8_aheadWhy l dC dI H.size a0 0 0 a2 (Value.int v1na0_0) a0g_1 a0g_2 a0g_3 a0g_4 a0g_5 a0g_6 a0g_7 a0g_8 a0g_9 a0g_10 (Value.int v1na0_11) a0g_12 a0g_13 (Value.int a0_14) a0g_15 a0g_16 a0g_17 a0g_18 a0g_19 a0g_20 a0g_21 a0g_22 a0g_23 a0g_24 a0g_25 a0g_26 a0g_27 a0g_28 a0g_29 a0g_30 a0g_31 a0g_32 a0g_33 a0g_34 a0g_35 a0g_36 a0g_37 a0g_38 a0g_39 zq5 (Int.le_trans zq6 zq4) zq5 (Int.le_trans zq6 zq4)) (cwV 3 hts gX8_spoken_X8_aheadWhy rfl rfl rfl zd_X8_aheadWhy ⟨Nat.le_of_ble_eq_true rfl, Nat.le_of_ble_eq_true rfl⟩) ⟨ax_blind (fun _ _ _ _ _ => trivial), zr_8 (zp_K hK) (zp_P1 hP) (q0 := 0) rfl, ax_pre (zp_P1 hP) (zp_K hK) (zp_D1 hD) (fun _ _ => trivial)⟩ rfl rfl hl.1 rfl (lv_room (Nat.le_of_ble_eq_true rfl)) dX8_spoken_12 ⟨Nat.le_of_ble_eq_true rfl, Nat.le_of_ble_eq_true rfl⟩) hS (fun q _ h => zp_F1 hD hS hA q h) (zp_F1 hD hS hA) (fun r12 u t H locs ht hvm hw hB hz1 hk1 hS1 => zo1 hB ht hP hD hk1 (zp_F1 hD hS hA) hS1 (fun hP hK1 hD hS => ?_))
  rcases hw with hw | hw | hw
  · obtain ⟨hw, h12_0, h12_1⟩ := hw
    subst hw
    exact absurd h12_0 (by decide)
  · obtain ⟨hw, h12_0, h12_1⟩ := hw
    subst hw
    refine lv_istore_n (lv' := [(3, .int 1), (0, .ref a0), (1, .int a1), (2, .int a2)]) hx hb dX8_spoken_15 rfl hl (by decide) rfl (fun ls hl => ?_)
    refine lv_iload_n hx hb dX8_spoken_16 rfl (lv_at hl 0 rfl) ?_
    refine lv_if_eq (tgt := 26) hx hb dX8_spoken_17 (by decide) (fun c17 => absurd c17 (by decide +kernel)) (fun _ => ?_)
    refine lv_aload_n hx hb dX8_spoken_20 rfl (lv_at hl 1 rfl) ?_
    refine lv_iload_n hx hb dX8_spoken_21 rfl (lv_at hl 0 rfl) ?_
    refine va_calli (va_runV (As := [.int 1]) (rest := []) ⟨hx, hb, hml, hown, hts⟩ (c_X8_no l dC dI H.size a0 1 (Value.int v1na0_0) a0g_1 a0g_2 a0g_3 a0g_4 a0g_5 a0g_6 a0g_7 a0g_8 a0g_9 a0g_10 a0g_12 a0g_13 (Value.int a0_14) a0g_15 a0g_16 a0g_17 a0g_18 a0g_19 a0g_20 a0g_21 a0g_22 a0g_23 a0g_24 a0g_25 a0g_26 a0g_27 a0g_28 a0g_29 a0g_30 a0g_31 a0g_32 a0g_33 a0g_34 a0g_35 a0g_36 a0g_37 a0g_38 a0g_39 v1na0_11 ) (cwV 1 hts gX8_spoken_X8_no rfl rfl rfl zd_X8_no ⟨Nat.le_of_ble_eq_true rfl, Nat.le_of_ble_eq_true rfl⟩) ⟨ax_blind (fun _ _ _ _ _ => trivial), zr_8 (zp_K hK) (zp_P1 hP) (q0 := 0) rfl, ax_pre (zp_P1 hP) (zp_K hK) (zp_D1 hD) (fun _ _ => trivial)⟩ rfl rfl hl.1 rfl (lv_room (Nat.le_of_ble_eq_true rfl)) dX8_spoken_22 ⟨Nat.le_of_ble_eq_true rfl, Nat.le_of_ble_eq_true rfl⟩) hS (fun q _ h => zp_F1 hD hS hA q h) (zp_F1 hD hS hA) (fun r22 u t H locs ht hvm hw => zx_1 (fun v22na0_11 hB hz1 hk1 hS1 => zo1 hB ht hP hD hk1 (zp_F1 hD hS hA) hS1 (fun hP hK1 hD hS => ?_)))
    have hw : r22 = (-1) := hw
    have hw := hw.symm
    subst hw
    exact W.iret (v := (-1)) hx hb hr (fun t ht hW => ⟨⟨(-1), (), rfl, rfl, v1na0_0, v22na0_11, by rw [ht]; exact hP, va_K.moved hW.alike hK, hD⟩, hS.F ht⟩) hS.2.2 dX8_spoken_25
  · obtain ⟨hw, h12_0, h12_1, h12_2, h12_3⟩ := hw
    subst hw
    exact absurd h12_0 (by decide)

set_option maxHeartbeats 4000000 in
set_option maxRecDepth 100000 in
theorem c0_X8_route (l : Launch) (dC : Nat → ClassId) (dI : Nat → Nat → Nat) (sz : Nat) (a0 : Nat) (a1 : Int32) (a2 : Int32) (a0_0 : Int32) (a0g_1 a0g_2 a0g_3 a0g_4 a0g_5 a0g_6 a0g_7 a0g_8 a0g_9 a0g_10 a0g_12 a0g_13 a0g_15 a0g_16 a0g_17 a0g_18 a0g_19 a0g_20 a0g_21 a0g_22 a0g_23 a0g_24 a0g_25 a0g_26 a0g_27 a0g_28 a0g_29 a0g_30 a0g_31 a0g_32 a0g_33 a0g_34 a0g_35 a0g_36 a0g_37 a0g_38 a0g_39 : Value) (a0_11 : Int32) (a0_14 : Int32) (ba0_14_l : (0 : Int) ≤ a0_14.toInt) (ba0_14_u : a0_14.toInt ≤ (0 : Int)) : zm l yX8_route wsX8_route ({ frames := 2, cells := 0, slots := 0, locals := 44 }) [.ref a0, .int a1, .int a2] dC dI sz [(a0, .inr (8, [Value.int a0_0, a0g_1, a0g_2, a0g_3, a0g_4, a0g_5, a0g_6, a0g_7, a0g_8, a0g_9, a0g_10, Value.int a0_11, a0g_12, a0g_13, Value.int a0_14, a0g_15, a0g_16, a0g_17, a0g_18, a0g_19, a0g_20, a0g_21, a0g_22, a0g_23, a0g_24, a0g_25, a0g_26, a0g_27, a0g_28, a0g_29, a0g_30, a0g_31, a0g_32, a0g_33, a0g_34, a0g_35, a0g_36, a0g_37, a0g_38, a0g_39]))] [] (fun A _ => True) (fun A => va_Qi (fun (r : Int32) (_ : Unit) => r = (-1)) (fun (_ : Unit) (t : State) => ∃ na0_0 : Int32, ∃ na0_11 : Int32, ax_B dC dI A [(a0, .inr (8, [Value.int na0_0, a0g_1, a0g_2, a0g_3, a0g_4, a0g_5, a0g_6, a0g_7, a0g_8, a0g_9, a0g_10, Value.int na0_11, a0g_12, a0g_13, Value.int a0_14, a0g_15, a0g_16, a0g_17, a0g_18, a0g_19, a0g_20, a0g_21, a0g_22, a0g_23, a0g_24, a0g_25, a0g_26, a0g_27, a0g_28, a0g_29, a0g_30, a0g_31, a0g_32, a0g_33, a0g_34, a0g_35, a0g_36, a0g_37, a0g_38, a0g_39]))] [] t) A) := by
  refine zh (cc := cX8_route) (maxL := 4) (ret := (some .int)) zn_RX8 rfl (Nat.le_of_ble_eq_true rfl) (fun p e s m below meth c A ls hx hb hml hr hts (hown : s.vm.findClass RX8 = some m.cls) hlocks hA hS hP hK hD hE (hl : lv_has ls 4 [(0, .ref a0), (1, .int a1), (2, .int a2)]) => ?_)
  refine lv_aload_n hx hb dX8_route_0 rfl (lv_at hl 0 rfl) ?_
  refine va_callv (va_runV (As := []) (rest := []) ⟨hx, hb, hml, hown, hts⟩ (c_X8_good l dC dI s.heap.size a0 a0_0 a0g_1 a0g_2 a0g_3 a0g_4 a0g_5 a0g_6 a0g_7 a0g_8 a0g_9 a0g_10 a0g_12 a0g_13 (Value.int a0_14) a0g_15 a0g_16 a0g_17 a0g_18 a0g_19 a0g_20 a0g_21 a0g_22 a0g_23 a0g_24 a0g_25 a0g_26 a0g_27 a0g_28 a0g_29 a0g_30 a0g_31 a0g_32 a0g_33 a0g_34 a0g_35 a0g_36 a0g_37 a0g_38 a0g_39 a0_11 ) (cwV 0 hts gX8_route_X8_good rfl rfl rfl zd_X8_good ⟨Nat.le_of_ble_eq_true rfl, Nat.le_of_ble_eq_true rfl⟩) ⟨ax_blind (fun _ _ _ _ _ => trivial), zr_8 (zp_K hK) (zp_P1 hP) (q0 := 0) rfl, ax_pre (zp_P1 hP) (zp_K hK) (zp_D1 hD) (fun _ _ => trivial)⟩ rfl rfl hl.1 rfl (lv_room (Nat.le_of_ble_eq_true rfl)) dX8_route_1 ⟨Nat.le_of_ble_eq_true rfl, Nat.le_of_ble_eq_true rfl⟩) hS (fun q _ h => zp_F1 hD hS hA q h) (zp_F1 hD hS hA) (fun u t H locs ht hvm hw => zx_2 (fun v1na0_0 v1na0_11 hB hz1 hk1 hS1 => zo1 hB ht hP hD hk1 (zp_F1 hD hS hA) hS1 (fun hP hK1 hD hS => ?_)))
  refine lv_aload_n hx hb dX8_route_4 rfl (lv_at hl 0 rfl) ?_
  refine lv_iload_n hx hb dX8_route_5 rfl (lv_at hl 1 rfl) ?_
  refine lv_iload_n hx hb dX8_route_6 rfl (lv_at hl 2 rfl) ?_
  refine va_calli (va_runV (As := [.int a1, .int a2]) (rest := []) ⟨hx, hb, hml, hown, hts⟩ (c0_X8_routeWhy l dC dI H.size a0 a1 a2 (Value.int v1na0_0) a0g_1 a0g_2 a0g_3 a0g_4 a0g_5 a0g_6 a0g_7 a0g_8 a0g_9 a0g_10 (Value.int v1na0_11) a0g_12 a0g_13 a0g_15 a0g_16 a0g_17 a0g_18 a0g_19 a0g_20 a0g_21 a0g_22 a0g_23 a0g_24 a0g_25 a0g_26 a0g_27 a0g_28 a0g_29 a0g_30 a0g_31 a0g_32 a0g_33 a0g_34 a0g_35 a0g_36 a0g_37 a0g_38 a0g_39 a0_14 ba0_14_l ba0_14_u) (cwV 2 hts gX8_route_X8_routeWhy rfl rfl rfl zd_X8_routeWhy ⟨Nat.le_of_ble_eq_true rfl, Nat.le_of_ble_eq_true rfl⟩) ⟨ax_blind (fun _ _ _ _ _ => trivial), zr_8 (zp_K hK) (zp_P1 hP) (q0 := 0) rfl, ax_pre (zp_P1 hP) (zp_K hK) (zp_D1 hD) (fun _ _ => trivial)⟩ rfl rfl hl.1 rfl (lv_room (Nat.le_of_ble_eq_true rfl)) dX8_route_7 ⟨Nat.le_of_ble_eq_true rfl, Nat.le_of_ble_eq_true rfl⟩) hS (fun q _ h => zp_F1 hD hS hA q h) (zp_F1 hD hS hA) (fun r7 u t H locs ht hvm hw hB hz1 hk1 hS1 => zo1 hB ht hP hD hk1 (zp_F1 hD hS hA) hS1 (fun hP hK1 hD hS => ?_))
  have hw : r7 = 1 := hw
  have hw := hw.symm
  subst hw
  refine lv_istore_n (lv' := [(3, .int 1), (0, .ref a0), (1, .int a1), (2, .int a2)]) hx hb dX8_route_10 rfl hl (by decide) rfl (fun ls hl => ?_)
  refine lv_iload_n hx hb dX8_route_11 rfl (lv_at hl 0 rfl) ?_
  refine lv_if_eq (tgt := 21) hx hb dX8_route_12 (by decide) (fun c12 => absurd c12 (by decide +kernel)) (fun _ => ?_)
  refine lv_aload_n hx hb dX8_route_15 rfl (lv_at hl 1 rfl) ?_
  refine lv_iload_n hx hb dX8_route_16 rfl (lv_at hl 0 rfl) ?_
  refine va_calli (va_runV (As := [.int 1]) (rest := []) ⟨hx, hb, hml, hown, hts⟩ (c_X8_no l dC dI H.size a0 1 (Value.int v1na0_0) a0g_1 a0g_2 a0g_3 a0g_4 a0g_5 a0g_6 a0g_7 a0g_8 a0g_9 a0g_10 a0g_12 a0g_13 (Value.int a0_14) a0g_15 a0g_16 a0g_17 a0g_18 a0g_19 a0g_20 a0g_21 a0g_22 a0g_23 a0g_24 a0g_25 a0g_26 a0g_27 a0g_28 a0g_29 a0g_30 a0g_31 a0g_32 a0g_33 a0g_34 a0g_35 a0g_36 a0g_37 a0g_38 a0g_39 v1na0_11 ) (cwV 1 hts gX8_route_X8_no rfl rfl rfl zd_X8_no ⟨Nat.le_of_ble_eq_true rfl, Nat.le_of_ble_eq_true rfl⟩) ⟨ax_blind (fun _ _ _ _ _ => trivial), zr_8 (zp_K hK) (zp_P1 hP) (q0 := 0) rfl, ax_pre (zp_P1 hP) (zp_K hK) (zp_D1 hD) (fun _ _ => trivial)⟩ rfl rfl hl.1 rfl (lv_room (Nat.le_of_ble_eq_true rfl)) dX8_route_17 ⟨Nat.le_of_ble_eq_true rfl, Nat.le_of_ble_eq_true rfl⟩) hS (fun q _ h => zp_F1 hD hS hA q h) (zp_F1 hD hS hA) (fun r17 u t H locs ht hvm hw => zx_1 (fun v17na0_11 hB hz1 hk1 hS1 => zo1 hB ht hP hD hk1 (zp_F1 hD hS hA) hS1 (fun hP hK1 hD hS => ?_)))
  have hw : r17 = (-1) := hw
  have hw := hw.symm
  subst hw
  exact W.iret (v := (-1)) hx hb hr (fun t ht hW => ⟨⟨(-1), (), rfl, rfl, v1na0_0, v17na0_11, by rw [ht]; exact hP, va_K.moved hW.alike hK, hD⟩, hS.F ht⟩) hS.2.2 dX8_route_20

set_option maxHeartbeats 4000000 in
set_option maxRecDepth 100000 in
theorem c0_X8_stand (l : Launch) (dC : Nat → ClassId) (dI : Nat → Nat → Nat) (sz : Nat) (a0 : Nat) (a1 : Int32) (a0_0 : Int32) (a0g_1 a0g_2 a0g_3 a0g_4 a0g_5 a0g_6 a0g_7 a0g_8 a0g_9 a0g_10 a0g_12 a0g_13 a0g_15 a0g_16 a0g_17 a0g_18 a0g_19 a0g_20 a0g_21 a0g_22 a0g_23 a0g_24 a0g_25 a0g_26 a0g_27 a0g_28 a0g_29 a0g_30 a0g_31 a0g_32 a0g_33 a0g_34 a0g_35 a0g_36 a0g_37 a0g_38 a0g_39 : Value) (a0_11 : Int32) (a0_14 : Int32) (ba0_14_l : (0 : Int) ≤ a0_14.toInt) (ba0_14_u : a0_14.toInt ≤ (0 : Int)) : zm l yX8_stand wsX8_stand ({ frames := 1, cells := 0, slots := 0, locals := 22 }) [.ref a0, .int a1] dC dI sz [(a0, .inr (8, [Value.int a0_0, a0g_1, a0g_2, a0g_3, a0g_4, a0g_5, a0g_6, a0g_7, a0g_8, a0g_9, a0g_10, Value.int a0_11, a0g_12, a0g_13, Value.int a0_14, a0g_15, a0g_16, a0g_17, a0g_18, a0g_19, a0g_20, a0g_21, a0g_22, a0g_23, a0g_24, a0g_25, a0g_26, a0g_27, a0g_28, a0g_29, a0g_30, a0g_31, a0g_32, a0g_33, a0g_34, a0g_35, a0g_36, a0g_37, a0g_38, a0g_39]))] [] (fun A _ => True) (fun A => va_Qi (fun (r : Int32) (_ : Unit) => r = (-1)) (fun (_ : Unit) (t : State) => ∃ na0_0 : Int32, ∃ na0_11 : Int32, ax_B dC dI A [(a0, .inr (8, [Value.int na0_0, a0g_1, a0g_2, a0g_3, a0g_4, a0g_5, a0g_6, a0g_7, a0g_8, a0g_9, a0g_10, Value.int na0_11, a0g_12, a0g_13, Value.int a0_14, a0g_15, a0g_16, a0g_17, a0g_18, a0g_19, a0g_20, a0g_21, a0g_22, a0g_23, a0g_24, a0g_25, a0g_26, a0g_27, a0g_28, a0g_29, a0g_30, a0g_31, a0g_32, a0g_33, a0g_34, a0g_35, a0g_36, a0g_37, a0g_38, a0g_39]))] [] t) A) := by
  refine zh (cc := cX8_stand) (maxL := 5) (ret := (some .int)) zn_RX8 rfl (Nat.le_of_ble_eq_true rfl) (fun p e s m below meth c A ls hx hb hml hr hts (hown : s.vm.findClass RX8 = some m.cls) hlocks hA hS hP hK hD hE (hl : lv_has ls 5 [(0, .ref a0), (1, .int a1)]) => ?_)
  refine ai_open (fun K hK0 => ?_)
  refine (hK0 _ _ _).mpr ?_
  refine lv_aload_n hx hb dX8_stand_0 rfl (lv_at hl 0 rfl) ?_
  refine va_callv (va_runV (As := []) (rest := []) ⟨hx, hb, hml, hown, hts⟩ (c_X8_good l dC dI s.heap.size a0 a0_0 a0g_1 a0g_2 a0g_3 a0g_4 a0g_5 a0g_6 a0g_7 a0g_8 a0g_9 a0g_10 a0g_12 a0g_13 (Value.int a0_14) a0g_15 a0g_16 a0g_17 a0g_18 a0g_19 a0g_20 a0g_21 a0g_22 a0g_23 a0g_24 a0g_25 a0g_26 a0g_27 a0g_28 a0g_29 a0g_30 a0g_31 a0g_32 a0g_33 a0g_34 a0g_35 a0g_36 a0g_37 a0g_38 a0g_39 a0_11 ) (cwV 0 hts gX8_stand_X8_good rfl rfl rfl zd_X8_good ⟨Nat.le_of_ble_eq_true rfl, Nat.le_of_ble_eq_true rfl⟩) ⟨ax_blind (fun _ _ _ _ _ => trivial), zr_8 (zp_K hK) (zp_P1 hP) (q0 := 0) rfl, ax_pre (zp_P1 hP) (zp_K hK) (zp_D1 hD) (fun _ _ => trivial)⟩ rfl rfl hl.1 rfl (lv_room (Nat.le_of_ble_eq_true rfl)) dX8_stand_1 ⟨Nat.le_of_ble_eq_true rfl, Nat.le_of_ble_eq_true rfl⟩) hS (fun q _ h => zp_F1 hD hS hA q h) (zp_F1 hD hS hA) (fun u t H locs ht hvm hw => zx_2 (fun v1na0_0 v1na0_11 hB hz1 hk1 hS1 => zo1 hB ht hP hD hk1 (zp_F1 hD hS hA) hS1 (fun hP hK1 hD hS => ?_)))
  refine lv_aload_n hx hb dX8_stand_4 rfl (lv_at hl 0 rfl) ?_
  refine lv_aload_n hx hb dX8_stand_5 rfl (lv_at hl 0 rfl) ?_
  refine va_get (D := (dC, dI)) (ci := 8) (v := .int a0_14) (C := RX8) (T := TX8) (N := 40) hx hb hts zi_X8_stand_8 hown hK hP 0 rfl rfl 14 (by decide) (hts (.fieldLink RX8 173 "WaxTurnsModel" "hasGallery" "Z") (zm_X8_stand_r1 (List.mem_of_getElem? (i := 0) rfl))) (fun _ h9 => h9) rfl dX8_stand_6 ?_
  refine lv_iload_n hx hb dX8_stand_9 rfl (lv_at hl 1 rfl) ?_
  refine lv_iconst (v := 1) hx hb dX8_stand_10 zk_iconst_1 ?_
  refine lv_bipush (v := 60) hx hb dX8_stand_11 zk_bipush_60 ?_
  refine va_calli (va_runS (As := [.int a1, .int 1, .int 60]) (rest := [.int a0_14, .ref a0]) ⟨hx, hb, hml, hown, hts⟩ (c_X8_in l dC dI H.size a1 1 60 ) (va_cwS 3 hts gX8_stand_X8_in rfl rfl rfl zd_X8_in.2 ⟨Nat.le_of_ble_eq_true rfl, Nat.le_of_ble_eq_true rfl⟩) ⟨ax_blind (fun _ _ _ _ _ => trivial), ax_pre (zp_P0 hP) (zp_K hK) (zp_D0 hD) (fun _ _ => trivial)⟩ rfl rfl hl.1 rfl (lv_room (Nat.le_of_ble_eq_true rfl)) dX8_stand_13 ⟨Nat.le_of_ble_eq_true rfl, Nat.le_of_ble_eq_true rfl⟩) hS (fun q _ h => zp_F0 hD hS hA q h) (zp_F0 hD hS hA) (fun r13 u t H locs ht hvm hw hB hz1 hk1 hS1 => zo0 hB ht hP hD hk1 (zp_F0 hD hS hA) hS1 (fun hP hK1 hD hS => ?_))
  rcases hw with hw | hw
  · obtain ⟨hw, h13⟩ := hw
    subst hw
    have l13k0_a1 : (1 : Int) ≤ a1.toInt := Int.le_trans zq1 h13.1
    have u13k0_a1 : a1.toInt ≤ (60 : Int) := Int.le_trans h13.2 zq46
    refine va_calli (va_runV (As := [.int a0_14, .int 1]) (rest := []) ⟨hx, hb, hml, hown, hts⟩ (c_X8_whyB l dC dI H.size a0 a0_14 1 (Value.int v1na0_0) a0g_1 a0g_2 a0g_3 a0g_4 a0g_5 a0g_6 a0g_7 a0g_8 a0g_9 a0g_10 (Value.int v1na0_11) a0g_12 a0g_13 (Value.int a0_14) a0g_15 a0g_16 a0g_17 a0g_18 a0g_19 a0g_20 a0g_21 a0g_22 a0g_23 a0g_24 a0g_25 a0g_26 a0g_27 a0g_28 a0g_29 a0g_30 a0g_31 a0g_32 a0g_33 a0g_34 a0g_35 a0g_36 a0g_37 a0g_38 a0g_39 ba0_14_l (Int.le_trans ba0_14_u zq4) (Int.le_trans zq4 zq1) zq0) (cwV 2 hts gX8_stand_X8_why rfl rfl rfl zd_X8_why ⟨Nat.le_of_ble_eq_true rfl, Nat.le_of_ble_eq_true rfl⟩) ⟨ax_blind (fun _ _ _ _ _ => trivial), zr_8 (zp_K hK) (zp_P1 hP) (q0 := 0) rfl, ax_pre (zp_P1 hP) (zp_K hK) (zp_D1 hD) (fun _ _ => trivial)⟩ rfl rfl hl.1 rfl (lv_room (Nat.le_of_ble_eq_true rfl)) dX8_stand_16 ⟨Nat.le_of_ble_eq_true rfl, Nat.le_of_ble_eq_true rfl⟩) hS (fun q _ h => zp_F1 hD hS hA q h) (zp_F1 hD hS hA) (fun r16 u t H locs ht hvm hw hB hz1 hk1 hS1 => zo1 hB ht hP hD hk1 (zp_F1 hD hS hA) hS1 (fun hP hK1 hD hS => ?_))
    rcases hw with hw | hw | hw
    · obtain ⟨hw, h16_0, h16_1, h16_2, h16_3⟩ := hw
      subst hw
      have l16k0_a0_14 : (1 : Int) ≤ a0_14.toInt := h16_0
      have u16k0_a0_14 : a0_14.toInt ≤ (0 : Int) := ba0_14_u
      exact absurd (Int.le_trans l16k0_a0_14 u16k0_a0_14) (by decide)
    · obtain ⟨hw, h16_0, h16_1⟩ := hw
      subst hw
      have l16k1_a0_14 : (0 : Int) ≤ a0_14.toInt := ba0_14_l
      have u16k1_a0_14 : a0_14.toInt ≤ (0 : Int) := ba0_14_u
      refine lv_istore_n (lv' := [(2, .int 1), (0, .ref a0), (1, .int a1)]) hx hb dX8_stand_19 rfl hl (by decide) rfl (fun ls hl => ?_)
      refine lv_iload_n hx hb dX8_stand_20 rfl (lv_at hl 0 rfl) ?_
      refine lv_if_eq (tgt := 30) hx hb dX8_stand_21 (by decide) (fun c21 => absurd c21 (by decide +kernel)) (fun _ => ?_)
      refine lv_aload_n hx hb dX8_stand_24 rfl (lv_at hl 1 rfl) ?_
      refine lv_iload_n hx hb dX8_stand_25 rfl (lv_at hl 0 rfl) ?_
      refine va_calli (va_runV (As := [.int 1]) (rest := []) ⟨hx, hb, hml, hown, hts⟩ (c_X8_no l dC dI H.size a0 1 (Value.int v1na0_0) a0g_1 a0g_2 a0g_3 a0g_4 a0g_5 a0g_6 a0g_7 a0g_8 a0g_9 a0g_10 a0g_12 a0g_13 (Value.int a0_14) a0g_15 a0g_16 a0g_17 a0g_18 a0g_19 a0g_20 a0g_21 a0g_22 a0g_23 a0g_24 a0g_25 a0g_26 a0g_27 a0g_28 a0g_29 a0g_30 a0g_31 a0g_32 a0g_33 a0g_34 a0g_35 a0g_36 a0g_37 a0g_38 a0g_39 v1na0_11 ) (cwV 1 hts gX8_stand_X8_no rfl rfl rfl zd_X8_no ⟨Nat.le_of_ble_eq_true rfl, Nat.le_of_ble_eq_true rfl⟩) ⟨ax_blind (fun _ _ _ _ _ => trivial), zr_8 (zp_K hK) (zp_P1 hP) (q0 := 0) rfl, ax_pre (zp_P1 hP) (zp_K hK) (zp_D1 hD) (fun _ _ => trivial)⟩ rfl rfl hl.1 rfl (lv_room (Nat.le_of_ble_eq_true rfl)) dX8_stand_26 ⟨Nat.le_of_ble_eq_true rfl, Nat.le_of_ble_eq_true rfl⟩) hS (fun q _ h => zp_F1 hD hS hA q h) (zp_F1 hD hS hA) (fun r26 u t H locs ht hvm hw => zx_1 (fun v26na0_11 hB hz1 hk1 hS1 => zo1 hB ht hP hD hk1 (zp_F1 hD hS hA) hS1 (fun hP hK1 hD hS => ?_)))
      have hw : r26 = (-1) := hw
      have hw := hw.symm
      subst hw
      exact W.iret (v := (-1)) hx hb hr (fun t ht hW => ⟨⟨(-1), (), rfl, rfl, v1na0_0, v26na0_11, by rw [ht]; exact hP, va_K.moved hW.alike hK, hD⟩, hS.F ht⟩) hS.2.2 dX8_stand_29
    · obtain ⟨hw, h16_0, h16_1, h16_2, h16_3⟩ := hw
      subst hw
      have l16k2_a0_14 : (1 : Int) ≤ a0_14.toInt := h16_0
      have u16k2_a0_14 : a0_14.toInt ≤ (0 : Int) := ba0_14_u
      exact absurd (Int.le_trans l16k2_a0_14 u16k2_a0_14) (by decide)
  · obtain ⟨hw, h13⟩ := hw
    subst hw
    refine va_calli (va_runV (As := [.int a0_14, .int 0]) (rest := []) ⟨hx, hb, hml, hown, hts⟩ (c_X8_whyB l dC dI H.size a0 a0_14 0 (Value.int v1na0_0) a0g_1 a0g_2 a0g_3 a0g_4 a0g_5 a0g_6 a0g_7 a0g_8 a0g_9 a0g_10 (Value.int v1na0_11) a0g_12 a0g_13 (Value.int a0_14) a0g_15 a0g_16 a0g_17 a0g_18 a0g_19 a0g_20 a0g_21 a0g_22 a0g_23 a0g_24 a0g_25 a0g_26 a0g_27 a0g_28 a0g_29 a0g_30 a0g_31 a0g_32 a0g_33 a0g_34 a0g_35 a0g_36 a0g_37 a0g_38 a0g_39 ba0_14_l (Int.le_trans ba0_14_u zq4) zq5 (Int.le_trans zq6 zq4)) (cwV 2 hts gX8_stand_X8_why rfl rfl rfl zd_X8_why ⟨Nat.le_of_ble_eq_true rfl, Nat.le_of_ble_eq_true rfl⟩) ⟨ax_blind (fun _ _ _ _ _ => trivial), zr_8 (zp_K hK) (zp_P1 hP) (q0 := 0) rfl, ax_pre (zp_P1 hP) (zp_K hK) (zp_D1 hD) (fun _ _ => trivial)⟩ rfl rfl hl.1 rfl (lv_room (Nat.le_of_ble_eq_true rfl)) dX8_stand_16 ⟨Nat.le_of_ble_eq_true rfl, Nat.le_of_ble_eq_true rfl⟩) hS (fun q _ h => zp_F1 hD hS hA q h) (zp_F1 hD hS hA) (fun r16 u t H locs ht hvm hw hB hz1 hk1 hS1 => zo1 hB ht hP hD hk1 (zp_F1 hD hS hA) hS1 (fun hP hK1 hD hS => ?_))
    rcases hw with hw | hw | hw
    · obtain ⟨hw, h16_0, h16_1, h16_2, h16_3⟩ := hw
      subst hw
      have l16k0_a0_14 : (1 : Int) ≤ a0_14.toInt := h16_0
      have u16k0_a0_14 : a0_14.toInt ≤ (0 : Int) := ba0_14_u
      exact absurd (Int.le_trans l16k0_a0_14 u16k0_a0_14) (by decide)
    · obtain ⟨hw, h16_0, h16_1⟩ := hw
      subst hw
      have l16k1_a0_14 : (0 : Int) ≤ a0_14.toInt := ba0_14_l
      have u16k1_a0_14 : a0_14.toInt ≤ (0 : Int) := ba0_14_u
      refine lv_istore_n (lv' := [(2, .int 1), (0, .ref a0), (1, .int a1)]) hx hb dX8_stand_19 rfl hl (by decide) rfl (fun ls hl => ?_)
      refine lv_iload_n hx hb dX8_stand_20 rfl (lv_at hl 0 rfl) ?_
      refine lv_if_eq (tgt := 30) hx hb dX8_stand_21 (by decide) (fun c21 => absurd c21 (by decide +kernel)) (fun _ => ?_)
      refine lv_aload_n hx hb dX8_stand_24 rfl (lv_at hl 1 rfl) ?_
      refine lv_iload_n hx hb dX8_stand_25 rfl (lv_at hl 0 rfl) ?_
      refine va_calli (va_runV (As := [.int 1]) (rest := []) ⟨hx, hb, hml, hown, hts⟩ (c_X8_no l dC dI H.size a0 1 (Value.int v1na0_0) a0g_1 a0g_2 a0g_3 a0g_4 a0g_5 a0g_6 a0g_7 a0g_8 a0g_9 a0g_10 a0g_12 a0g_13 (Value.int a0_14) a0g_15 a0g_16 a0g_17 a0g_18 a0g_19 a0g_20 a0g_21 a0g_22 a0g_23 a0g_24 a0g_25 a0g_26 a0g_27 a0g_28 a0g_29 a0g_30 a0g_31 a0g_32 a0g_33 a0g_34 a0g_35 a0g_36 a0g_37 a0g_38 a0g_39 v1na0_11 ) (cwV 1 hts gX8_stand_X8_no rfl rfl rfl zd_X8_no ⟨Nat.le_of_ble_eq_true rfl, Nat.le_of_ble_eq_true rfl⟩) ⟨ax_blind (fun _ _ _ _ _ => trivial), zr_8 (zp_K hK) (zp_P1 hP) (q0 := 0) rfl, ax_pre (zp_P1 hP) (zp_K hK) (zp_D1 hD) (fun _ _ => trivial)⟩ rfl rfl hl.1 rfl (lv_room (Nat.le_of_ble_eq_true rfl)) dX8_stand_26 ⟨Nat.le_of_ble_eq_true rfl, Nat.le_of_ble_eq_true rfl⟩) hS (fun q _ h => zp_F1 hD hS hA q h) (zp_F1 hD hS hA) (fun r26 u t H locs ht hvm hw => zx_1 (fun v26na0_11 hB hz1 hk1 hS1 => zo1 hB ht hP hD hk1 (zp_F1 hD hS hA) hS1 (fun hP hK1 hD hS => ?_)))
      have hw : r26 = (-1) := hw
      have hw := hw.symm
      subst hw
      exact W.iret (v := (-1)) hx hb hr (fun t ht hW => ⟨⟨(-1), (), rfl, rfl, v1na0_0, v26na0_11, by rw [ht]; exact hP, va_K.moved hW.alike hK, hD⟩, hS.F ht⟩) hS.2.2 dX8_stand_29
    · obtain ⟨hw, h16_0, h16_1, h16_2, h16_3⟩ := hw
      subst hw
      have l16k2_a0_14 : (1 : Int) ≤ a0_14.toInt := h16_0
      have u16k2_a0_14 : a0_14.toInt ≤ (0 : Int) := ba0_14_u
      exact absurd (Int.le_trans l16k2_a0_14 u16k2_a0_14) (by decide)

set_option maxHeartbeats 4000000 in
set_option maxRecDepth 100000 in
theorem c0_X8_guard (l : Launch) (dC : Nat → ClassId) (dI : Nat → Nat → Nat) (sz : Nat) (a0 : Nat) (a1 : Int32) (a0_0 : Int32) (a0g_1 a0g_2 a0g_3 a0g_4 a0g_5 a0g_6 a0g_7 a0g_8 a0g_9 a0g_10 a0g_12 a0g_13 a0g_15 a0g_16 a0g_17 a0g_18 a0g_19 a0g_20 a0g_21 a0g_22 a0g_23 a0g_24 a0g_25 a0g_26 a0g_27 a0g_28 a0g_29 a0g_30 a0g_31 a0g_32 a0g_33 a0g_34 a0g_35 a0g_36 a0g_37 a0g_38 a0g_39 : Value) (a0_11 : Int32) (a0_14 : Int32) (ba0_14_l : (0 : Int) ≤ a0_14.toInt) (ba0_14_u : a0_14.toInt ≤ (0 : Int)) : zm l yX8_guard wsX8_guard ({ frames := 1, cells := 0, slots := 0, locals := 22 }) [.ref a0, .int a1] dC dI sz [(a0, .inr (8, [Value.int a0_0, a0g_1, a0g_2, a0g_3, a0g_4, a0g_5, a0g_6, a0g_7, a0g_8, a0g_9, a0g_10, Value.int a0_11, a0g_12, a0g_13, Value.int a0_14, a0g_15, a0g_16, a0g_17, a0g_18, a0g_19, a0g_20, a0g_21, a0g_22, a0g_23, a0g_24, a0g_25, a0g_26, a0g_27, a0g_28, a0g_29, a0g_30, a0g_31, a0g_32, a0g_33, a0g_34, a0g_35, a0g_36, a0g_37, a0g_38, a0g_39]))] [] (fun A _ => True) (fun A => va_Qi (fun (r : Int32) (_ : Unit) => r = (-1)) (fun (_ : Unit) (t : State) => ∃ na0_0 : Int32, ∃ na0_11 : Int32, ax_B dC dI A [(a0, .inr (8, [Value.int na0_0, a0g_1, a0g_2, a0g_3, a0g_4, a0g_5, a0g_6, a0g_7, a0g_8, a0g_9, a0g_10, Value.int na0_11, a0g_12, a0g_13, Value.int a0_14, a0g_15, a0g_16, a0g_17, a0g_18, a0g_19, a0g_20, a0g_21, a0g_22, a0g_23, a0g_24, a0g_25, a0g_26, a0g_27, a0g_28, a0g_29, a0g_30, a0g_31, a0g_32, a0g_33, a0g_34, a0g_35, a0g_36, a0g_37, a0g_38, a0g_39]))] [] t) A) := by
  refine zh (cc := cX8_guard) (maxL := 6) (ret := (some .int)) zn_RX8 rfl (Nat.le_of_ble_eq_true rfl) (fun p e s m below meth c A ls hx hb hml hr hts (hown : s.vm.findClass RX8 = some m.cls) hlocks hA hS hP hK hD hE (hl : lv_has ls 6 [(0, .ref a0), (1, .int a1)]) => ?_)
  refine ai_open (fun K hK0 => ?_)
  refine (hK0 _ _ _).mpr ?_
  refine lv_aload_n hx hb dX8_guard_0 rfl (lv_at hl 0 rfl) ?_
  refine va_callv (va_runV (As := []) (rest := []) ⟨hx, hb, hml, hown, hts⟩ (c_X8_good l dC dI s.heap.size a0 a0_0 a0g_1 a0g_2 a0g_3 a0g_4 a0g_5 a0g_6 a0g_7 a0g_8 a0g_9 a0g_10 a0g_12 a0g_13 (Value.int a0_14) a0g_15 a0g_16 a0g_17 a0g_18 a0g_19 a0g_20 a0g_21 a0g_22 a0g_23 a0g_24 a0g_25 a0g_26 a0g_27 a0g_28 a0g_29 a0g_30 a0g_31 a0g_32 a0g_33 a0g_34 a0g_35 a0g_36 a0g_37 a0g_38 a0g_39 a0_11 ) (cwV 0 hts gX8_guard_X8_good rfl rfl rfl zd_X8_good ⟨Nat.le_of_ble_eq_true rfl, Nat.le_of_ble_eq_true rfl⟩) ⟨ax_blind (fun _ _ _ _ _ => trivial), zr_8 (zp_K hK) (zp_P1 hP) (q0 := 0) rfl, ax_pre (zp_P1 hP) (zp_K hK) (zp_D1 hD) (fun _ _ => trivial)⟩ rfl rfl hl.1 rfl (lv_room (Nat.le_of_ble_eq_true rfl)) dX8_guard_1 ⟨Nat.le_of_ble_eq_true rfl, Nat.le_of_ble_eq_true rfl⟩) hS (fun q _ h => zp_F1 hD hS hA q h) (zp_F1 hD hS hA) (fun u t H locs ht hvm hw => zx_2 (fun v1na0_0 v1na0_11 hB hz1 hk1 hS1 => zo1 hB ht hP hD hk1 (zp_F1 hD hS hA) hS1 (fun hP hK1 hD hS => ?_)))
  refine lv_aload_n hx hb dX8_guard_4 rfl (lv_at hl 0 rfl) ?_
  refine lv_aload_n hx hb dX8_guard_5 rfl (lv_at hl 0 rfl) ?_
  refine va_get (D := (dC, dI)) (ci := 8) (v := .int a0_14) (C := RX8) (T := TX8) (N := 40) hx hb hts zi_X8_guard_8 hown hK hP 0 rfl rfl 14 (by decide) (hts (.fieldLink RX8 173 "WaxTurnsModel" "hasGallery" "Z") (zm_X8_guard_r1 (List.mem_of_getElem? (i := 0) rfl))) (fun _ h9 => h9) rfl dX8_guard_6 ?_
  refine lv_iload_n hx hb dX8_guard_9 rfl (lv_at hl 1 rfl) ?_
  refine lv_iconst (v := 1) hx hb dX8_guard_10 zk_iconst_1 ?_
  refine lv_bipush (v := 60) hx hb dX8_guard_11 zk_bipush_60 ?_
  refine va_calli (va_runS (As := [.int a1, .int 1, .int 60]) (rest := [.int a0_14, .ref a0]) ⟨hx, hb, hml, hown, hts⟩ (c_X8_in l dC dI H.size a1 1 60 ) (va_cwS 3 hts gX8_guard_X8_in rfl rfl rfl zd_X8_in.2 ⟨Nat.le_of_ble_eq_true rfl, Nat.le_of_ble_eq_true rfl⟩) ⟨ax_blind (fun _ _ _ _ _ => trivial), ax_pre (zp_P0 hP) (zp_K hK) (zp_D0 hD) (fun _ _ => trivial)⟩ rfl rfl hl.1 rfl (lv_room (Nat.le_of_ble_eq_true rfl)) dX8_guard_13 ⟨Nat.le_of_ble_eq_true rfl, Nat.le_of_ble_eq_true rfl⟩) hS (fun q _ h => zp_F0 hD hS hA q h) (zp_F0 hD hS hA) (fun r13 u t H locs ht hvm hw hB hz1 hk1 hS1 => zo0 hB ht hP hD hk1 (zp_F0 hD hS hA) hS1 (fun hP hK1 hD hS => ?_))
  rcases hw with hw | hw
  · obtain ⟨hw, h13⟩ := hw
    subst hw
    have l13k0_a1 : (1 : Int) ≤ a1.toInt := Int.le_trans zq1 h13.1
    have u13k0_a1 : a1.toInt ≤ (60 : Int) := Int.le_trans h13.2 zq46
    refine va_calli (va_runV (As := [.int a0_14, .int 1]) (rest := []) ⟨hx, hb, hml, hown, hts⟩ (c_X8_whyB l dC dI H.size a0 a0_14 1 (Value.int v1na0_0) a0g_1 a0g_2 a0g_3 a0g_4 a0g_5 a0g_6 a0g_7 a0g_8 a0g_9 a0g_10 (Value.int v1na0_11) a0g_12 a0g_13 (Value.int a0_14) a0g_15 a0g_16 a0g_17 a0g_18 a0g_19 a0g_20 a0g_21 a0g_22 a0g_23 a0g_24 a0g_25 a0g_26 a0g_27 a0g_28 a0g_29 a0g_30 a0g_31 a0g_32 a0g_33 a0g_34 a0g_35 a0g_36 a0g_37 a0g_38 a0g_39 ba0_14_l (Int.le_trans ba0_14_u zq4) (Int.le_trans zq4 zq1) zq0) (cwV 2 hts gX8_guard_X8_why rfl rfl rfl zd_X8_why ⟨Nat.le_of_ble_eq_true rfl, Nat.le_of_ble_eq_true rfl⟩) ⟨ax_blind (fun _ _ _ _ _ => trivial), zr_8 (zp_K hK) (zp_P1 hP) (q0 := 0) rfl, ax_pre (zp_P1 hP) (zp_K hK) (zp_D1 hD) (fun _ _ => trivial)⟩ rfl rfl hl.1 rfl (lv_room (Nat.le_of_ble_eq_true rfl)) dX8_guard_16 ⟨Nat.le_of_ble_eq_true rfl, Nat.le_of_ble_eq_true rfl⟩) hS (fun q _ h => zp_F1 hD hS hA q h) (zp_F1 hD hS hA) (fun r16 u t H locs ht hvm hw hB hz1 hk1 hS1 => zo1 hB ht hP hD hk1 (zp_F1 hD hS hA) hS1 (fun hP hK1 hD hS => ?_))
    rcases hw with hw | hw | hw
    · obtain ⟨hw, h16_0, h16_1, h16_2, h16_3⟩ := hw
      subst hw
      have l16k0_a0_14 : (1 : Int) ≤ a0_14.toInt := h16_0
      have u16k0_a0_14 : a0_14.toInt ≤ (0 : Int) := ba0_14_u
      exact absurd (Int.le_trans l16k0_a0_14 u16k0_a0_14) (by decide)
    · obtain ⟨hw, h16_0, h16_1⟩ := hw
      subst hw
      have l16k1_a0_14 : (0 : Int) ≤ a0_14.toInt := ba0_14_l
      have u16k1_a0_14 : a0_14.toInt ≤ (0 : Int) := ba0_14_u
      refine lv_istore_n (lv' := [(2, .int 1), (0, .ref a0), (1, .int a1)]) hx hb dX8_guard_19 rfl hl (by decide) rfl (fun ls hl => ?_)
      refine lv_iload_n hx hb dX8_guard_20 rfl (lv_at hl 0 rfl) ?_
      refine lv_if_eq (tgt := 30) hx hb dX8_guard_21 (by decide) (fun c21 => absurd c21 (by decide +kernel)) (fun _ => ?_)
      refine lv_aload_n hx hb dX8_guard_24 rfl (lv_at hl 1 rfl) ?_
      refine lv_iload_n hx hb dX8_guard_25 rfl (lv_at hl 0 rfl) ?_
      refine va_calli (va_runV (As := [.int 1]) (rest := []) ⟨hx, hb, hml, hown, hts⟩ (c_X8_no l dC dI H.size a0 1 (Value.int v1na0_0) a0g_1 a0g_2 a0g_3 a0g_4 a0g_5 a0g_6 a0g_7 a0g_8 a0g_9 a0g_10 a0g_12 a0g_13 (Value.int a0_14) a0g_15 a0g_16 a0g_17 a0g_18 a0g_19 a0g_20 a0g_21 a0g_22 a0g_23 a0g_24 a0g_25 a0g_26 a0g_27 a0g_28 a0g_29 a0g_30 a0g_31 a0g_32 a0g_33 a0g_34 a0g_35 a0g_36 a0g_37 a0g_38 a0g_39 v1na0_11 ) (cwV 1 hts gX8_guard_X8_no rfl rfl rfl zd_X8_no ⟨Nat.le_of_ble_eq_true rfl, Nat.le_of_ble_eq_true rfl⟩) ⟨ax_blind (fun _ _ _ _ _ => trivial), zr_8 (zp_K hK) (zp_P1 hP) (q0 := 0) rfl, ax_pre (zp_P1 hP) (zp_K hK) (zp_D1 hD) (fun _ _ => trivial)⟩ rfl rfl hl.1 rfl (lv_room (Nat.le_of_ble_eq_true rfl)) dX8_guard_26 ⟨Nat.le_of_ble_eq_true rfl, Nat.le_of_ble_eq_true rfl⟩) hS (fun q _ h => zp_F1 hD hS hA q h) (zp_F1 hD hS hA) (fun r26 u t H locs ht hvm hw => zx_1 (fun v26na0_11 hB hz1 hk1 hS1 => zo1 hB ht hP hD hk1 (zp_F1 hD hS hA) hS1 (fun hP hK1 hD hS => ?_)))
      have hw : r26 = (-1) := hw
      have hw := hw.symm
      subst hw
      exact W.iret (v := (-1)) hx hb hr (fun t ht hW => ⟨⟨(-1), (), rfl, rfl, v1na0_0, v26na0_11, by rw [ht]; exact hP, va_K.moved hW.alike hK, hD⟩, hS.F ht⟩) hS.2.2 dX8_guard_29
    · obtain ⟨hw, h16_0, h16_1, h16_2, h16_3⟩ := hw
      subst hw
      have l16k2_a0_14 : (1 : Int) ≤ a0_14.toInt := h16_0
      have u16k2_a0_14 : a0_14.toInt ≤ (0 : Int) := ba0_14_u
      exact absurd (Int.le_trans l16k2_a0_14 u16k2_a0_14) (by decide)
  · obtain ⟨hw, h13⟩ := hw
    subst hw
    refine va_calli (va_runV (As := [.int a0_14, .int 0]) (rest := []) ⟨hx, hb, hml, hown, hts⟩ (c_X8_whyB l dC dI H.size a0 a0_14 0 (Value.int v1na0_0) a0g_1 a0g_2 a0g_3 a0g_4 a0g_5 a0g_6 a0g_7 a0g_8 a0g_9 a0g_10 (Value.int v1na0_11) a0g_12 a0g_13 (Value.int a0_14) a0g_15 a0g_16 a0g_17 a0g_18 a0g_19 a0g_20 a0g_21 a0g_22 a0g_23 a0g_24 a0g_25 a0g_26 a0g_27 a0g_28 a0g_29 a0g_30 a0g_31 a0g_32 a0g_33 a0g_34 a0g_35 a0g_36 a0g_37 a0g_38 a0g_39 ba0_14_l (Int.le_trans ba0_14_u zq4) zq5 (Int.le_trans zq6 zq4)) (cwV 2 hts gX8_guard_X8_why rfl rfl rfl zd_X8_why ⟨Nat.le_of_ble_eq_true rfl, Nat.le_of_ble_eq_true rfl⟩) ⟨ax_blind (fun _ _ _ _ _ => trivial), zr_8 (zp_K hK) (zp_P1 hP) (q0 := 0) rfl, ax_pre (zp_P1 hP) (zp_K hK) (zp_D1 hD) (fun _ _ => trivial)⟩ rfl rfl hl.1 rfl (lv_room (Nat.le_of_ble_eq_true rfl)) dX8_guard_16 ⟨Nat.le_of_ble_eq_true rfl, Nat.le_of_ble_eq_true rfl⟩) hS (fun q _ h => zp_F1 hD hS hA q h) (zp_F1 hD hS hA) (fun r16 u t H locs ht hvm hw hB hz1 hk1 hS1 => zo1 hB ht hP hD hk1 (zp_F1 hD hS hA) hS1 (fun hP hK1 hD hS => ?_))
    rcases hw with hw | hw | hw
    · obtain ⟨hw, h16_0, h16_1, h16_2, h16_3⟩ := hw
      subst hw
      have l16k0_a0_14 : (1 : Int) ≤ a0_14.toInt := h16_0
      have u16k0_a0_14 : a0_14.toInt ≤ (0 : Int) := ba0_14_u
      exact absurd (Int.le_trans l16k0_a0_14 u16k0_a0_14) (by decide)
    · obtain ⟨hw, h16_0, h16_1⟩ := hw
      subst hw
      have l16k1_a0_14 : (0 : Int) ≤ a0_14.toInt := ba0_14_l
      have u16k1_a0_14 : a0_14.toInt ≤ (0 : Int) := ba0_14_u
      refine lv_istore_n (lv' := [(2, .int 1), (0, .ref a0), (1, .int a1)]) hx hb dX8_guard_19 rfl hl (by decide) rfl (fun ls hl => ?_)
      refine lv_iload_n hx hb dX8_guard_20 rfl (lv_at hl 0 rfl) ?_
      refine lv_if_eq (tgt := 30) hx hb dX8_guard_21 (by decide) (fun c21 => absurd c21 (by decide +kernel)) (fun _ => ?_)
      refine lv_aload_n hx hb dX8_guard_24 rfl (lv_at hl 1 rfl) ?_
      refine lv_iload_n hx hb dX8_guard_25 rfl (lv_at hl 0 rfl) ?_
      refine va_calli (va_runV (As := [.int 1]) (rest := []) ⟨hx, hb, hml, hown, hts⟩ (c_X8_no l dC dI H.size a0 1 (Value.int v1na0_0) a0g_1 a0g_2 a0g_3 a0g_4 a0g_5 a0g_6 a0g_7 a0g_8 a0g_9 a0g_10 a0g_12 a0g_13 (Value.int a0_14) a0g_15 a0g_16 a0g_17 a0g_18 a0g_19 a0g_20 a0g_21 a0g_22 a0g_23 a0g_24 a0g_25 a0g_26 a0g_27 a0g_28 a0g_29 a0g_30 a0g_31 a0g_32 a0g_33 a0g_34 a0g_35 a0g_36 a0g_37 a0g_38 a0g_39 v1na0_11 ) (cwV 1 hts gX8_guard_X8_no rfl rfl rfl zd_X8_no ⟨Nat.le_of_ble_eq_true rfl, Nat.le_of_ble_eq_true rfl⟩) ⟨ax_blind (fun _ _ _ _ _ => trivial), zr_8 (zp_K hK) (zp_P1 hP) (q0 := 0) rfl, ax_pre (zp_P1 hP) (zp_K hK) (zp_D1 hD) (fun _ _ => trivial)⟩ rfl rfl hl.1 rfl (lv_room (Nat.le_of_ble_eq_true rfl)) dX8_guard_26 ⟨Nat.le_of_ble_eq_true rfl, Nat.le_of_ble_eq_true rfl⟩) hS (fun q _ h => zp_F1 hD hS hA q h) (zp_F1 hD hS hA) (fun r26 u t H locs ht hvm hw => zx_1 (fun v26na0_11 hB hz1 hk1 hS1 => zo1 hB ht hP hD hk1 (zp_F1 hD hS hA) hS1 (fun hP hK1 hD hS => ?_)))
      have hw : r26 = (-1) := hw
      have hw := hw.symm
      subst hw
      exact W.iret (v := (-1)) hx hb hr (fun t ht hW => ⟨⟨(-1), (), rfl, rfl, v1na0_0, v26na0_11, by rw [ht]; exact hP, va_K.moved hW.alike hK, hD⟩, hS.F ht⟩) hS.2.2 dX8_guard_29
    · obtain ⟨hw, h16_0, h16_1, h16_2, h16_3⟩ := hw
      subst hw
      have l16k2_a0_14 : (1 : Int) ≤ a0_14.toInt := h16_0
      have u16k2_a0_14 : a0_14.toInt ≤ (0 : Int) := ba0_14_u
      exact absurd (Int.le_trans l16k2_a0_14 u16k2_a0_14) (by decide)

set_option maxHeartbeats 4000000 in
set_option maxRecDepth 100000 in
theorem c0_X8_windBest (l : Launch) (dC : Nat → ClassId) (dI : Nat → Nat → Nat) (sz : Nat) (a0 : Nat) (a0_0 : Int32) (a0g_1 a0g_2 a0g_3 a0g_4 a0g_5 a0g_6 a0g_7 a0g_8 a0g_9 a0g_10 a0g_12 a0g_13 a0g_15 a0g_16 a0g_17 a0g_18 a0g_19 a0g_20 a0g_21 a0g_22 a0g_23 a0g_24 a0g_25 a0g_26 a0g_27 a0g_28 a0g_29 a0g_30 a0g_31 a0g_32 a0g_33 a0g_34 a0g_35 a0g_36 a0g_37 a0g_38 a0g_39 : Value) (a0_11 : Int32) (a0_14 : Int32) (ba0_14_l : (0 : Int) ≤ a0_14.toInt) (ba0_14_u : a0_14.toInt ≤ (0 : Int)) : zm l yX8_windBest wsX8_windBest ({ frames := 1, cells := 0, slots := 0, locals := 21 }) [.ref a0] dC dI sz [(a0, .inr (8, [Value.int a0_0, a0g_1, a0g_2, a0g_3, a0g_4, a0g_5, a0g_6, a0g_7, a0g_8, a0g_9, a0g_10, Value.int a0_11, a0g_12, a0g_13, Value.int a0_14, a0g_15, a0g_16, a0g_17, a0g_18, a0g_19, a0g_20, a0g_21, a0g_22, a0g_23, a0g_24, a0g_25, a0g_26, a0g_27, a0g_28, a0g_29, a0g_30, a0g_31, a0g_32, a0g_33, a0g_34, a0g_35, a0g_36, a0g_37, a0g_38, a0g_39]))] [] (fun A _ => True) (fun A => va_Qi (fun (r : Int32) (_ : Unit) => r = (-1)) (fun (_ : Unit) (t : State) => ∃ na0_0 : Int32, ∃ na0_11 : Int32, ax_B dC dI A [(a0, .inr (8, [Value.int na0_0, a0g_1, a0g_2, a0g_3, a0g_4, a0g_5, a0g_6, a0g_7, a0g_8, a0g_9, a0g_10, Value.int na0_11, a0g_12, a0g_13, Value.int a0_14, a0g_15, a0g_16, a0g_17, a0g_18, a0g_19, a0g_20, a0g_21, a0g_22, a0g_23, a0g_24, a0g_25, a0g_26, a0g_27, a0g_28, a0g_29, a0g_30, a0g_31, a0g_32, a0g_33, a0g_34, a0g_35, a0g_36, a0g_37, a0g_38, a0g_39]))] [] t) A) := by
  refine zh (cc := cX8_windBest) (maxL := 5) (ret := (some .int)) zn_RX8 rfl (Nat.le_of_ble_eq_true rfl) (fun p e s m below meth c A ls hx hb hml hr hts (hown : s.vm.findClass RX8 = some m.cls) hlocks hA hS hP hK hD hE (hl : lv_has ls 5 [(0, .ref a0)]) => ?_)
  refine ai_open (fun K hK0 => ?_)
  refine (hK0 _ _ _).mpr ?_
  refine lv_aload_n hx hb dX8_windBest_0 rfl (lv_at hl 0 rfl) ?_
  refine va_callv (va_runV (As := []) (rest := []) ⟨hx, hb, hml, hown, hts⟩ (c_X8_good l dC dI s.heap.size a0 a0_0 a0g_1 a0g_2 a0g_3 a0g_4 a0g_5 a0g_6 a0g_7 a0g_8 a0g_9 a0g_10 a0g_12 a0g_13 (Value.int a0_14) a0g_15 a0g_16 a0g_17 a0g_18 a0g_19 a0g_20 a0g_21 a0g_22 a0g_23 a0g_24 a0g_25 a0g_26 a0g_27 a0g_28 a0g_29 a0g_30 a0g_31 a0g_32 a0g_33 a0g_34 a0g_35 a0g_36 a0g_37 a0g_38 a0g_39 a0_11 ) (cwV 0 hts gX8_windBest_X8_good rfl rfl rfl zd_X8_good ⟨Nat.le_of_ble_eq_true rfl, Nat.le_of_ble_eq_true rfl⟩) ⟨ax_blind (fun _ _ _ _ _ => trivial), zr_8 (zp_K hK) (zp_P1 hP) (q0 := 0) rfl, ax_pre (zp_P1 hP) (zp_K hK) (zp_D1 hD) (fun _ _ => trivial)⟩ rfl rfl hl.1 rfl (lv_room (Nat.le_of_ble_eq_true rfl)) dX8_windBest_1 ⟨Nat.le_of_ble_eq_true rfl, Nat.le_of_ble_eq_true rfl⟩) hS (fun q _ h => zp_F1 hD hS hA q h) (zp_F1 hD hS hA) (fun u t H locs ht hvm hw => zx_2 (fun v1na0_0 v1na0_11 hB hz1 hk1 hS1 => zo1 hB ht hP hD hk1 (zp_F1 hD hS hA) hS1 (fun hP hK1 hD hS => ?_)))
  refine lv_aload_n hx hb dX8_windBest_4 rfl (lv_at hl 0 rfl) ?_
  refine va_get (D := (dC, dI)) (ci := 8) (v := .int a0_14) (C := RX8) (T := TX8) (N := 40) hx hb hts zi_X8_windBest_8 hown hK hP 0 rfl rfl 14 (by decide) (hts (.fieldLink RX8 173 "WaxTurnsModel" "hasGallery" "Z") (zm_X8_windBest_r1 (List.mem_of_getElem? (i := 0) rfl))) (fun _ h9 => h9) rfl dX8_windBest_5 ?_
  refine lv_if_ne (tgt := 17) hx hb dX8_windBest_8 (by decide) (fun c8 => ?_) (fun c8 => ?_)
  · have gc8 := ai_ne c8
    have l8t_a0_14 : (1 : Int) ≤ a0_14.toInt := (by first | exact zg_l ba0_14_l gc8 (by decide) (by decide) | (have h1 := ba0_14_l; have h2 : (0 : Int32).toInt = 0 := (by decide); rw [h2] at gc8; omega))
    have u8t_a0_14 : a0_14.toInt ≤ (-1 : Int) := (by first | exact zg_u ba0_14_u gc8 (by decide) (by decide) | (have h1 := ba0_14_u; have h2 : (0 : Int32).toInt = 0 := (by decide); rw [h2] at gc8; omega))
    exact absurd (Int.le_trans l8t_a0_14 u8t_a0_14) (by decide)
  · have gc8 := ai_eq c8
    have u8f_a0_14 : a0_14.toInt ≤ (0 : Int) := ba0_14_u
    have l8f_a0_14 : (0 : Int) ≤ a0_14.toInt := ba0_14_l
    refine lv_aload_n hx hb dX8_windBest_11 rfl (lv_at hl 0 rfl) ?_
    refine lv_iconst (v := 1) hx hb dX8_windBest_12 zk_iconst_1 ?_
    refine va_calli (va_runV (As := [.int 1]) (rest := []) ⟨hx, hb, hml, hown, hts⟩ (c_X8_no l dC dI H.size a0 1 (Value.int v1na0_0) a0g_1 a0g_2 a0g_3 a0g_4 a0g_5 a0g_6 a0g_7 a0g_8 a0g_9 a0g_10 a0g_12 a0g_13 (Value.int a0_14) a0g_15 a0g_16 a0g_17 a0g_18 a0g_19 a0g_20 a0g_21 a0g_22 a0g_23 a0g_24 a0g_25 a0g_26 a0g_27 a0g_28 a0g_29 a0g_30 a0g_31 a0g_32 a0g_33 a0g_34 a0g_35 a0g_36 a0g_37 a0g_38 a0g_39 v1na0_11 ) (cwV 1 hts gX8_windBest_X8_no rfl rfl rfl zd_X8_no ⟨Nat.le_of_ble_eq_true rfl, Nat.le_of_ble_eq_true rfl⟩) ⟨ax_blind (fun _ _ _ _ _ => trivial), zr_8 (zp_K hK) (zp_P1 hP) (q0 := 0) rfl, ax_pre (zp_P1 hP) (zp_K hK) (zp_D1 hD) (fun _ _ => trivial)⟩ rfl rfl hl.1 rfl (lv_room (Nat.le_of_ble_eq_true rfl)) dX8_windBest_13 ⟨Nat.le_of_ble_eq_true rfl, Nat.le_of_ble_eq_true rfl⟩) hS (fun q _ h => zp_F1 hD hS hA q h) (zp_F1 hD hS hA) (fun r13 u t H locs ht hvm hw => zx_1 (fun v13na0_11 hB hz1 hk1 hS1 => zo1 hB ht hP hD hk1 (zp_F1 hD hS hA) hS1 (fun hP hK1 hD hS => ?_)))
    have hw : r13 = (-1) := hw
    have hw := hw.symm
    subst hw
    exact W.iret (v := (-1)) hx hb hr (fun t ht hW => ⟨⟨(-1), (), rfl, rfl, v1na0_0, v13na0_11, by rw [ht]; exact hP, va_K.moved hW.alike hK, hD⟩, hS.F ht⟩) hS.2.2 dX8_windBest_16

set_option maxHeartbeats 4000000 in
set_option maxRecDepth 100000 in
theorem c0_X8_fits (l : Launch) (dC : Nat → ClassId) (dI : Nat → Nat → Nat) (sz : Nat) (a0 : Nat) (a0_0 : Int32) (a0g_1 a0g_2 a0g_3 a0g_4 a0g_5 a0g_6 a0g_7 a0g_8 a0g_9 a0g_10 a0g_12 a0g_13 a0g_15 a0g_16 a0g_17 a0g_18 a0g_19 a0g_20 a0g_21 a0g_22 a0g_23 a0g_24 a0g_25 a0g_26 a0g_27 a0g_28 a0g_29 a0g_30 a0g_31 a0g_32 a0g_33 a0g_34 a0g_35 a0g_36 a0g_37 a0g_38 a0g_39 : Value) (a0_11 : Int32) (a0_14 : Int32) (ba0_14_l : (0 : Int) ≤ a0_14.toInt) (ba0_14_u : a0_14.toInt ≤ (0 : Int)) : zm l yX8_fits wsX8_fits ({ frames := 1, cells := 0, slots := 0, locals := 21 }) [.ref a0] dC dI sz [(a0, .inr (8, [Value.int a0_0, a0g_1, a0g_2, a0g_3, a0g_4, a0g_5, a0g_6, a0g_7, a0g_8, a0g_9, a0g_10, Value.int a0_11, a0g_12, a0g_13, Value.int a0_14, a0g_15, a0g_16, a0g_17, a0g_18, a0g_19, a0g_20, a0g_21, a0g_22, a0g_23, a0g_24, a0g_25, a0g_26, a0g_27, a0g_28, a0g_29, a0g_30, a0g_31, a0g_32, a0g_33, a0g_34, a0g_35, a0g_36, a0g_37, a0g_38, a0g_39]))] [] (fun A _ => True) (fun A => va_Qi (fun (r : Int32) (_ : Unit) => r = (-1)) (fun (_ : Unit) (t : State) => ∃ na0_0 : Int32, ∃ na0_11 : Int32, ax_B dC dI A [(a0, .inr (8, [Value.int na0_0, a0g_1, a0g_2, a0g_3, a0g_4, a0g_5, a0g_6, a0g_7, a0g_8, a0g_9, a0g_10, Value.int na0_11, a0g_12, a0g_13, Value.int a0_14, a0g_15, a0g_16, a0g_17, a0g_18, a0g_19, a0g_20, a0g_21, a0g_22, a0g_23, a0g_24, a0g_25, a0g_26, a0g_27, a0g_28, a0g_29, a0g_30, a0g_31, a0g_32, a0g_33, a0g_34, a0g_35, a0g_36, a0g_37, a0g_38, a0g_39]))] [] t) A) := by
  refine zh (cc := cX8_fits) (maxL := 3) (ret := (some .int)) zn_RX8 rfl (Nat.le_of_ble_eq_true rfl) (fun p e s m below meth c A ls hx hb hml hr hts (hown : s.vm.findClass RX8 = some m.cls) hlocks hA hS hP hK hD hE (hl : lv_has ls 3 [(0, .ref a0)]) => ?_)
  refine ai_open (fun K hK0 => ?_)
  refine (hK0 _ _ _).mpr ?_
  refine lv_aload_n hx hb dX8_fits_0 rfl (lv_at hl 0 rfl) ?_
  refine va_callv (va_runV (As := []) (rest := []) ⟨hx, hb, hml, hown, hts⟩ (c_X8_good l dC dI s.heap.size a0 a0_0 a0g_1 a0g_2 a0g_3 a0g_4 a0g_5 a0g_6 a0g_7 a0g_8 a0g_9 a0g_10 a0g_12 a0g_13 (Value.int a0_14) a0g_15 a0g_16 a0g_17 a0g_18 a0g_19 a0g_20 a0g_21 a0g_22 a0g_23 a0g_24 a0g_25 a0g_26 a0g_27 a0g_28 a0g_29 a0g_30 a0g_31 a0g_32 a0g_33 a0g_34 a0g_35 a0g_36 a0g_37 a0g_38 a0g_39 a0_11 ) (cwV 0 hts gX8_fits_X8_good rfl rfl rfl zd_X8_good ⟨Nat.le_of_ble_eq_true rfl, Nat.le_of_ble_eq_true rfl⟩) ⟨ax_blind (fun _ _ _ _ _ => trivial), zr_8 (zp_K hK) (zp_P1 hP) (q0 := 0) rfl, ax_pre (zp_P1 hP) (zp_K hK) (zp_D1 hD) (fun _ _ => trivial)⟩ rfl rfl hl.1 rfl (lv_room (Nat.le_of_ble_eq_true rfl)) dX8_fits_1 ⟨Nat.le_of_ble_eq_true rfl, Nat.le_of_ble_eq_true rfl⟩) hS (fun q _ h => zp_F1 hD hS hA q h) (zp_F1 hD hS hA) (fun u t H locs ht hvm hw => zx_2 (fun v1na0_0 v1na0_11 hB hz1 hk1 hS1 => zo1 hB ht hP hD hk1 (zp_F1 hD hS hA) hS1 (fun hP hK1 hD hS => ?_)))
  refine lv_aload_n hx hb dX8_fits_4 rfl (lv_at hl 0 rfl) ?_
  refine va_get (D := (dC, dI)) (ci := 8) (v := .int a0_14) (C := RX8) (T := TX8) (N := 40) hx hb hts zi_X8_fits_8 hown hK hP 0 rfl rfl 14 (by decide) (hts (.fieldLink RX8 173 "WaxTurnsModel" "hasGallery" "Z") (zm_X8_fits_r1 (List.mem_of_getElem? (i := 0) rfl))) (fun _ h9 => h9) rfl dX8_fits_5 ?_
  refine lv_if_ne (tgt := 17) hx hb dX8_fits_8 (by decide) (fun c8 => ?_) (fun c8 => ?_)
  · have gc8 := ai_ne c8
    have l8t_a0_14 : (1 : Int) ≤ a0_14.toInt := (by first | exact zg_l ba0_14_l gc8 (by decide) (by decide) | (have h1 := ba0_14_l; have h2 : (0 : Int32).toInt = 0 := (by decide); rw [h2] at gc8; omega))
    have u8t_a0_14 : a0_14.toInt ≤ (-1 : Int) := (by first | exact zg_u ba0_14_u gc8 (by decide) (by decide) | (have h1 := ba0_14_u; have h2 : (0 : Int32).toInt = 0 := (by decide); rw [h2] at gc8; omega))
    exact absurd (Int.le_trans l8t_a0_14 u8t_a0_14) (by decide)
  · have gc8 := ai_eq c8
    have u8f_a0_14 : a0_14.toInt ≤ (0 : Int) := ba0_14_u
    have l8f_a0_14 : (0 : Int) ≤ a0_14.toInt := ba0_14_l
    refine lv_aload_n hx hb dX8_fits_11 rfl (lv_at hl 0 rfl) ?_
    refine lv_iconst (v := 1) hx hb dX8_fits_12 zk_iconst_1 ?_
    refine va_calli (va_runV (As := [.int 1]) (rest := []) ⟨hx, hb, hml, hown, hts⟩ (c_X8_no l dC dI H.size a0 1 (Value.int v1na0_0) a0g_1 a0g_2 a0g_3 a0g_4 a0g_5 a0g_6 a0g_7 a0g_8 a0g_9 a0g_10 a0g_12 a0g_13 (Value.int a0_14) a0g_15 a0g_16 a0g_17 a0g_18 a0g_19 a0g_20 a0g_21 a0g_22 a0g_23 a0g_24 a0g_25 a0g_26 a0g_27 a0g_28 a0g_29 a0g_30 a0g_31 a0g_32 a0g_33 a0g_34 a0g_35 a0g_36 a0g_37 a0g_38 a0g_39 v1na0_11 ) (cwV 1 hts gX8_fits_X8_no rfl rfl rfl zd_X8_no ⟨Nat.le_of_ble_eq_true rfl, Nat.le_of_ble_eq_true rfl⟩) ⟨ax_blind (fun _ _ _ _ _ => trivial), zr_8 (zp_K hK) (zp_P1 hP) (q0 := 0) rfl, ax_pre (zp_P1 hP) (zp_K hK) (zp_D1 hD) (fun _ _ => trivial)⟩ rfl rfl hl.1 rfl (lv_room (Nat.le_of_ble_eq_true rfl)) dX8_fits_13 ⟨Nat.le_of_ble_eq_true rfl, Nat.le_of_ble_eq_true rfl⟩) hS (fun q _ h => zp_F1 hD hS hA q h) (zp_F1 hD hS hA) (fun r13 u t H locs ht hvm hw => zx_1 (fun v13na0_11 hB hz1 hk1 hS1 => zo1 hB ht hP hD hk1 (zp_F1 hD hS hA) hS1 (fun hP hK1 hD hS => ?_)))
    have hw : r13 = (-1) := hw
    have hw := hw.symm
    subst hw
    exact W.iret (v := (-1)) hx hb hr (fun t ht hW => ⟨⟨(-1), (), rfl, rfl, v1na0_0, v13na0_11, by rw [ht]; exact hP, va_K.moved hW.alike hK, hD⟩, hS.F ht⟩) hS.2.2 dX8_fits_16
end P280_03_safe
section P280_04_safe
set_option maxHeartbeats 4000000 in
set_option maxRecDepth 100000 in
theorem c0_X8_fitAt (l : Launch) (dC : Nat → ClassId) (dI : Nat → Nat → Nat) (sz : Nat) (a0 : Nat) (a1 : Int32) (a0_0 : Int32) (a0g_1 a0g_2 a0g_3 a0g_4 a0g_5 a0g_6 a0g_7 a0g_8 a0g_9 a0g_10 a0g_12 a0g_13 a0g_15 a0g_16 a0g_17 a0g_18 a0g_19 a0g_20 a0g_21 a0g_22 a0g_23 a0g_24 a0g_25 a0g_26 a0g_27 a0g_28 a0g_29 a0g_30 a0g_31 a0g_32 a0g_33 a0g_34 a0g_35 a0g_36 a0g_37 a0g_38 a0g_39 : Value) (a0_11 : Int32) (a0_14 : Int32) (ba0_14_l : (0 : Int) ≤ a0_14.toInt) (ba0_14_u : a0_14.toInt ≤ (0 : Int)) : zm l yX8_fitAt wsX8_fitAt ({ frames := 1, cells := 0, slots := 0, locals := 21 }) [.ref a0, .int a1] dC dI sz [(a0, .inr (8, [Value.int a0_0, a0g_1, a0g_2, a0g_3, a0g_4, a0g_5, a0g_6, a0g_7, a0g_8, a0g_9, a0g_10, Value.int a0_11, a0g_12, a0g_13, Value.int a0_14, a0g_15, a0g_16, a0g_17, a0g_18, a0g_19, a0g_20, a0g_21, a0g_22, a0g_23, a0g_24, a0g_25, a0g_26, a0g_27, a0g_28, a0g_29, a0g_30, a0g_31, a0g_32, a0g_33, a0g_34, a0g_35, a0g_36, a0g_37, a0g_38, a0g_39]))] [] (fun A _ => True) (fun A => va_Qi (fun (r : Int32) (_ : Unit) => r = (-1)) (fun (_ : Unit) (t : State) => ∃ na0_0 : Int32, ∃ na0_11 : Int32, ax_B dC dI A [(a0, .inr (8, [Value.int na0_0, a0g_1, a0g_2, a0g_3, a0g_4, a0g_5, a0g_6, a0g_7, a0g_8, a0g_9, a0g_10, Value.int na0_11, a0g_12, a0g_13, Value.int a0_14, a0g_15, a0g_16, a0g_17, a0g_18, a0g_19, a0g_20, a0g_21, a0g_22, a0g_23, a0g_24, a0g_25, a0g_26, a0g_27, a0g_28, a0g_29, a0g_30, a0g_31, a0g_32, a0g_33, a0g_34, a0g_35, a0g_36, a0g_37, a0g_38, a0g_39]))] [] t) A) := by
  refine zh (cc := cX8_fitAt) (maxL := 4) (ret := (some .int)) zn_RX8 rfl (Nat.le_of_ble_eq_true rfl) (fun p e s m below meth c A ls hx hb hml hr hts (hown : s.vm.findClass RX8 = some m.cls) hlocks hA hS hP hK hD hE (hl : lv_has ls 4 [(0, .ref a0), (1, .int a1)]) => ?_)
  refine ai_open (fun K hK0 => ?_)
  refine (hK0 _ _ _).mpr ?_
  refine lv_aload_n hx hb dX8_fitAt_0 rfl (lv_at hl 0 rfl) ?_
  refine va_callv (va_runV (As := []) (rest := []) ⟨hx, hb, hml, hown, hts⟩ (c_X8_good l dC dI s.heap.size a0 a0_0 a0g_1 a0g_2 a0g_3 a0g_4 a0g_5 a0g_6 a0g_7 a0g_8 a0g_9 a0g_10 a0g_12 a0g_13 (Value.int a0_14) a0g_15 a0g_16 a0g_17 a0g_18 a0g_19 a0g_20 a0g_21 a0g_22 a0g_23 a0g_24 a0g_25 a0g_26 a0g_27 a0g_28 a0g_29 a0g_30 a0g_31 a0g_32 a0g_33 a0g_34 a0g_35 a0g_36 a0g_37 a0g_38 a0g_39 a0_11 ) (cwV 0 hts gX8_fitAt_X8_good rfl rfl rfl zd_X8_good ⟨Nat.le_of_ble_eq_true rfl, Nat.le_of_ble_eq_true rfl⟩) ⟨ax_blind (fun _ _ _ _ _ => trivial), zr_8 (zp_K hK) (zp_P1 hP) (q0 := 0) rfl, ax_pre (zp_P1 hP) (zp_K hK) (zp_D1 hD) (fun _ _ => trivial)⟩ rfl rfl hl.1 rfl (lv_room (Nat.le_of_ble_eq_true rfl)) dX8_fitAt_1 ⟨Nat.le_of_ble_eq_true rfl, Nat.le_of_ble_eq_true rfl⟩) hS (fun q _ h => zp_F1 hD hS hA q h) (zp_F1 hD hS hA) (fun u t H locs ht hvm hw => zx_2 (fun v1na0_0 v1na0_11 hB hz1 hk1 hS1 => zo1 hB ht hP hD hk1 (zp_F1 hD hS hA) hS1 (fun hP hK1 hD hS => ?_)))
  refine lv_aload_n hx hb dX8_fitAt_4 rfl (lv_at hl 0 rfl) ?_
  refine va_get (D := (dC, dI)) (ci := 8) (v := .int a0_14) (C := RX8) (T := TX8) (N := 40) hx hb hts zi_X8_fitAt_8 hown hK hP 0 rfl rfl 14 (by decide) (hts (.fieldLink RX8 173 "WaxTurnsModel" "hasGallery" "Z") (zm_X8_fitAt_r1 (List.mem_of_getElem? (i := 0) rfl))) (fun _ h9 => h9) rfl dX8_fitAt_5 ?_
  refine lv_if_ne (tgt := 17) hx hb dX8_fitAt_8 (by decide) (fun c8 => ?_) (fun c8 => ?_)
  · have gc8 := ai_ne c8
    have l8t_a0_14 : (1 : Int) ≤ a0_14.toInt := (by first | exact zg_l ba0_14_l gc8 (by decide) (by decide) | (have h1 := ba0_14_l; have h2 : (0 : Int32).toInt = 0 := (by decide); rw [h2] at gc8; omega))
    have u8t_a0_14 : a0_14.toInt ≤ (-1 : Int) := (by first | exact zg_u ba0_14_u gc8 (by decide) (by decide) | (have h1 := ba0_14_u; have h2 : (0 : Int32).toInt = 0 := (by decide); rw [h2] at gc8; omega))
    exact absurd (Int.le_trans l8t_a0_14 u8t_a0_14) (by decide)
  · have gc8 := ai_eq c8
    have u8f_a0_14 : a0_14.toInt ≤ (0 : Int) := ba0_14_u
    have l8f_a0_14 : (0 : Int) ≤ a0_14.toInt := ba0_14_l
    refine lv_aload_n hx hb dX8_fitAt_11 rfl (lv_at hl 0 rfl) ?_
    refine lv_iconst (v := 1) hx hb dX8_fitAt_12 zk_iconst_1 ?_
    refine va_calli (va_runV (As := [.int 1]) (rest := []) ⟨hx, hb, hml, hown, hts⟩ (c_X8_no l dC dI H.size a0 1 (Value.int v1na0_0) a0g_1 a0g_2 a0g_3 a0g_4 a0g_5 a0g_6 a0g_7 a0g_8 a0g_9 a0g_10 a0g_12 a0g_13 (Value.int a0_14) a0g_15 a0g_16 a0g_17 a0g_18 a0g_19 a0g_20 a0g_21 a0g_22 a0g_23 a0g_24 a0g_25 a0g_26 a0g_27 a0g_28 a0g_29 a0g_30 a0g_31 a0g_32 a0g_33 a0g_34 a0g_35 a0g_36 a0g_37 a0g_38 a0g_39 v1na0_11 ) (cwV 1 hts gX8_fitAt_X8_no rfl rfl rfl zd_X8_no ⟨Nat.le_of_ble_eq_true rfl, Nat.le_of_ble_eq_true rfl⟩) ⟨ax_blind (fun _ _ _ _ _ => trivial), zr_8 (zp_K hK) (zp_P1 hP) (q0 := 0) rfl, ax_pre (zp_P1 hP) (zp_K hK) (zp_D1 hD) (fun _ _ => trivial)⟩ rfl rfl hl.1 rfl (lv_room (Nat.le_of_ble_eq_true rfl)) dX8_fitAt_13 ⟨Nat.le_of_ble_eq_true rfl, Nat.le_of_ble_eq_true rfl⟩) hS (fun q _ h => zp_F1 hD hS hA q h) (zp_F1 hD hS hA) (fun r13 u t H locs ht hvm hw => zx_1 (fun v13na0_11 hB hz1 hk1 hS1 => zo1 hB ht hP hD hk1 (zp_F1 hD hS hA) hS1 (fun hP hK1 hD hS => ?_)))
    have hw : r13 = (-1) := hw
    have hw := hw.symm
    subst hw
    exact W.iret (v := (-1)) hx hb hr (fun t ht hW => ⟨⟨(-1), (), rfl, rfl, v1na0_0, v13na0_11, by rw [ht]; exact hP, va_K.moved hW.alike hK, hD⟩, hS.F ht⟩) hS.2.2 dX8_fitAt_16

set_option maxHeartbeats 4000000 in
set_option maxRecDepth 100000 in
theorem c0_X8_could (l : Launch) (dC : Nat → ClassId) (dI : Nat → Nat → Nat) (sz : Nat) (a0 : Nat) (a1 : Int32) (a0_0 : Int32) (a0g_1 a0g_2 a0g_3 a0g_4 a0g_5 a0g_6 a0g_7 a0g_8 a0g_9 a0g_10 a0g_12 a0g_13 a0g_15 a0g_16 a0g_17 a0g_18 a0g_19 a0g_20 a0g_21 a0g_22 a0g_23 a0g_24 a0g_25 a0g_26 a0g_27 a0g_28 a0g_29 a0g_30 a0g_31 a0g_32 a0g_33 a0g_34 a0g_35 a0g_36 a0g_37 a0g_38 a0g_39 : Value) (a0_11 : Int32) (a0_14 : Int32) (ba0_14_l : (0 : Int) ≤ a0_14.toInt) (ba0_14_u : a0_14.toInt ≤ (0 : Int)) : zm l yX8_could wsX8_could ({ frames := 1, cells := 0, slots := 0, locals := 22 }) [.ref a0, .int a1] dC dI sz [(a0, .inr (8, [Value.int a0_0, a0g_1, a0g_2, a0g_3, a0g_4, a0g_5, a0g_6, a0g_7, a0g_8, a0g_9, a0g_10, Value.int a0_11, a0g_12, a0g_13, Value.int a0_14, a0g_15, a0g_16, a0g_17, a0g_18, a0g_19, a0g_20, a0g_21, a0g_22, a0g_23, a0g_24, a0g_25, a0g_26, a0g_27, a0g_28, a0g_29, a0g_30, a0g_31, a0g_32, a0g_33, a0g_34, a0g_35, a0g_36, a0g_37, a0g_38, a0g_39]))] [] (fun A _ => True) (fun A => va_Qi (fun (r : Int32) (_ : Unit) => r = (-1)) (fun (_ : Unit) (t : State) => ∃ na0_0 : Int32, ∃ na0_11 : Int32, ax_B dC dI A [(a0, .inr (8, [Value.int na0_0, a0g_1, a0g_2, a0g_3, a0g_4, a0g_5, a0g_6, a0g_7, a0g_8, a0g_9, a0g_10, Value.int na0_11, a0g_12, a0g_13, Value.int a0_14, a0g_15, a0g_16, a0g_17, a0g_18, a0g_19, a0g_20, a0g_21, a0g_22, a0g_23, a0g_24, a0g_25, a0g_26, a0g_27, a0g_28, a0g_29, a0g_30, a0g_31, a0g_32, a0g_33, a0g_34, a0g_35, a0g_36, a0g_37, a0g_38, a0g_39]))] [] t) A) := by
  refine zh (cc := cX8_could) (maxL := 5) (ret := (some .int)) zn_RX8 rfl (Nat.le_of_ble_eq_true rfl) (fun p e s m below meth c A ls hx hb hml hr hts (hown : s.vm.findClass RX8 = some m.cls) hlocks hA hS hP hK hD hE (hl : lv_has ls 5 [(0, .ref a0), (1, .int a1)]) => ?_)
  refine ai_open (fun K hK0 => ?_)
  refine (hK0 _ _ _).mpr ?_
  refine lv_aload_n hx hb dX8_could_0 rfl (lv_at hl 0 rfl) ?_
  refine va_callv (va_runV (As := []) (rest := []) ⟨hx, hb, hml, hown, hts⟩ (c_X8_good l dC dI s.heap.size a0 a0_0 a0g_1 a0g_2 a0g_3 a0g_4 a0g_5 a0g_6 a0g_7 a0g_8 a0g_9 a0g_10 a0g_12 a0g_13 (Value.int a0_14) a0g_15 a0g_16 a0g_17 a0g_18 a0g_19 a0g_20 a0g_21 a0g_22 a0g_23 a0g_24 a0g_25 a0g_26 a0g_27 a0g_28 a0g_29 a0g_30 a0g_31 a0g_32 a0g_33 a0g_34 a0g_35 a0g_36 a0g_37 a0g_38 a0g_39 a0_11 ) (cwV 0 hts gX8_could_X8_good rfl rfl rfl zd_X8_good ⟨Nat.le_of_ble_eq_true rfl, Nat.le_of_ble_eq_true rfl⟩) ⟨ax_blind (fun _ _ _ _ _ => trivial), zr_8 (zp_K hK) (zp_P1 hP) (q0 := 0) rfl, ax_pre (zp_P1 hP) (zp_K hK) (zp_D1 hD) (fun _ _ => trivial)⟩ rfl rfl hl.1 rfl (lv_room (Nat.le_of_ble_eq_true rfl)) dX8_could_1 ⟨Nat.le_of_ble_eq_true rfl, Nat.le_of_ble_eq_true rfl⟩) hS (fun q _ h => zp_F1 hD hS hA q h) (zp_F1 hD hS hA) (fun u t H locs ht hvm hw => zx_2 (fun v1na0_0 v1na0_11 hB hz1 hk1 hS1 => zo1 hB ht hP hD hk1 (zp_F1 hD hS hA) hS1 (fun hP hK1 hD hS => ?_)))
  refine lv_aload_n hx hb dX8_could_4 rfl (lv_at hl 0 rfl) ?_
  refine lv_aload_n hx hb dX8_could_5 rfl (lv_at hl 0 rfl) ?_
  refine va_get (D := (dC, dI)) (ci := 8) (v := .int a0_14) (C := RX8) (T := TX8) (N := 40) hx hb hts zi_X8_could_8 hown hK hP 0 rfl rfl 14 (by decide) (hts (.fieldLink RX8 173 "WaxTurnsModel" "hasGallery" "Z") (zm_X8_could_r1 (List.mem_of_getElem? (i := 0) rfl))) (fun _ h9 => h9) rfl dX8_could_6 ?_
  refine lv_iload_n hx hb dX8_could_9 rfl (lv_at hl 1 rfl) ?_
  refine lv_iconst (v := 0) hx hb dX8_could_10 zk_iconst_0 ?_
  refine lv_sipush (v := 999) hx hb dX8_could_11 zk_sipush_999 ?_
  refine va_calli (va_runS (As := [.int a1, .int 0, .int 999]) (rest := [.int a0_14, .ref a0]) ⟨hx, hb, hml, hown, hts⟩ (c_X8_in l dC dI H.size a1 0 999 ) (va_cwS 3 hts gX8_could_X8_in rfl rfl rfl zd_X8_in.2 ⟨Nat.le_of_ble_eq_true rfl, Nat.le_of_ble_eq_true rfl⟩) ⟨ax_blind (fun _ _ _ _ _ => trivial), ax_pre (zp_P0 hP) (zp_K hK) (zp_D0 hD) (fun _ _ => trivial)⟩ rfl rfl hl.1 rfl (lv_room (Nat.le_of_ble_eq_true rfl)) dX8_could_14 ⟨Nat.le_of_ble_eq_true rfl, Nat.le_of_ble_eq_true rfl⟩) hS (fun q _ h => zp_F0 hD hS hA q h) (zp_F0 hD hS hA) (fun r14 u t H locs ht hvm hw hB hz1 hk1 hS1 => zo0 hB ht hP hD hk1 (zp_F0 hD hS hA) hS1 (fun hP hK1 hD hS => ?_))
  rcases hw with hw | hw
  · obtain ⟨hw, h14⟩ := hw
    subst hw
    have l14k0_a1 : (0 : Int) ≤ a1.toInt := Int.le_trans zq5 h14.1
    have u14k0_a1 : a1.toInt ≤ (999 : Int) := Int.le_trans h14.2 zq79
    refine va_calli (va_runV (As := [.int a0_14, .int 1]) (rest := []) ⟨hx, hb, hml, hown, hts⟩ (c_X8_whyB l dC dI H.size a0 a0_14 1 (Value.int v1na0_0) a0g_1 a0g_2 a0g_3 a0g_4 a0g_5 a0g_6 a0g_7 a0g_8 a0g_9 a0g_10 (Value.int v1na0_11) a0g_12 a0g_13 (Value.int a0_14) a0g_15 a0g_16 a0g_17 a0g_18 a0g_19 a0g_20 a0g_21 a0g_22 a0g_23 a0g_24 a0g_25 a0g_26 a0g_27 a0g_28 a0g_29 a0g_30 a0g_31 a0g_32 a0g_33 a0g_34 a0g_35 a0g_36 a0g_37 a0g_38 a0g_39 ba0_14_l (Int.le_trans ba0_14_u zq4) (Int.le_trans zq4 zq1) zq0) (cwV 2 hts gX8_could_X8_why rfl rfl rfl zd_X8_why ⟨Nat.le_of_ble_eq_true rfl, Nat.le_of_ble_eq_true rfl⟩) ⟨ax_blind (fun _ _ _ _ _ => trivial), zr_8 (zp_K hK) (zp_P1 hP) (q0 := 0) rfl, ax_pre (zp_P1 hP) (zp_K hK) (zp_D1 hD) (fun _ _ => trivial)⟩ rfl rfl hl.1 rfl (lv_room (Nat.le_of_ble_eq_true rfl)) dX8_could_17 ⟨Nat.le_of_ble_eq_true rfl, Nat.le_of_ble_eq_true rfl⟩) hS (fun q _ h => zp_F1 hD hS hA q h) (zp_F1 hD hS hA) (fun r17 u t H locs ht hvm hw hB hz1 hk1 hS1 => zo1 hB ht hP hD hk1 (zp_F1 hD hS hA) hS1 (fun hP hK1 hD hS => ?_))
    rcases hw with hw | hw | hw
    · obtain ⟨hw, h17_0, h17_1, h17_2, h17_3⟩ := hw
      subst hw
      have l17k0_a0_14 : (1 : Int) ≤ a0_14.toInt := h17_0
      have u17k0_a0_14 : a0_14.toInt ≤ (0 : Int) := ba0_14_u
      exact absurd (Int.le_trans l17k0_a0_14 u17k0_a0_14) (by decide)
    · obtain ⟨hw, h17_0, h17_1⟩ := hw
      subst hw
      have l17k1_a0_14 : (0 : Int) ≤ a0_14.toInt := ba0_14_l
      have u17k1_a0_14 : a0_14.toInt ≤ (0 : Int) := ba0_14_u
      refine lv_istore_n (lv' := [(2, .int 1), (0, .ref a0), (1, .int a1)]) hx hb dX8_could_20 rfl hl (by decide) rfl (fun ls hl => ?_)
      refine lv_iload_n hx hb dX8_could_21 rfl (lv_at hl 0 rfl) ?_
      refine lv_if_eq (tgt := 31) hx hb dX8_could_22 (by decide) (fun c22 => absurd c22 (by decide +kernel)) (fun _ => ?_)
      refine lv_aload_n hx hb dX8_could_25 rfl (lv_at hl 1 rfl) ?_
      refine lv_iload_n hx hb dX8_could_26 rfl (lv_at hl 0 rfl) ?_
      refine va_calli (va_runV (As := [.int 1]) (rest := []) ⟨hx, hb, hml, hown, hts⟩ (c_X8_no l dC dI H.size a0 1 (Value.int v1na0_0) a0g_1 a0g_2 a0g_3 a0g_4 a0g_5 a0g_6 a0g_7 a0g_8 a0g_9 a0g_10 a0g_12 a0g_13 (Value.int a0_14) a0g_15 a0g_16 a0g_17 a0g_18 a0g_19 a0g_20 a0g_21 a0g_22 a0g_23 a0g_24 a0g_25 a0g_26 a0g_27 a0g_28 a0g_29 a0g_30 a0g_31 a0g_32 a0g_33 a0g_34 a0g_35 a0g_36 a0g_37 a0g_38 a0g_39 v1na0_11 ) (cwV 1 hts gX8_could_X8_no rfl rfl rfl zd_X8_no ⟨Nat.le_of_ble_eq_true rfl, Nat.le_of_ble_eq_true rfl⟩) ⟨ax_blind (fun _ _ _ _ _ => trivial), zr_8 (zp_K hK) (zp_P1 hP) (q0 := 0) rfl, ax_pre (zp_P1 hP) (zp_K hK) (zp_D1 hD) (fun _ _ => trivial)⟩ rfl rfl hl.1 rfl (lv_room (Nat.le_of_ble_eq_true rfl)) dX8_could_27 ⟨Nat.le_of_ble_eq_true rfl, Nat.le_of_ble_eq_true rfl⟩) hS (fun q _ h => zp_F1 hD hS hA q h) (zp_F1 hD hS hA) (fun r27 u t H locs ht hvm hw => zx_1 (fun v27na0_11 hB hz1 hk1 hS1 => zo1 hB ht hP hD hk1 (zp_F1 hD hS hA) hS1 (fun hP hK1 hD hS => ?_)))
      have hw : r27 = (-1) := hw
      have hw := hw.symm
      subst hw
      exact W.iret (v := (-1)) hx hb hr (fun t ht hW => ⟨⟨(-1), (), rfl, rfl, v1na0_0, v27na0_11, by rw [ht]; exact hP, va_K.moved hW.alike hK, hD⟩, hS.F ht⟩) hS.2.2 dX8_could_30
    · obtain ⟨hw, h17_0, h17_1, h17_2, h17_3⟩ := hw
      subst hw
      have l17k2_a0_14 : (1 : Int) ≤ a0_14.toInt := h17_0
      have u17k2_a0_14 : a0_14.toInt ≤ (0 : Int) := ba0_14_u
      exact absurd (Int.le_trans l17k2_a0_14 u17k2_a0_14) (by decide)
  · obtain ⟨hw, h14⟩ := hw
    subst hw
    refine va_calli (va_runV (As := [.int a0_14, .int 0]) (rest := []) ⟨hx, hb, hml, hown, hts⟩ (c_X8_whyB l dC dI H.size a0 a0_14 0 (Value.int v1na0_0) a0g_1 a0g_2 a0g_3 a0g_4 a0g_5 a0g_6 a0g_7 a0g_8 a0g_9 a0g_10 (Value.int v1na0_11) a0g_12 a0g_13 (Value.int a0_14) a0g_15 a0g_16 a0g_17 a0g_18 a0g_19 a0g_20 a0g_21 a0g_22 a0g_23 a0g_24 a0g_25 a0g_26 a0g_27 a0g_28 a0g_29 a0g_30 a0g_31 a0g_32 a0g_33 a0g_34 a0g_35 a0g_36 a0g_37 a0g_38 a0g_39 ba0_14_l (Int.le_trans ba0_14_u zq4) zq5 (Int.le_trans zq6 zq4)) (cwV 2 hts gX8_could_X8_why rfl rfl rfl zd_X8_why ⟨Nat.le_of_ble_eq_true rfl, Nat.le_of_ble_eq_true rfl⟩) ⟨ax_blind (fun _ _ _ _ _ => trivial), zr_8 (zp_K hK) (zp_P1 hP) (q0 := 0) rfl, ax_pre (zp_P1 hP) (zp_K hK) (zp_D1 hD) (fun _ _ => trivial)⟩ rfl rfl hl.1 rfl (lv_room (Nat.le_of_ble_eq_true rfl)) dX8_could_17 ⟨Nat.le_of_ble_eq_true rfl, Nat.le_of_ble_eq_true rfl⟩) hS (fun q _ h => zp_F1 hD hS hA q h) (zp_F1 hD hS hA) (fun r17 u t H locs ht hvm hw hB hz1 hk1 hS1 => zo1 hB ht hP hD hk1 (zp_F1 hD hS hA) hS1 (fun hP hK1 hD hS => ?_))
    rcases hw with hw | hw | hw
    · obtain ⟨hw, h17_0, h17_1, h17_2, h17_3⟩ := hw
      subst hw
      have l17k0_a0_14 : (1 : Int) ≤ a0_14.toInt := h17_0
      have u17k0_a0_14 : a0_14.toInt ≤ (0 : Int) := ba0_14_u
      exact absurd (Int.le_trans l17k0_a0_14 u17k0_a0_14) (by decide)
    · obtain ⟨hw, h17_0, h17_1⟩ := hw
      subst hw
      have l17k1_a0_14 : (0 : Int) ≤ a0_14.toInt := ba0_14_l
      have u17k1_a0_14 : a0_14.toInt ≤ (0 : Int) := ba0_14_u
      refine lv_istore_n (lv' := [(2, .int 1), (0, .ref a0), (1, .int a1)]) hx hb dX8_could_20 rfl hl (by decide) rfl (fun ls hl => ?_)
      refine lv_iload_n hx hb dX8_could_21 rfl (lv_at hl 0 rfl) ?_
      refine lv_if_eq (tgt := 31) hx hb dX8_could_22 (by decide) (fun c22 => absurd c22 (by decide +kernel)) (fun _ => ?_)
      refine lv_aload_n hx hb dX8_could_25 rfl (lv_at hl 1 rfl) ?_
      refine lv_iload_n hx hb dX8_could_26 rfl (lv_at hl 0 rfl) ?_
      refine va_calli (va_runV (As := [.int 1]) (rest := []) ⟨hx, hb, hml, hown, hts⟩ (c_X8_no l dC dI H.size a0 1 (Value.int v1na0_0) a0g_1 a0g_2 a0g_3 a0g_4 a0g_5 a0g_6 a0g_7 a0g_8 a0g_9 a0g_10 a0g_12 a0g_13 (Value.int a0_14) a0g_15 a0g_16 a0g_17 a0g_18 a0g_19 a0g_20 a0g_21 a0g_22 a0g_23 a0g_24 a0g_25 a0g_26 a0g_27 a0g_28 a0g_29 a0g_30 a0g_31 a0g_32 a0g_33 a0g_34 a0g_35 a0g_36 a0g_37 a0g_38 a0g_39 v1na0_11 ) (cwV 1 hts gX8_could_X8_no rfl rfl rfl zd_X8_no ⟨Nat.le_of_ble_eq_true rfl, Nat.le_of_ble_eq_true rfl⟩) ⟨ax_blind (fun _ _ _ _ _ => trivial), zr_8 (zp_K hK) (zp_P1 hP) (q0 := 0) rfl, ax_pre (zp_P1 hP) (zp_K hK) (zp_D1 hD) (fun _ _ => trivial)⟩ rfl rfl hl.1 rfl (lv_room (Nat.le_of_ble_eq_true rfl)) dX8_could_27 ⟨Nat.le_of_ble_eq_true rfl, Nat.le_of_ble_eq_true rfl⟩) hS (fun q _ h => zp_F1 hD hS hA q h) (zp_F1 hD hS hA) (fun r27 u t H locs ht hvm hw => zx_1 (fun v27na0_11 hB hz1 hk1 hS1 => zo1 hB ht hP hD hk1 (zp_F1 hD hS hA) hS1 (fun hP hK1 hD hS => ?_)))
      have hw : r27 = (-1) := hw
      have hw := hw.symm
      subst hw
      exact W.iret (v := (-1)) hx hb hr (fun t ht hW => ⟨⟨(-1), (), rfl, rfl, v1na0_0, v27na0_11, by rw [ht]; exact hP, va_K.moved hW.alike hK, hD⟩, hS.F ht⟩) hS.2.2 dX8_could_30
    · obtain ⟨hw, h17_0, h17_1, h17_2, h17_3⟩ := hw
      subst hw
      have l17k2_a0_14 : (1 : Int) ≤ a0_14.toInt := h17_0
      have u17k2_a0_14 : a0_14.toInt ≤ (0 : Int) := ba0_14_u
      exact absurd (Int.le_trans l17k2_a0_14 u17k2_a0_14) (by decide)

set_option maxHeartbeats 4000000 in
set_option maxRecDepth 100000 in
theorem c0_X8_aliveBy (l : Launch) (dC : Nat → ClassId) (dI : Nat → Nat → Nat) (sz : Nat) (a0 : Nat) (a1 : Int32) (a2 : Int32) (a0_0 : Int32) (a0g_1 a0g_2 a0g_3 a0g_4 a0g_5 a0g_6 a0g_7 a0g_8 a0g_9 a0g_10 a0g_12 a0g_13 a0g_15 a0g_16 a0g_17 a0g_18 a0g_19 a0g_20 a0g_21 a0g_22 a0g_23 a0g_24 a0g_25 a0g_26 a0g_27 a0g_28 a0g_29 a0g_30 a0g_31 a0g_32 a0g_33 a0g_34 a0g_35 a0g_36 a0g_37 a0g_38 a0g_39 : Value) (a0_11 : Int32) (a0_14 : Int32) (ba0_14_l : (0 : Int) ≤ a0_14.toInt) (ba0_14_u : a0_14.toInt ≤ (0 : Int)) : zm l yX8_aliveBy wsX8_aliveBy ({ frames := 1, cells := 0, slots := 0, locals := 22 }) [.ref a0, .int a1, .int a2] dC dI sz [(a0, .inr (8, [Value.int a0_0, a0g_1, a0g_2, a0g_3, a0g_4, a0g_5, a0g_6, a0g_7, a0g_8, a0g_9, a0g_10, Value.int a0_11, a0g_12, a0g_13, Value.int a0_14, a0g_15, a0g_16, a0g_17, a0g_18, a0g_19, a0g_20, a0g_21, a0g_22, a0g_23, a0g_24, a0g_25, a0g_26, a0g_27, a0g_28, a0g_29, a0g_30, a0g_31, a0g_32, a0g_33, a0g_34, a0g_35, a0g_36, a0g_37, a0g_38, a0g_39]))] [] (fun A _ => True) (fun A => va_Qi (fun (r : Int32) (_ : Unit) => r = (-1)) (fun (_ : Unit) (t : State) => ∃ na0_0 : Int32, ∃ na0_11 : Int32, ax_B dC dI A [(a0, .inr (8, [Value.int na0_0, a0g_1, a0g_2, a0g_3, a0g_4, a0g_5, a0g_6, a0g_7, a0g_8, a0g_9, a0g_10, Value.int na0_11, a0g_12, a0g_13, Value.int a0_14, a0g_15, a0g_16, a0g_17, a0g_18, a0g_19, a0g_20, a0g_21, a0g_22, a0g_23, a0g_24, a0g_25, a0g_26, a0g_27, a0g_28, a0g_29, a0g_30, a0g_31, a0g_32, a0g_33, a0g_34, a0g_35, a0g_36, a0g_37, a0g_38, a0g_39]))] [] t) A) := by
  refine zh (cc := cX8_aliveBy) (maxL := 4) (ret := (some .int)) zn_RX8 rfl (Nat.le_of_ble_eq_true rfl) (fun p e s m below meth c A ls hx hb hml hr hts (hown : s.vm.findClass RX8 = some m.cls) hlocks hA hS hP hK hD hE (hl : lv_has ls 4 [(0, .ref a0), (1, .int a1), (2, .int a2)]) => ?_)
  refine lv_aload_n hx hb dX8_aliveBy_0 rfl (lv_at hl 0 rfl) ?_
  refine va_callv (va_runV (As := []) (rest := []) ⟨hx, hb, hml, hown, hts⟩ (c_X8_good l dC dI s.heap.size a0 a0_0 a0g_1 a0g_2 a0g_3 a0g_4 a0g_5 a0g_6 a0g_7 a0g_8 a0g_9 a0g_10 a0g_12 a0g_13 (Value.int a0_14) a0g_15 a0g_16 a0g_17 a0g_18 a0g_19 a0g_20 a0g_21 a0g_22 a0g_23 a0g_24 a0g_25 a0g_26 a0g_27 a0g_28 a0g_29 a0g_30 a0g_31 a0g_32 a0g_33 a0g_34 a0g_35 a0g_36 a0g_37 a0g_38 a0g_39 a0_11 ) (cwV 0 hts gX8_aliveBy_X8_good rfl rfl rfl zd_X8_good ⟨Nat.le_of_ble_eq_true rfl, Nat.le_of_ble_eq_true rfl⟩) ⟨ax_blind (fun _ _ _ _ _ => trivial), zr_8 (zp_K hK) (zp_P1 hP) (q0 := 0) rfl, ax_pre (zp_P1 hP) (zp_K hK) (zp_D1 hD) (fun _ _ => trivial)⟩ rfl rfl hl.1 rfl (lv_room (Nat.le_of_ble_eq_true rfl)) dX8_aliveBy_1 ⟨Nat.le_of_ble_eq_true rfl, Nat.le_of_ble_eq_true rfl⟩) hS (fun q _ h => zp_F1 hD hS hA q h) (zp_F1 hD hS hA) (fun u t H locs ht hvm hw => zx_2 (fun v1na0_0 v1na0_11 hB hz1 hk1 hS1 => zo1 hB ht hP hD hk1 (zp_F1 hD hS hA) hS1 (fun hP hK1 hD hS => ?_)))
  refine lv_aload_n hx hb dX8_aliveBy_4 rfl (lv_at hl 0 rfl) ?_
  refine lv_aload_n hx hb dX8_aliveBy_5 rfl (lv_at hl 0 rfl) ?_
  refine lv_iload_n hx hb dX8_aliveBy_6 rfl (lv_at hl 1 rfl) ?_
  refine va_calli (va_runV (As := [.int a1]) (rest := [.ref a0]) ⟨hx, hb, hml, hown, hts⟩ (c0_X8_isFigure l dC dI H.size a0 a1 (Value.int v1na0_0) a0g_1 a0g_2 a0g_3 a0g_4 a0g_5 a0g_6 a0g_7 a0g_8 a0g_9 a0g_10 (Value.int v1na0_11) a0g_12 a0g_13 a0g_15 a0g_16 a0g_17 a0g_18 a0g_19 a0g_20 a0g_21 a0g_22 a0g_23 a0g_24 a0g_25 a0g_26 a0g_27 a0g_28 a0g_29 a0g_30 a0g_31 a0g_32 a0g_33 a0g_34 a0g_35 a0g_36 a0g_37 a0g_38 a0g_39 a0_14 ba0_14_l ba0_14_u) (cwV 1 hts gX8_aliveBy_X8_isFigure rfl rfl rfl zd_X8_isFigure ⟨Nat.le_of_ble_eq_true rfl, Nat.le_of_ble_eq_true rfl⟩) ⟨ax_blind (fun _ _ _ _ _ => trivial), zr_8 (zp_K hK) (zp_P1 hP) (q0 := 0) rfl, ax_pre (zp_P1 hP) (zp_K hK) (zp_D1 hD) (fun _ _ => trivial)⟩ rfl rfl hl.1 rfl (lv_room (Nat.le_of_ble_eq_true rfl)) dX8_aliveBy_7 ⟨Nat.le_of_ble_eq_true rfl, Nat.le_of_ble_eq_true rfl⟩) hS (fun q _ h => zp_F1 hD hS hA q h) (zp_F1 hD hS hA) (fun r7 u t H locs ht hvm hw hB hz1 hk1 hS1 => zo1 hB ht hP hD hk1 (zp_F1 hD hS hA) hS1 (fun hP hK1 hD hS => ?_))
  have hw : r7 = 0 := hw
  have hw := hw.symm
  subst hw
  refine lv_iload_n hx hb dX8_aliveBy_10 rfl (lv_at hl 2 rfl) ?_
  refine lv_iconst (v := 0) hx hb dX8_aliveBy_11 zk_iconst_0 ?_
  refine lv_sipush (v := 999) hx hb dX8_aliveBy_12 zk_sipush_999 ?_
  refine va_calli (va_runS (As := [.int a2, .int 0, .int 999]) (rest := [.int 0, .ref a0]) ⟨hx, hb, hml, hown, hts⟩ (c_X8_in l dC dI H.size a2 0 999 ) (va_cwS 3 hts gX8_aliveBy_X8_in rfl rfl rfl zd_X8_in.2 ⟨Nat.le_of_ble_eq_true rfl, Nat.le_of_ble_eq_true rfl⟩) ⟨ax_blind (fun _ _ _ _ _ => trivial), ax_pre (zp_P0 hP) (zp_K hK) (zp_D0 hD) (fun _ _ => trivial)⟩ rfl rfl hl.1 rfl (lv_room (Nat.le_of_ble_eq_true rfl)) dX8_aliveBy_15 ⟨Nat.le_of_ble_eq_true rfl, Nat.le_of_ble_eq_true rfl⟩) hS (fun q _ h => zp_F0 hD hS hA q h) (zp_F0 hD hS hA) (fun r15 u t H locs ht hvm hw hB hz1 hk1 hS1 => zo0 hB ht hP hD hk1 (zp_F0 hD hS hA) hS1 (fun hP hK1 hD hS => ?_))
  rcases hw with hw | hw
  · obtain ⟨hw, h15⟩ := hw
    subst hw
    have l15k0_a2 : (0 : Int) ≤ a2.toInt := Int.le_trans zq5 h15.1
    have u15k0_a2 : a2.toInt ≤ (999 : Int) := Int.le_trans h15.2 zq79
    refine va_calli (va_runV (As := [.int 0, .int 1]) (rest := []) ⟨hx, hb, hml, hown, hts⟩ (c_X8_whyB l dC dI H.size a0 0 1 (Value.int v1na0_0) a0g_1 a0g_2 a0g_3 a0g_4 a0g_5 a0g_6 a0g_7 a0g_8 a0g_9 a0g_10 (Value.int v1na0_11) a0g_12 a0g_13 (Value.int a0_14) a0g_15 a0g_16 a0g_17 a0g_18 a0g_19 a0g_20 a0g_21 a0g_22 a0g_23 a0g_24 a0g_25 a0g_26 a0g_27 a0g_28 a0g_29 a0g_30 a0g_31 a0g_32 a0g_33 a0g_34 a0g_35 a0g_36 a0g_37 a0g_38 a0g_39 zq5 (Int.le_trans zq6 zq4) (Int.le_trans zq4 zq1) zq0) (cwV 2 hts gX8_aliveBy_X8_why rfl rfl rfl zd_X8_why ⟨Nat.le_of_ble_eq_true rfl, Nat.le_of_ble_eq_true rfl⟩) ⟨ax_blind (fun _ _ _ _ _ => trivial), zr_8 (zp_K hK) (zp_P1 hP) (q0 := 0) rfl, ax_pre (zp_P1 hP) (zp_K hK) (zp_D1 hD) (fun _ _ => trivial)⟩ rfl rfl hl.1 rfl (lv_room (Nat.le_of_ble_eq_true rfl)) dX8_aliveBy_18 ⟨Nat.le_of_ble_eq_true rfl, Nat.le_of_ble_eq_true rfl⟩) hS (fun q _ h => zp_F1 hD hS hA q h) (zp_F1 hD hS hA) (fun r18 u t H locs ht hvm hw hB hz1 hk1 hS1 => zo1 hB ht hP hD hk1 (zp_F1 hD hS hA) hS1 (fun hP hK1 hD hS => ?_))
    rcases hw with hw | hw | hw
    · obtain ⟨hw, h18_0, h18_1, h18_2, h18_3⟩ := hw
      subst hw
      exact absurd h18_0 (by decide)
    · obtain ⟨hw, h18_0, h18_1⟩ := hw
      subst hw
      refine lv_istore_n (lv' := [(3, .int 1), (0, .ref a0), (1, .int a1), (2, .int a2)]) hx hb dX8_aliveBy_21 rfl hl (by decide) rfl (fun ls hl => ?_)
      refine lv_iload_n hx hb dX8_aliveBy_22 rfl (lv_at hl 0 rfl) ?_
      refine lv_if_eq (tgt := 32) hx hb dX8_aliveBy_23 (by decide) (fun c23 => absurd c23 (by decide +kernel)) (fun _ => ?_)
      refine lv_aload_n hx hb dX8_aliveBy_26 rfl (lv_at hl 1 rfl) ?_
      refine lv_iload_n hx hb dX8_aliveBy_27 rfl (lv_at hl 0 rfl) ?_
      refine va_calli (va_runV (As := [.int 1]) (rest := []) ⟨hx, hb, hml, hown, hts⟩ (c_X8_no l dC dI H.size a0 1 (Value.int v1na0_0) a0g_1 a0g_2 a0g_3 a0g_4 a0g_5 a0g_6 a0g_7 a0g_8 a0g_9 a0g_10 a0g_12 a0g_13 (Value.int a0_14) a0g_15 a0g_16 a0g_17 a0g_18 a0g_19 a0g_20 a0g_21 a0g_22 a0g_23 a0g_24 a0g_25 a0g_26 a0g_27 a0g_28 a0g_29 a0g_30 a0g_31 a0g_32 a0g_33 a0g_34 a0g_35 a0g_36 a0g_37 a0g_38 a0g_39 v1na0_11 ) (cwV 1 hts gX8_aliveBy_X8_no rfl rfl rfl zd_X8_no ⟨Nat.le_of_ble_eq_true rfl, Nat.le_of_ble_eq_true rfl⟩) ⟨ax_blind (fun _ _ _ _ _ => trivial), zr_8 (zp_K hK) (zp_P1 hP) (q0 := 0) rfl, ax_pre (zp_P1 hP) (zp_K hK) (zp_D1 hD) (fun _ _ => trivial)⟩ rfl rfl hl.1 rfl (lv_room (Nat.le_of_ble_eq_true rfl)) dX8_aliveBy_28 ⟨Nat.le_of_ble_eq_true rfl, Nat.le_of_ble_eq_true rfl⟩) hS (fun q _ h => zp_F1 hD hS hA q h) (zp_F1 hD hS hA) (fun r28 u t H locs ht hvm hw => zx_1 (fun v28na0_11 hB hz1 hk1 hS1 => zo1 hB ht hP hD hk1 (zp_F1 hD hS hA) hS1 (fun hP hK1 hD hS => ?_)))
      have hw : r28 = (-1) := hw
      have hw := hw.symm
      subst hw
      exact W.iret (v := (-1)) hx hb hr (fun t ht hW => ⟨⟨(-1), (), rfl, rfl, v1na0_0, v28na0_11, by rw [ht]; exact hP, va_K.moved hW.alike hK, hD⟩, hS.F ht⟩) hS.2.2 dX8_aliveBy_31
    · obtain ⟨hw, h18_0, h18_1, h18_2, h18_3⟩ := hw
      subst hw
      exact absurd h18_0 (by decide)
  · obtain ⟨hw, h15⟩ := hw
    subst hw
    refine va_calli (va_runV (As := [.int 0, .int 0]) (rest := []) ⟨hx, hb, hml, hown, hts⟩ (c_X8_whyB l dC dI H.size a0 0 0 (Value.int v1na0_0) a0g_1 a0g_2 a0g_3 a0g_4 a0g_5 a0g_6 a0g_7 a0g_8 a0g_9 a0g_10 (Value.int v1na0_11) a0g_12 a0g_13 (Value.int a0_14) a0g_15 a0g_16 a0g_17 a0g_18 a0g_19 a0g_20 a0g_21 a0g_22 a0g_23 a0g_24 a0g_25 a0g_26 a0g_27 a0g_28 a0g_29 a0g_30 a0g_31 a0g_32 a0g_33 a0g_34 a0g_35 a0g_36 a0g_37 a0g_38 a0g_39 zq5 (Int.le_trans zq6 zq4) zq5 (Int.le_trans zq6 zq4)) (cwV 2 hts gX8_aliveBy_X8_why rfl rfl rfl zd_X8_why ⟨Nat.le_of_ble_eq_true rfl, Nat.le_of_ble_eq_true rfl⟩) ⟨ax_blind (fun _ _ _ _ _ => trivial), zr_8 (zp_K hK) (zp_P1 hP) (q0 := 0) rfl, ax_pre (zp_P1 hP) (zp_K hK) (zp_D1 hD) (fun _ _ => trivial)⟩ rfl rfl hl.1 rfl (lv_room (Nat.le_of_ble_eq_true rfl)) dX8_aliveBy_18 ⟨Nat.le_of_ble_eq_true rfl, Nat.le_of_ble_eq_true rfl⟩) hS (fun q _ h => zp_F1 hD hS hA q h) (zp_F1 hD hS hA) (fun r18 u t H locs ht hvm hw hB hz1 hk1 hS1 => zo1 hB ht hP hD hk1 (zp_F1 hD hS hA) hS1 (fun hP hK1 hD hS => ?_))
    rcases hw with hw | hw | hw
    · obtain ⟨hw, h18_0, h18_1, h18_2, h18_3⟩ := hw
      subst hw
      exact absurd h18_0 (by decide)
    · obtain ⟨hw, h18_0, h18_1⟩ := hw
      subst hw
      refine lv_istore_n (lv' := [(3, .int 1), (0, .ref a0), (1, .int a1), (2, .int a2)]) hx hb dX8_aliveBy_21 rfl hl (by decide) rfl (fun ls hl => ?_)
      refine lv_iload_n hx hb dX8_aliveBy_22 rfl (lv_at hl 0 rfl) ?_
      refine lv_if_eq (tgt := 32) hx hb dX8_aliveBy_23 (by decide) (fun c23 => absurd c23 (by decide +kernel)) (fun _ => ?_)
      refine lv_aload_n hx hb dX8_aliveBy_26 rfl (lv_at hl 1 rfl) ?_
      refine lv_iload_n hx hb dX8_aliveBy_27 rfl (lv_at hl 0 rfl) ?_
      refine va_calli (va_runV (As := [.int 1]) (rest := []) ⟨hx, hb, hml, hown, hts⟩ (c_X8_no l dC dI H.size a0 1 (Value.int v1na0_0) a0g_1 a0g_2 a0g_3 a0g_4 a0g_5 a0g_6 a0g_7 a0g_8 a0g_9 a0g_10 a0g_12 a0g_13 (Value.int a0_14) a0g_15 a0g_16 a0g_17 a0g_18 a0g_19 a0g_20 a0g_21 a0g_22 a0g_23 a0g_24 a0g_25 a0g_26 a0g_27 a0g_28 a0g_29 a0g_30 a0g_31 a0g_32 a0g_33 a0g_34 a0g_35 a0g_36 a0g_37 a0g_38 a0g_39 v1na0_11 ) (cwV 1 hts gX8_aliveBy_X8_no rfl rfl rfl zd_X8_no ⟨Nat.le_of_ble_eq_true rfl, Nat.le_of_ble_eq_true rfl⟩) ⟨ax_blind (fun _ _ _ _ _ => trivial), zr_8 (zp_K hK) (zp_P1 hP) (q0 := 0) rfl, ax_pre (zp_P1 hP) (zp_K hK) (zp_D1 hD) (fun _ _ => trivial)⟩ rfl rfl hl.1 rfl (lv_room (Nat.le_of_ble_eq_true rfl)) dX8_aliveBy_28 ⟨Nat.le_of_ble_eq_true rfl, Nat.le_of_ble_eq_true rfl⟩) hS (fun q _ h => zp_F1 hD hS hA q h) (zp_F1 hD hS hA) (fun r28 u t H locs ht hvm hw => zx_1 (fun v28na0_11 hB hz1 hk1 hS1 => zo1 hB ht hP hD hk1 (zp_F1 hD hS hA) hS1 (fun hP hK1 hD hS => ?_)))
      have hw : r28 = (-1) := hw
      have hw := hw.symm
      subst hw
      exact W.iret (v := (-1)) hx hb hr (fun t ht hW => ⟨⟨(-1), (), rfl, rfl, v1na0_0, v28na0_11, by rw [ht]; exact hP, va_K.moved hW.alike hK, hD⟩, hS.F ht⟩) hS.2.2 dX8_aliveBy_31
    · obtain ⟨hw, h18_0, h18_1, h18_2, h18_3⟩ := hw
      subst hw
      exact absurd h18_0 (by decide)

set_option maxHeartbeats 4000000 in
set_option maxRecDepth 100000 in
theorem c0_X8_look (l : Launch) (dC : Nat → ClassId) (dI : Nat → Nat → Nat) (sz : Nat) (a0 : Nat) (a0_0 : Int32) (a0g_1 a0g_2 a0g_3 a0g_4 a0g_5 a0g_6 a0g_7 a0g_8 a0g_9 a0g_10 a0g_12 a0g_13 a0g_15 a0g_16 a0g_17 a0g_18 a0g_19 a0g_20 a0g_21 a0g_22 a0g_23 a0g_24 a0g_25 a0g_26 a0g_27 a0g_28 a0g_29 a0g_30 a0g_31 a0g_32 a0g_33 a0g_34 a0g_35 a0g_36 a0g_37 a0g_38 a0g_39 : Value) (a0_11 : Int32) (a0_14 : Int32) (ba0_14_l : (0 : Int) ≤ a0_14.toInt) (ba0_14_u : a0_14.toInt ≤ (0 : Int)) : zm l yX8_look wsX8_look ({ frames := 1, cells := 0, slots := 0, locals := 21 }) [.ref a0] dC dI sz [(a0, .inr (8, [Value.int a0_0, a0g_1, a0g_2, a0g_3, a0g_4, a0g_5, a0g_6, a0g_7, a0g_8, a0g_9, a0g_10, Value.int a0_11, a0g_12, a0g_13, Value.int a0_14, a0g_15, a0g_16, a0g_17, a0g_18, a0g_19, a0g_20, a0g_21, a0g_22, a0g_23, a0g_24, a0g_25, a0g_26, a0g_27, a0g_28, a0g_29, a0g_30, a0g_31, a0g_32, a0g_33, a0g_34, a0g_35, a0g_36, a0g_37, a0g_38, a0g_39]))] [] (fun A _ => True) (fun A => va_Qi (fun (r : Int32) (_ : Unit) => r = (-1)) (fun (_ : Unit) (t : State) => ∃ na0_0 : Int32, ∃ na0_11 : Int32, ax_B dC dI A [(a0, .inr (8, [Value.int na0_0, a0g_1, a0g_2, a0g_3, a0g_4, a0g_5, a0g_6, a0g_7, a0g_8, a0g_9, a0g_10, Value.int na0_11, a0g_12, a0g_13, Value.int a0_14, a0g_15, a0g_16, a0g_17, a0g_18, a0g_19, a0g_20, a0g_21, a0g_22, a0g_23, a0g_24, a0g_25, a0g_26, a0g_27, a0g_28, a0g_29, a0g_30, a0g_31, a0g_32, a0g_33, a0g_34, a0g_35, a0g_36, a0g_37, a0g_38, a0g_39]))] [] t) A) := by
  refine zh (cc := cX8_look) (maxL := 1) (ret := (some .int)) zn_RX8 rfl (Nat.le_of_ble_eq_true rfl) (fun p e s m below meth c A ls hx hb hml hr hts (hown : s.vm.findClass RX8 = some m.cls) hlocks hA hS hP hK hD hE (hl : lv_has ls 1 [(0, .ref a0)]) => ?_)
  refine lv_aload_n hx hb dX8_look_0 rfl (lv_at hl 0 rfl) ?_
  refine va_callv (va_runV (As := []) (rest := []) ⟨hx, hb, hml, hown, hts⟩ (c_X8_good l dC dI s.heap.size a0 a0_0 a0g_1 a0g_2 a0g_3 a0g_4 a0g_5 a0g_6 a0g_7 a0g_8 a0g_9 a0g_10 a0g_12 a0g_13 (Value.int a0_14) a0g_15 a0g_16 a0g_17 a0g_18 a0g_19 a0g_20 a0g_21 a0g_22 a0g_23 a0g_24 a0g_25 a0g_26 a0g_27 a0g_28 a0g_29 a0g_30 a0g_31 a0g_32 a0g_33 a0g_34 a0g_35 a0g_36 a0g_37 a0g_38 a0g_39 a0_11 ) (cwV 0 hts gX8_look_X8_good rfl rfl rfl zd_X8_good ⟨Nat.le_of_ble_eq_true rfl, Nat.le_of_ble_eq_true rfl⟩) ⟨ax_blind (fun _ _ _ _ _ => trivial), zr_8 (zp_K hK) (zp_P1 hP) (q0 := 0) rfl, ax_pre (zp_P1 hP) (zp_K hK) (zp_D1 hD) (fun _ _ => trivial)⟩ rfl rfl hl.1 rfl (lv_room (Nat.le_of_ble_eq_true rfl)) dX8_look_1 ⟨Nat.le_of_ble_eq_true rfl, Nat.le_of_ble_eq_true rfl⟩) hS (fun q _ h => zp_F1 hD hS hA q h) (zp_F1 hD hS hA) (fun u t H locs ht hvm hw => zx_2 (fun v1na0_0 v1na0_11 hB hz1 hk1 hS1 => zo1 hB ht hP hD hk1 (zp_F1 hD hS hA) hS1 (fun hP hK1 hD hS => ?_)))
  refine lv_aload_n hx hb dX8_look_4 rfl (lv_at hl 0 rfl) ?_
  refine va_get (D := (dC, dI)) (ci := 8) (v := .int a0_14) (C := RX8) (T := TX8) (N := 40) hx hb hts zi_X8_look_8 hown hK hP 0 rfl rfl 14 (by decide) (hts (.fieldLink RX8 173 "WaxTurnsModel" "hasGallery" "Z") (zm_X8_look_r1 (List.mem_of_getElem? (i := 0) rfl))) (fun _ h9 => h9) rfl dX8_look_5 ?_
  refine lv_if_eq (tgt := 18) hx hb dX8_look_8 (by decide) (fun c8 => ?_) (fun c8 => ?_)
  · have gc8 := ai_eq c8
    have u8t_a0_14 : a0_14.toInt ≤ (0 : Int) := ba0_14_u
    have l8t_a0_14 : (0 : Int) ≤ a0_14.toInt := ba0_14_l
    refine lv_aload_n hx hb dX8_look_18 rfl (lv_at hl 0 rfl) ?_
    refine lv_iconst (v := 1) hx hb dX8_look_19 zk_iconst_1 ?_
    refine va_calli (va_runV (As := [.int 1]) (rest := []) ⟨hx, hb, hml, hown, hts⟩ (c_X8_no l dC dI H.size a0 1 (Value.int v1na0_0) a0g_1 a0g_2 a0g_3 a0g_4 a0g_5 a0g_6 a0g_7 a0g_8 a0g_9 a0g_10 a0g_12 a0g_13 (Value.int a0_14) a0g_15 a0g_16 a0g_17 a0g_18 a0g_19 a0g_20 a0g_21 a0g_22 a0g_23 a0g_24 a0g_25 a0g_26 a0g_27 a0g_28 a0g_29 a0g_30 a0g_31 a0g_32 a0g_33 a0g_34 a0g_35 a0g_36 a0g_37 a0g_38 a0g_39 v1na0_11 ) (cwV 1 hts gX8_look_X8_no rfl rfl rfl zd_X8_no ⟨Nat.le_of_ble_eq_true rfl, Nat.le_of_ble_eq_true rfl⟩) ⟨ax_blind (fun _ _ _ _ _ => trivial), zr_8 (zp_K hK) (zp_P1 hP) (q0 := 0) rfl, ax_pre (zp_P1 hP) (zp_K hK) (zp_D1 hD) (fun _ _ => trivial)⟩ rfl rfl hl.1 rfl (lv_room (Nat.le_of_ble_eq_true rfl)) dX8_look_20 ⟨Nat.le_of_ble_eq_true rfl, Nat.le_of_ble_eq_true rfl⟩) hS (fun q _ h => zp_F1 hD hS hA q h) (zp_F1 hD hS hA) (fun r20 u t H locs ht hvm hw => zx_1 (fun v20na0_11 hB hz1 hk1 hS1 => zo1 hB ht hP hD hk1 (zp_F1 hD hS hA) hS1 (fun hP hK1 hD hS => ?_)))
    have hw : r20 = (-1) := hw
    have hw := hw.symm
    subst hw
    exact W.iret (v := (-1)) hx hb hr (fun t ht hW => ⟨⟨(-1), (), rfl, rfl, v1na0_0, v20na0_11, by rw [ht]; exact hP, va_K.moved hW.alike hK, hD⟩, hS.F ht⟩) hS.2.2 dX8_look_23
  · have gc8 := ai_ne c8
    have l8f_a0_14 : (1 : Int) ≤ a0_14.toInt := (by first | exact zg_l ba0_14_l gc8 (by decide) (by decide) | (have h1 := ba0_14_l; have h2 : (0 : Int32).toInt = 0 := (by decide); rw [h2] at gc8; omega))
    have u8f_a0_14 : a0_14.toInt ≤ (-1 : Int) := (by first | exact zg_u ba0_14_u gc8 (by decide) (by decide) | (have h1 := ba0_14_u; have h2 : (0 : Int32).toInt = 0 := (by decide); rw [h2] at gc8; omega))
    exact absurd (Int.le_trans l8f_a0_14 u8f_a0_14) (by decide)

set_option maxHeartbeats 4000000 in
set_option maxRecDepth 100000 in
theorem c0_X8_lookLeaves (l : Launch) (dC : Nat → ClassId) (dI : Nat → Nat → Nat) (sz : Nat) (a0 : Nat) (a0_0 : Int32) (a0g_1 a0g_2 a0g_3 a0g_4 a0g_5 a0g_6 a0g_7 a0g_8 a0g_9 a0g_10 a0g_12 a0g_13 a0g_15 a0g_16 a0g_17 a0g_18 a0g_19 a0g_20 a0g_21 a0g_22 a0g_23 a0g_24 a0g_25 a0g_26 a0g_27 a0g_28 a0g_29 a0g_30 a0g_31 a0g_32 a0g_33 a0g_34 a0g_35 a0g_36 a0g_37 a0g_38 a0g_39 : Value) (a0_11 : Int32) (a0_14 : Int32) (ba0_14_l : (0 : Int) ≤ a0_14.toInt) (ba0_14_u : a0_14.toInt ≤ (0 : Int)) : zm l yX8_lookLeaves wsX8_lookLeaves ({ frames := 1, cells := 0, slots := 0, locals := 21 }) [.ref a0] dC dI sz [(a0, .inr (8, [Value.int a0_0, a0g_1, a0g_2, a0g_3, a0g_4, a0g_5, a0g_6, a0g_7, a0g_8, a0g_9, a0g_10, Value.int a0_11, a0g_12, a0g_13, Value.int a0_14, a0g_15, a0g_16, a0g_17, a0g_18, a0g_19, a0g_20, a0g_21, a0g_22, a0g_23, a0g_24, a0g_25, a0g_26, a0g_27, a0g_28, a0g_29, a0g_30, a0g_31, a0g_32, a0g_33, a0g_34, a0g_35, a0g_36, a0g_37, a0g_38, a0g_39]))] [] (fun A _ => True) (fun A => va_Qi (fun (r : Int32) (_ : Unit) => r = (-1)) (fun (_ : Unit) (t : State) => ∃ na0_0 : Int32, ∃ na0_11 : Int32, ax_B dC dI A [(a0, .inr (8, [Value.int na0_0, a0g_1, a0g_2, a0g_3, a0g_4, a0g_5, a0g_6, a0g_7, a0g_8, a0g_9, a0g_10, Value.int na0_11, a0g_12, a0g_13, Value.int a0_14, a0g_15, a0g_16, a0g_17, a0g_18, a0g_19, a0g_20, a0g_21, a0g_22, a0g_23, a0g_24, a0g_25, a0g_26, a0g_27, a0g_28, a0g_29, a0g_30, a0g_31, a0g_32, a0g_33, a0g_34, a0g_35, a0g_36, a0g_37, a0g_38, a0g_39]))] [] t) A) := by
  refine zh (cc := cX8_lookLeaves) (maxL := 1) (ret := (some .int)) zn_RX8 rfl (Nat.le_of_ble_eq_true rfl) (fun p e s m below meth c A ls hx hb hml hr hts (hown : s.vm.findClass RX8 = some m.cls) hlocks hA hS hP hK hD hE (hl : lv_has ls 1 [(0, .ref a0)]) => ?_)
  refine lv_aload_n hx hb dX8_lookLeaves_0 rfl (lv_at hl 0 rfl) ?_
  refine va_callv (va_runV (As := []) (rest := []) ⟨hx, hb, hml, hown, hts⟩ (c_X8_good l dC dI s.heap.size a0 a0_0 a0g_1 a0g_2 a0g_3 a0g_4 a0g_5 a0g_6 a0g_7 a0g_8 a0g_9 a0g_10 a0g_12 a0g_13 (Value.int a0_14) a0g_15 a0g_16 a0g_17 a0g_18 a0g_19 a0g_20 a0g_21 a0g_22 a0g_23 a0g_24 a0g_25 a0g_26 a0g_27 a0g_28 a0g_29 a0g_30 a0g_31 a0g_32 a0g_33 a0g_34 a0g_35 a0g_36 a0g_37 a0g_38 a0g_39 a0_11 ) (cwV 0 hts gX8_lookLeaves_X8_good rfl rfl rfl zd_X8_good ⟨Nat.le_of_ble_eq_true rfl, Nat.le_of_ble_eq_true rfl⟩) ⟨ax_blind (fun _ _ _ _ _ => trivial), zr_8 (zp_K hK) (zp_P1 hP) (q0 := 0) rfl, ax_pre (zp_P1 hP) (zp_K hK) (zp_D1 hD) (fun _ _ => trivial)⟩ rfl rfl hl.1 rfl (lv_room (Nat.le_of_ble_eq_true rfl)) dX8_lookLeaves_1 ⟨Nat.le_of_ble_eq_true rfl, Nat.le_of_ble_eq_true rfl⟩) hS (fun q _ h => zp_F1 hD hS hA q h) (zp_F1 hD hS hA) (fun u t H locs ht hvm hw => zx_2 (fun v1na0_0 v1na0_11 hB hz1 hk1 hS1 => zo1 hB ht hP hD hk1 (zp_F1 hD hS hA) hS1 (fun hP hK1 hD hS => ?_)))
  refine lv_aload_n hx hb dX8_lookLeaves_4 rfl (lv_at hl 0 rfl) ?_
  refine va_get (D := (dC, dI)) (ci := 8) (v := .int a0_14) (C := RX8) (T := TX8) (N := 40) hx hb hts zi_X8_lookLeaves_8 hown hK hP 0 rfl rfl 14 (by decide) (hts (.fieldLink RX8 173 "WaxTurnsModel" "hasGallery" "Z") (zm_X8_lookLeaves_r1 (List.mem_of_getElem? (i := 0) rfl))) (fun _ h9 => h9) rfl dX8_lookLeaves_5 ?_
  refine lv_if_ne (tgt := 17) hx hb dX8_lookLeaves_8 (by decide) (fun c8 => ?_) (fun c8 => ?_)
  · have gc8 := ai_ne c8
    have l8t_a0_14 : (1 : Int) ≤ a0_14.toInt := (by first | exact zg_l ba0_14_l gc8 (by decide) (by decide) | (have h1 := ba0_14_l; have h2 : (0 : Int32).toInt = 0 := (by decide); rw [h2] at gc8; omega))
    have u8t_a0_14 : a0_14.toInt ≤ (-1 : Int) := (by first | exact zg_u ba0_14_u gc8 (by decide) (by decide) | (have h1 := ba0_14_u; have h2 : (0 : Int32).toInt = 0 := (by decide); rw [h2] at gc8; omega))
    exact absurd (Int.le_trans l8t_a0_14 u8t_a0_14) (by decide)
  · have gc8 := ai_eq c8
    have u8f_a0_14 : a0_14.toInt ≤ (0 : Int) := ba0_14_u
    have l8f_a0_14 : (0 : Int) ≤ a0_14.toInt := ba0_14_l
    refine lv_aload_n hx hb dX8_lookLeaves_11 rfl (lv_at hl 0 rfl) ?_
    refine lv_iconst (v := 1) hx hb dX8_lookLeaves_12 zk_iconst_1 ?_
    refine va_calli (va_runV (As := [.int 1]) (rest := []) ⟨hx, hb, hml, hown, hts⟩ (c_X8_no l dC dI H.size a0 1 (Value.int v1na0_0) a0g_1 a0g_2 a0g_3 a0g_4 a0g_5 a0g_6 a0g_7 a0g_8 a0g_9 a0g_10 a0g_12 a0g_13 (Value.int a0_14) a0g_15 a0g_16 a0g_17 a0g_18 a0g_19 a0g_20 a0g_21 a0g_22 a0g_23 a0g_24 a0g_25 a0g_26 a0g_27 a0g_28 a0g_29 a0g_30 a0g_31 a0g_32 a0g_33 a0g_34 a0g_35 a0g_36 a0g_37 a0g_38 a0g_39 v1na0_11 ) (cwV 1 hts gX8_lookLeaves_X8_no rfl rfl rfl zd_X8_no ⟨Nat.le_of_ble_eq_true rfl, Nat.le_of_ble_eq_true rfl⟩) ⟨ax_blind (fun _ _ _ _ _ => trivial), zr_8 (zp_K hK) (zp_P1 hP) (q0 := 0) rfl, ax_pre (zp_P1 hP) (zp_K hK) (zp_D1 hD) (fun _ _ => trivial)⟩ rfl rfl hl.1 rfl (lv_room (Nat.le_of_ble_eq_true rfl)) dX8_lookLeaves_13 ⟨Nat.le_of_ble_eq_true rfl, Nat.le_of_ble_eq_true rfl⟩) hS (fun q _ h => zp_F1 hD hS hA q h) (zp_F1 hD hS hA) (fun r13 u t H locs ht hvm hw => zx_1 (fun v13na0_11 hB hz1 hk1 hS1 => zo1 hB ht hP hD hk1 (zp_F1 hD hS hA) hS1 (fun hP hK1 hD hS => ?_)))
    have hw : r13 = (-1) := hw
    have hw := hw.symm
    subst hw
    exact W.iret (v := (-1)) hx hb hr (fun t ht hW => ⟨⟨(-1), (), rfl, rfl, v1na0_0, v13na0_11, by rw [ht]; exact hP, va_K.moved hW.alike hK, hD⟩, hS.F ht⟩) hS.2.2 dX8_lookLeaves_16

set_option maxHeartbeats 4000000 in
set_option maxRecDepth 100000 in
theorem c0_X8_lawsLike (l : Launch) (dC : Nat → ClassId) (dI : Nat → Nat → Nat) (sz : Nat) (a0 : Nat) (a0_0 : Int32) (a0g_1 a0g_2 a0g_3 a0g_4 a0g_5 a0g_6 a0g_7 a0g_8 a0g_9 a0g_10 a0g_12 a0g_13 a0g_15 a0g_16 a0g_17 a0g_18 a0g_19 a0g_20 a0g_21 a0g_22 a0g_23 a0g_24 a0g_25 a0g_26 a0g_27 a0g_28 a0g_29 a0g_30 a0g_31 a0g_32 a0g_33 a0g_34 a0g_35 a0g_36 a0g_37 a0g_38 a0g_39 : Value) (a0_11 : Int32) (a0_14 : Int32) (ba0_14_l : (0 : Int) ≤ a0_14.toInt) (ba0_14_u : a0_14.toInt ≤ (0 : Int)) : zm l yX8_lawsLike wsX8_lawsLike ({ frames := 1, cells := 0, slots := 0, locals := 21 }) [.ref a0] dC dI sz [(a0, .inr (8, [Value.int a0_0, a0g_1, a0g_2, a0g_3, a0g_4, a0g_5, a0g_6, a0g_7, a0g_8, a0g_9, a0g_10, Value.int a0_11, a0g_12, a0g_13, Value.int a0_14, a0g_15, a0g_16, a0g_17, a0g_18, a0g_19, a0g_20, a0g_21, a0g_22, a0g_23, a0g_24, a0g_25, a0g_26, a0g_27, a0g_28, a0g_29, a0g_30, a0g_31, a0g_32, a0g_33, a0g_34, a0g_35, a0g_36, a0g_37, a0g_38, a0g_39]))] [] (fun A _ => True) (fun A => va_Qi (fun (r : Int32) (_ : Unit) => r = (-1)) (fun (_ : Unit) (t : State) => ∃ na0_0 : Int32, ∃ na0_11 : Int32, ax_B dC dI A [(a0, .inr (8, [Value.int na0_0, a0g_1, a0g_2, a0g_3, a0g_4, a0g_5, a0g_6, a0g_7, a0g_8, a0g_9, a0g_10, Value.int na0_11, a0g_12, a0g_13, Value.int a0_14, a0g_15, a0g_16, a0g_17, a0g_18, a0g_19, a0g_20, a0g_21, a0g_22, a0g_23, a0g_24, a0g_25, a0g_26, a0g_27, a0g_28, a0g_29, a0g_30, a0g_31, a0g_32, a0g_33, a0g_34, a0g_35, a0g_36, a0g_37, a0g_38, a0g_39]))] [] t) A) := by
  refine zh (cc := cX8_lawsLike) (maxL := 5) (ret := (some .int)) zn_RX8 rfl (Nat.le_of_ble_eq_true rfl) (fun p e s m below meth c A ls hx hb hml hr hts (hown : s.vm.findClass RX8 = some m.cls) hlocks hA hS hP hK hD hE (hl : lv_has ls 5 [(0, .ref a0)]) => ?_)
  refine ai_open (fun K hK0 => ?_)
  refine (hK0 _ _ _).mpr ?_
  refine lv_aload_n hx hb dX8_lawsLike_0 rfl (lv_at hl 0 rfl) ?_
  refine va_callv (va_runV (As := []) (rest := []) ⟨hx, hb, hml, hown, hts⟩ (c_X8_good l dC dI s.heap.size a0 a0_0 a0g_1 a0g_2 a0g_3 a0g_4 a0g_5 a0g_6 a0g_7 a0g_8 a0g_9 a0g_10 a0g_12 a0g_13 (Value.int a0_14) a0g_15 a0g_16 a0g_17 a0g_18 a0g_19 a0g_20 a0g_21 a0g_22 a0g_23 a0g_24 a0g_25 a0g_26 a0g_27 a0g_28 a0g_29 a0g_30 a0g_31 a0g_32 a0g_33 a0g_34 a0g_35 a0g_36 a0g_37 a0g_38 a0g_39 a0_11 ) (cwV 0 hts gX8_lawsLike_X8_good rfl rfl rfl zd_X8_good ⟨Nat.le_of_ble_eq_true rfl, Nat.le_of_ble_eq_true rfl⟩) ⟨ax_blind (fun _ _ _ _ _ => trivial), zr_8 (zp_K hK) (zp_P1 hP) (q0 := 0) rfl, ax_pre (zp_P1 hP) (zp_K hK) (zp_D1 hD) (fun _ _ => trivial)⟩ rfl rfl hl.1 rfl (lv_room (Nat.le_of_ble_eq_true rfl)) dX8_lawsLike_1 ⟨Nat.le_of_ble_eq_true rfl, Nat.le_of_ble_eq_true rfl⟩) hS (fun q _ h => zp_F1 hD hS hA q h) (zp_F1 hD hS hA) (fun u t H locs ht hvm hw => zx_2 (fun v1na0_0 v1na0_11 hB hz1 hk1 hS1 => zo1 hB ht hP hD hk1 (zp_F1 hD hS hA) hS1 (fun hP hK1 hD hS => ?_)))
  refine lv_aload_n hx hb dX8_lawsLike_4 rfl (lv_at hl 0 rfl) ?_
  refine va_get (D := (dC, dI)) (ci := 8) (v := .int a0_14) (C := RX8) (T := TX8) (N := 40) hx hb hts zi_X8_lawsLike_8 hown hK hP 0 rfl rfl 14 (by decide) (hts (.fieldLink RX8 173 "WaxTurnsModel" "hasGallery" "Z") (zm_X8_lawsLike_r1 (List.mem_of_getElem? (i := 0) rfl))) (fun _ h9 => h9) rfl dX8_lawsLike_5 ?_
  refine lv_if_ne (tgt := 17) hx hb dX8_lawsLike_8 (by decide) (fun c8 => ?_) (fun c8 => ?_)
  · have gc8 := ai_ne c8
    have l8t_a0_14 : (1 : Int) ≤ a0_14.toInt := (by first | exact zg_l ba0_14_l gc8 (by decide) (by decide) | (have h1 := ba0_14_l; have h2 : (0 : Int32).toInt = 0 := (by decide); rw [h2] at gc8; omega))
    have u8t_a0_14 : a0_14.toInt ≤ (-1 : Int) := (by first | exact zg_u ba0_14_u gc8 (by decide) (by decide) | (have h1 := ba0_14_u; have h2 : (0 : Int32).toInt = 0 := (by decide); rw [h2] at gc8; omega))
    exact absurd (Int.le_trans l8t_a0_14 u8t_a0_14) (by decide)
  · have gc8 := ai_eq c8
    have u8f_a0_14 : a0_14.toInt ≤ (0 : Int) := ba0_14_u
    have l8f_a0_14 : (0 : Int) ≤ a0_14.toInt := ba0_14_l
    refine lv_aload_n hx hb dX8_lawsLike_11 rfl (lv_at hl 0 rfl) ?_
    refine lv_iconst (v := 1) hx hb dX8_lawsLike_12 zk_iconst_1 ?_
    refine va_calli (va_runV (As := [.int 1]) (rest := []) ⟨hx, hb, hml, hown, hts⟩ (c_X8_no l dC dI H.size a0 1 (Value.int v1na0_0) a0g_1 a0g_2 a0g_3 a0g_4 a0g_5 a0g_6 a0g_7 a0g_8 a0g_9 a0g_10 a0g_12 a0g_13 (Value.int a0_14) a0g_15 a0g_16 a0g_17 a0g_18 a0g_19 a0g_20 a0g_21 a0g_22 a0g_23 a0g_24 a0g_25 a0g_26 a0g_27 a0g_28 a0g_29 a0g_30 a0g_31 a0g_32 a0g_33 a0g_34 a0g_35 a0g_36 a0g_37 a0g_38 a0g_39 v1na0_11 ) (cwV 1 hts gX8_lawsLike_X8_no rfl rfl rfl zd_X8_no ⟨Nat.le_of_ble_eq_true rfl, Nat.le_of_ble_eq_true rfl⟩) ⟨ax_blind (fun _ _ _ _ _ => trivial), zr_8 (zp_K hK) (zp_P1 hP) (q0 := 0) rfl, ax_pre (zp_P1 hP) (zp_K hK) (zp_D1 hD) (fun _ _ => trivial)⟩ rfl rfl hl.1 rfl (lv_room (Nat.le_of_ble_eq_true rfl)) dX8_lawsLike_13 ⟨Nat.le_of_ble_eq_true rfl, Nat.le_of_ble_eq_true rfl⟩) hS (fun q _ h => zp_F1 hD hS hA q h) (zp_F1 hD hS hA) (fun r13 u t H locs ht hvm hw => zx_1 (fun v13na0_11 hB hz1 hk1 hS1 => zo1 hB ht hP hD hk1 (zp_F1 hD hS hA) hS1 (fun hP hK1 hD hS => ?_)))
    have hw : r13 = (-1) := hw
    have hw := hw.symm
    subst hw
    exact W.iret (v := (-1)) hx hb hr (fun t ht hW => ⟨⟨(-1), (), rfl, rfl, v1na0_0, v13na0_11, by rw [ht]; exact hP, va_K.moved hW.alike hK, hD⟩, hS.F ht⟩) hS.2.2 dX8_lawsLike_16
end P280_04_safe
section P280_05_safe
set_option maxHeartbeats 4000000 in
set_option maxRecDepth 100000 in
theorem c0_X8_lawFor (l : Launch) (dC : Nat → ClassId) (dI : Nat → Nat → Nat) (sz : Nat) (a0 : Nat) (a1 : Int32) (a2 : Int32) (a0_0 : Int32) (a0g_1 a0g_2 a0g_3 a0g_4 a0g_5 a0g_6 a0g_7 a0g_8 a0g_9 a0g_10 a0g_12 a0g_13 a0g_15 a0g_16 a0g_17 a0g_18 a0g_19 a0g_20 a0g_21 a0g_22 a0g_23 a0g_24 a0g_25 a0g_26 a0g_27 a0g_28 a0g_29 a0g_30 a0g_31 a0g_32 a0g_33 a0g_34 a0g_35 a0g_36 a0g_37 a0g_38 a0g_39 : Value) (a0_11 : Int32) (a0_14 : Int32) (ba0_14_l : (0 : Int) ≤ a0_14.toInt) (ba0_14_u : a0_14.toInt ≤ (0 : Int)) : zm l yX8_lawFor wsX8_lawFor ({ frames := 1, cells := 0, slots := 0, locals := 22 }) [.ref a0, .int a1, .int a2] dC dI sz [(a0, .inr (8, [Value.int a0_0, a0g_1, a0g_2, a0g_3, a0g_4, a0g_5, a0g_6, a0g_7, a0g_8, a0g_9, a0g_10, Value.int a0_11, a0g_12, a0g_13, Value.int a0_14, a0g_15, a0g_16, a0g_17, a0g_18, a0g_19, a0g_20, a0g_21, a0g_22, a0g_23, a0g_24, a0g_25, a0g_26, a0g_27, a0g_28, a0g_29, a0g_30, a0g_31, a0g_32, a0g_33, a0g_34, a0g_35, a0g_36, a0g_37, a0g_38, a0g_39]))] [] (fun A _ => True) (fun A => va_Qi (fun (r : Int32) (_ : Unit) => r = (-1)) (fun (_ : Unit) (t : State) => ∃ na0_0 : Int32, ∃ na0_11 : Int32, ax_B dC dI A [(a0, .inr (8, [Value.int na0_0, a0g_1, a0g_2, a0g_3, a0g_4, a0g_5, a0g_6, a0g_7, a0g_8, a0g_9, a0g_10, Value.int na0_11, a0g_12, a0g_13, Value.int a0_14, a0g_15, a0g_16, a0g_17, a0g_18, a0g_19, a0g_20, a0g_21, a0g_22, a0g_23, a0g_24, a0g_25, a0g_26, a0g_27, a0g_28, a0g_29, a0g_30, a0g_31, a0g_32, a0g_33, a0g_34, a0g_35, a0g_36, a0g_37, a0g_38, a0g_39]))] [] t) A) := by
  refine zh (cc := cX8_lawFor) (maxL := 5) (ret := (some .int)) zn_RX8 rfl (Nat.le_of_ble_eq_true rfl) (fun p e s m below meth c A ls hx hb hml hr hts (hown : s.vm.findClass RX8 = some m.cls) hlocks hA hS hP hK hD hE (hl : lv_has ls 5 [(0, .ref a0), (1, .int a1), (2, .int a2)]) => ?_)
  refine ai_open (fun K hK0 => ?_)
  refine (hK0 _ _ _).mpr ?_
  refine lv_aload_n hx hb dX8_lawFor_0 rfl (lv_at hl 0 rfl) ?_
  refine va_callv (va_runV (As := []) (rest := []) ⟨hx, hb, hml, hown, hts⟩ (c_X8_good l dC dI s.heap.size a0 a0_0 a0g_1 a0g_2 a0g_3 a0g_4 a0g_5 a0g_6 a0g_7 a0g_8 a0g_9 a0g_10 a0g_12 a0g_13 (Value.int a0_14) a0g_15 a0g_16 a0g_17 a0g_18 a0g_19 a0g_20 a0g_21 a0g_22 a0g_23 a0g_24 a0g_25 a0g_26 a0g_27 a0g_28 a0g_29 a0g_30 a0g_31 a0g_32 a0g_33 a0g_34 a0g_35 a0g_36 a0g_37 a0g_38 a0g_39 a0_11 ) (cwV 0 hts gX8_lawFor_X8_good rfl rfl rfl zd_X8_good ⟨Nat.le_of_ble_eq_true rfl, Nat.le_of_ble_eq_true rfl⟩) ⟨ax_blind (fun _ _ _ _ _ => trivial), zr_8 (zp_K hK) (zp_P1 hP) (q0 := 0) rfl, ax_pre (zp_P1 hP) (zp_K hK) (zp_D1 hD) (fun _ _ => trivial)⟩ rfl rfl hl.1 rfl (lv_room (Nat.le_of_ble_eq_true rfl)) dX8_lawFor_1 ⟨Nat.le_of_ble_eq_true rfl, Nat.le_of_ble_eq_true rfl⟩) hS (fun q _ h => zp_F1 hD hS hA q h) (zp_F1 hD hS hA) (fun u t H locs ht hvm hw => zx_2 (fun v1na0_0 v1na0_11 hB hz1 hk1 hS1 => zo1 hB ht hP hD hk1 (zp_F1 hD hS hA) hS1 (fun hP hK1 hD hS => ?_)))
  refine lv_aload_n hx hb dX8_lawFor_4 rfl (lv_at hl 0 rfl) ?_
  refine lv_aload_n hx hb dX8_lawFor_5 rfl (lv_at hl 0 rfl) ?_
  refine lv_iload_n hx hb dX8_lawFor_6 rfl (lv_at hl 1 rfl) ?_
  refine va_calli (va_runV (As := [.int a1]) (rest := [.ref a0]) ⟨hx, hb, hml, hown, hts⟩ (c0_X8_isFigure l dC dI H.size a0 a1 (Value.int v1na0_0) a0g_1 a0g_2 a0g_3 a0g_4 a0g_5 a0g_6 a0g_7 a0g_8 a0g_9 a0g_10 (Value.int v1na0_11) a0g_12 a0g_13 a0g_15 a0g_16 a0g_17 a0g_18 a0g_19 a0g_20 a0g_21 a0g_22 a0g_23 a0g_24 a0g_25 a0g_26 a0g_27 a0g_28 a0g_29 a0g_30 a0g_31 a0g_32 a0g_33 a0g_34 a0g_35 a0g_36 a0g_37 a0g_38 a0g_39 a0_14 ba0_14_l ba0_14_u) (cwV 1 hts gX8_lawFor_X8_isFigure rfl rfl rfl zd_X8_isFigure ⟨Nat.le_of_ble_eq_true rfl, Nat.le_of_ble_eq_true rfl⟩) ⟨ax_blind (fun _ _ _ _ _ => trivial), zr_8 (zp_K hK) (zp_P1 hP) (q0 := 0) rfl, ax_pre (zp_P1 hP) (zp_K hK) (zp_D1 hD) (fun _ _ => trivial)⟩ rfl rfl hl.1 rfl (lv_room (Nat.le_of_ble_eq_true rfl)) dX8_lawFor_7 ⟨Nat.le_of_ble_eq_true rfl, Nat.le_of_ble_eq_true rfl⟩) hS (fun q _ h => zp_F1 hD hS hA q h) (zp_F1 hD hS hA) (fun r7 u t H locs ht hvm hw hB hz1 hk1 hS1 => zo1 hB ht hP hD hk1 (zp_F1 hD hS hA) hS1 (fun hP hK1 hD hS => ?_))
  have hw : r7 = 0 := hw
  have hw := hw.symm
  subst hw
  refine lv_iload_n hx hb dX8_lawFor_10 rfl (lv_at hl 2 rfl) ?_
  refine lv_iconst (v := 0) hx hb dX8_lawFor_11 zk_iconst_0 ?_
  refine lv_bipush (v := 99) hx hb dX8_lawFor_12 zk_bipush_99 ?_
  refine va_calli (va_runS (As := [.int a2, .int 0, .int 99]) (rest := [.int 0, .ref a0]) ⟨hx, hb, hml, hown, hts⟩ (c_X8_in l dC dI H.size a2 0 99 ) (va_cwS 3 hts gX8_lawFor_X8_in rfl rfl rfl zd_X8_in.2 ⟨Nat.le_of_ble_eq_true rfl, Nat.le_of_ble_eq_true rfl⟩) ⟨ax_blind (fun _ _ _ _ _ => trivial), ax_pre (zp_P0 hP) (zp_K hK) (zp_D0 hD) (fun _ _ => trivial)⟩ rfl rfl hl.1 rfl (lv_room (Nat.le_of_ble_eq_true rfl)) dX8_lawFor_14 ⟨Nat.le_of_ble_eq_true rfl, Nat.le_of_ble_eq_true rfl⟩) hS (fun q _ h => zp_F0 hD hS hA q h) (zp_F0 hD hS hA) (fun r14 u t H locs ht hvm hw hB hz1 hk1 hS1 => zo0 hB ht hP hD hk1 (zp_F0 hD hS hA) hS1 (fun hP hK1 hD hS => ?_))
  rcases hw with hw | hw
  · obtain ⟨hw, h14⟩ := hw
    subst hw
    have l14k0_a2 : (0 : Int) ≤ a2.toInt := Int.le_trans zq5 h14.1
    have u14k0_a2 : a2.toInt ≤ (99 : Int) := Int.le_trans h14.2 zq43
    refine va_calli (va_runV (As := [.int 0, .int 1]) (rest := []) ⟨hx, hb, hml, hown, hts⟩ (c_X8_whyB l dC dI H.size a0 0 1 (Value.int v1na0_0) a0g_1 a0g_2 a0g_3 a0g_4 a0g_5 a0g_6 a0g_7 a0g_8 a0g_9 a0g_10 (Value.int v1na0_11) a0g_12 a0g_13 (Value.int a0_14) a0g_15 a0g_16 a0g_17 a0g_18 a0g_19 a0g_20 a0g_21 a0g_22 a0g_23 a0g_24 a0g_25 a0g_26 a0g_27 a0g_28 a0g_29 a0g_30 a0g_31 a0g_32 a0g_33 a0g_34 a0g_35 a0g_36 a0g_37 a0g_38 a0g_39 zq5 (Int.le_trans zq6 zq4) (Int.le_trans zq4 zq1) zq0) (cwV 2 hts gX8_lawFor_X8_why rfl rfl rfl zd_X8_why ⟨Nat.le_of_ble_eq_true rfl, Nat.le_of_ble_eq_true rfl⟩) ⟨ax_blind (fun _ _ _ _ _ => trivial), zr_8 (zp_K hK) (zp_P1 hP) (q0 := 0) rfl, ax_pre (zp_P1 hP) (zp_K hK) (zp_D1 hD) (fun _ _ => trivial)⟩ rfl rfl hl.1 rfl (lv_room (Nat.le_of_ble_eq_true rfl)) dX8_lawFor_17 ⟨Nat.le_of_ble_eq_true rfl, Nat.le_of_ble_eq_true rfl⟩) hS (fun q _ h => zp_F1 hD hS hA q h) (zp_F1 hD hS hA) (fun r17 u t H locs ht hvm hw hB hz1 hk1 hS1 => zo1 hB ht hP hD hk1 (zp_F1 hD hS hA) hS1 (fun hP hK1 hD hS => ?_))
    rcases hw with hw | hw | hw
    · obtain ⟨hw, h17_0, h17_1, h17_2, h17_3⟩ := hw
      subst hw
      exact absurd h17_0 (by decide)
    · obtain ⟨hw, h17_0, h17_1⟩ := hw
      subst hw
      refine lv_istore_n (lv' := [(3, .int 1), (0, .ref a0), (1, .int a1), (2, .int a2)]) hx hb dX8_lawFor_20 rfl hl (by decide) rfl (fun ls hl => ?_)
      refine lv_iload_n hx hb dX8_lawFor_21 rfl (lv_at hl 0 rfl) ?_
      refine lv_if_eq (tgt := 31) hx hb dX8_lawFor_22 (by decide) (fun c22 => absurd c22 (by decide +kernel)) (fun _ => ?_)
      refine lv_aload_n hx hb dX8_lawFor_25 rfl (lv_at hl 1 rfl) ?_
      refine lv_iload_n hx hb dX8_lawFor_26 rfl (lv_at hl 0 rfl) ?_
      refine va_calli (va_runV (As := [.int 1]) (rest := []) ⟨hx, hb, hml, hown, hts⟩ (c_X8_no l dC dI H.size a0 1 (Value.int v1na0_0) a0g_1 a0g_2 a0g_3 a0g_4 a0g_5 a0g_6 a0g_7 a0g_8 a0g_9 a0g_10 a0g_12 a0g_13 (Value.int a0_14) a0g_15 a0g_16 a0g_17 a0g_18 a0g_19 a0g_20 a0g_21 a0g_22 a0g_23 a0g_24 a0g_25 a0g_26 a0g_27 a0g_28 a0g_29 a0g_30 a0g_31 a0g_32 a0g_33 a0g_34 a0g_35 a0g_36 a0g_37 a0g_38 a0g_39 v1na0_11 ) (cwV 1 hts gX8_lawFor_X8_no rfl rfl rfl zd_X8_no ⟨Nat.le_of_ble_eq_true rfl, Nat.le_of_ble_eq_true rfl⟩) ⟨ax_blind (fun _ _ _ _ _ => trivial), zr_8 (zp_K hK) (zp_P1 hP) (q0 := 0) rfl, ax_pre (zp_P1 hP) (zp_K hK) (zp_D1 hD) (fun _ _ => trivial)⟩ rfl rfl hl.1 rfl (lv_room (Nat.le_of_ble_eq_true rfl)) dX8_lawFor_27 ⟨Nat.le_of_ble_eq_true rfl, Nat.le_of_ble_eq_true rfl⟩) hS (fun q _ h => zp_F1 hD hS hA q h) (zp_F1 hD hS hA) (fun r27 u t H locs ht hvm hw => zx_1 (fun v27na0_11 hB hz1 hk1 hS1 => zo1 hB ht hP hD hk1 (zp_F1 hD hS hA) hS1 (fun hP hK1 hD hS => ?_)))
      have hw : r27 = (-1) := hw
      have hw := hw.symm
      subst hw
      exact W.iret (v := (-1)) hx hb hr (fun t ht hW => ⟨⟨(-1), (), rfl, rfl, v1na0_0, v27na0_11, by rw [ht]; exact hP, va_K.moved hW.alike hK, hD⟩, hS.F ht⟩) hS.2.2 dX8_lawFor_30
    · obtain ⟨hw, h17_0, h17_1, h17_2, h17_3⟩ := hw
      subst hw
      exact absurd h17_0 (by decide)
  · obtain ⟨hw, h14⟩ := hw
    subst hw
    refine va_calli (va_runV (As := [.int 0, .int 0]) (rest := []) ⟨hx, hb, hml, hown, hts⟩ (c_X8_whyB l dC dI H.size a0 0 0 (Value.int v1na0_0) a0g_1 a0g_2 a0g_3 a0g_4 a0g_5 a0g_6 a0g_7 a0g_8 a0g_9 a0g_10 (Value.int v1na0_11) a0g_12 a0g_13 (Value.int a0_14) a0g_15 a0g_16 a0g_17 a0g_18 a0g_19 a0g_20 a0g_21 a0g_22 a0g_23 a0g_24 a0g_25 a0g_26 a0g_27 a0g_28 a0g_29 a0g_30 a0g_31 a0g_32 a0g_33 a0g_34 a0g_35 a0g_36 a0g_37 a0g_38 a0g_39 zq5 (Int.le_trans zq6 zq4) zq5 (Int.le_trans zq6 zq4)) (cwV 2 hts gX8_lawFor_X8_why rfl rfl rfl zd_X8_why ⟨Nat.le_of_ble_eq_true rfl, Nat.le_of_ble_eq_true rfl⟩) ⟨ax_blind (fun _ _ _ _ _ => trivial), zr_8 (zp_K hK) (zp_P1 hP) (q0 := 0) rfl, ax_pre (zp_P1 hP) (zp_K hK) (zp_D1 hD) (fun _ _ => trivial)⟩ rfl rfl hl.1 rfl (lv_room (Nat.le_of_ble_eq_true rfl)) dX8_lawFor_17 ⟨Nat.le_of_ble_eq_true rfl, Nat.le_of_ble_eq_true rfl⟩) hS (fun q _ h => zp_F1 hD hS hA q h) (zp_F1 hD hS hA) (fun r17 u t H locs ht hvm hw hB hz1 hk1 hS1 => zo1 hB ht hP hD hk1 (zp_F1 hD hS hA) hS1 (fun hP hK1 hD hS => ?_))
    rcases hw with hw | hw | hw
    · obtain ⟨hw, h17_0, h17_1, h17_2, h17_3⟩ := hw
      subst hw
      exact absurd h17_0 (by decide)
    · obtain ⟨hw, h17_0, h17_1⟩ := hw
      subst hw
      refine lv_istore_n (lv' := [(3, .int 1), (0, .ref a0), (1, .int a1), (2, .int a2)]) hx hb dX8_lawFor_20 rfl hl (by decide) rfl (fun ls hl => ?_)
      refine lv_iload_n hx hb dX8_lawFor_21 rfl (lv_at hl 0 rfl) ?_
      refine lv_if_eq (tgt := 31) hx hb dX8_lawFor_22 (by decide) (fun c22 => absurd c22 (by decide +kernel)) (fun _ => ?_)
      refine lv_aload_n hx hb dX8_lawFor_25 rfl (lv_at hl 1 rfl) ?_
      refine lv_iload_n hx hb dX8_lawFor_26 rfl (lv_at hl 0 rfl) ?_
      refine va_calli (va_runV (As := [.int 1]) (rest := []) ⟨hx, hb, hml, hown, hts⟩ (c_X8_no l dC dI H.size a0 1 (Value.int v1na0_0) a0g_1 a0g_2 a0g_3 a0g_4 a0g_5 a0g_6 a0g_7 a0g_8 a0g_9 a0g_10 a0g_12 a0g_13 (Value.int a0_14) a0g_15 a0g_16 a0g_17 a0g_18 a0g_19 a0g_20 a0g_21 a0g_22 a0g_23 a0g_24 a0g_25 a0g_26 a0g_27 a0g_28 a0g_29 a0g_30 a0g_31 a0g_32 a0g_33 a0g_34 a0g_35 a0g_36 a0g_37 a0g_38 a0g_39 v1na0_11 ) (cwV 1 hts gX8_lawFor_X8_no rfl rfl rfl zd_X8_no ⟨Nat.le_of_ble_eq_true rfl, Nat.le_of_ble_eq_true rfl⟩) ⟨ax_blind (fun _ _ _ _ _ => trivial), zr_8 (zp_K hK) (zp_P1 hP) (q0 := 0) rfl, ax_pre (zp_P1 hP) (zp_K hK) (zp_D1 hD) (fun _ _ => trivial)⟩ rfl rfl hl.1 rfl (lv_room (Nat.le_of_ble_eq_true rfl)) dX8_lawFor_27 ⟨Nat.le_of_ble_eq_true rfl, Nat.le_of_ble_eq_true rfl⟩) hS (fun q _ h => zp_F1 hD hS hA q h) (zp_F1 hD hS hA) (fun r27 u t H locs ht hvm hw => zx_1 (fun v27na0_11 hB hz1 hk1 hS1 => zo1 hB ht hP hD hk1 (zp_F1 hD hS hA) hS1 (fun hP hK1 hD hS => ?_)))
      have hw : r27 = (-1) := hw
      have hw := hw.symm
      subst hw
      exact W.iret (v := (-1)) hx hb hr (fun t ht hW => ⟨⟨(-1), (), rfl, rfl, v1na0_0, v27na0_11, by rw [ht]; exact hP, va_K.moved hW.alike hK, hD⟩, hS.F ht⟩) hS.2.2 dX8_lawFor_30
    · obtain ⟨hw, h17_0, h17_1, h17_2, h17_3⟩ := hw
      subst hw
      exact absurd h17_0 (by decide)

set_option maxHeartbeats 4000000 in
set_option maxRecDepth 100000 in
theorem c0_X8_judge (l : Launch) (dC : Nat → ClassId) (dI : Nat → Nat → Nat) (sz : Nat) (a0 : Nat) (a0_0 : Int32) (a0g_1 a0g_2 a0g_3 a0g_4 a0g_5 a0g_6 a0g_7 a0g_8 a0g_9 a0g_10 a0g_12 a0g_13 a0g_15 a0g_16 a0g_17 a0g_18 a0g_19 a0g_20 a0g_21 a0g_22 a0g_23 a0g_24 a0g_25 a0g_26 a0g_27 a0g_28 a0g_29 a0g_30 a0g_31 a0g_32 a0g_33 a0g_34 a0g_35 a0g_36 a0g_37 a0g_38 a0g_39 : Value) (a0_11 : Int32) (a0_14 : Int32) (ba0_14_l : (0 : Int) ≤ a0_14.toInt) (ba0_14_u : a0_14.toInt ≤ (0 : Int)) : zm l yX8_judge wsX8_judge ({ frames := 1, cells := 0, slots := 0, locals := 21 }) [.ref a0] dC dI sz [(a0, .inr (8, [Value.int a0_0, a0g_1, a0g_2, a0g_3, a0g_4, a0g_5, a0g_6, a0g_7, a0g_8, a0g_9, a0g_10, Value.int a0_11, a0g_12, a0g_13, Value.int a0_14, a0g_15, a0g_16, a0g_17, a0g_18, a0g_19, a0g_20, a0g_21, a0g_22, a0g_23, a0g_24, a0g_25, a0g_26, a0g_27, a0g_28, a0g_29, a0g_30, a0g_31, a0g_32, a0g_33, a0g_34, a0g_35, a0g_36, a0g_37, a0g_38, a0g_39]))] [] (fun A _ => True) (fun A => va_Qi (fun (r : Int32) (_ : Unit) => r = (-1)) (fun (_ : Unit) (t : State) => ∃ na0_0 : Int32, ∃ na0_11 : Int32, ax_B dC dI A [(a0, .inr (8, [Value.int na0_0, a0g_1, a0g_2, a0g_3, a0g_4, a0g_5, a0g_6, a0g_7, a0g_8, a0g_9, a0g_10, Value.int na0_11, a0g_12, a0g_13, Value.int a0_14, a0g_15, a0g_16, a0g_17, a0g_18, a0g_19, a0g_20, a0g_21, a0g_22, a0g_23, a0g_24, a0g_25, a0g_26, a0g_27, a0g_28, a0g_29, a0g_30, a0g_31, a0g_32, a0g_33, a0g_34, a0g_35, a0g_36, a0g_37, a0g_38, a0g_39]))] [] t) A) := by
  refine zh (cc := cX8_judge) (maxL := 2) (ret := (some .int)) zn_RX8 rfl (Nat.le_of_ble_eq_true rfl) (fun p e s m below meth c A ls hx hb hml hr hts (hown : s.vm.findClass RX8 = some m.cls) hlocks hA hS hP hK hD hE (hl : lv_has ls 2 [(0, .ref a0)]) => ?_)
  refine ai_open (fun K hK0 => ?_)
  refine (hK0 _ _ _).mpr ?_
  refine lv_aload_n hx hb dX8_judge_0 rfl (lv_at hl 0 rfl) ?_
  refine va_callv (va_runV (As := []) (rest := []) ⟨hx, hb, hml, hown, hts⟩ (c_X8_good l dC dI s.heap.size a0 a0_0 a0g_1 a0g_2 a0g_3 a0g_4 a0g_5 a0g_6 a0g_7 a0g_8 a0g_9 a0g_10 a0g_12 a0g_13 (Value.int a0_14) a0g_15 a0g_16 a0g_17 a0g_18 a0g_19 a0g_20 a0g_21 a0g_22 a0g_23 a0g_24 a0g_25 a0g_26 a0g_27 a0g_28 a0g_29 a0g_30 a0g_31 a0g_32 a0g_33 a0g_34 a0g_35 a0g_36 a0g_37 a0g_38 a0g_39 a0_11 ) (cwV 0 hts gX8_judge_X8_good rfl rfl rfl zd_X8_good ⟨Nat.le_of_ble_eq_true rfl, Nat.le_of_ble_eq_true rfl⟩) ⟨ax_blind (fun _ _ _ _ _ => trivial), zr_8 (zp_K hK) (zp_P1 hP) (q0 := 0) rfl, ax_pre (zp_P1 hP) (zp_K hK) (zp_D1 hD) (fun _ _ => trivial)⟩ rfl rfl hl.1 rfl (lv_room (Nat.le_of_ble_eq_true rfl)) dX8_judge_1 ⟨Nat.le_of_ble_eq_true rfl, Nat.le_of_ble_eq_true rfl⟩) hS (fun q _ h => zp_F1 hD hS hA q h) (zp_F1 hD hS hA) (fun u t H locs ht hvm hw => zx_2 (fun v1na0_0 v1na0_11 hB hz1 hk1 hS1 => zo1 hB ht hP hD hk1 (zp_F1 hD hS hA) hS1 (fun hP hK1 hD hS => ?_)))
  refine lv_aload_n hx hb dX8_judge_4 rfl (lv_at hl 0 rfl) ?_
  refine va_get (D := (dC, dI)) (ci := 8) (v := .int a0_14) (C := RX8) (T := TX8) (N := 40) hx hb hts zi_X8_judge_8 hown hK hP 0 rfl rfl 14 (by decide) (hts (.fieldLink RX8 173 "WaxTurnsModel" "hasGallery" "Z") (List.mem_cons_of_mem _ (List.mem_append_left _ (List.mem_of_getElem? (i := 0) rfl)))) (fun _ h9 => h9) rfl dX8_judge_5 ?_
  refine lv_if_ne (tgt := 17) hx hb dX8_judge_8 (by decide) (fun c8 => ?_) (fun c8 => ?_)
  · have gc8 := ai_ne c8
    have l8t_a0_14 : (1 : Int) ≤ a0_14.toInt := (by first | exact zg_l ba0_14_l gc8 (by decide) (by decide) | (have h1 := ba0_14_l; have h2 : (0 : Int32).toInt = 0 := (by decide); rw [h2] at gc8; omega))
    have u8t_a0_14 : a0_14.toInt ≤ (-1 : Int) := (by first | exact zg_u ba0_14_u gc8 (by decide) (by decide) | (have h1 := ba0_14_u; have h2 : (0 : Int32).toInt = 0 := (by decide); rw [h2] at gc8; omega))
    exact absurd (Int.le_trans l8t_a0_14 u8t_a0_14) (by decide)
  · have gc8 := ai_eq c8
    have u8f_a0_14 : a0_14.toInt ≤ (0 : Int) := ba0_14_u
    have l8f_a0_14 : (0 : Int) ≤ a0_14.toInt := ba0_14_l
    refine lv_aload_n hx hb dX8_judge_11 rfl (lv_at hl 0 rfl) ?_
    refine lv_iconst (v := 1) hx hb dX8_judge_12 zk_iconst_1 ?_
    refine va_calli (va_runV (As := [.int 1]) (rest := []) ⟨hx, hb, hml, hown, hts⟩ (c_X8_no l dC dI H.size a0 1 (Value.int v1na0_0) a0g_1 a0g_2 a0g_3 a0g_4 a0g_5 a0g_6 a0g_7 a0g_8 a0g_9 a0g_10 a0g_12 a0g_13 (Value.int a0_14) a0g_15 a0g_16 a0g_17 a0g_18 a0g_19 a0g_20 a0g_21 a0g_22 a0g_23 a0g_24 a0g_25 a0g_26 a0g_27 a0g_28 a0g_29 a0g_30 a0g_31 a0g_32 a0g_33 a0g_34 a0g_35 a0g_36 a0g_37 a0g_38 a0g_39 v1na0_11 ) (cwV 1 hts gX8_judge_X8_no rfl rfl rfl zd_X8_no ⟨Nat.le_of_ble_eq_true rfl, Nat.le_of_ble_eq_true rfl⟩) ⟨ax_blind (fun _ _ _ _ _ => trivial), zr_8 (zp_K hK) (zp_P1 hP) (q0 := 0) rfl, ax_pre (zp_P1 hP) (zp_K hK) (zp_D1 hD) (fun _ _ => trivial)⟩ rfl rfl hl.1 rfl (lv_room (Nat.le_of_ble_eq_true rfl)) dX8_judge_13 ⟨Nat.le_of_ble_eq_true rfl, Nat.le_of_ble_eq_true rfl⟩) hS (fun q _ h => zp_F1 hD hS hA q h) (zp_F1 hD hS hA) (fun r13 u t H locs ht hvm hw => zx_1 (fun v13na0_11 hB hz1 hk1 hS1 => zo1 hB ht hP hD hk1 (zp_F1 hD hS hA) hS1 (fun hP hK1 hD hS => ?_)))
    have hw : r13 = (-1) := hw
    have hw := hw.symm
    subst hw
    exact W.iret (v := (-1)) hx hb hr (fun t ht hW => ⟨⟨(-1), (), rfl, rfl, v1na0_0, v13na0_11, by rw [ht]; exact hP, va_K.moved hW.alike hK, hD⟩, hS.F ht⟩) hS.2.2 dX8_judge_16

set_option maxHeartbeats 4000000 in
set_option maxRecDepth 100000 in
theorem c0_X8_rests (l : Launch) (dC : Nat → ClassId) (dI : Nat → Nat → Nat) (sz : Nat) (a0 : Nat) (a1 : Int32) (a0_0 : Int32) (a0g_1 a0g_2 a0g_3 a0g_4 a0g_5 a0g_6 a0g_7 a0g_8 a0g_9 a0g_10 a0g_12 a0g_13 a0g_15 a0g_16 a0g_17 a0g_18 a0g_19 a0g_20 a0g_21 a0g_22 a0g_23 a0g_24 a0g_25 a0g_26 a0g_27 a0g_28 a0g_29 a0g_30 a0g_31 a0g_32 a0g_33 a0g_34 a0g_35 a0g_36 a0g_37 a0g_38 a0g_39 : Value) (a0_11 : Int32) (a0_14 : Int32) (ba0_14_l : (0 : Int) ≤ a0_14.toInt) (ba0_14_u : a0_14.toInt ≤ (0 : Int)) : zm l yX8_rests wsX8_rests ({ frames := 1, cells := 0, slots := 0, locals := 22 }) [.ref a0, .int a1] dC dI sz [(a0, .inr (8, [Value.int a0_0, a0g_1, a0g_2, a0g_3, a0g_4, a0g_5, a0g_6, a0g_7, a0g_8, a0g_9, a0g_10, Value.int a0_11, a0g_12, a0g_13, Value.int a0_14, a0g_15, a0g_16, a0g_17, a0g_18, a0g_19, a0g_20, a0g_21, a0g_22, a0g_23, a0g_24, a0g_25, a0g_26, a0g_27, a0g_28, a0g_29, a0g_30, a0g_31, a0g_32, a0g_33, a0g_34, a0g_35, a0g_36, a0g_37, a0g_38, a0g_39]))] [] (fun A _ => True) (fun A => va_Qi (fun (r : Int32) (_ : Unit) => r = (-1)) (fun (_ : Unit) (t : State) => ∃ na0_0 : Int32, ∃ na0_11 : Int32, ax_B dC dI A [(a0, .inr (8, [Value.int na0_0, a0g_1, a0g_2, a0g_3, a0g_4, a0g_5, a0g_6, a0g_7, a0g_8, a0g_9, a0g_10, Value.int na0_11, a0g_12, a0g_13, Value.int a0_14, a0g_15, a0g_16, a0g_17, a0g_18, a0g_19, a0g_20, a0g_21, a0g_22, a0g_23, a0g_24, a0g_25, a0g_26, a0g_27, a0g_28, a0g_29, a0g_30, a0g_31, a0g_32, a0g_33, a0g_34, a0g_35, a0g_36, a0g_37, a0g_38, a0g_39]))] [] t) A) := by
  refine zh (cc := cX8_rests) (maxL := 3) (ret := (some .int)) zn_RX8 rfl (Nat.le_of_ble_eq_true rfl) (fun p e s m below meth c A ls hx hb hml hr hts (hown : s.vm.findClass RX8 = some m.cls) hlocks hA hS hP hK hD hE (hl : lv_has ls 3 [(0, .ref a0), (1, .int a1)]) => ?_)
  refine lv_aload_n hx hb dX8_rests_0 rfl (lv_at hl 0 rfl) ?_
  refine va_callv (va_runV (As := []) (rest := []) ⟨hx, hb, hml, hown, hts⟩ (c_X8_good l dC dI s.heap.size a0 a0_0 a0g_1 a0g_2 a0g_3 a0g_4 a0g_5 a0g_6 a0g_7 a0g_8 a0g_9 a0g_10 a0g_12 a0g_13 (Value.int a0_14) a0g_15 a0g_16 a0g_17 a0g_18 a0g_19 a0g_20 a0g_21 a0g_22 a0g_23 a0g_24 a0g_25 a0g_26 a0g_27 a0g_28 a0g_29 a0g_30 a0g_31 a0g_32 a0g_33 a0g_34 a0g_35 a0g_36 a0g_37 a0g_38 a0g_39 a0_11 ) (cwV 0 hts gX8_rests_X8_good rfl rfl rfl zd_X8_good ⟨Nat.le_of_ble_eq_true rfl, Nat.le_of_ble_eq_true rfl⟩) ⟨ax_blind (fun _ _ _ _ _ => trivial), zr_8 (zp_K hK) (zp_P1 hP) (q0 := 0) rfl, ax_pre (zp_P1 hP) (zp_K hK) (zp_D1 hD) (fun _ _ => trivial)⟩ rfl rfl hl.1 rfl (lv_room (Nat.le_of_ble_eq_true rfl)) dX8_rests_1 ⟨Nat.le_of_ble_eq_true rfl, Nat.le_of_ble_eq_true rfl⟩) hS (fun q _ h => zp_F1 hD hS hA q h) (zp_F1 hD hS hA) (fun u t H locs ht hvm hw => zx_2 (fun v1na0_0 v1na0_11 hB hz1 hk1 hS1 => zo1 hB ht hP hD hk1 (zp_F1 hD hS hA) hS1 (fun hP hK1 hD hS => ?_)))
  refine lv_aload_n hx hb dX8_rests_4 rfl (lv_at hl 0 rfl) ?_
  refine lv_aload_n hx hb dX8_rests_5 rfl (lv_at hl 0 rfl) ?_
  refine va_get (D := (dC, dI)) (ci := 8) (v := .int a0_14) (C := RX8) (T := TX8) (N := 40) hx hb hts zi_X8_rests_8 hown hK hP 0 rfl rfl 14 (by decide) (hts (.fieldLink RX8 173 "WaxTurnsModel" "hasGallery" "Z") (zm_X8_rests_r1 (List.mem_of_getElem? (i := 0) rfl))) (fun _ h9 => h9) rfl dX8_rests_6 ?_
  refine lv_iload_n hx hb dX8_rests_9 rfl (lv_at hl 1 rfl) ?_
  refine lv_iconst (v := 0) hx hb dX8_rests_10 zk_iconst_0 ?_
  refine lv_bipush (v := 9) hx hb dX8_rests_11 zk_bipush_9 ?_
  refine va_calli (va_runS (As := [.int a1, .int 0, .int 9]) (rest := [.int a0_14, .ref a0]) ⟨hx, hb, hml, hown, hts⟩ (c_X8_in l dC dI H.size a1 0 9 ) (va_cwS 3 hts gX8_rests_X8_in rfl rfl rfl zd_X8_in.2 ⟨Nat.le_of_ble_eq_true rfl, Nat.le_of_ble_eq_true rfl⟩) ⟨ax_blind (fun _ _ _ _ _ => trivial), ax_pre (zp_P0 hP) (zp_K hK) (zp_D0 hD) (fun _ _ => trivial)⟩ rfl rfl hl.1 rfl (lv_room (Nat.le_of_ble_eq_true rfl)) dX8_rests_13 ⟨Nat.le_of_ble_eq_true rfl, Nat.le_of_ble_eq_true rfl⟩) hS (fun q _ h => zp_F0 hD hS hA q h) (zp_F0 hD hS hA) (fun r13 u t H locs ht hvm hw hB hz1 hk1 hS1 => zo0 hB ht hP hD hk1 (zp_F0 hD hS hA) hS1 (fun hP hK1 hD hS => ?_))
  rcases hw with hw | hw
  · obtain ⟨hw, h13⟩ := hw
    subst hw
    have l13k0_a1 : (0 : Int) ≤ a1.toInt := Int.le_trans zq5 h13.1
    have u13k0_a1 : a1.toInt ≤ (9 : Int) := Int.le_trans h13.2 zq3
    refine va_calli (va_runV (As := [.int a0_14, .int 1]) (rest := []) ⟨hx, hb, hml, hown, hts⟩ (c_X8_whyB l dC dI H.size a0 a0_14 1 (Value.int v1na0_0) a0g_1 a0g_2 a0g_3 a0g_4 a0g_5 a0g_6 a0g_7 a0g_8 a0g_9 a0g_10 (Value.int v1na0_11) a0g_12 a0g_13 (Value.int a0_14) a0g_15 a0g_16 a0g_17 a0g_18 a0g_19 a0g_20 a0g_21 a0g_22 a0g_23 a0g_24 a0g_25 a0g_26 a0g_27 a0g_28 a0g_29 a0g_30 a0g_31 a0g_32 a0g_33 a0g_34 a0g_35 a0g_36 a0g_37 a0g_38 a0g_39 ba0_14_l (Int.le_trans ba0_14_u zq4) (Int.le_trans zq4 zq1) zq0) (cwV 2 hts gX8_rests_X8_why rfl rfl rfl zd_X8_why ⟨Nat.le_of_ble_eq_true rfl, Nat.le_of_ble_eq_true rfl⟩) ⟨ax_blind (fun _ _ _ _ _ => trivial), zr_8 (zp_K hK) (zp_P1 hP) (q0 := 0) rfl, ax_pre (zp_P1 hP) (zp_K hK) (zp_D1 hD) (fun _ _ => trivial)⟩ rfl rfl hl.1 rfl (lv_room (Nat.le_of_ble_eq_true rfl)) dX8_rests_16 ⟨Nat.le_of_ble_eq_true rfl, Nat.le_of_ble_eq_true rfl⟩) hS (fun q _ h => zp_F1 hD hS hA q h) (zp_F1 hD hS hA) (fun r16 u t H locs ht hvm hw hB hz1 hk1 hS1 => zo1 hB ht hP hD hk1 (zp_F1 hD hS hA) hS1 (fun hP hK1 hD hS => ?_))
    rcases hw with hw | hw | hw
    · obtain ⟨hw, h16_0, h16_1, h16_2, h16_3⟩ := hw
      subst hw
      have l16k0_a0_14 : (1 : Int) ≤ a0_14.toInt := h16_0
      have u16k0_a0_14 : a0_14.toInt ≤ (0 : Int) := ba0_14_u
      exact absurd (Int.le_trans l16k0_a0_14 u16k0_a0_14) (by decide)
    · obtain ⟨hw, h16_0, h16_1⟩ := hw
      subst hw
      have l16k1_a0_14 : (0 : Int) ≤ a0_14.toInt := ba0_14_l
      have u16k1_a0_14 : a0_14.toInt ≤ (0 : Int) := ba0_14_u
      refine lv_istore_n (lv' := [(2, .int 1), (0, .ref a0), (1, .int a1)]) hx hb dX8_rests_19 rfl hl (by decide) rfl (fun ls hl => ?_)
      refine lv_iload_n hx hb dX8_rests_20 rfl (lv_at hl 0 rfl) ?_
      refine lv_if_eq (tgt := 32) hx hb dX8_rests_21 (by decide) (fun c21 => absurd c21 (by decide +kernel)) (fun _ => ?_)
      refine lv_aload_n hx hb dX8_rests_24 rfl (lv_at hl 1 rfl) ?_
      refine lv_iload_n hx hb dX8_rests_25 rfl (lv_at hl 0 rfl) ?_
      refine va_calli (va_runV (As := [.int 1]) (rest := []) ⟨hx, hb, hml, hown, hts⟩ (c_X8_no l dC dI H.size a0 1 (Value.int v1na0_0) a0g_1 a0g_2 a0g_3 a0g_4 a0g_5 a0g_6 a0g_7 a0g_8 a0g_9 a0g_10 a0g_12 a0g_13 (Value.int a0_14) a0g_15 a0g_16 a0g_17 a0g_18 a0g_19 a0g_20 a0g_21 a0g_22 a0g_23 a0g_24 a0g_25 a0g_26 a0g_27 a0g_28 a0g_29 a0g_30 a0g_31 a0g_32 a0g_33 a0g_34 a0g_35 a0g_36 a0g_37 a0g_38 a0g_39 v1na0_11 ) (cwV 1 hts gX8_rests_X8_no rfl rfl rfl zd_X8_no ⟨Nat.le_of_ble_eq_true rfl, Nat.le_of_ble_eq_true rfl⟩) ⟨ax_blind (fun _ _ _ _ _ => trivial), zr_8 (zp_K hK) (zp_P1 hP) (q0 := 0) rfl, ax_pre (zp_P1 hP) (zp_K hK) (zp_D1 hD) (fun _ _ => trivial)⟩ rfl rfl hl.1 rfl (lv_room (Nat.le_of_ble_eq_true rfl)) dX8_rests_26 ⟨Nat.le_of_ble_eq_true rfl, Nat.le_of_ble_eq_true rfl⟩) hS (fun q _ h => zp_F1 hD hS hA q h) (zp_F1 hD hS hA) (fun r26 u t H locs ht hvm hw => zx_1 (fun v26na0_11 hB hz1 hk1 hS1 => zo1 hB ht hP hD hk1 (zp_F1 hD hS hA) hS1 (fun hP hK1 hD hS => ?_)))
      have hw : r26 = (-1) := hw
      have hw := hw.symm
      subst hw
      refine lv_goto (tgt := 37) hx hb dX8_rests_29 (by decide) ?_
      exact W.iret (v := (-1)) hx hb hr (fun t ht hW => ⟨⟨(-1), (), rfl, rfl, v1na0_0, v26na0_11, by rw [ht]; exact hP, va_K.moved hW.alike hK, hD⟩, hS.F ht⟩) hS.2.2 dX8_rests_37
    · obtain ⟨hw, h16_0, h16_1, h16_2, h16_3⟩ := hw
      subst hw
      have l16k2_a0_14 : (1 : Int) ≤ a0_14.toInt := h16_0
      have u16k2_a0_14 : a0_14.toInt ≤ (0 : Int) := ba0_14_u
      exact absurd (Int.le_trans l16k2_a0_14 u16k2_a0_14) (by decide)
  · obtain ⟨hw, h13⟩ := hw
    subst hw
    refine va_calli (va_runV (As := [.int a0_14, .int 0]) (rest := []) ⟨hx, hb, hml, hown, hts⟩ (c_X8_whyB l dC dI H.size a0 a0_14 0 (Value.int v1na0_0) a0g_1 a0g_2 a0g_3 a0g_4 a0g_5 a0g_6 a0g_7 a0g_8 a0g_9 a0g_10 (Value.int v1na0_11) a0g_12 a0g_13 (Value.int a0_14) a0g_15 a0g_16 a0g_17 a0g_18 a0g_19 a0g_20 a0g_21 a0g_22 a0g_23 a0g_24 a0g_25 a0g_26 a0g_27 a0g_28 a0g_29 a0g_30 a0g_31 a0g_32 a0g_33 a0g_34 a0g_35 a0g_36 a0g_37 a0g_38 a0g_39 ba0_14_l (Int.le_trans ba0_14_u zq4) zq5 (Int.le_trans zq6 zq4)) (cwV 2 hts gX8_rests_X8_why rfl rfl rfl zd_X8_why ⟨Nat.le_of_ble_eq_true rfl, Nat.le_of_ble_eq_true rfl⟩) ⟨ax_blind (fun _ _ _ _ _ => trivial), zr_8 (zp_K hK) (zp_P1 hP) (q0 := 0) rfl, ax_pre (zp_P1 hP) (zp_K hK) (zp_D1 hD) (fun _ _ => trivial)⟩ rfl rfl hl.1 rfl (lv_room (Nat.le_of_ble_eq_true rfl)) dX8_rests_16 ⟨Nat.le_of_ble_eq_true rfl, Nat.le_of_ble_eq_true rfl⟩) hS (fun q _ h => zp_F1 hD hS hA q h) (zp_F1 hD hS hA) (fun r16 u t H locs ht hvm hw hB hz1 hk1 hS1 => zo1 hB ht hP hD hk1 (zp_F1 hD hS hA) hS1 (fun hP hK1 hD hS => ?_))
    rcases hw with hw | hw | hw
    · obtain ⟨hw, h16_0, h16_1, h16_2, h16_3⟩ := hw
      subst hw
      have l16k0_a0_14 : (1 : Int) ≤ a0_14.toInt := h16_0
      have u16k0_a0_14 : a0_14.toInt ≤ (0 : Int) := ba0_14_u
      exact absurd (Int.le_trans l16k0_a0_14 u16k0_a0_14) (by decide)
    · obtain ⟨hw, h16_0, h16_1⟩ := hw
      subst hw
      have l16k1_a0_14 : (0 : Int) ≤ a0_14.toInt := ba0_14_l
      have u16k1_a0_14 : a0_14.toInt ≤ (0 : Int) := ba0_14_u
      refine lv_istore_n (lv' := [(2, .int 1), (0, .ref a0), (1, .int a1)]) hx hb dX8_rests_19 rfl hl (by decide) rfl (fun ls hl => ?_)
      refine lv_iload_n hx hb dX8_rests_20 rfl (lv_at hl 0 rfl) ?_
      refine lv_if_eq (tgt := 32) hx hb dX8_rests_21 (by decide) (fun c21 => absurd c21 (by decide +kernel)) (fun _ => ?_)
      refine lv_aload_n hx hb dX8_rests_24 rfl (lv_at hl 1 rfl) ?_
      refine lv_iload_n hx hb dX8_rests_25 rfl (lv_at hl 0 rfl) ?_
      refine va_calli (va_runV (As := [.int 1]) (rest := []) ⟨hx, hb, hml, hown, hts⟩ (c_X8_no l dC dI H.size a0 1 (Value.int v1na0_0) a0g_1 a0g_2 a0g_3 a0g_4 a0g_5 a0g_6 a0g_7 a0g_8 a0g_9 a0g_10 a0g_12 a0g_13 (Value.int a0_14) a0g_15 a0g_16 a0g_17 a0g_18 a0g_19 a0g_20 a0g_21 a0g_22 a0g_23 a0g_24 a0g_25 a0g_26 a0g_27 a0g_28 a0g_29 a0g_30 a0g_31 a0g_32 a0g_33 a0g_34 a0g_35 a0g_36 a0g_37 a0g_38 a0g_39 v1na0_11 ) (cwV 1 hts gX8_rests_X8_no rfl rfl rfl zd_X8_no ⟨Nat.le_of_ble_eq_true rfl, Nat.le_of_ble_eq_true rfl⟩) ⟨ax_blind (fun _ _ _ _ _ => trivial), zr_8 (zp_K hK) (zp_P1 hP) (q0 := 0) rfl, ax_pre (zp_P1 hP) (zp_K hK) (zp_D1 hD) (fun _ _ => trivial)⟩ rfl rfl hl.1 rfl (lv_room (Nat.le_of_ble_eq_true rfl)) dX8_rests_26 ⟨Nat.le_of_ble_eq_true rfl, Nat.le_of_ble_eq_true rfl⟩) hS (fun q _ h => zp_F1 hD hS hA q h) (zp_F1 hD hS hA) (fun r26 u t H locs ht hvm hw => zx_1 (fun v26na0_11 hB hz1 hk1 hS1 => zo1 hB ht hP hD hk1 (zp_F1 hD hS hA) hS1 (fun hP hK1 hD hS => ?_)))
      have hw : r26 = (-1) := hw
      have hw := hw.symm
      subst hw
      refine lv_goto (tgt := 37) hx hb dX8_rests_29 (by decide) ?_
      exact W.iret (v := (-1)) hx hb hr (fun t ht hW => ⟨⟨(-1), (), rfl, rfl, v1na0_0, v26na0_11, by rw [ht]; exact hP, va_K.moved hW.alike hK, hD⟩, hS.F ht⟩) hS.2.2 dX8_rests_37
    · obtain ⟨hw, h16_0, h16_1, h16_2, h16_3⟩ := hw
      subst hw
      have l16k2_a0_14 : (1 : Int) ≤ a0_14.toInt := h16_0
      have u16k2_a0_14 : a0_14.toInt ≤ (0 : Int) := ba0_14_u
      exact absurd (Int.le_trans l16k2_a0_14 u16k2_a0_14) (by decide)

set_option maxHeartbeats 4000000 in
set_option maxRecDepth 100000 in
theorem c0_X8_rest (l : Launch) (dC : Nat → ClassId) (dI : Nat → Nat → Nat) (sz : Nat) (a0 : Nat) (a1 : Int32) (a0_0 : Int32) (a0g_1 a0g_2 a0g_3 a0g_4 a0g_5 a0g_6 a0g_7 a0g_8 a0g_9 a0g_10 a0g_12 a0g_13 a0g_15 a0g_16 a0g_17 a0g_18 a0g_19 a0g_20 a0g_21 a0g_22 a0g_23 a0g_24 a0g_25 a0g_26 a0g_27 a0g_28 a0g_29 a0g_30 a0g_31 a0g_32 a0g_33 a0g_34 a0g_35 a0g_36 a0g_37 a0g_38 a0g_39 : Value) (a0_11 : Int32) (a0_14 : Int32) (ba0_14_l : (0 : Int) ≤ a0_14.toInt) (ba0_14_u : a0_14.toInt ≤ (0 : Int)) : zm l yX8_rest wsX8_rest ({ frames := 1, cells := 0, slots := 0, locals := 22 }) [.ref a0, .int a1] dC dI sz [(a0, .inr (8, [Value.int a0_0, a0g_1, a0g_2, a0g_3, a0g_4, a0g_5, a0g_6, a0g_7, a0g_8, a0g_9, a0g_10, Value.int a0_11, a0g_12, a0g_13, Value.int a0_14, a0g_15, a0g_16, a0g_17, a0g_18, a0g_19, a0g_20, a0g_21, a0g_22, a0g_23, a0g_24, a0g_25, a0g_26, a0g_27, a0g_28, a0g_29, a0g_30, a0g_31, a0g_32, a0g_33, a0g_34, a0g_35, a0g_36, a0g_37, a0g_38, a0g_39]))] [] (fun A _ => True) (fun A => va_Qi (fun (r : Int32) (_ : Unit) => r = (-1)) (fun (_ : Unit) (t : State) => ∃ na0_0 : Int32, ∃ na0_11 : Int32, ax_B dC dI A [(a0, .inr (8, [Value.int na0_0, a0g_1, a0g_2, a0g_3, a0g_4, a0g_5, a0g_6, a0g_7, a0g_8, a0g_9, a0g_10, Value.int na0_11, a0g_12, a0g_13, Value.int a0_14, a0g_15, a0g_16, a0g_17, a0g_18, a0g_19, a0g_20, a0g_21, a0g_22, a0g_23, a0g_24, a0g_25, a0g_26, a0g_27, a0g_28, a0g_29, a0g_30, a0g_31, a0g_32, a0g_33, a0g_34, a0g_35, a0g_36, a0g_37, a0g_38, a0g_39]))] [] t) A) := by
  refine zh (cc := cX8_rest) (maxL := 3) (ret := (some .int)) zn_RX8 rfl (Nat.le_of_ble_eq_true rfl) (fun p e s m below meth c A ls hx hb hml hr hts (hown : s.vm.findClass RX8 = some m.cls) hlocks hA hS hP hK hD hE (hl : lv_has ls 3 [(0, .ref a0), (1, .int a1)]) => ?_)
  refine lv_aload_n hx hb dX8_rest_0 rfl (lv_at hl 0 rfl) ?_
  refine va_callv (va_runV (As := []) (rest := []) ⟨hx, hb, hml, hown, hts⟩ (c_X8_good l dC dI s.heap.size a0 a0_0 a0g_1 a0g_2 a0g_3 a0g_4 a0g_5 a0g_6 a0g_7 a0g_8 a0g_9 a0g_10 a0g_12 a0g_13 (Value.int a0_14) a0g_15 a0g_16 a0g_17 a0g_18 a0g_19 a0g_20 a0g_21 a0g_22 a0g_23 a0g_24 a0g_25 a0g_26 a0g_27 a0g_28 a0g_29 a0g_30 a0g_31 a0g_32 a0g_33 a0g_34 a0g_35 a0g_36 a0g_37 a0g_38 a0g_39 a0_11 ) (cwV 0 hts gX8_rest_X8_good rfl rfl rfl zd_X8_good ⟨Nat.le_of_ble_eq_true rfl, Nat.le_of_ble_eq_true rfl⟩) ⟨ax_blind (fun _ _ _ _ _ => trivial), zr_8 (zp_K hK) (zp_P1 hP) (q0 := 0) rfl, ax_pre (zp_P1 hP) (zp_K hK) (zp_D1 hD) (fun _ _ => trivial)⟩ rfl rfl hl.1 rfl (lv_room (Nat.le_of_ble_eq_true rfl)) dX8_rest_1 ⟨Nat.le_of_ble_eq_true rfl, Nat.le_of_ble_eq_true rfl⟩) hS (fun q _ h => zp_F1 hD hS hA q h) (zp_F1 hD hS hA) (fun u t H locs ht hvm hw => zx_2 (fun v1na0_0 v1na0_11 hB hz1 hk1 hS1 => zo1 hB ht hP hD hk1 (zp_F1 hD hS hA) hS1 (fun hP hK1 hD hS => ?_)))
  refine lv_aload_n hx hb dX8_rest_4 rfl (lv_at hl 0 rfl) ?_
  refine lv_aload_n hx hb dX8_rest_5 rfl (lv_at hl 0 rfl) ?_
  refine va_get (D := (dC, dI)) (ci := 8) (v := .int a0_14) (C := RX8) (T := TX8) (N := 40) hx hb hts zi_X8_rest_8 hown hK hP 0 rfl rfl 14 (by decide) (hts (.fieldLink RX8 173 "WaxTurnsModel" "hasGallery" "Z") (zm_X8_rest_r1 (List.mem_of_getElem? (i := 0) rfl))) (fun _ h9 => h9) rfl dX8_rest_6 ?_
  refine lv_iload_n hx hb dX8_rest_9 rfl (lv_at hl 1 rfl) ?_
  refine lv_iconst (v := 0) hx hb dX8_rest_10 zk_iconst_0 ?_
  refine lv_bipush (v := 9) hx hb dX8_rest_11 zk_bipush_9 ?_
  refine va_calli (va_runS (As := [.int a1, .int 0, .int 9]) (rest := [.int a0_14, .ref a0]) ⟨hx, hb, hml, hown, hts⟩ (c_X8_in l dC dI H.size a1 0 9 ) (va_cwS 3 hts gX8_rest_X8_in rfl rfl rfl zd_X8_in.2 ⟨Nat.le_of_ble_eq_true rfl, Nat.le_of_ble_eq_true rfl⟩) ⟨ax_blind (fun _ _ _ _ _ => trivial), ax_pre (zp_P0 hP) (zp_K hK) (zp_D0 hD) (fun _ _ => trivial)⟩ rfl rfl hl.1 rfl (lv_room (Nat.le_of_ble_eq_true rfl)) dX8_rest_13 ⟨Nat.le_of_ble_eq_true rfl, Nat.le_of_ble_eq_true rfl⟩) hS (fun q _ h => zp_F0 hD hS hA q h) (zp_F0 hD hS hA) (fun r13 u t H locs ht hvm hw hB hz1 hk1 hS1 => zo0 hB ht hP hD hk1 (zp_F0 hD hS hA) hS1 (fun hP hK1 hD hS => ?_))
  rcases hw with hw | hw
  · obtain ⟨hw, h13⟩ := hw
    subst hw
    have l13k0_a1 : (0 : Int) ≤ a1.toInt := Int.le_trans zq5 h13.1
    have u13k0_a1 : a1.toInt ≤ (9 : Int) := Int.le_trans h13.2 zq3
    refine va_calli (va_runV (As := [.int a0_14, .int 1]) (rest := []) ⟨hx, hb, hml, hown, hts⟩ (c_X8_whyB l dC dI H.size a0 a0_14 1 (Value.int v1na0_0) a0g_1 a0g_2 a0g_3 a0g_4 a0g_5 a0g_6 a0g_7 a0g_8 a0g_9 a0g_10 (Value.int v1na0_11) a0g_12 a0g_13 (Value.int a0_14) a0g_15 a0g_16 a0g_17 a0g_18 a0g_19 a0g_20 a0g_21 a0g_22 a0g_23 a0g_24 a0g_25 a0g_26 a0g_27 a0g_28 a0g_29 a0g_30 a0g_31 a0g_32 a0g_33 a0g_34 a0g_35 a0g_36 a0g_37 a0g_38 a0g_39 ba0_14_l (Int.le_trans ba0_14_u zq4) (Int.le_trans zq4 zq1) zq0) (cwV 2 hts gX8_rest_X8_why rfl rfl rfl zd_X8_why ⟨Nat.le_of_ble_eq_true rfl, Nat.le_of_ble_eq_true rfl⟩) ⟨ax_blind (fun _ _ _ _ _ => trivial), zr_8 (zp_K hK) (zp_P1 hP) (q0 := 0) rfl, ax_pre (zp_P1 hP) (zp_K hK) (zp_D1 hD) (fun _ _ => trivial)⟩ rfl rfl hl.1 rfl (lv_room (Nat.le_of_ble_eq_true rfl)) dX8_rest_16 ⟨Nat.le_of_ble_eq_true rfl, Nat.le_of_ble_eq_true rfl⟩) hS (fun q _ h => zp_F1 hD hS hA q h) (zp_F1 hD hS hA) (fun r16 u t H locs ht hvm hw hB hz1 hk1 hS1 => zo1 hB ht hP hD hk1 (zp_F1 hD hS hA) hS1 (fun hP hK1 hD hS => ?_))
    rcases hw with hw | hw | hw
    · obtain ⟨hw, h16_0, h16_1, h16_2, h16_3⟩ := hw
      subst hw
      have l16k0_a0_14 : (1 : Int) ≤ a0_14.toInt := h16_0
      have u16k0_a0_14 : a0_14.toInt ≤ (0 : Int) := ba0_14_u
      exact absurd (Int.le_trans l16k0_a0_14 u16k0_a0_14) (by decide)
    · obtain ⟨hw, h16_0, h16_1⟩ := hw
      subst hw
      have l16k1_a0_14 : (0 : Int) ≤ a0_14.toInt := ba0_14_l
      have u16k1_a0_14 : a0_14.toInt ≤ (0 : Int) := ba0_14_u
      refine lv_istore_n (lv' := [(2, .int 1), (0, .ref a0), (1, .int a1)]) hx hb dX8_rest_19 rfl hl (by decide) rfl (fun ls hl => ?_)
      refine lv_iload_n hx hb dX8_rest_20 rfl (lv_at hl 0 rfl) ?_
      refine lv_if_eq (tgt := 30) hx hb dX8_rest_21 (by decide) (fun c21 => absurd c21 (by decide +kernel)) (fun _ => ?_)
      refine lv_aload_n hx hb dX8_rest_24 rfl (lv_at hl 1 rfl) ?_
      refine lv_iload_n hx hb dX8_rest_25 rfl (lv_at hl 0 rfl) ?_
      refine va_calli (va_runV (As := [.int 1]) (rest := []) ⟨hx, hb, hml, hown, hts⟩ (c_X8_no l dC dI H.size a0 1 (Value.int v1na0_0) a0g_1 a0g_2 a0g_3 a0g_4 a0g_5 a0g_6 a0g_7 a0g_8 a0g_9 a0g_10 a0g_12 a0g_13 (Value.int a0_14) a0g_15 a0g_16 a0g_17 a0g_18 a0g_19 a0g_20 a0g_21 a0g_22 a0g_23 a0g_24 a0g_25 a0g_26 a0g_27 a0g_28 a0g_29 a0g_30 a0g_31 a0g_32 a0g_33 a0g_34 a0g_35 a0g_36 a0g_37 a0g_38 a0g_39 v1na0_11 ) (cwV 1 hts gX8_rest_X8_no rfl rfl rfl zd_X8_no ⟨Nat.le_of_ble_eq_true rfl, Nat.le_of_ble_eq_true rfl⟩) ⟨ax_blind (fun _ _ _ _ _ => trivial), zr_8 (zp_K hK) (zp_P1 hP) (q0 := 0) rfl, ax_pre (zp_P1 hP) (zp_K hK) (zp_D1 hD) (fun _ _ => trivial)⟩ rfl rfl hl.1 rfl (lv_room (Nat.le_of_ble_eq_true rfl)) dX8_rest_26 ⟨Nat.le_of_ble_eq_true rfl, Nat.le_of_ble_eq_true rfl⟩) hS (fun q _ h => zp_F1 hD hS hA q h) (zp_F1 hD hS hA) (fun r26 u t H locs ht hvm hw => zx_1 (fun v26na0_11 hB hz1 hk1 hS1 => zo1 hB ht hP hD hk1 (zp_F1 hD hS hA) hS1 (fun hP hK1 hD hS => ?_)))
      have hw : r26 = (-1) := hw
      have hw := hw.symm
      subst hw
      exact W.iret (v := (-1)) hx hb hr (fun t ht hW => ⟨⟨(-1), (), rfl, rfl, v1na0_0, v26na0_11, by rw [ht]; exact hP, va_K.moved hW.alike hK, hD⟩, hS.F ht⟩) hS.2.2 dX8_rest_29
    · obtain ⟨hw, h16_0, h16_1, h16_2, h16_3⟩ := hw
      subst hw
      have l16k2_a0_14 : (1 : Int) ≤ a0_14.toInt := h16_0
      have u16k2_a0_14 : a0_14.toInt ≤ (0 : Int) := ba0_14_u
      exact absurd (Int.le_trans l16k2_a0_14 u16k2_a0_14) (by decide)
  · obtain ⟨hw, h13⟩ := hw
    subst hw
    refine va_calli (va_runV (As := [.int a0_14, .int 0]) (rest := []) ⟨hx, hb, hml, hown, hts⟩ (c_X8_whyB l dC dI H.size a0 a0_14 0 (Value.int v1na0_0) a0g_1 a0g_2 a0g_3 a0g_4 a0g_5 a0g_6 a0g_7 a0g_8 a0g_9 a0g_10 (Value.int v1na0_11) a0g_12 a0g_13 (Value.int a0_14) a0g_15 a0g_16 a0g_17 a0g_18 a0g_19 a0g_20 a0g_21 a0g_22 a0g_23 a0g_24 a0g_25 a0g_26 a0g_27 a0g_28 a0g_29 a0g_30 a0g_31 a0g_32 a0g_33 a0g_34 a0g_35 a0g_36 a0g_37 a0g_38 a0g_39 ba0_14_l (Int.le_trans ba0_14_u zq4) zq5 (Int.le_trans zq6 zq4)) (cwV 2 hts gX8_rest_X8_why rfl rfl rfl zd_X8_why ⟨Nat.le_of_ble_eq_true rfl, Nat.le_of_ble_eq_true rfl⟩) ⟨ax_blind (fun _ _ _ _ _ => trivial), zr_8 (zp_K hK) (zp_P1 hP) (q0 := 0) rfl, ax_pre (zp_P1 hP) (zp_K hK) (zp_D1 hD) (fun _ _ => trivial)⟩ rfl rfl hl.1 rfl (lv_room (Nat.le_of_ble_eq_true rfl)) dX8_rest_16 ⟨Nat.le_of_ble_eq_true rfl, Nat.le_of_ble_eq_true rfl⟩) hS (fun q _ h => zp_F1 hD hS hA q h) (zp_F1 hD hS hA) (fun r16 u t H locs ht hvm hw hB hz1 hk1 hS1 => zo1 hB ht hP hD hk1 (zp_F1 hD hS hA) hS1 (fun hP hK1 hD hS => ?_))
    rcases hw with hw | hw | hw
    · obtain ⟨hw, h16_0, h16_1, h16_2, h16_3⟩ := hw
      subst hw
      have l16k0_a0_14 : (1 : Int) ≤ a0_14.toInt := h16_0
      have u16k0_a0_14 : a0_14.toInt ≤ (0 : Int) := ba0_14_u
      exact absurd (Int.le_trans l16k0_a0_14 u16k0_a0_14) (by decide)
    · obtain ⟨hw, h16_0, h16_1⟩ := hw
      subst hw
      have l16k1_a0_14 : (0 : Int) ≤ a0_14.toInt := ba0_14_l
      have u16k1_a0_14 : a0_14.toInt ≤ (0 : Int) := ba0_14_u
      refine lv_istore_n (lv' := [(2, .int 1), (0, .ref a0), (1, .int a1)]) hx hb dX8_rest_19 rfl hl (by decide) rfl (fun ls hl => ?_)
      refine lv_iload_n hx hb dX8_rest_20 rfl (lv_at hl 0 rfl) ?_
      refine lv_if_eq (tgt := 30) hx hb dX8_rest_21 (by decide) (fun c21 => absurd c21 (by decide +kernel)) (fun _ => ?_)
      refine lv_aload_n hx hb dX8_rest_24 rfl (lv_at hl 1 rfl) ?_
      refine lv_iload_n hx hb dX8_rest_25 rfl (lv_at hl 0 rfl) ?_
      refine va_calli (va_runV (As := [.int 1]) (rest := []) ⟨hx, hb, hml, hown, hts⟩ (c_X8_no l dC dI H.size a0 1 (Value.int v1na0_0) a0g_1 a0g_2 a0g_3 a0g_4 a0g_5 a0g_6 a0g_7 a0g_8 a0g_9 a0g_10 a0g_12 a0g_13 (Value.int a0_14) a0g_15 a0g_16 a0g_17 a0g_18 a0g_19 a0g_20 a0g_21 a0g_22 a0g_23 a0g_24 a0g_25 a0g_26 a0g_27 a0g_28 a0g_29 a0g_30 a0g_31 a0g_32 a0g_33 a0g_34 a0g_35 a0g_36 a0g_37 a0g_38 a0g_39 v1na0_11 ) (cwV 1 hts gX8_rest_X8_no rfl rfl rfl zd_X8_no ⟨Nat.le_of_ble_eq_true rfl, Nat.le_of_ble_eq_true rfl⟩) ⟨ax_blind (fun _ _ _ _ _ => trivial), zr_8 (zp_K hK) (zp_P1 hP) (q0 := 0) rfl, ax_pre (zp_P1 hP) (zp_K hK) (zp_D1 hD) (fun _ _ => trivial)⟩ rfl rfl hl.1 rfl (lv_room (Nat.le_of_ble_eq_true rfl)) dX8_rest_26 ⟨Nat.le_of_ble_eq_true rfl, Nat.le_of_ble_eq_true rfl⟩) hS (fun q _ h => zp_F1 hD hS hA q h) (zp_F1 hD hS hA) (fun r26 u t H locs ht hvm hw => zx_1 (fun v26na0_11 hB hz1 hk1 hS1 => zo1 hB ht hP hD hk1 (zp_F1 hD hS hA) hS1 (fun hP hK1 hD hS => ?_)))
      have hw : r26 = (-1) := hw
      have hw := hw.symm
      subst hw
      exact W.iret (v := (-1)) hx hb hr (fun t ht hW => ⟨⟨(-1), (), rfl, rfl, v1na0_0, v26na0_11, by rw [ht]; exact hP, va_K.moved hW.alike hK, hD⟩, hS.F ht⟩) hS.2.2 dX8_rest_29
    · obtain ⟨hw, h16_0, h16_1, h16_2, h16_3⟩ := hw
      subst hw
      have l16k2_a0_14 : (1 : Int) ≤ a0_14.toInt := h16_0
      have u16k2_a0_14 : a0_14.toInt ≤ (0 : Int) := ba0_14_u
      exact absurd (Int.le_trans l16k2_a0_14 u16k2_a0_14) (by decide)

set_option maxHeartbeats 4000000 in
set_option maxRecDepth 100000 in
theorem c0_X8_drawn (l : Launch) (dC : Nat → ClassId) (dI : Nat → Nat → Nat) (sz : Nat) (a0 : Nat) (a1 : Int32) (a2 : Int32) (a3 : Int32) (a0_0 : Int32) (a0g_1 a0g_2 a0g_3 a0g_4 a0g_5 a0g_6 a0g_7 a0g_8 a0g_9 a0g_10 a0g_12 a0g_13 a0g_15 a0g_16 a0g_17 a0g_18 a0g_19 a0g_20 a0g_21 a0g_22 a0g_23 a0g_24 a0g_25 a0g_26 a0g_27 a0g_28 a0g_29 a0g_30 a0g_31 a0g_32 a0g_33 a0g_34 a0g_35 a0g_36 a0g_37 a0g_38 a0g_39 : Value) (a0_11 : Int32) (a0_14 : Int32) (ba0_14_l : (0 : Int) ≤ a0_14.toInt) (ba0_14_u : a0_14.toInt ≤ (0 : Int)) : zm l yX8_drawn wsX8_drawn ({ frames := 2, cells := 0, slots := 0, locals := 50 }) [.ref a0, .int a1, .int a2, .int a3] dC dI sz [(a0, .inr (8, [Value.int a0_0, a0g_1, a0g_2, a0g_3, a0g_4, a0g_5, a0g_6, a0g_7, a0g_8, a0g_9, a0g_10, Value.int a0_11, a0g_12, a0g_13, Value.int a0_14, a0g_15, a0g_16, a0g_17, a0g_18, a0g_19, a0g_20, a0g_21, a0g_22, a0g_23, a0g_24, a0g_25, a0g_26, a0g_27, a0g_28, a0g_29, a0g_30, a0g_31, a0g_32, a0g_33, a0g_34, a0g_35, a0g_36, a0g_37, a0g_38, a0g_39]))] [] (fun A _ => True) (fun A => va_Qi (fun (r : Int32) (_ : Unit) => r = (-1)) (fun (_ : Unit) (t : State) => ∃ na0_0 : Int32, ∃ na0_11 : Int32, ax_B dC dI A [(a0, .inr (8, [Value.int na0_0, a0g_1, a0g_2, a0g_3, a0g_4, a0g_5, a0g_6, a0g_7, a0g_8, a0g_9, a0g_10, Value.int na0_11, a0g_12, a0g_13, Value.int a0_14, a0g_15, a0g_16, a0g_17, a0g_18, a0g_19, a0g_20, a0g_21, a0g_22, a0g_23, a0g_24, a0g_25, a0g_26, a0g_27, a0g_28, a0g_29, a0g_30, a0g_31, a0g_32, a0g_33, a0g_34, a0g_35, a0g_36, a0g_37, a0g_38, a0g_39]))] [] t) A) := by
  refine zh (cc := cX8_drawn) (maxL := 5) (ret := (some .int)) zn_RX8 rfl (Nat.le_of_ble_eq_true rfl) (fun p e s m below meth c A ls hx hb hml hr hts (hown : s.vm.findClass RX8 = some m.cls) hlocks hA hS hP hK hD hE (hl : lv_has ls 5 [(0, .ref a0), (1, .int a1), (2, .int a2), (3, .int a3)]) => ?_)
  refine lv_aload_n hx hb dX8_drawn_0 rfl (lv_at hl 0 rfl) ?_
  refine va_callv (va_runV (As := []) (rest := []) ⟨hx, hb, hml, hown, hts⟩ (c_X8_good l dC dI s.heap.size a0 a0_0 a0g_1 a0g_2 a0g_3 a0g_4 a0g_5 a0g_6 a0g_7 a0g_8 a0g_9 a0g_10 a0g_12 a0g_13 (Value.int a0_14) a0g_15 a0g_16 a0g_17 a0g_18 a0g_19 a0g_20 a0g_21 a0g_22 a0g_23 a0g_24 a0g_25 a0g_26 a0g_27 a0g_28 a0g_29 a0g_30 a0g_31 a0g_32 a0g_33 a0g_34 a0g_35 a0g_36 a0g_37 a0g_38 a0g_39 a0_11 ) (cwV 0 hts gX8_drawn_X8_good rfl rfl rfl zd_X8_good ⟨Nat.le_of_ble_eq_true rfl, Nat.le_of_ble_eq_true rfl⟩) ⟨ax_blind (fun _ _ _ _ _ => trivial), zr_8 (zp_K hK) (zp_P1 hP) (q0 := 0) rfl, ax_pre (zp_P1 hP) (zp_K hK) (zp_D1 hD) (fun _ _ => trivial)⟩ rfl rfl hl.1 rfl (lv_room (Nat.le_of_ble_eq_true rfl)) dX8_drawn_1 ⟨Nat.le_of_ble_eq_true rfl, Nat.le_of_ble_eq_true rfl⟩) hS (fun q _ h => zp_F1 hD hS hA q h) (zp_F1 hD hS hA) (fun u t H locs ht hvm hw => zx_2 (fun v1na0_0 v1na0_11 hB hz1 hk1 hS1 => zo1 hB ht hP hD hk1 (zp_F1 hD hS hA) hS1 (fun hP hK1 hD hS => ?_)))
  refine lv_aload_n hx hb dX8_drawn_4 rfl (lv_at hl 0 rfl) ?_
  refine lv_aload_n hx hb dX8_drawn_5 rfl (lv_at hl 0 rfl) ?_
  refine lv_iload_n hx hb dX8_drawn_6 rfl (lv_at hl 1 rfl) ?_
  refine va_calli (va_runV (As := [.int a1]) (rest := [.ref a0]) ⟨hx, hb, hml, hown, hts⟩ (c0_X8_isFigure l dC dI H.size a0 a1 (Value.int v1na0_0) a0g_1 a0g_2 a0g_3 a0g_4 a0g_5 a0g_6 a0g_7 a0g_8 a0g_9 a0g_10 (Value.int v1na0_11) a0g_12 a0g_13 a0g_15 a0g_16 a0g_17 a0g_18 a0g_19 a0g_20 a0g_21 a0g_22 a0g_23 a0g_24 a0g_25 a0g_26 a0g_27 a0g_28 a0g_29 a0g_30 a0g_31 a0g_32 a0g_33 a0g_34 a0g_35 a0g_36 a0g_37 a0g_38 a0g_39 a0_14 ba0_14_l ba0_14_u) (cwV 1 hts gX8_drawn_X8_isFigure rfl rfl rfl zd_X8_isFigure ⟨Nat.le_of_ble_eq_true rfl, Nat.le_of_ble_eq_true rfl⟩) ⟨ax_blind (fun _ _ _ _ _ => trivial), zr_8 (zp_K hK) (zp_P1 hP) (q0 := 0) rfl, ax_pre (zp_P1 hP) (zp_K hK) (zp_D1 hD) (fun _ _ => trivial)⟩ rfl rfl hl.1 rfl (lv_room (Nat.le_of_ble_eq_true rfl)) dX8_drawn_7 ⟨Nat.le_of_ble_eq_true rfl, Nat.le_of_ble_eq_true rfl⟩) hS (fun q _ h => zp_F1 hD hS hA q h) (zp_F1 hD hS hA) (fun r7 u t H locs ht hvm hw hB hz1 hk1 hS1 => zo1 hB ht hP hD hk1 (zp_F1 hD hS hA) hS1 (fun hP hK1 hD hS => ?_))
  have hw : r7 = 0 := hw
  have hw := hw.symm
  subst hw
  refine lv_iload_n hx hb dX8_drawn_10 rfl (lv_at hl 1 rfl) ?_
  refine lv_iload_n hx hb dX8_drawn_11 rfl (lv_at hl 2 rfl) ?_
  refine lv_iload_n hx hb dX8_drawn_12 rfl (lv_at hl 3 rfl) ?_
  refine va_calli (va_runV (As := [.int 0, .int a1, .int a2, .int a3]) (rest := []) ⟨hx, hb, hml, hown, hts⟩ (c0_X8_drawWhy l dC dI H.size a0 0 a1 a2 a3 (Value.int v1na0_0) a0g_1 a0g_2 a0g_3 a0g_4 a0g_5 a0g_6 a0g_7 a0g_8 a0g_9 a0g_10 (Value.int v1na0_11) a0g_12 a0g_13 (Value.int a0_14) a0g_15 a0g_16 a0g_17 a0g_18 a0g_19 a0g_20 a0g_21 a0g_22 a0g_23 a0g_24 a0g_25 a0g_26 a0g_27 a0g_28 a0g_29 a0g_30 a0g_31 a0g_32 a0g_33 a0g_34 a0g_35 a0g_36 a0g_37 a0g_38 a0g_39 zq5 zq6) (cwV 4 hts gX8_drawn_X8_drawWhy rfl rfl rfl zd_X8_drawWhy ⟨Nat.le_of_ble_eq_true rfl, Nat.le_of_ble_eq_true rfl⟩) ⟨ax_blind (fun _ _ _ _ _ => trivial), zr_8 (zp_K hK) (zp_P1 hP) (q0 := 0) rfl, ax_pre (zp_P1 hP) (zp_K hK) (zp_D1 hD) (fun _ _ => trivial)⟩ rfl rfl hl.1 rfl (lv_room (Nat.le_of_ble_eq_true rfl)) dX8_drawn_13 ⟨Nat.le_of_ble_eq_true rfl, Nat.le_of_ble_eq_true rfl⟩) hS (fun q _ h => zp_F1 hD hS hA q h) (zp_F1 hD hS hA) (fun r13 u t H locs ht hvm hw hB hz1 hk1 hS1 => zo1 hB ht hP hD hk1 (zp_F1 hD hS hA) hS1 (fun hP hK1 hD hS => ?_))
  have hw : r13 = 1 := hw
  have hw := hw.symm
  subst hw
  refine lv_istore (lv' := [(4, .int 1), (0, .ref a0), (1, .int a1), (2, .int a2), (3, .int a3)]) hx hb dX8_drawn_16 hl (by decide) rfl (fun ls hl => ?_)
  refine lv_iload hx hb dX8_drawn_18 (lv_at hl 0 rfl) ?_
  refine lv_if_eq (tgt := 32) hx hb dX8_drawn_20 (by decide) (fun c20 => absurd c20 (by decide +kernel)) (fun _ => ?_)
  refine lv_aload_n hx hb dX8_drawn_23 rfl (lv_at hl 1 rfl) ?_
  refine lv_iload hx hb dX8_drawn_24 (lv_at hl 0 rfl) ?_
  refine va_calli (va_runV (As := [.int 1]) (rest := []) ⟨hx, hb, hml, hown, hts⟩ (c_X8_no l dC dI H.size a0 1 (Value.int v1na0_0) a0g_1 a0g_2 a0g_3 a0g_4 a0g_5 a0g_6 a0g_7 a0g_8 a0g_9 a0g_10 a0g_12 a0g_13 (Value.int a0_14) a0g_15 a0g_16 a0g_17 a0g_18 a0g_19 a0g_20 a0g_21 a0g_22 a0g_23 a0g_24 a0g_25 a0g_26 a0g_27 a0g_28 a0g_29 a0g_30 a0g_31 a0g_32 a0g_33 a0g_34 a0g_35 a0g_36 a0g_37 a0g_38 a0g_39 v1na0_11 ) (cwV 1 hts gX8_drawn_X8_no rfl rfl rfl zd_X8_no ⟨Nat.le_of_ble_eq_true rfl, Nat.le_of_ble_eq_true rfl⟩) ⟨ax_blind (fun _ _ _ _ _ => trivial), zr_8 (zp_K hK) (zp_P1 hP) (q0 := 0) rfl, ax_pre (zp_P1 hP) (zp_K hK) (zp_D1 hD) (fun _ _ => trivial)⟩ rfl rfl hl.1 rfl (lv_room (Nat.le_of_ble_eq_true rfl)) dX8_drawn_26 ⟨Nat.le_of_ble_eq_true rfl, Nat.le_of_ble_eq_true rfl⟩) hS (fun q _ h => zp_F1 hD hS hA q h) (zp_F1 hD hS hA) (fun r26 u t H locs ht hvm hw => zx_1 (fun v26na0_11 hB hz1 hk1 hS1 => zo1 hB ht hP hD hk1 (zp_F1 hD hS hA) hS1 (fun hP hK1 hD hS => ?_)))
  have hw : r26 = (-1) := hw
  have hw := hw.symm
  subst hw
  refine lv_goto (tgt := 36) hx hb dX8_drawn_29 (by decide) ?_
  exact W.iret (v := (-1)) hx hb hr (fun t ht hW => ⟨⟨(-1), (), rfl, rfl, v1na0_0, v26na0_11, by rw [ht]; exact hP, va_K.moved hW.alike hK, hD⟩, hS.F ht⟩) hS.2.2 dX8_drawn_36
end P280_05_safe
section P280_06_safe
set_option maxHeartbeats 4000000 in
set_option maxRecDepth 100000 in
theorem c0_X8_firstShut (l : Launch) (dC : Nat → ClassId) (dI : Nat → Nat → Nat) (sz : Nat) (a0 : Nat) (a1 : Int32) (a2 : Int32) (a0_0 : Int32) (a0g_1 a0g_2 a0g_3 a0g_4 a0g_5 a0g_6 a0g_7 a0g_8 a0g_9 a0g_10 a0g_12 a0g_13 a0g_15 a0g_16 a0g_17 a0g_18 a0g_19 a0g_20 a0g_21 a0g_22 a0g_23 a0g_24 a0g_25 a0g_26 a0g_27 a0g_28 a0g_29 a0g_30 a0g_31 a0g_32 a0g_33 a0g_34 a0g_35 a0g_36 a0g_37 a0g_38 a0g_39 : Value) (a0_11 : Int32) (a0_14 : Int32) (ba0_14_l : (0 : Int) ≤ a0_14.toInt) (ba0_14_u : a0_14.toInt ≤ (0 : Int)) : zm l yX8_firstShut wsX8_firstShut ({ frames := 2, cells := 0, slots := 0, locals := 50 }) [.ref a0, .int a1, .int a2] dC dI sz [(a0, .inr (8, [Value.int a0_0, a0g_1, a0g_2, a0g_3, a0g_4, a0g_5, a0g_6, a0g_7, a0g_8, a0g_9, a0g_10, Value.int a0_11, a0g_12, a0g_13, Value.int a0_14, a0g_15, a0g_16, a0g_17, a0g_18, a0g_19, a0g_20, a0g_21, a0g_22, a0g_23, a0g_24, a0g_25, a0g_26, a0g_27, a0g_28, a0g_29, a0g_30, a0g_31, a0g_32, a0g_33, a0g_34, a0g_35, a0g_36, a0g_37, a0g_38, a0g_39]))] [] (fun A _ => True) (fun A => va_Qi (fun (r : Int32) (_ : Unit) => r = (-1)) (fun (_ : Unit) (t : State) => ∃ na0_0 : Int32, ∃ na0_11 : Int32, ax_B dC dI A [(a0, .inr (8, [Value.int na0_0, a0g_1, a0g_2, a0g_3, a0g_4, a0g_5, a0g_6, a0g_7, a0g_8, a0g_9, a0g_10, Value.int na0_11, a0g_12, a0g_13, Value.int a0_14, a0g_15, a0g_16, a0g_17, a0g_18, a0g_19, a0g_20, a0g_21, a0g_22, a0g_23, a0g_24, a0g_25, a0g_26, a0g_27, a0g_28, a0g_29, a0g_30, a0g_31, a0g_32, a0g_33, a0g_34, a0g_35, a0g_36, a0g_37, a0g_38, a0g_39]))] [] t) A) := by
  refine zh (cc := cX8_firstShut) (maxL := 4) (ret := (some .int)) zn_RX8 rfl (Nat.le_of_ble_eq_true rfl) (fun p e s m below meth c A ls hx hb hml hr hts (hown : s.vm.findClass RX8 = some m.cls) hlocks hA hS hP hK hD hE (hl : lv_has ls 4 [(0, .ref a0), (1, .int a1), (2, .int a2)]) => ?_)
  refine lv_aload_n hx hb dX8_firstShut_0 rfl (lv_at hl 0 rfl) ?_
  refine va_callv (va_runV (As := []) (rest := []) ⟨hx, hb, hml, hown, hts⟩ (c_X8_good l dC dI s.heap.size a0 a0_0 a0g_1 a0g_2 a0g_3 a0g_4 a0g_5 a0g_6 a0g_7 a0g_8 a0g_9 a0g_10 a0g_12 a0g_13 (Value.int a0_14) a0g_15 a0g_16 a0g_17 a0g_18 a0g_19 a0g_20 a0g_21 a0g_22 a0g_23 a0g_24 a0g_25 a0g_26 a0g_27 a0g_28 a0g_29 a0g_30 a0g_31 a0g_32 a0g_33 a0g_34 a0g_35 a0g_36 a0g_37 a0g_38 a0g_39 a0_11 ) (cwV 0 hts gX8_firstShut_X8_good rfl rfl rfl zd_X8_good ⟨Nat.le_of_ble_eq_true rfl, Nat.le_of_ble_eq_true rfl⟩) ⟨ax_blind (fun _ _ _ _ _ => trivial), zr_8 (zp_K hK) (zp_P1 hP) (q0 := 0) rfl, ax_pre (zp_P1 hP) (zp_K hK) (zp_D1 hD) (fun _ _ => trivial)⟩ rfl rfl hl.1 rfl (lv_room (Nat.le_of_ble_eq_true rfl)) dX8_firstShut_1 ⟨Nat.le_of_ble_eq_true rfl, Nat.le_of_ble_eq_true rfl⟩) hS (fun q _ h => zp_F1 hD hS hA q h) (zp_F1 hD hS hA) (fun u t H locs ht hvm hw => zx_2 (fun v1na0_0 v1na0_11 hB hz1 hk1 hS1 => zo1 hB ht hP hD hk1 (zp_F1 hD hS hA) hS1 (fun hP hK1 hD hS => ?_)))
  refine lv_aload_n hx hb dX8_firstShut_4 rfl (lv_at hl 0 rfl) ?_
  refine lv_aload_n hx hb dX8_firstShut_5 rfl (lv_at hl 0 rfl) ?_
  refine va_get (D := (dC, dI)) (ci := 8) (v := .int a0_14) (C := RX8) (T := TX8) (N := 40) hx hb hts zi_X8_firstShut_8 hown hK hP 0 rfl rfl 14 (by decide) (hts (.fieldLink RX8 173 "WaxTurnsModel" "hasGallery" "Z") (zm_X8_firstShut_r1 (List.mem_of_getElem? (i := 0) rfl))) (fun _ h9 => h9) rfl dX8_firstShut_6 ?_
  refine lv_iconst (v := (-1)) hx hb dX8_firstShut_9 zk_iconst_n1 ?_
  refine lv_iload_n hx hb dX8_firstShut_10 rfl (lv_at hl 1 rfl) ?_
  refine lv_iload_n hx hb dX8_firstShut_11 rfl (lv_at hl 2 rfl) ?_
  refine va_calli (va_runV (As := [.int a0_14, .int (-1), .int a1, .int a2]) (rest := []) ⟨hx, hb, hml, hown, hts⟩ (c0_X8_drawWhy l dC dI H.size a0 a0_14 (-1) a1 a2 (Value.int v1na0_0) a0g_1 a0g_2 a0g_3 a0g_4 a0g_5 a0g_6 a0g_7 a0g_8 a0g_9 a0g_10 (Value.int v1na0_11) a0g_12 a0g_13 (Value.int a0_14) a0g_15 a0g_16 a0g_17 a0g_18 a0g_19 a0g_20 a0g_21 a0g_22 a0g_23 a0g_24 a0g_25 a0g_26 a0g_27 a0g_28 a0g_29 a0g_30 a0g_31 a0g_32 a0g_33 a0g_34 a0g_35 a0g_36 a0g_37 a0g_38 a0g_39 ba0_14_l ba0_14_u) (cwV 4 hts gX8_firstShut_X8_drawWhy rfl rfl rfl zd_X8_drawWhy ⟨Nat.le_of_ble_eq_true rfl, Nat.le_of_ble_eq_true rfl⟩) ⟨ax_blind (fun _ _ _ _ _ => trivial), zr_8 (zp_K hK) (zp_P1 hP) (q0 := 0) rfl, ax_pre (zp_P1 hP) (zp_K hK) (zp_D1 hD) (fun _ _ => trivial)⟩ rfl rfl hl.1 rfl (lv_room (Nat.le_of_ble_eq_true rfl)) dX8_firstShut_12 ⟨Nat.le_of_ble_eq_true rfl, Nat.le_of_ble_eq_true rfl⟩) hS (fun q _ h => zp_F1 hD hS hA q h) (zp_F1 hD hS hA) (fun r12 u t H locs ht hvm hw hB hz1 hk1 hS1 => zo1 hB ht hP hD hk1 (zp_F1 hD hS hA) hS1 (fun hP hK1 hD hS => ?_))
  have hw : r12 = 1 := hw
  have hw := hw.symm
  subst hw
  refine lv_istore_n (lv' := [(3, .int 1), (0, .ref a0), (1, .int a1), (2, .int a2)]) hx hb dX8_firstShut_15 rfl hl (by decide) rfl (fun ls hl => ?_)
  refine lv_iload_n hx hb dX8_firstShut_16 rfl (lv_at hl 0 rfl) ?_
  refine lv_if_eq (tgt := 28) hx hb dX8_firstShut_17 (by decide) (fun c17 => absurd c17 (by decide +kernel)) (fun _ => ?_)
  refine lv_aload_n hx hb dX8_firstShut_20 rfl (lv_at hl 1 rfl) ?_
  refine lv_iload_n hx hb dX8_firstShut_21 rfl (lv_at hl 0 rfl) ?_
  refine va_calli (va_runV (As := [.int 1]) (rest := []) ⟨hx, hb, hml, hown, hts⟩ (c_X8_no l dC dI H.size a0 1 (Value.int v1na0_0) a0g_1 a0g_2 a0g_3 a0g_4 a0g_5 a0g_6 a0g_7 a0g_8 a0g_9 a0g_10 a0g_12 a0g_13 (Value.int a0_14) a0g_15 a0g_16 a0g_17 a0g_18 a0g_19 a0g_20 a0g_21 a0g_22 a0g_23 a0g_24 a0g_25 a0g_26 a0g_27 a0g_28 a0g_29 a0g_30 a0g_31 a0g_32 a0g_33 a0g_34 a0g_35 a0g_36 a0g_37 a0g_38 a0g_39 v1na0_11 ) (cwV 1 hts gX8_firstShut_X8_no rfl rfl rfl zd_X8_no ⟨Nat.le_of_ble_eq_true rfl, Nat.le_of_ble_eq_true rfl⟩) ⟨ax_blind (fun _ _ _ _ _ => trivial), zr_8 (zp_K hK) (zp_P1 hP) (q0 := 0) rfl, ax_pre (zp_P1 hP) (zp_K hK) (zp_D1 hD) (fun _ _ => trivial)⟩ rfl rfl hl.1 rfl (lv_room (Nat.le_of_ble_eq_true rfl)) dX8_firstShut_22 ⟨Nat.le_of_ble_eq_true rfl, Nat.le_of_ble_eq_true rfl⟩) hS (fun q _ h => zp_F1 hD hS hA q h) (zp_F1 hD hS hA) (fun r22 u t H locs ht hvm hw => zx_1 (fun v22na0_11 hB hz1 hk1 hS1 => zo1 hB ht hP hD hk1 (zp_F1 hD hS hA) hS1 (fun hP hK1 hD hS => ?_)))
  have hw : r22 = (-1) := hw
  have hw := hw.symm
  subst hw
  refine lv_goto (tgt := 32) hx hb dX8_firstShut_25 (by decide) ?_
  exact W.iret (v := (-1)) hx hb hr (fun t ht hW => ⟨⟨(-1), (), rfl, rfl, v1na0_0, v22na0_11, by rw [ht]; exact hP, va_K.moved hW.alike hK, hD⟩, hS.F ht⟩) hS.2.2 dX8_firstShut_32

set_option maxHeartbeats 4000000 in
set_option maxRecDepth 100000 in
theorem c0_X8_go (l : Launch) (dC : Nat → ClassId) (dI : Nat → Nat → Nat) (sz : Nat) (a0 : Nat) (a1 : Int32) (a0_0 : Int32) (a0g_1 a0g_2 a0g_3 a0g_4 a0g_5 a0g_6 a0g_7 a0g_8 a0g_9 a0g_10 a0g_12 a0g_13 a0g_15 a0g_16 a0g_17 a0g_18 a0g_19 a0g_20 a0g_21 a0g_22 a0g_23 a0g_24 a0g_25 a0g_26 a0g_27 a0g_28 a0g_29 a0g_30 a0g_31 a0g_32 a0g_33 a0g_34 a0g_35 a0g_36 a0g_37 a0g_38 a0g_39 : Value) (a0_11 : Int32) (a0_14 : Int32) (ba0_14_l : (0 : Int) ≤ a0_14.toInt) (ba0_14_u : a0_14.toInt ≤ (0 : Int)) : zm l yX8_go wsX8_go ({ frames := 1, cells := 0, slots := 0, locals := 22 }) [.ref a0, .int a1] dC dI sz [(a0, .inr (8, [Value.int a0_0, a0g_1, a0g_2, a0g_3, a0g_4, a0g_5, a0g_6, a0g_7, a0g_8, a0g_9, a0g_10, Value.int a0_11, a0g_12, a0g_13, Value.int a0_14, a0g_15, a0g_16, a0g_17, a0g_18, a0g_19, a0g_20, a0g_21, a0g_22, a0g_23, a0g_24, a0g_25, a0g_26, a0g_27, a0g_28, a0g_29, a0g_30, a0g_31, a0g_32, a0g_33, a0g_34, a0g_35, a0g_36, a0g_37, a0g_38, a0g_39]))] [] (fun A _ => True) (fun A => va_Qi (fun (r : Int32) (_ : Unit) => r = (-1)) (fun (_ : Unit) (t : State) => ∃ na0_0 : Int32, ∃ na0_11 : Int32, ax_B dC dI A [(a0, .inr (8, [Value.int na0_0, a0g_1, a0g_2, a0g_3, a0g_4, a0g_5, a0g_6, a0g_7, a0g_8, a0g_9, a0g_10, Value.int na0_11, a0g_12, a0g_13, Value.int a0_14, a0g_15, a0g_16, a0g_17, a0g_18, a0g_19, a0g_20, a0g_21, a0g_22, a0g_23, a0g_24, a0g_25, a0g_26, a0g_27, a0g_28, a0g_29, a0g_30, a0g_31, a0g_32, a0g_33, a0g_34, a0g_35, a0g_36, a0g_37, a0g_38, a0g_39]))] [] t) A) := by
  refine zh (cc := cX8_go) (maxL := 5) (ret := (some .int)) zn_RX8 rfl (Nat.le_of_ble_eq_true rfl) (fun p e s m below meth c A ls hx hb hml hr hts (hown : s.vm.findClass RX8 = some m.cls) hlocks hA hS hP hK hD hE (hl : lv_has ls 5 [(0, .ref a0), (1, .int a1)]) => ?_)
  refine ai_open (fun K hK0 => ?_)
  refine (hK0 _ _ _).mpr ?_
  refine lv_aload_n hx hb dX8_go_0 rfl (lv_at hl 0 rfl) ?_
  refine va_callv (va_runV (As := []) (rest := []) ⟨hx, hb, hml, hown, hts⟩ (c_X8_good l dC dI s.heap.size a0 a0_0 a0g_1 a0g_2 a0g_3 a0g_4 a0g_5 a0g_6 a0g_7 a0g_8 a0g_9 a0g_10 a0g_12 a0g_13 (Value.int a0_14) a0g_15 a0g_16 a0g_17 a0g_18 a0g_19 a0g_20 a0g_21 a0g_22 a0g_23 a0g_24 a0g_25 a0g_26 a0g_27 a0g_28 a0g_29 a0g_30 a0g_31 a0g_32 a0g_33 a0g_34 a0g_35 a0g_36 a0g_37 a0g_38 a0g_39 a0_11 ) (cwV 0 hts gX8_go_X8_good rfl rfl rfl zd_X8_good ⟨Nat.le_of_ble_eq_true rfl, Nat.le_of_ble_eq_true rfl⟩) ⟨ax_blind (fun _ _ _ _ _ => trivial), zr_8 (zp_K hK) (zp_P1 hP) (q0 := 0) rfl, ax_pre (zp_P1 hP) (zp_K hK) (zp_D1 hD) (fun _ _ => trivial)⟩ rfl rfl hl.1 rfl (lv_room (Nat.le_of_ble_eq_true rfl)) dX8_go_1 ⟨Nat.le_of_ble_eq_true rfl, Nat.le_of_ble_eq_true rfl⟩) hS (fun q _ h => zp_F1 hD hS hA q h) (zp_F1 hD hS hA) (fun u t H locs ht hvm hw => zx_2 (fun v1na0_0 v1na0_11 hB hz1 hk1 hS1 => zo1 hB ht hP hD hk1 (zp_F1 hD hS hA) hS1 (fun hP hK1 hD hS => ?_)))
  refine lv_aload_n hx hb dX8_go_4 rfl (lv_at hl 0 rfl) ?_
  refine lv_aload_n hx hb dX8_go_5 rfl (lv_at hl 0 rfl) ?_
  refine va_get (D := (dC, dI)) (ci := 8) (v := .int a0_14) (C := RX8) (T := TX8) (N := 40) hx hb hts zi_X8_go_8 hown hK hP 0 rfl rfl 14 (by decide) (hts (.fieldLink RX8 173 "WaxTurnsModel" "hasGallery" "Z") (zm_X8_go_r1 (List.mem_of_getElem? (i := 0) rfl))) (fun _ h9 => h9) rfl dX8_go_6 ?_
  refine lv_iload_n hx hb dX8_go_9 rfl (lv_at hl 1 rfl) ?_
  refine lv_iconst (v := 1) hx hb dX8_go_10 zk_iconst_1 ?_
  refine lv_bipush (v := 60) hx hb dX8_go_11 zk_bipush_60 ?_
  refine va_calli (va_runS (As := [.int a1, .int 1, .int 60]) (rest := [.int a0_14, .ref a0]) ⟨hx, hb, hml, hown, hts⟩ (c_X8_in l dC dI H.size a1 1 60 ) (va_cwS 3 hts gX8_go_X8_in rfl rfl rfl zd_X8_in.2 ⟨Nat.le_of_ble_eq_true rfl, Nat.le_of_ble_eq_true rfl⟩) ⟨ax_blind (fun _ _ _ _ _ => trivial), ax_pre (zp_P0 hP) (zp_K hK) (zp_D0 hD) (fun _ _ => trivial)⟩ rfl rfl hl.1 rfl (lv_room (Nat.le_of_ble_eq_true rfl)) dX8_go_13 ⟨Nat.le_of_ble_eq_true rfl, Nat.le_of_ble_eq_true rfl⟩) hS (fun q _ h => zp_F0 hD hS hA q h) (zp_F0 hD hS hA) (fun r13 u t H locs ht hvm hw hB hz1 hk1 hS1 => zo0 hB ht hP hD hk1 (zp_F0 hD hS hA) hS1 (fun hP hK1 hD hS => ?_))
  rcases hw with hw | hw
  · obtain ⟨hw, h13⟩ := hw
    subst hw
    have l13k0_a1 : (1 : Int) ≤ a1.toInt := Int.le_trans zq1 h13.1
    have u13k0_a1 : a1.toInt ≤ (60 : Int) := Int.le_trans h13.2 zq46
    refine va_calli (va_runV (As := [.int a0_14, .int 1]) (rest := []) ⟨hx, hb, hml, hown, hts⟩ (c_X8_whyB l dC dI H.size a0 a0_14 1 (Value.int v1na0_0) a0g_1 a0g_2 a0g_3 a0g_4 a0g_5 a0g_6 a0g_7 a0g_8 a0g_9 a0g_10 (Value.int v1na0_11) a0g_12 a0g_13 (Value.int a0_14) a0g_15 a0g_16 a0g_17 a0g_18 a0g_19 a0g_20 a0g_21 a0g_22 a0g_23 a0g_24 a0g_25 a0g_26 a0g_27 a0g_28 a0g_29 a0g_30 a0g_31 a0g_32 a0g_33 a0g_34 a0g_35 a0g_36 a0g_37 a0g_38 a0g_39 ba0_14_l (Int.le_trans ba0_14_u zq4) (Int.le_trans zq4 zq1) zq0) (cwV 2 hts gX8_go_X8_why rfl rfl rfl zd_X8_why ⟨Nat.le_of_ble_eq_true rfl, Nat.le_of_ble_eq_true rfl⟩) ⟨ax_blind (fun _ _ _ _ _ => trivial), zr_8 (zp_K hK) (zp_P1 hP) (q0 := 0) rfl, ax_pre (zp_P1 hP) (zp_K hK) (zp_D1 hD) (fun _ _ => trivial)⟩ rfl rfl hl.1 rfl (lv_room (Nat.le_of_ble_eq_true rfl)) dX8_go_16 ⟨Nat.le_of_ble_eq_true rfl, Nat.le_of_ble_eq_true rfl⟩) hS (fun q _ h => zp_F1 hD hS hA q h) (zp_F1 hD hS hA) (fun r16 u t H locs ht hvm hw hB hz1 hk1 hS1 => zo1 hB ht hP hD hk1 (zp_F1 hD hS hA) hS1 (fun hP hK1 hD hS => ?_))
    rcases hw with hw | hw | hw
    · obtain ⟨hw, h16_0, h16_1, h16_2, h16_3⟩ := hw
      subst hw
      have l16k0_a0_14 : (1 : Int) ≤ a0_14.toInt := h16_0
      have u16k0_a0_14 : a0_14.toInt ≤ (0 : Int) := ba0_14_u
      exact absurd (Int.le_trans l16k0_a0_14 u16k0_a0_14) (by decide)
    · obtain ⟨hw, h16_0, h16_1⟩ := hw
      subst hw
      have l16k1_a0_14 : (0 : Int) ≤ a0_14.toInt := ba0_14_l
      have u16k1_a0_14 : a0_14.toInt ≤ (0 : Int) := ba0_14_u
      refine lv_istore_n (lv' := [(2, .int 1), (0, .ref a0), (1, .int a1)]) hx hb dX8_go_19 rfl hl (by decide) rfl (fun ls hl => ?_)
      refine lv_iload_n hx hb dX8_go_20 rfl (lv_at hl 0 rfl) ?_
      refine lv_if_ne (tgt := 41) hx hb dX8_go_21 (by decide) (fun _ => ?_) (fun c21 => absurd c21 (by decide +kernel))
      have J41 : ∀ (H : Heap) (locs : List Loc) (ls : Array Slot), va_P (dC, dI) vwCl [(a0, .inr (8, [Value.int v1na0_0, a0g_1, a0g_2, a0g_3, a0g_4, a0g_5, a0g_6, a0g_7, a0g_8, a0g_9, a0g_10, Value.int v1na0_11, a0g_12, a0g_13, Value.int a0_14, a0g_15, a0g_16, a0g_17, a0g_18, a0g_19, a0g_20, a0g_21, a0g_22, a0g_23, a0g_24, a0g_25, a0g_26, a0g_27, a0g_28, a0g_29, a0g_30, a0g_31, a0g_32, a0g_33, a0g_34, a0g_35, a0g_36, a0g_37, a0g_38, a0g_39]))] H → va_D A [(a0, .inr (8, [Value.int v1na0_0, a0g_1, a0g_2, a0g_3, a0g_4, a0g_5, a0g_6, a0g_7, a0g_8, a0g_9, a0g_10, Value.int v1na0_11, a0g_12, a0g_13, Value.int a0_14, a0g_15, a0g_16, a0g_17, a0g_18, a0g_19, a0g_20, a0g_21, a0g_22, a0g_23, a0g_24, a0g_25, a0g_26, a0g_27, a0g_28, a0g_29, a0g_30, a0g_31, a0g_32, a0g_33, a0g_34, a0g_35, a0g_36, a0g_37, a0g_38, a0g_39]))] → va_S A s.heap H locs → lv_has ls 5 [(0, .ref a0), (1, .int a1), (2, .int 1)] → K H locs (F0 m 41 ls []) := by
        intro  H locs ls   hP hD hS hl
        refine (hK0 _ _ _).mpr ?_
        refine lv_iload_n hx hb dX8_go_41 rfl (lv_at hl 2 rfl) ?_
        refine lv_if_eq (tgt := 51) hx hb dX8_go_42 (by decide) (fun c42 => absurd c42 (by decide +kernel)) (fun _ => ?_)
        refine lv_aload_n hx hb dX8_go_45 rfl (lv_at hl 0 rfl) ?_
        refine lv_iload_n hx hb dX8_go_46 rfl (lv_at hl 2 rfl) ?_
        refine va_calli (va_runV (As := [.int 1]) (rest := []) ⟨hx, hb, hml, hown, hts⟩ (c_X8_no l dC dI H.size a0 1 (Value.int v1na0_0) a0g_1 a0g_2 a0g_3 a0g_4 a0g_5 a0g_6 a0g_7 a0g_8 a0g_9 a0g_10 a0g_12 a0g_13 (Value.int a0_14) a0g_15 a0g_16 a0g_17 a0g_18 a0g_19 a0g_20 a0g_21 a0g_22 a0g_23 a0g_24 a0g_25 a0g_26 a0g_27 a0g_28 a0g_29 a0g_30 a0g_31 a0g_32 a0g_33 a0g_34 a0g_35 a0g_36 a0g_37 a0g_38 a0g_39 v1na0_11 ) (cwV 1 hts gX8_go_X8_no rfl rfl rfl zd_X8_no ⟨Nat.le_of_ble_eq_true rfl, Nat.le_of_ble_eq_true rfl⟩) ⟨ax_blind (fun _ _ _ _ _ => trivial), zr_8 (zp_K hK) (zp_P1 hP) (q0 := 0) rfl, ax_pre (zp_P1 hP) (zp_K hK) (zp_D1 hD) (fun _ _ => trivial)⟩ rfl rfl hl.1 rfl (lv_room (Nat.le_of_ble_eq_true rfl)) dX8_go_47 ⟨Nat.le_of_ble_eq_true rfl, Nat.le_of_ble_eq_true rfl⟩) hS (fun q _ h => zp_F1 hD hS hA q h) (zp_F1 hD hS hA) (fun r47 u t H locs ht hvm hw => zx_1 (fun v47na0_11 hB hz1 hk1 hS1 => zo1 hB ht hP hD hk1 (zp_F1 hD hS hA) hS1 (fun hP hK1 hD hS => ?_)))
        have hw : r47 = (-1) := hw
        have hw := hw.symm
        subst hw
        exact W.iret (v := (-1)) hx hb hr (fun t ht hW => ⟨⟨(-1), (), rfl, rfl, v1na0_0, v47na0_11, by rw [ht]; exact hP, va_K.moved hW.alike hK, hD⟩, hS.F ht⟩) hS.2.2 dX8_go_50
      exact (hK0 _ _ _).mp (J41  _ _ _   hP hD hS (lv_sub hl [1, 2, 0] rfl))
    · obtain ⟨hw, h16_0, h16_1, h16_2, h16_3⟩ := hw
      subst hw
      have l16k2_a0_14 : (1 : Int) ≤ a0_14.toInt := h16_0
      have u16k2_a0_14 : a0_14.toInt ≤ (0 : Int) := ba0_14_u
      exact absurd (Int.le_trans l16k2_a0_14 u16k2_a0_14) (by decide)
  · obtain ⟨hw, h13⟩ := hw
    subst hw
    refine va_calli (va_runV (As := [.int a0_14, .int 0]) (rest := []) ⟨hx, hb, hml, hown, hts⟩ (c_X8_whyB l dC dI H.size a0 a0_14 0 (Value.int v1na0_0) a0g_1 a0g_2 a0g_3 a0g_4 a0g_5 a0g_6 a0g_7 a0g_8 a0g_9 a0g_10 (Value.int v1na0_11) a0g_12 a0g_13 (Value.int a0_14) a0g_15 a0g_16 a0g_17 a0g_18 a0g_19 a0g_20 a0g_21 a0g_22 a0g_23 a0g_24 a0g_25 a0g_26 a0g_27 a0g_28 a0g_29 a0g_30 a0g_31 a0g_32 a0g_33 a0g_34 a0g_35 a0g_36 a0g_37 a0g_38 a0g_39 ba0_14_l (Int.le_trans ba0_14_u zq4) zq5 (Int.le_trans zq6 zq4)) (cwV 2 hts gX8_go_X8_why rfl rfl rfl zd_X8_why ⟨Nat.le_of_ble_eq_true rfl, Nat.le_of_ble_eq_true rfl⟩) ⟨ax_blind (fun _ _ _ _ _ => trivial), zr_8 (zp_K hK) (zp_P1 hP) (q0 := 0) rfl, ax_pre (zp_P1 hP) (zp_K hK) (zp_D1 hD) (fun _ _ => trivial)⟩ rfl rfl hl.1 rfl (lv_room (Nat.le_of_ble_eq_true rfl)) dX8_go_16 ⟨Nat.le_of_ble_eq_true rfl, Nat.le_of_ble_eq_true rfl⟩) hS (fun q _ h => zp_F1 hD hS hA q h) (zp_F1 hD hS hA) (fun r16 u t H locs ht hvm hw hB hz1 hk1 hS1 => zo1 hB ht hP hD hk1 (zp_F1 hD hS hA) hS1 (fun hP hK1 hD hS => ?_))
    rcases hw with hw | hw | hw
    · obtain ⟨hw, h16_0, h16_1, h16_2, h16_3⟩ := hw
      subst hw
      have l16k0_a0_14 : (1 : Int) ≤ a0_14.toInt := h16_0
      have u16k0_a0_14 : a0_14.toInt ≤ (0 : Int) := ba0_14_u
      exact absurd (Int.le_trans l16k0_a0_14 u16k0_a0_14) (by decide)
    · obtain ⟨hw, h16_0, h16_1⟩ := hw
      subst hw
      have l16k1_a0_14 : (0 : Int) ≤ a0_14.toInt := ba0_14_l
      have u16k1_a0_14 : a0_14.toInt ≤ (0 : Int) := ba0_14_u
      refine lv_istore_n (lv' := [(2, .int 1), (0, .ref a0), (1, .int a1)]) hx hb dX8_go_19 rfl hl (by decide) rfl (fun ls hl => ?_)
      refine lv_iload_n hx hb dX8_go_20 rfl (lv_at hl 0 rfl) ?_
      refine lv_if_ne (tgt := 41) hx hb dX8_go_21 (by decide) (fun _ => ?_) (fun c21 => absurd c21 (by decide +kernel))
      have J41 : ∀ (H : Heap) (locs : List Loc) (ls : Array Slot), va_P (dC, dI) vwCl [(a0, .inr (8, [Value.int v1na0_0, a0g_1, a0g_2, a0g_3, a0g_4, a0g_5, a0g_6, a0g_7, a0g_8, a0g_9, a0g_10, Value.int v1na0_11, a0g_12, a0g_13, Value.int a0_14, a0g_15, a0g_16, a0g_17, a0g_18, a0g_19, a0g_20, a0g_21, a0g_22, a0g_23, a0g_24, a0g_25, a0g_26, a0g_27, a0g_28, a0g_29, a0g_30, a0g_31, a0g_32, a0g_33, a0g_34, a0g_35, a0g_36, a0g_37, a0g_38, a0g_39]))] H → va_D A [(a0, .inr (8, [Value.int v1na0_0, a0g_1, a0g_2, a0g_3, a0g_4, a0g_5, a0g_6, a0g_7, a0g_8, a0g_9, a0g_10, Value.int v1na0_11, a0g_12, a0g_13, Value.int a0_14, a0g_15, a0g_16, a0g_17, a0g_18, a0g_19, a0g_20, a0g_21, a0g_22, a0g_23, a0g_24, a0g_25, a0g_26, a0g_27, a0g_28, a0g_29, a0g_30, a0g_31, a0g_32, a0g_33, a0g_34, a0g_35, a0g_36, a0g_37, a0g_38, a0g_39]))] → va_S A s.heap H locs → lv_has ls 5 [(0, .ref a0), (1, .int a1), (2, .int 1)] → K H locs (F0 m 41 ls []) := by
        intro  H locs ls   hP hD hS hl
        refine (hK0 _ _ _).mpr ?_
        refine lv_iload_n hx hb dX8_go_41 rfl (lv_at hl 2 rfl) ?_
        refine lv_if_eq (tgt := 51) hx hb dX8_go_42 (by decide) (fun c42 => absurd c42 (by decide +kernel)) (fun _ => ?_)
        refine lv_aload_n hx hb dX8_go_45 rfl (lv_at hl 0 rfl) ?_
        refine lv_iload_n hx hb dX8_go_46 rfl (lv_at hl 2 rfl) ?_
        refine va_calli (va_runV (As := [.int 1]) (rest := []) ⟨hx, hb, hml, hown, hts⟩ (c_X8_no l dC dI H.size a0 1 (Value.int v1na0_0) a0g_1 a0g_2 a0g_3 a0g_4 a0g_5 a0g_6 a0g_7 a0g_8 a0g_9 a0g_10 a0g_12 a0g_13 (Value.int a0_14) a0g_15 a0g_16 a0g_17 a0g_18 a0g_19 a0g_20 a0g_21 a0g_22 a0g_23 a0g_24 a0g_25 a0g_26 a0g_27 a0g_28 a0g_29 a0g_30 a0g_31 a0g_32 a0g_33 a0g_34 a0g_35 a0g_36 a0g_37 a0g_38 a0g_39 v1na0_11 ) (cwV 1 hts gX8_go_X8_no rfl rfl rfl zd_X8_no ⟨Nat.le_of_ble_eq_true rfl, Nat.le_of_ble_eq_true rfl⟩) ⟨ax_blind (fun _ _ _ _ _ => trivial), zr_8 (zp_K hK) (zp_P1 hP) (q0 := 0) rfl, ax_pre (zp_P1 hP) (zp_K hK) (zp_D1 hD) (fun _ _ => trivial)⟩ rfl rfl hl.1 rfl (lv_room (Nat.le_of_ble_eq_true rfl)) dX8_go_47 ⟨Nat.le_of_ble_eq_true rfl, Nat.le_of_ble_eq_true rfl⟩) hS (fun q _ h => zp_F1 hD hS hA q h) (zp_F1 hD hS hA) (fun r47 u t H locs ht hvm hw => zx_1 (fun v47na0_11 hB hz1 hk1 hS1 => zo1 hB ht hP hD hk1 (zp_F1 hD hS hA) hS1 (fun hP hK1 hD hS => ?_)))
        have hw : r47 = (-1) := hw
        have hw := hw.symm
        subst hw
        exact W.iret (v := (-1)) hx hb hr (fun t ht hW => ⟨⟨(-1), (), rfl, rfl, v1na0_0, v47na0_11, by rw [ht]; exact hP, va_K.moved hW.alike hK, hD⟩, hS.F ht⟩) hS.2.2 dX8_go_50
      exact (hK0 _ _ _).mp (J41  _ _ _   hP hD hS (lv_sub hl [1, 2, 0] rfl))
    · obtain ⟨hw, h16_0, h16_1, h16_2, h16_3⟩ := hw
      subst hw
      have l16k2_a0_14 : (1 : Int) ≤ a0_14.toInt := h16_0
      have u16k2_a0_14 : a0_14.toInt ≤ (0 : Int) := ba0_14_u
      exact absurd (Int.le_trans l16k2_a0_14 u16k2_a0_14) (by decide)

set_option maxHeartbeats 4000000 in
set_option maxRecDepth 100000 in
theorem c0_X8_put (l : Launch) (dC : Nat → ClassId) (dI : Nat → Nat → Nat) (sz : Nat) (a0 : Nat) (a1 : Int32) (a0_0 : Int32) (a0g_1 a0g_2 a0g_3 a0g_4 a0g_5 a0g_6 a0g_7 a0g_8 a0g_9 a0g_10 a0g_12 a0g_13 a0g_15 a0g_16 a0g_17 a0g_18 a0g_19 a0g_20 a0g_21 a0g_22 a0g_23 a0g_24 a0g_25 a0g_26 a0g_27 a0g_28 a0g_29 a0g_30 a0g_31 a0g_32 a0g_33 a0g_34 a0g_35 a0g_36 a0g_37 a0g_38 a0g_39 : Value) (a0_11 : Int32) (a0_14 : Int32) (ba0_14_l : (0 : Int) ≤ a0_14.toInt) (ba0_14_u : a0_14.toInt ≤ (0 : Int)) : zm l yX8_put wsX8_put ({ frames := 1, cells := 0, slots := 0, locals := 21 }) [.ref a0, .int a1] dC dI sz [(a0, .inr (8, [Value.int a0_0, a0g_1, a0g_2, a0g_3, a0g_4, a0g_5, a0g_6, a0g_7, a0g_8, a0g_9, a0g_10, Value.int a0_11, a0g_12, a0g_13, Value.int a0_14, a0g_15, a0g_16, a0g_17, a0g_18, a0g_19, a0g_20, a0g_21, a0g_22, a0g_23, a0g_24, a0g_25, a0g_26, a0g_27, a0g_28, a0g_29, a0g_30, a0g_31, a0g_32, a0g_33, a0g_34, a0g_35, a0g_36, a0g_37, a0g_38, a0g_39]))] [] (fun A _ => True) (fun A => va_Qi (fun (r : Int32) (_ : Unit) => r = (-1)) (fun (_ : Unit) (t : State) => ∃ na0_0 : Int32, ∃ na0_11 : Int32, ax_B dC dI A [(a0, .inr (8, [Value.int na0_0, a0g_1, a0g_2, a0g_3, a0g_4, a0g_5, a0g_6, a0g_7, a0g_8, a0g_9, a0g_10, Value.int na0_11, a0g_12, a0g_13, Value.int a0_14, a0g_15, a0g_16, a0g_17, a0g_18, a0g_19, a0g_20, a0g_21, a0g_22, a0g_23, a0g_24, a0g_25, a0g_26, a0g_27, a0g_28, a0g_29, a0g_30, a0g_31, a0g_32, a0g_33, a0g_34, a0g_35, a0g_36, a0g_37, a0g_38, a0g_39]))] [] t) A) := by
  refine zh (cc := cX8_put) (maxL := 3) (ret := (some .int)) zn_RX8 rfl (Nat.le_of_ble_eq_true rfl) (fun p e s m below meth c A ls hx hb hml hr hts (hown : s.vm.findClass RX8 = some m.cls) hlocks hA hS hP hK hD hE (hl : lv_has ls 3 [(0, .ref a0), (1, .int a1)]) => ?_)
  refine lv_aload_n hx hb dX8_put_0 rfl (lv_at hl 0 rfl) ?_
  refine va_callv (va_runV (As := []) (rest := []) ⟨hx, hb, hml, hown, hts⟩ (c_X8_good l dC dI s.heap.size a0 a0_0 a0g_1 a0g_2 a0g_3 a0g_4 a0g_5 a0g_6 a0g_7 a0g_8 a0g_9 a0g_10 a0g_12 a0g_13 (Value.int a0_14) a0g_15 a0g_16 a0g_17 a0g_18 a0g_19 a0g_20 a0g_21 a0g_22 a0g_23 a0g_24 a0g_25 a0g_26 a0g_27 a0g_28 a0g_29 a0g_30 a0g_31 a0g_32 a0g_33 a0g_34 a0g_35 a0g_36 a0g_37 a0g_38 a0g_39 a0_11 ) (cwV 0 hts gX8_put_X8_good rfl rfl rfl zd_X8_good ⟨Nat.le_of_ble_eq_true rfl, Nat.le_of_ble_eq_true rfl⟩) ⟨ax_blind (fun _ _ _ _ _ => trivial), zr_8 (zp_K hK) (zp_P1 hP) (q0 := 0) rfl, ax_pre (zp_P1 hP) (zp_K hK) (zp_D1 hD) (fun _ _ => trivial)⟩ rfl rfl hl.1 rfl (lv_room (Nat.le_of_ble_eq_true rfl)) dX8_put_1 ⟨Nat.le_of_ble_eq_true rfl, Nat.le_of_ble_eq_true rfl⟩) hS (fun q _ h => zp_F1 hD hS hA q h) (zp_F1 hD hS hA) (fun u t H locs ht hvm hw => zx_2 (fun v1na0_0 v1na0_11 hB hz1 hk1 hS1 => zo1 hB ht hP hD hk1 (zp_F1 hD hS hA) hS1 (fun hP hK1 hD hS => ?_)))
  refine lv_aload_n hx hb dX8_put_4 rfl (lv_at hl 0 rfl) ?_
  refine lv_iload_n hx hb dX8_put_5 rfl (lv_at hl 1 rfl) ?_
  refine va_calli (va_runV (As := [.int a1]) (rest := []) ⟨hx, hb, hml, hown, hts⟩ (c0_X8_isFigure l dC dI H.size a0 a1 (Value.int v1na0_0) a0g_1 a0g_2 a0g_3 a0g_4 a0g_5 a0g_6 a0g_7 a0g_8 a0g_9 a0g_10 (Value.int v1na0_11) a0g_12 a0g_13 a0g_15 a0g_16 a0g_17 a0g_18 a0g_19 a0g_20 a0g_21 a0g_22 a0g_23 a0g_24 a0g_25 a0g_26 a0g_27 a0g_28 a0g_29 a0g_30 a0g_31 a0g_32 a0g_33 a0g_34 a0g_35 a0g_36 a0g_37 a0g_38 a0g_39 a0_14 ba0_14_l ba0_14_u) (cwV 1 hts gX8_put_X8_isFigure rfl rfl rfl zd_X8_isFigure ⟨Nat.le_of_ble_eq_true rfl, Nat.le_of_ble_eq_true rfl⟩) ⟨ax_blind (fun _ _ _ _ _ => trivial), zr_8 (zp_K hK) (zp_P1 hP) (q0 := 0) rfl, ax_pre (zp_P1 hP) (zp_K hK) (zp_D1 hD) (fun _ _ => trivial)⟩ rfl rfl hl.1 rfl (lv_room (Nat.le_of_ble_eq_true rfl)) dX8_put_6 ⟨Nat.le_of_ble_eq_true rfl, Nat.le_of_ble_eq_true rfl⟩) hS (fun q _ h => zp_F1 hD hS hA q h) (zp_F1 hD hS hA) (fun r6 u t H locs ht hvm hw hB hz1 hk1 hS1 => zo1 hB ht hP hD hk1 (zp_F1 hD hS hA) hS1 (fun hP hK1 hD hS => ?_))
  have hw : r6 = 0 := hw
  have hw := hw.symm
  subst hw
  refine lv_if_ne (tgt := 18) hx hb dX8_put_9 (by decide) (fun c9 => absurd (by decide +kernel) c9) (fun _ => ?_)
  refine lv_aload_n hx hb dX8_put_12 rfl (lv_at hl 0 rfl) ?_
  refine lv_iconst (v := 1) hx hb dX8_put_13 zk_iconst_1 ?_
  refine va_calli (va_runV (As := [.int 1]) (rest := []) ⟨hx, hb, hml, hown, hts⟩ (c_X8_no l dC dI H.size a0 1 (Value.int v1na0_0) a0g_1 a0g_2 a0g_3 a0g_4 a0g_5 a0g_6 a0g_7 a0g_8 a0g_9 a0g_10 a0g_12 a0g_13 (Value.int a0_14) a0g_15 a0g_16 a0g_17 a0g_18 a0g_19 a0g_20 a0g_21 a0g_22 a0g_23 a0g_24 a0g_25 a0g_26 a0g_27 a0g_28 a0g_29 a0g_30 a0g_31 a0g_32 a0g_33 a0g_34 a0g_35 a0g_36 a0g_37 a0g_38 a0g_39 v1na0_11 ) (cwV 1 hts gX8_put_X8_no rfl rfl rfl zd_X8_no ⟨Nat.le_of_ble_eq_true rfl, Nat.le_of_ble_eq_true rfl⟩) ⟨ax_blind (fun _ _ _ _ _ => trivial), zr_8 (zp_K hK) (zp_P1 hP) (q0 := 0) rfl, ax_pre (zp_P1 hP) (zp_K hK) (zp_D1 hD) (fun _ _ => trivial)⟩ rfl rfl hl.1 rfl (lv_room (Nat.le_of_ble_eq_true rfl)) dX8_put_14 ⟨Nat.le_of_ble_eq_true rfl, Nat.le_of_ble_eq_true rfl⟩) hS (fun q _ h => zp_F1 hD hS hA q h) (zp_F1 hD hS hA) (fun r14 u t H locs ht hvm hw => zx_1 (fun v14na0_11 hB hz1 hk1 hS1 => zo1 hB ht hP hD hk1 (zp_F1 hD hS hA) hS1 (fun hP hK1 hD hS => ?_)))
  have hw : r14 = (-1) := hw
  have hw := hw.symm
  subst hw
  exact W.iret (v := (-1)) hx hb hr (fun t ht hW => ⟨⟨(-1), (), rfl, rfl, v1na0_0, v14na0_11, by rw [ht]; exact hP, va_K.moved hW.alike hK, hD⟩, hS.F ht⟩) hS.2.2 dX8_put_17

set_option maxHeartbeats 4000000 in
set_option maxRecDepth 100000 in
theorem c0_X8_wind (l : Launch) (dC : Nat → ClassId) (dI : Nat → Nat → Nat) (sz : Nat) (a0 : Nat) (a1 : Int32) (a0_0 : Int32) (a0g_1 a0g_2 a0g_3 a0g_4 a0g_5 a0g_6 a0g_7 a0g_8 a0g_9 a0g_10 a0g_12 a0g_13 a0g_15 a0g_16 a0g_17 a0g_18 a0g_19 a0g_20 a0g_21 a0g_22 a0g_23 a0g_24 a0g_25 a0g_26 a0g_27 a0g_28 a0g_29 a0g_30 a0g_31 a0g_32 a0g_33 a0g_34 a0g_35 a0g_36 a0g_37 a0g_38 a0g_39 : Value) (a0_11 : Int32) (a0_14 : Int32) (ba0_14_l : (0 : Int) ≤ a0_14.toInt) (ba0_14_u : a0_14.toInt ≤ (0 : Int)) : zm l yX8_wind wsX8_wind ({ frames := 1, cells := 0, slots := 0, locals := 21 }) [.ref a0, .int a1] dC dI sz [(a0, .inr (8, [Value.int a0_0, a0g_1, a0g_2, a0g_3, a0g_4, a0g_5, a0g_6, a0g_7, a0g_8, a0g_9, a0g_10, Value.int a0_11, a0g_12, a0g_13, Value.int a0_14, a0g_15, a0g_16, a0g_17, a0g_18, a0g_19, a0g_20, a0g_21, a0g_22, a0g_23, a0g_24, a0g_25, a0g_26, a0g_27, a0g_28, a0g_29, a0g_30, a0g_31, a0g_32, a0g_33, a0g_34, a0g_35, a0g_36, a0g_37, a0g_38, a0g_39]))] [] (fun A _ => True) (fun A => va_Qi (fun (r : Int32) (_ : Unit) => r = (-1)) (fun (_ : Unit) (t : State) => ∃ na0_0 : Int32, ∃ na0_11 : Int32, ax_B dC dI A [(a0, .inr (8, [Value.int na0_0, a0g_1, a0g_2, a0g_3, a0g_4, a0g_5, a0g_6, a0g_7, a0g_8, a0g_9, a0g_10, Value.int na0_11, a0g_12, a0g_13, Value.int a0_14, a0g_15, a0g_16, a0g_17, a0g_18, a0g_19, a0g_20, a0g_21, a0g_22, a0g_23, a0g_24, a0g_25, a0g_26, a0g_27, a0g_28, a0g_29, a0g_30, a0g_31, a0g_32, a0g_33, a0g_34, a0g_35, a0g_36, a0g_37, a0g_38, a0g_39]))] [] t) A) := by
  refine zh (cc := cX8_wind) (maxL := 3) (ret := (some .int)) zn_RX8 rfl (Nat.le_of_ble_eq_true rfl) (fun p e s m below meth c A ls hx hb hml hr hts (hown : s.vm.findClass RX8 = some m.cls) hlocks hA hS hP hK hD hE (hl : lv_has ls 3 [(0, .ref a0), (1, .int a1)]) => ?_)
  refine lv_aload_n hx hb dX8_wind_0 rfl (lv_at hl 0 rfl) ?_
  refine va_callv (va_runV (As := []) (rest := []) ⟨hx, hb, hml, hown, hts⟩ (c_X8_good l dC dI s.heap.size a0 a0_0 a0g_1 a0g_2 a0g_3 a0g_4 a0g_5 a0g_6 a0g_7 a0g_8 a0g_9 a0g_10 a0g_12 a0g_13 (Value.int a0_14) a0g_15 a0g_16 a0g_17 a0g_18 a0g_19 a0g_20 a0g_21 a0g_22 a0g_23 a0g_24 a0g_25 a0g_26 a0g_27 a0g_28 a0g_29 a0g_30 a0g_31 a0g_32 a0g_33 a0g_34 a0g_35 a0g_36 a0g_37 a0g_38 a0g_39 a0_11 ) (cwV 0 hts gX8_wind_X8_good rfl rfl rfl zd_X8_good ⟨Nat.le_of_ble_eq_true rfl, Nat.le_of_ble_eq_true rfl⟩) ⟨ax_blind (fun _ _ _ _ _ => trivial), zr_8 (zp_K hK) (zp_P1 hP) (q0 := 0) rfl, ax_pre (zp_P1 hP) (zp_K hK) (zp_D1 hD) (fun _ _ => trivial)⟩ rfl rfl hl.1 rfl (lv_room (Nat.le_of_ble_eq_true rfl)) dX8_wind_1 ⟨Nat.le_of_ble_eq_true rfl, Nat.le_of_ble_eq_true rfl⟩) hS (fun q _ h => zp_F1 hD hS hA q h) (zp_F1 hD hS hA) (fun u t H locs ht hvm hw => zx_2 (fun v1na0_0 v1na0_11 hB hz1 hk1 hS1 => zo1 hB ht hP hD hk1 (zp_F1 hD hS hA) hS1 (fun hP hK1 hD hS => ?_)))
  refine lv_aload_n hx hb dX8_wind_4 rfl (lv_at hl 0 rfl) ?_
  refine lv_iload_n hx hb dX8_wind_5 rfl (lv_at hl 1 rfl) ?_
  refine va_calli (va_runV (As := [.int a1]) (rest := []) ⟨hx, hb, hml, hown, hts⟩ (c0_X8_isFigure l dC dI H.size a0 a1 (Value.int v1na0_0) a0g_1 a0g_2 a0g_3 a0g_4 a0g_5 a0g_6 a0g_7 a0g_8 a0g_9 a0g_10 (Value.int v1na0_11) a0g_12 a0g_13 a0g_15 a0g_16 a0g_17 a0g_18 a0g_19 a0g_20 a0g_21 a0g_22 a0g_23 a0g_24 a0g_25 a0g_26 a0g_27 a0g_28 a0g_29 a0g_30 a0g_31 a0g_32 a0g_33 a0g_34 a0g_35 a0g_36 a0g_37 a0g_38 a0g_39 a0_14 ba0_14_l ba0_14_u) (cwV 1 hts gX8_wind_X8_isFigure rfl rfl rfl zd_X8_isFigure ⟨Nat.le_of_ble_eq_true rfl, Nat.le_of_ble_eq_true rfl⟩) ⟨ax_blind (fun _ _ _ _ _ => trivial), zr_8 (zp_K hK) (zp_P1 hP) (q0 := 0) rfl, ax_pre (zp_P1 hP) (zp_K hK) (zp_D1 hD) (fun _ _ => trivial)⟩ rfl rfl hl.1 rfl (lv_room (Nat.le_of_ble_eq_true rfl)) dX8_wind_6 ⟨Nat.le_of_ble_eq_true rfl, Nat.le_of_ble_eq_true rfl⟩) hS (fun q _ h => zp_F1 hD hS hA q h) (zp_F1 hD hS hA) (fun r6 u t H locs ht hvm hw hB hz1 hk1 hS1 => zo1 hB ht hP hD hk1 (zp_F1 hD hS hA) hS1 (fun hP hK1 hD hS => ?_))
  have hw : r6 = 0 := hw
  have hw := hw.symm
  subst hw
  refine lv_if_ne (tgt := 18) hx hb dX8_wind_9 (by decide) (fun c9 => absurd (by decide +kernel) c9) (fun _ => ?_)
  refine lv_aload_n hx hb dX8_wind_12 rfl (lv_at hl 0 rfl) ?_
  refine lv_iconst (v := 1) hx hb dX8_wind_13 zk_iconst_1 ?_
  refine va_calli (va_runV (As := [.int 1]) (rest := []) ⟨hx, hb, hml, hown, hts⟩ (c_X8_no l dC dI H.size a0 1 (Value.int v1na0_0) a0g_1 a0g_2 a0g_3 a0g_4 a0g_5 a0g_6 a0g_7 a0g_8 a0g_9 a0g_10 a0g_12 a0g_13 (Value.int a0_14) a0g_15 a0g_16 a0g_17 a0g_18 a0g_19 a0g_20 a0g_21 a0g_22 a0g_23 a0g_24 a0g_25 a0g_26 a0g_27 a0g_28 a0g_29 a0g_30 a0g_31 a0g_32 a0g_33 a0g_34 a0g_35 a0g_36 a0g_37 a0g_38 a0g_39 v1na0_11 ) (cwV 1 hts gX8_wind_X8_no rfl rfl rfl zd_X8_no ⟨Nat.le_of_ble_eq_true rfl, Nat.le_of_ble_eq_true rfl⟩) ⟨ax_blind (fun _ _ _ _ _ => trivial), zr_8 (zp_K hK) (zp_P1 hP) (q0 := 0) rfl, ax_pre (zp_P1 hP) (zp_K hK) (zp_D1 hD) (fun _ _ => trivial)⟩ rfl rfl hl.1 rfl (lv_room (Nat.le_of_ble_eq_true rfl)) dX8_wind_14 ⟨Nat.le_of_ble_eq_true rfl, Nat.le_of_ble_eq_true rfl⟩) hS (fun q _ h => zp_F1 hD hS hA q h) (zp_F1 hD hS hA) (fun r14 u t H locs ht hvm hw => zx_1 (fun v14na0_11 hB hz1 hk1 hS1 => zo1 hB ht hP hD hk1 (zp_F1 hD hS hA) hS1 (fun hP hK1 hD hS => ?_)))
  have hw : r14 = (-1) := hw
  have hw := hw.symm
  subst hw
  exact W.iret (v := (-1)) hx hb hr (fun t ht hW => ⟨⟨(-1), (), rfl, rfl, v1na0_0, v14na0_11, by rw [ht]; exact hP, va_K.moved hW.alike hK, hD⟩, hS.F ht⟩) hS.2.2 dX8_wind_17

set_option maxHeartbeats 4000000 in
set_option maxRecDepth 100000 in
theorem c0_X8_image (l : Launch) (dC : Nat → ClassId) (dI : Nat → Nat → Nat) (sz : Nat) (a0 : Nat) (a0_0 : Int32) (a0g_1 a0g_2 a0g_3 a0g_4 a0g_5 a0g_6 a0g_7 a0g_8 a0g_9 a0g_10 a0g_12 a0g_13 a0g_15 a0g_16 a0g_17 a0g_18 a0g_19 a0g_20 a0g_21 a0g_22 a0g_23 a0g_24 a0g_25 a0g_26 a0g_27 a0g_28 a0g_29 a0g_30 a0g_31 a0g_32 a0g_33 a0g_34 a0g_35 a0g_36 a0g_37 a0g_38 a0g_39 : Value) (a0_11 : Int32) (a0_14 : Int32) (ba0_14_l : (0 : Int) ≤ a0_14.toInt) (ba0_14_u : a0_14.toInt ≤ (0 : Int)) : zm l yX8_image wsX8_image ({ frames := 1, cells := 0, slots := 0, locals := 21 }) [.ref a0] dC dI sz [(a0, .inr (8, [Value.int a0_0, a0g_1, a0g_2, a0g_3, a0g_4, a0g_5, a0g_6, a0g_7, a0g_8, a0g_9, a0g_10, Value.int a0_11, a0g_12, a0g_13, Value.int a0_14, a0g_15, a0g_16, a0g_17, a0g_18, a0g_19, a0g_20, a0g_21, a0g_22, a0g_23, a0g_24, a0g_25, a0g_26, a0g_27, a0g_28, a0g_29, a0g_30, a0g_31, a0g_32, a0g_33, a0g_34, a0g_35, a0g_36, a0g_37, a0g_38, a0g_39]))] [] (fun A _ => True) (fun A => va_Qi (fun (r : Int32) (_ : Unit) => r = (-1)) (fun (_ : Unit) (t : State) => ∃ na0_0 : Int32, ∃ na0_11 : Int32, ax_B dC dI A [(a0, .inr (8, [Value.int na0_0, a0g_1, a0g_2, a0g_3, a0g_4, a0g_5, a0g_6, a0g_7, a0g_8, a0g_9, a0g_10, Value.int na0_11, a0g_12, a0g_13, Value.int a0_14, a0g_15, a0g_16, a0g_17, a0g_18, a0g_19, a0g_20, a0g_21, a0g_22, a0g_23, a0g_24, a0g_25, a0g_26, a0g_27, a0g_28, a0g_29, a0g_30, a0g_31, a0g_32, a0g_33, a0g_34, a0g_35, a0g_36, a0g_37, a0g_38, a0g_39]))] [] t) A) := by
  refine zh (cc := cX8_image) (maxL := 1) (ret := (some .int)) zn_RX8 rfl (Nat.le_of_ble_eq_true rfl) (fun p e s m below meth c A ls hx hb hml hr hts (hown : s.vm.findClass RX8 = some m.cls) hlocks hA hS hP hK hD hE (hl : lv_has ls 1 [(0, .ref a0)]) => ?_)
  refine lv_aload_n hx hb dX8_image_0 rfl (lv_at hl 0 rfl) ?_
  refine va_callv (va_runV (As := []) (rest := []) ⟨hx, hb, hml, hown, hts⟩ (c_X8_good l dC dI s.heap.size a0 a0_0 a0g_1 a0g_2 a0g_3 a0g_4 a0g_5 a0g_6 a0g_7 a0g_8 a0g_9 a0g_10 a0g_12 a0g_13 (Value.int a0_14) a0g_15 a0g_16 a0g_17 a0g_18 a0g_19 a0g_20 a0g_21 a0g_22 a0g_23 a0g_24 a0g_25 a0g_26 a0g_27 a0g_28 a0g_29 a0g_30 a0g_31 a0g_32 a0g_33 a0g_34 a0g_35 a0g_36 a0g_37 a0g_38 a0g_39 a0_11 ) (cwV 0 hts gX8_image_X8_good rfl rfl rfl zd_X8_good ⟨Nat.le_of_ble_eq_true rfl, Nat.le_of_ble_eq_true rfl⟩) ⟨ax_blind (fun _ _ _ _ _ => trivial), zr_8 (zp_K hK) (zp_P1 hP) (q0 := 0) rfl, ax_pre (zp_P1 hP) (zp_K hK) (zp_D1 hD) (fun _ _ => trivial)⟩ rfl rfl hl.1 rfl (lv_room (Nat.le_of_ble_eq_true rfl)) dX8_image_1 ⟨Nat.le_of_ble_eq_true rfl, Nat.le_of_ble_eq_true rfl⟩) hS (fun q _ h => zp_F1 hD hS hA q h) (zp_F1 hD hS hA) (fun u t H locs ht hvm hw => zx_2 (fun v1na0_0 v1na0_11 hB hz1 hk1 hS1 => zo1 hB ht hP hD hk1 (zp_F1 hD hS hA) hS1 (fun hP hK1 hD hS => ?_)))
  refine lv_aload_n hx hb dX8_image_4 rfl (lv_at hl 0 rfl) ?_
  refine va_get (D := (dC, dI)) (ci := 8) (v := .int a0_14) (C := RX8) (T := TX8) (N := 40) hx hb hts zi_X8_image_8 hown hK hP 0 rfl rfl 14 (by decide) (hts (.fieldLink RX8 173 "WaxTurnsModel" "hasGallery" "Z") (List.mem_cons_of_mem _ (List.mem_append_left _ (List.mem_of_getElem? (i := 0) rfl)))) (fun _ h9 => h9) rfl dX8_image_5 ?_
  refine lv_if_ne (tgt := 17) hx hb dX8_image_8 (by decide) (fun c8 => ?_) (fun c8 => ?_)
  · have gc8 := ai_ne c8
    have l8t_a0_14 : (1 : Int) ≤ a0_14.toInt := (by first | exact zg_l ba0_14_l gc8 (by decide) (by decide) | (have h1 := ba0_14_l; have h2 : (0 : Int32).toInt = 0 := (by decide); rw [h2] at gc8; omega))
    have u8t_a0_14 : a0_14.toInt ≤ (-1 : Int) := (by first | exact zg_u ba0_14_u gc8 (by decide) (by decide) | (have h1 := ba0_14_u; have h2 : (0 : Int32).toInt = 0 := (by decide); rw [h2] at gc8; omega))
    exact absurd (Int.le_trans l8t_a0_14 u8t_a0_14) (by decide)
  · have gc8 := ai_eq c8
    have u8f_a0_14 : a0_14.toInt ≤ (0 : Int) := ba0_14_u
    have l8f_a0_14 : (0 : Int) ≤ a0_14.toInt := ba0_14_l
    refine lv_aload_n hx hb dX8_image_11 rfl (lv_at hl 0 rfl) ?_
    refine lv_iconst (v := 1) hx hb dX8_image_12 zk_iconst_1 ?_
    refine va_calli (va_runV (As := [.int 1]) (rest := []) ⟨hx, hb, hml, hown, hts⟩ (c_X8_no l dC dI H.size a0 1 (Value.int v1na0_0) a0g_1 a0g_2 a0g_3 a0g_4 a0g_5 a0g_6 a0g_7 a0g_8 a0g_9 a0g_10 a0g_12 a0g_13 (Value.int a0_14) a0g_15 a0g_16 a0g_17 a0g_18 a0g_19 a0g_20 a0g_21 a0g_22 a0g_23 a0g_24 a0g_25 a0g_26 a0g_27 a0g_28 a0g_29 a0g_30 a0g_31 a0g_32 a0g_33 a0g_34 a0g_35 a0g_36 a0g_37 a0g_38 a0g_39 v1na0_11 ) (cwV 1 hts gX8_image_X8_no rfl rfl rfl zd_X8_no ⟨Nat.le_of_ble_eq_true rfl, Nat.le_of_ble_eq_true rfl⟩) ⟨ax_blind (fun _ _ _ _ _ => trivial), zr_8 (zp_K hK) (zp_P1 hP) (q0 := 0) rfl, ax_pre (zp_P1 hP) (zp_K hK) (zp_D1 hD) (fun _ _ => trivial)⟩ rfl rfl hl.1 rfl (lv_room (Nat.le_of_ble_eq_true rfl)) dX8_image_13 ⟨Nat.le_of_ble_eq_true rfl, Nat.le_of_ble_eq_true rfl⟩) hS (fun q _ h => zp_F1 hD hS hA q h) (zp_F1 hD hS hA) (fun r13 u t H locs ht hvm hw => zx_1 (fun v13na0_11 hB hz1 hk1 hS1 => zo1 hB ht hP hD hk1 (zp_F1 hD hS hA) hS1 (fun hP hK1 hD hS => ?_)))
    have hw : r13 = (-1) := hw
    have hw := hw.symm
    subst hw
    exact W.iret (v := (-1)) hx hb hr (fun t ht hW => ⟨⟨(-1), (), rfl, rfl, v1na0_0, v13na0_11, by rw [ht]; exact hP, va_K.moved hW.alike hK, hD⟩, hS.F ht⟩) hS.2.2 dX8_image_16

set_option maxHeartbeats 4000000 in
set_option maxRecDepth 100000 in
theorem c0_X8_watcher (l : Launch) (dC : Nat → ClassId) (dI : Nat → Nat → Nat) (sz : Nat) (a0 : Nat) (a1 : Int32) (a2 : Int32) (a0_0 : Int32) (a0g_1 a0g_2 a0g_3 a0g_4 a0g_5 a0g_6 a0g_7 a0g_8 a0g_9 a0g_10 a0g_12 a0g_13 a0g_15 a0g_16 a0g_17 a0g_18 a0g_19 a0g_20 a0g_21 a0g_22 a0g_23 a0g_24 a0g_25 a0g_26 a0g_27 a0g_28 a0g_29 a0g_30 a0g_31 a0g_32 a0g_33 a0g_34 a0g_35 a0g_36 a0g_37 a0g_38 a0g_39 : Value) (a0_11 : Int32) (a0_14 : Int32) (ba0_14_l : (0 : Int) ≤ a0_14.toInt) (ba0_14_u : a0_14.toInt ≤ (0 : Int)) : zm l yX8_watcher wsX8_watcher ({ frames := 1, cells := 0, slots := 0, locals := 21 }) [.ref a0, .int a1, .int a2] dC dI sz [(a0, .inr (8, [Value.int a0_0, a0g_1, a0g_2, a0g_3, a0g_4, a0g_5, a0g_6, a0g_7, a0g_8, a0g_9, a0g_10, Value.int a0_11, a0g_12, a0g_13, Value.int a0_14, a0g_15, a0g_16, a0g_17, a0g_18, a0g_19, a0g_20, a0g_21, a0g_22, a0g_23, a0g_24, a0g_25, a0g_26, a0g_27, a0g_28, a0g_29, a0g_30, a0g_31, a0g_32, a0g_33, a0g_34, a0g_35, a0g_36, a0g_37, a0g_38, a0g_39]))] [] (fun A _ => True) (fun A => va_Qi (fun (r : Int32) (_ : Unit) => r = (-1)) (fun (_ : Unit) (t : State) => ∃ na0_0 : Int32, ∃ na0_11 : Int32, ax_B dC dI A [(a0, .inr (8, [Value.int na0_0, a0g_1, a0g_2, a0g_3, a0g_4, a0g_5, a0g_6, a0g_7, a0g_8, a0g_9, a0g_10, Value.int na0_11, a0g_12, a0g_13, Value.int a0_14, a0g_15, a0g_16, a0g_17, a0g_18, a0g_19, a0g_20, a0g_21, a0g_22, a0g_23, a0g_24, a0g_25, a0g_26, a0g_27, a0g_28, a0g_29, a0g_30, a0g_31, a0g_32, a0g_33, a0g_34, a0g_35, a0g_36, a0g_37, a0g_38, a0g_39]))] [] t) A) := by
  refine zh (cc := cX8_watcher) (maxL := 3) (ret := (some .int)) zn_RX8 rfl (Nat.le_of_ble_eq_true rfl) (fun p e s m below meth c A ls hx hb hml hr hts (hown : s.vm.findClass RX8 = some m.cls) hlocks hA hS hP hK hD hE (hl : lv_has ls 3 [(0, .ref a0), (1, .int a1), (2, .int a2)]) => ?_)
  refine lv_aload_n hx hb dX8_watcher_0 rfl (lv_at hl 0 rfl) ?_
  refine va_callv (va_runV (As := []) (rest := []) ⟨hx, hb, hml, hown, hts⟩ (c_X8_good l dC dI s.heap.size a0 a0_0 a0g_1 a0g_2 a0g_3 a0g_4 a0g_5 a0g_6 a0g_7 a0g_8 a0g_9 a0g_10 a0g_12 a0g_13 (Value.int a0_14) a0g_15 a0g_16 a0g_17 a0g_18 a0g_19 a0g_20 a0g_21 a0g_22 a0g_23 a0g_24 a0g_25 a0g_26 a0g_27 a0g_28 a0g_29 a0g_30 a0g_31 a0g_32 a0g_33 a0g_34 a0g_35 a0g_36 a0g_37 a0g_38 a0g_39 a0_11 ) (cwV 0 hts gX8_watcher_X8_good rfl rfl rfl zd_X8_good ⟨Nat.le_of_ble_eq_true rfl, Nat.le_of_ble_eq_true rfl⟩) ⟨ax_blind (fun _ _ _ _ _ => trivial), zr_8 (zp_K hK) (zp_P1 hP) (q0 := 0) rfl, ax_pre (zp_P1 hP) (zp_K hK) (zp_D1 hD) (fun _ _ => trivial)⟩ rfl rfl hl.1 rfl (lv_room (Nat.le_of_ble_eq_true rfl)) dX8_watcher_1 ⟨Nat.le_of_ble_eq_true rfl, Nat.le_of_ble_eq_true rfl⟩) hS (fun q _ h => zp_F1 hD hS hA q h) (zp_F1 hD hS hA) (fun u t H locs ht hvm hw => zx_2 (fun v1na0_0 v1na0_11 hB hz1 hk1 hS1 => zo1 hB ht hP hD hk1 (zp_F1 hD hS hA) hS1 (fun hP hK1 hD hS => ?_)))
  refine lv_aload_n hx hb dX8_watcher_4 rfl (lv_at hl 0 rfl) ?_
  refine lv_iload_n hx hb dX8_watcher_5 rfl (lv_at hl 1 rfl) ?_
  refine va_calli (va_runV (As := [.int a1]) (rest := []) ⟨hx, hb, hml, hown, hts⟩ (c0_X8_isWatcher l dC dI H.size a0 a1 (Value.int v1na0_0) a0g_1 a0g_2 a0g_3 a0g_4 a0g_5 a0g_6 a0g_7 a0g_8 a0g_9 a0g_10 (Value.int v1na0_11) a0g_12 a0g_13 a0g_15 a0g_16 a0g_17 a0g_18 a0g_19 a0g_20 a0g_21 a0g_22 a0g_23 a0g_24 a0g_25 a0g_26 a0g_27 a0g_28 a0g_29 a0g_30 a0g_31 a0g_32 a0g_33 a0g_34 a0g_35 a0g_36 a0g_37 a0g_38 a0g_39 a0_14 ba0_14_l ba0_14_u) (cwV 1 hts gX8_watcher_X8_isWatcher rfl rfl rfl zd_X8_isWatcher ⟨Nat.le_of_ble_eq_true rfl, Nat.le_of_ble_eq_true rfl⟩) ⟨ax_blind (fun _ _ _ _ _ => trivial), zr_8 (zp_K hK) (zp_P1 hP) (q0 := 0) rfl, ax_pre (zp_P1 hP) (zp_K hK) (zp_D1 hD) (fun _ _ => trivial)⟩ rfl rfl hl.1 rfl (lv_room (Nat.le_of_ble_eq_true rfl)) dX8_watcher_6 ⟨Nat.le_of_ble_eq_true rfl, Nat.le_of_ble_eq_true rfl⟩) hS (fun q _ h => zp_F1 hD hS hA q h) (zp_F1 hD hS hA) (fun r6 u t H locs ht hvm hw hB hz1 hk1 hS1 => zo1 hB ht hP hD hk1 (zp_F1 hD hS hA) hS1 (fun hP hK1 hD hS => ?_))
  have hw : r6 = 0 := hw
  have hw := hw.symm
  subst hw
  refine lv_if_eq (tgt := 21) hx hb dX8_watcher_9 (by decide) (fun _ => ?_) (fun c9 => absurd (by decide +kernel) c9)
  refine lv_aload_n hx hb dX8_watcher_21 rfl (lv_at hl 0 rfl) ?_
  refine lv_iconst (v := 1) hx hb dX8_watcher_22 zk_iconst_1 ?_
  refine va_calli (va_runV (As := [.int 1]) (rest := []) ⟨hx, hb, hml, hown, hts⟩ (c_X8_no l dC dI H.size a0 1 (Value.int v1na0_0) a0g_1 a0g_2 a0g_3 a0g_4 a0g_5 a0g_6 a0g_7 a0g_8 a0g_9 a0g_10 a0g_12 a0g_13 (Value.int a0_14) a0g_15 a0g_16 a0g_17 a0g_18 a0g_19 a0g_20 a0g_21 a0g_22 a0g_23 a0g_24 a0g_25 a0g_26 a0g_27 a0g_28 a0g_29 a0g_30 a0g_31 a0g_32 a0g_33 a0g_34 a0g_35 a0g_36 a0g_37 a0g_38 a0g_39 v1na0_11 ) (cwV 1 hts gX8_watcher_X8_no rfl rfl rfl zd_X8_no ⟨Nat.le_of_ble_eq_true rfl, Nat.le_of_ble_eq_true rfl⟩) ⟨ax_blind (fun _ _ _ _ _ => trivial), zr_8 (zp_K hK) (zp_P1 hP) (q0 := 0) rfl, ax_pre (zp_P1 hP) (zp_K hK) (zp_D1 hD) (fun _ _ => trivial)⟩ rfl rfl hl.1 rfl (lv_room (Nat.le_of_ble_eq_true rfl)) dX8_watcher_23 ⟨Nat.le_of_ble_eq_true rfl, Nat.le_of_ble_eq_true rfl⟩) hS (fun q _ h => zp_F1 hD hS hA q h) (zp_F1 hD hS hA) (fun r23 u t H locs ht hvm hw => zx_1 (fun v23na0_11 hB hz1 hk1 hS1 => zo1 hB ht hP hD hk1 (zp_F1 hD hS hA) hS1 (fun hP hK1 hD hS => ?_)))
  have hw : r23 = (-1) := hw
  have hw := hw.symm
  subst hw
  exact W.iret (v := (-1)) hx hb hr (fun t ht hW => ⟨⟨(-1), (), rfl, rfl, v1na0_0, v23na0_11, by rw [ht]; exact hP, va_K.moved hW.alike hK, hD⟩, hS.F ht⟩) hS.2.2 dX8_watcher_26

set_option maxHeartbeats 4000000 in
set_option maxRecDepth 100000 in
theorem c0_X8_watch (l : Launch) (dC : Nat → ClassId) (dI : Nat → Nat → Nat) (sz : Nat) (a0 : Nat) (a1 : Int32) (a2 : Int32) (a0_0 : Int32) (a0g_1 a0g_2 a0g_3 a0g_4 a0g_5 a0g_6 a0g_7 a0g_8 a0g_9 a0g_10 a0g_12 a0g_13 a0g_15 a0g_16 a0g_17 a0g_18 a0g_19 a0g_20 a0g_21 a0g_22 a0g_23 a0g_24 a0g_25 a0g_26 a0g_27 a0g_28 a0g_29 a0g_30 a0g_31 a0g_32 a0g_33 a0g_34 a0g_35 a0g_36 a0g_37 a0g_38 a0g_39 : Value) (a0_11 : Int32) (a0_14 : Int32) (ba0_14_l : (0 : Int) ≤ a0_14.toInt) (ba0_14_u : a0_14.toInt ≤ (0 : Int)) : zm l yX8_watch wsX8_watch ({ frames := 2, cells := 0, slots := 0, locals := 45 }) [.ref a0, .int a1, .int a2] dC dI sz [(a0, .inr (8, [Value.int a0_0, a0g_1, a0g_2, a0g_3, a0g_4, a0g_5, a0g_6, a0g_7, a0g_8, a0g_9, a0g_10, Value.int a0_11, a0g_12, a0g_13, Value.int a0_14, a0g_15, a0g_16, a0g_17, a0g_18, a0g_19, a0g_20, a0g_21, a0g_22, a0g_23, a0g_24, a0g_25, a0g_26, a0g_27, a0g_28, a0g_29, a0g_30, a0g_31, a0g_32, a0g_33, a0g_34, a0g_35, a0g_36, a0g_37, a0g_38, a0g_39]))] [] (fun A _ => True) (fun A => va_Qi (fun (r : Int32) (_ : Unit) => r = (-1)) (fun (_ : Unit) (t : State) => ∃ na0_0 : Int32, ∃ na0_11 : Int32, ax_B dC dI A [(a0, .inr (8, [Value.int na0_0, a0g_1, a0g_2, a0g_3, a0g_4, a0g_5, a0g_6, a0g_7, a0g_8, a0g_9, a0g_10, Value.int na0_11, a0g_12, a0g_13, Value.int a0_14, a0g_15, a0g_16, a0g_17, a0g_18, a0g_19, a0g_20, a0g_21, a0g_22, a0g_23, a0g_24, a0g_25, a0g_26, a0g_27, a0g_28, a0g_29, a0g_30, a0g_31, a0g_32, a0g_33, a0g_34, a0g_35, a0g_36, a0g_37, a0g_38, a0g_39]))] [] t) A) := by
  refine zh (cc := cX8_watch) (maxL := 4) (ret := (some .int)) zn_RX8 rfl (Nat.le_of_ble_eq_true rfl) (fun p e s m below meth c A ls hx hb hml hr hts (hown : s.vm.findClass RX8 = some m.cls) hlocks hA hS hP hK hD hE (hl : lv_has ls 4 [(0, .ref a0), (1, .int a1), (2, .int a2)]) => ?_)
  refine lv_aload_n hx hb dX8_watch_0 rfl (lv_at hl 0 rfl) ?_
  refine va_callv (va_runV (As := []) (rest := []) ⟨hx, hb, hml, hown, hts⟩ (c_X8_good l dC dI s.heap.size a0 a0_0 a0g_1 a0g_2 a0g_3 a0g_4 a0g_5 a0g_6 a0g_7 a0g_8 a0g_9 a0g_10 a0g_12 a0g_13 (Value.int a0_14) a0g_15 a0g_16 a0g_17 a0g_18 a0g_19 a0g_20 a0g_21 a0g_22 a0g_23 a0g_24 a0g_25 a0g_26 a0g_27 a0g_28 a0g_29 a0g_30 a0g_31 a0g_32 a0g_33 a0g_34 a0g_35 a0g_36 a0g_37 a0g_38 a0g_39 a0_11 ) (cwV 0 hts gX8_watch_X8_good rfl rfl rfl zd_X8_good ⟨Nat.le_of_ble_eq_true rfl, Nat.le_of_ble_eq_true rfl⟩) ⟨ax_blind (fun _ _ _ _ _ => trivial), zr_8 (zp_K hK) (zp_P1 hP) (q0 := 0) rfl, ax_pre (zp_P1 hP) (zp_K hK) (zp_D1 hD) (fun _ _ => trivial)⟩ rfl rfl hl.1 rfl (lv_room (Nat.le_of_ble_eq_true rfl)) dX8_watch_1 ⟨Nat.le_of_ble_eq_true rfl, Nat.le_of_ble_eq_true rfl⟩) hS (fun q _ h => zp_F1 hD hS hA q h) (zp_F1 hD hS hA) (fun u t H locs ht hvm hw => zx_2 (fun v1na0_0 v1na0_11 hB hz1 hk1 hS1 => zo1 hB ht hP hD hk1 (zp_F1 hD hS hA) hS1 (fun hP hK1 hD hS => ?_)))
  refine lv_aload_n hx hb dX8_watch_4 rfl (lv_at hl 0 rfl) ?_
  refine lv_aload_n hx hb dX8_watch_5 rfl (lv_at hl 0 rfl) ?_
  refine lv_iload_n hx hb dX8_watch_6 rfl (lv_at hl 1 rfl) ?_
  refine va_calli (va_runV (As := [.int a1]) (rest := [.ref a0]) ⟨hx, hb, hml, hown, hts⟩ (c0_X8_isWatcher l dC dI H.size a0 a1 (Value.int v1na0_0) a0g_1 a0g_2 a0g_3 a0g_4 a0g_5 a0g_6 a0g_7 a0g_8 a0g_9 a0g_10 (Value.int v1na0_11) a0g_12 a0g_13 a0g_15 a0g_16 a0g_17 a0g_18 a0g_19 a0g_20 a0g_21 a0g_22 a0g_23 a0g_24 a0g_25 a0g_26 a0g_27 a0g_28 a0g_29 a0g_30 a0g_31 a0g_32 a0g_33 a0g_34 a0g_35 a0g_36 a0g_37 a0g_38 a0g_39 a0_14 ba0_14_l ba0_14_u) (cwV 1 hts gX8_watch_X8_isWatcher rfl rfl rfl zd_X8_isWatcher ⟨Nat.le_of_ble_eq_true rfl, Nat.le_of_ble_eq_true rfl⟩) ⟨ax_blind (fun _ _ _ _ _ => trivial), zr_8 (zp_K hK) (zp_P1 hP) (q0 := 0) rfl, ax_pre (zp_P1 hP) (zp_K hK) (zp_D1 hD) (fun _ _ => trivial)⟩ rfl rfl hl.1 rfl (lv_room (Nat.le_of_ble_eq_true rfl)) dX8_watch_7 ⟨Nat.le_of_ble_eq_true rfl, Nat.le_of_ble_eq_true rfl⟩) hS (fun q _ h => zp_F1 hD hS hA q h) (zp_F1 hD hS hA) (fun r7 u t H locs ht hvm hw hB hz1 hk1 hS1 => zo1 hB ht hP hD hk1 (zp_F1 hD hS hA) hS1 (fun hP hK1 hD hS => ?_))
  have hw : r7 = 0 := hw
  have hw := hw.symm
  subst hw
  refine lv_iconst (v := 1) hx hb dX8_watch_10 zk_iconst_1 ?_
  refine lv_iload_n hx hb dX8_watch_11 rfl (lv_at hl 2 rfl) ?_
  refine va_calli (va_runV (As := [.int 0, .int 1, .int a2]) (rest := []) ⟨hx, hb, hml, hown, hts⟩ (c_X8_aheadWhy l dC dI H.size a0 0 1 a2 (Value.int v1na0_0) a0g_1 a0g_2 a0g_3 a0g_4 a0g_5 a0g_6 a0g_7 a0g_8 a0g_9 a0g_10 (Value.int v1na0_11) a0g_12 a0g_13 (Value.int a0_14) a0g_15 a0g_16 a0g_17 a0g_18 a0g_19 a0g_20 a0g_21 a0g_22 a0g_23 a0g_24 a0g_25 a0g_26 a0g_27 a0g_28 a0g_29 a0g_30 a0g_31 a0g_32 a0g_33 a0g_34 a0g_35 a0g_36 a0g_37 a0g_38 a0g_39 zq5 (Int.le_trans zq6 zq4) (Int.le_trans zq4 zq1) zq0) (cwV 3 hts gX8_watch_X8_aheadWhy rfl rfl rfl zd_X8_aheadWhy ⟨Nat.le_of_ble_eq_true rfl, Nat.le_of_ble_eq_true rfl⟩) ⟨ax_blind (fun _ _ _ _ _ => trivial), zr_8 (zp_K hK) (zp_P1 hP) (q0 := 0) rfl, ax_pre (zp_P1 hP) (zp_K hK) (zp_D1 hD) (fun _ _ => trivial)⟩ rfl rfl hl.1 rfl (lv_room (Nat.le_of_ble_eq_true rfl)) dX8_watch_12 ⟨Nat.le_of_ble_eq_true rfl, Nat.le_of_ble_eq_true rfl⟩) hS (fun q _ h => zp_F1 hD hS hA q h) (zp_F1 hD hS hA) (fun r12 u t H locs ht hvm hw hB hz1 hk1 hS1 => zo1 hB ht hP hD hk1 (zp_F1 hD hS hA) hS1 (fun hP hK1 hD hS => ?_))
  rcases hw with hw | hw | hw
  · obtain ⟨hw, h12_0, h12_1⟩ := hw
    subst hw
    exact absurd h12_0 (by decide)
  · obtain ⟨hw, h12_0, h12_1⟩ := hw
    subst hw
    refine lv_istore_n (lv' := [(3, .int 1), (0, .ref a0), (1, .int a1), (2, .int a2)]) hx hb dX8_watch_15 rfl hl (by decide) rfl (fun ls hl => ?_)
    refine lv_iload_n hx hb dX8_watch_16 rfl (lv_at hl 0 rfl) ?_
    refine lv_if_eq (tgt := 26) hx hb dX8_watch_17 (by decide) (fun c17 => absurd c17 (by decide +kernel)) (fun _ => ?_)
    refine lv_aload_n hx hb dX8_watch_20 rfl (lv_at hl 1 rfl) ?_
    refine lv_iload_n hx hb dX8_watch_21 rfl (lv_at hl 0 rfl) ?_
    refine va_calli (va_runV (As := [.int 1]) (rest := []) ⟨hx, hb, hml, hown, hts⟩ (c_X8_no l dC dI H.size a0 1 (Value.int v1na0_0) a0g_1 a0g_2 a0g_3 a0g_4 a0g_5 a0g_6 a0g_7 a0g_8 a0g_9 a0g_10 a0g_12 a0g_13 (Value.int a0_14) a0g_15 a0g_16 a0g_17 a0g_18 a0g_19 a0g_20 a0g_21 a0g_22 a0g_23 a0g_24 a0g_25 a0g_26 a0g_27 a0g_28 a0g_29 a0g_30 a0g_31 a0g_32 a0g_33 a0g_34 a0g_35 a0g_36 a0g_37 a0g_38 a0g_39 v1na0_11 ) (cwV 1 hts gX8_watch_X8_no rfl rfl rfl zd_X8_no ⟨Nat.le_of_ble_eq_true rfl, Nat.le_of_ble_eq_true rfl⟩) ⟨ax_blind (fun _ _ _ _ _ => trivial), zr_8 (zp_K hK) (zp_P1 hP) (q0 := 0) rfl, ax_pre (zp_P1 hP) (zp_K hK) (zp_D1 hD) (fun _ _ => trivial)⟩ rfl rfl hl.1 rfl (lv_room (Nat.le_of_ble_eq_true rfl)) dX8_watch_22 ⟨Nat.le_of_ble_eq_true rfl, Nat.le_of_ble_eq_true rfl⟩) hS (fun q _ h => zp_F1 hD hS hA q h) (zp_F1 hD hS hA) (fun r22 u t H locs ht hvm hw => zx_1 (fun v22na0_11 hB hz1 hk1 hS1 => zo1 hB ht hP hD hk1 (zp_F1 hD hS hA) hS1 (fun hP hK1 hD hS => ?_)))
    have hw : r22 = (-1) := hw
    have hw := hw.symm
    subst hw
    exact W.iret (v := (-1)) hx hb hr (fun t ht hW => ⟨⟨(-1), (), rfl, rfl, v1na0_0, v22na0_11, by rw [ht]; exact hP, va_K.moved hW.alike hK, hD⟩, hS.F ht⟩) hS.2.2 dX8_watch_25
  · obtain ⟨hw, h12_0, h12_1, h12_2, h12_3⟩ := hw
    subst hw
    exact absurd h12_0 (by decide)
end P280_06_safe
section P280_07_safe
set_option maxHeartbeats 4000000 in
set_option maxRecDepth 100000 in
theorem c0_X8_meets (l : Launch) (dC : Nat → ClassId) (dI : Nat → Nat → Nat) (sz : Nat) (a0 : Nat) (a1 : Int32) (a0_0 : Int32) (a0g_1 a0g_2 a0g_3 a0g_4 a0g_5 a0g_6 a0g_7 a0g_8 a0g_9 a0g_10 a0g_12 a0g_13 a0g_15 a0g_16 a0g_17 a0g_18 a0g_19 a0g_20 a0g_21 a0g_22 a0g_23 a0g_24 a0g_25 a0g_26 a0g_27 a0g_28 a0g_29 a0g_30 a0g_31 a0g_32 a0g_33 a0g_34 a0g_35 a0g_36 a0g_37 a0g_38 a0g_39 : Value) (a0_11 : Int32) (a0_14 : Int32) (ba0_14_l : (0 : Int) ≤ a0_14.toInt) (ba0_14_u : a0_14.toInt ≤ (0 : Int)) : zm l yX8_meets wsX8_meets ({ frames := 1, cells := 0, slots := 0, locals := 21 }) [.ref a0, .int a1] dC dI sz [(a0, .inr (8, [Value.int a0_0, a0g_1, a0g_2, a0g_3, a0g_4, a0g_5, a0g_6, a0g_7, a0g_8, a0g_9, a0g_10, Value.int a0_11, a0g_12, a0g_13, Value.int a0_14, a0g_15, a0g_16, a0g_17, a0g_18, a0g_19, a0g_20, a0g_21, a0g_22, a0g_23, a0g_24, a0g_25, a0g_26, a0g_27, a0g_28, a0g_29, a0g_30, a0g_31, a0g_32, a0g_33, a0g_34, a0g_35, a0g_36, a0g_37, a0g_38, a0g_39]))] [] (fun A _ => True) (fun A => va_Qi (fun (r : Int32) (_ : Unit) => r = (-1)) (fun (_ : Unit) (t : State) => ∃ na0_0 : Int32, ∃ na0_11 : Int32, ax_B dC dI A [(a0, .inr (8, [Value.int na0_0, a0g_1, a0g_2, a0g_3, a0g_4, a0g_5, a0g_6, a0g_7, a0g_8, a0g_9, a0g_10, Value.int na0_11, a0g_12, a0g_13, Value.int a0_14, a0g_15, a0g_16, a0g_17, a0g_18, a0g_19, a0g_20, a0g_21, a0g_22, a0g_23, a0g_24, a0g_25, a0g_26, a0g_27, a0g_28, a0g_29, a0g_30, a0g_31, a0g_32, a0g_33, a0g_34, a0g_35, a0g_36, a0g_37, a0g_38, a0g_39]))] [] t) A) := by
  refine zh (cc := cX8_meets) (maxL := 4) (ret := (some .int)) zn_RX8 rfl (Nat.le_of_ble_eq_true rfl) (fun p e s m below meth c A ls hx hb hml hr hts (hown : s.vm.findClass RX8 = some m.cls) hlocks hA hS hP hK hD hE (hl : lv_has ls 4 [(0, .ref a0), (1, .int a1)]) => ?_)
  refine ai_open (fun K hK0 => ?_)
  refine (hK0 _ _ _).mpr ?_
  refine lv_aload_n hx hb dX8_meets_0 rfl (lv_at hl 0 rfl) ?_
  refine va_callv (va_runV (As := []) (rest := []) ⟨hx, hb, hml, hown, hts⟩ (c_X8_good l dC dI s.heap.size a0 a0_0 a0g_1 a0g_2 a0g_3 a0g_4 a0g_5 a0g_6 a0g_7 a0g_8 a0g_9 a0g_10 a0g_12 a0g_13 (Value.int a0_14) a0g_15 a0g_16 a0g_17 a0g_18 a0g_19 a0g_20 a0g_21 a0g_22 a0g_23 a0g_24 a0g_25 a0g_26 a0g_27 a0g_28 a0g_29 a0g_30 a0g_31 a0g_32 a0g_33 a0g_34 a0g_35 a0g_36 a0g_37 a0g_38 a0g_39 a0_11 ) (cwV 0 hts gX8_meets_X8_good rfl rfl rfl zd_X8_good ⟨Nat.le_of_ble_eq_true rfl, Nat.le_of_ble_eq_true rfl⟩) ⟨ax_blind (fun _ _ _ _ _ => trivial), zr_8 (zp_K hK) (zp_P1 hP) (q0 := 0) rfl, ax_pre (zp_P1 hP) (zp_K hK) (zp_D1 hD) (fun _ _ => trivial)⟩ rfl rfl hl.1 rfl (lv_room (Nat.le_of_ble_eq_true rfl)) dX8_meets_1 ⟨Nat.le_of_ble_eq_true rfl, Nat.le_of_ble_eq_true rfl⟩) hS (fun q _ h => zp_F1 hD hS hA q h) (zp_F1 hD hS hA) (fun u t H locs ht hvm hw => zx_2 (fun v1na0_0 v1na0_11 hB hz1 hk1 hS1 => zo1 hB ht hP hD hk1 (zp_F1 hD hS hA) hS1 (fun hP hK1 hD hS => ?_)))
  refine lv_aload_n hx hb dX8_meets_4 rfl (lv_at hl 0 rfl) ?_
  refine lv_iload_n hx hb dX8_meets_5 rfl (lv_at hl 1 rfl) ?_
  refine va_calli (va_runV (As := [.int a1]) (rest := []) ⟨hx, hb, hml, hown, hts⟩ (c0_X8_isWatcher l dC dI H.size a0 a1 (Value.int v1na0_0) a0g_1 a0g_2 a0g_3 a0g_4 a0g_5 a0g_6 a0g_7 a0g_8 a0g_9 a0g_10 (Value.int v1na0_11) a0g_12 a0g_13 a0g_15 a0g_16 a0g_17 a0g_18 a0g_19 a0g_20 a0g_21 a0g_22 a0g_23 a0g_24 a0g_25 a0g_26 a0g_27 a0g_28 a0g_29 a0g_30 a0g_31 a0g_32 a0g_33 a0g_34 a0g_35 a0g_36 a0g_37 a0g_38 a0g_39 a0_14 ba0_14_l ba0_14_u) (cwV 1 hts gX8_meets_X8_isWatcher rfl rfl rfl zd_X8_isWatcher ⟨Nat.le_of_ble_eq_true rfl, Nat.le_of_ble_eq_true rfl⟩) ⟨ax_blind (fun _ _ _ _ _ => trivial), zr_8 (zp_K hK) (zp_P1 hP) (q0 := 0) rfl, ax_pre (zp_P1 hP) (zp_K hK) (zp_D1 hD) (fun _ _ => trivial)⟩ rfl rfl hl.1 rfl (lv_room (Nat.le_of_ble_eq_true rfl)) dX8_meets_6 ⟨Nat.le_of_ble_eq_true rfl, Nat.le_of_ble_eq_true rfl⟩) hS (fun q _ h => zp_F1 hD hS hA q h) (zp_F1 hD hS hA) (fun r6 u t H locs ht hvm hw hB hz1 hk1 hS1 => zo1 hB ht hP hD hk1 (zp_F1 hD hS hA) hS1 (fun hP hK1 hD hS => ?_))
  have hw : r6 = 0 := hw
  have hw := hw.symm
  subst hw
  refine lv_if_ne (tgt := 18) hx hb dX8_meets_9 (by decide) (fun c9 => absurd (by decide +kernel) c9) (fun _ => ?_)
  refine lv_aload_n hx hb dX8_meets_12 rfl (lv_at hl 0 rfl) ?_
  refine lv_iconst (v := 1) hx hb dX8_meets_13 zk_iconst_1 ?_
  refine va_calli (va_runV (As := [.int 1]) (rest := []) ⟨hx, hb, hml, hown, hts⟩ (c_X8_no l dC dI H.size a0 1 (Value.int v1na0_0) a0g_1 a0g_2 a0g_3 a0g_4 a0g_5 a0g_6 a0g_7 a0g_8 a0g_9 a0g_10 a0g_12 a0g_13 (Value.int a0_14) a0g_15 a0g_16 a0g_17 a0g_18 a0g_19 a0g_20 a0g_21 a0g_22 a0g_23 a0g_24 a0g_25 a0g_26 a0g_27 a0g_28 a0g_29 a0g_30 a0g_31 a0g_32 a0g_33 a0g_34 a0g_35 a0g_36 a0g_37 a0g_38 a0g_39 v1na0_11 ) (cwV 1 hts gX8_meets_X8_no rfl rfl rfl zd_X8_no ⟨Nat.le_of_ble_eq_true rfl, Nat.le_of_ble_eq_true rfl⟩) ⟨ax_blind (fun _ _ _ _ _ => trivial), zr_8 (zp_K hK) (zp_P1 hP) (q0 := 0) rfl, ax_pre (zp_P1 hP) (zp_K hK) (zp_D1 hD) (fun _ _ => trivial)⟩ rfl rfl hl.1 rfl (lv_room (Nat.le_of_ble_eq_true rfl)) dX8_meets_14 ⟨Nat.le_of_ble_eq_true rfl, Nat.le_of_ble_eq_true rfl⟩) hS (fun q _ h => zp_F1 hD hS hA q h) (zp_F1 hD hS hA) (fun r14 u t H locs ht hvm hw => zx_1 (fun v14na0_11 hB hz1 hk1 hS1 => zo1 hB ht hP hD hk1 (zp_F1 hD hS hA) hS1 (fun hP hK1 hD hS => ?_)))
  have hw : r14 = (-1) := hw
  have hw := hw.symm
  subst hw
  exact W.iret (v := (-1)) hx hb hr (fun t ht hW => ⟨⟨(-1), (), rfl, rfl, v1na0_0, v14na0_11, by rw [ht]; exact hP, va_K.moved hW.alike hK, hD⟩, hS.F ht⟩) hS.2.2 dX8_meets_17

set_option maxHeartbeats 4000000 in
set_option maxRecDepth 100000 in
theorem c0_X8_patrol (l : Launch) (dC : Nat → ClassId) (dI : Nat → Nat → Nat) (sz : Nat) (a0 : Nat) (a1 : Int32) (a2 : Int32) (a0_0 : Int32) (a0g_1 a0g_2 a0g_3 a0g_4 a0g_5 a0g_6 a0g_7 a0g_8 a0g_9 a0g_10 a0g_12 a0g_13 a0g_15 a0g_16 a0g_17 a0g_18 a0g_19 a0g_20 a0g_21 a0g_22 a0g_23 a0g_24 a0g_25 a0g_26 a0g_27 a0g_28 a0g_29 a0g_30 a0g_31 a0g_32 a0g_33 a0g_34 a0g_35 a0g_36 a0g_37 a0g_38 a0g_39 : Value) (a0_11 : Int32) (a0_14 : Int32) (ba0_14_l : (0 : Int) ≤ a0_14.toInt) (ba0_14_u : a0_14.toInt ≤ (0 : Int)) : zm l yX8_patrol wsX8_patrol ({ frames := 1, cells := 0, slots := 0, locals := 22 }) [.ref a0, .int a1, .int a2] dC dI sz [(a0, .inr (8, [Value.int a0_0, a0g_1, a0g_2, a0g_3, a0g_4, a0g_5, a0g_6, a0g_7, a0g_8, a0g_9, a0g_10, Value.int a0_11, a0g_12, a0g_13, Value.int a0_14, a0g_15, a0g_16, a0g_17, a0g_18, a0g_19, a0g_20, a0g_21, a0g_22, a0g_23, a0g_24, a0g_25, a0g_26, a0g_27, a0g_28, a0g_29, a0g_30, a0g_31, a0g_32, a0g_33, a0g_34, a0g_35, a0g_36, a0g_37, a0g_38, a0g_39]))] [] (fun A _ => True) (fun A => va_Qi (fun (r : Int32) (_ : Unit) => r = (-1)) (fun (_ : Unit) (t : State) => ∃ na0_0 : Int32, ∃ na0_11 : Int32, ax_B dC dI A [(a0, .inr (8, [Value.int na0_0, a0g_1, a0g_2, a0g_3, a0g_4, a0g_5, a0g_6, a0g_7, a0g_8, a0g_9, a0g_10, Value.int na0_11, a0g_12, a0g_13, Value.int a0_14, a0g_15, a0g_16, a0g_17, a0g_18, a0g_19, a0g_20, a0g_21, a0g_22, a0g_23, a0g_24, a0g_25, a0g_26, a0g_27, a0g_28, a0g_29, a0g_30, a0g_31, a0g_32, a0g_33, a0g_34, a0g_35, a0g_36, a0g_37, a0g_38, a0g_39]))] [] t) A) := by
  refine zh (cc := cX8_patrol) (maxL := 9) (ret := (some .int)) zn_RX8 rfl (Nat.le_of_ble_eq_true rfl) (fun p e s m below meth c A ls hx hb hml hr hts (hown : s.vm.findClass RX8 = some m.cls) hlocks hA hS hP hK hD hE (hl : lv_has ls 9 [(0, .ref a0), (1, .int a1), (2, .int a2)]) => ?_)
  refine ai_open (fun K hK0 => ?_)
  refine (hK0 _ _ _).mpr ?_
  refine lv_aload_n hx hb dX8_patrol_0 rfl (lv_at hl 0 rfl) ?_
  refine va_callv (va_runV (As := []) (rest := []) ⟨hx, hb, hml, hown, hts⟩ (c_X8_good l dC dI s.heap.size a0 a0_0 a0g_1 a0g_2 a0g_3 a0g_4 a0g_5 a0g_6 a0g_7 a0g_8 a0g_9 a0g_10 a0g_12 a0g_13 (Value.int a0_14) a0g_15 a0g_16 a0g_17 a0g_18 a0g_19 a0g_20 a0g_21 a0g_22 a0g_23 a0g_24 a0g_25 a0g_26 a0g_27 a0g_28 a0g_29 a0g_30 a0g_31 a0g_32 a0g_33 a0g_34 a0g_35 a0g_36 a0g_37 a0g_38 a0g_39 a0_11 ) (cwV 0 hts gX8_patrol_X8_good rfl rfl rfl zd_X8_good ⟨Nat.le_of_ble_eq_true rfl, Nat.le_of_ble_eq_true rfl⟩) ⟨ax_blind (fun _ _ _ _ _ => trivial), zr_8 (zp_K hK) (zp_P1 hP) (q0 := 0) rfl, ax_pre (zp_P1 hP) (zp_K hK) (zp_D1 hD) (fun _ _ => trivial)⟩ rfl rfl hl.1 rfl (lv_room (Nat.le_of_ble_eq_true rfl)) dX8_patrol_1 ⟨Nat.le_of_ble_eq_true rfl, Nat.le_of_ble_eq_true rfl⟩) hS (fun q _ h => zp_F1 hD hS hA q h) (zp_F1 hD hS hA) (fun u t H locs ht hvm hw => zx_2 (fun v1na0_0 v1na0_11 hB hz1 hk1 hS1 => zo1 hB ht hP hD hk1 (zp_F1 hD hS hA) hS1 (fun hP hK1 hD hS => ?_)))
  refine lv_aload_n hx hb dX8_patrol_4 rfl (lv_at hl 0 rfl) ?_
  refine lv_aload_n hx hb dX8_patrol_5 rfl (lv_at hl 0 rfl) ?_
  refine lv_iload_n hx hb dX8_patrol_6 rfl (lv_at hl 1 rfl) ?_
  refine va_calli (va_runV (As := [.int a1]) (rest := [.ref a0]) ⟨hx, hb, hml, hown, hts⟩ (c0_X8_isWatcher l dC dI H.size a0 a1 (Value.int v1na0_0) a0g_1 a0g_2 a0g_3 a0g_4 a0g_5 a0g_6 a0g_7 a0g_8 a0g_9 a0g_10 (Value.int v1na0_11) a0g_12 a0g_13 a0g_15 a0g_16 a0g_17 a0g_18 a0g_19 a0g_20 a0g_21 a0g_22 a0g_23 a0g_24 a0g_25 a0g_26 a0g_27 a0g_28 a0g_29 a0g_30 a0g_31 a0g_32 a0g_33 a0g_34 a0g_35 a0g_36 a0g_37 a0g_38 a0g_39 a0_14 ba0_14_l ba0_14_u) (cwV 1 hts gX8_patrol_X8_isWatcher rfl rfl rfl zd_X8_isWatcher ⟨Nat.le_of_ble_eq_true rfl, Nat.le_of_ble_eq_true rfl⟩) ⟨ax_blind (fun _ _ _ _ _ => trivial), zr_8 (zp_K hK) (zp_P1 hP) (q0 := 0) rfl, ax_pre (zp_P1 hP) (zp_K hK) (zp_D1 hD) (fun _ _ => trivial)⟩ rfl rfl hl.1 rfl (lv_room (Nat.le_of_ble_eq_true rfl)) dX8_patrol_7 ⟨Nat.le_of_ble_eq_true rfl, Nat.le_of_ble_eq_true rfl⟩) hS (fun q _ h => zp_F1 hD hS hA q h) (zp_F1 hD hS hA) (fun r7 u t H locs ht hvm hw hB hz1 hk1 hS1 => zo1 hB ht hP hD hk1 (zp_F1 hD hS hA) hS1 (fun hP hK1 hD hS => ?_))
  have hw : r7 = 0 := hw
  have hw := hw.symm
  subst hw
  refine lv_iload_n hx hb dX8_patrol_10 rfl (lv_at hl 2 rfl) ?_
  refine lv_iconst (v := 1) hx hb dX8_patrol_11 zk_iconst_1 ?_
  refine lv_bipush (v := 60) hx hb dX8_patrol_12 zk_bipush_60 ?_
  refine va_calli (va_runS (As := [.int a2, .int 1, .int 60]) (rest := [.int 0, .ref a0]) ⟨hx, hb, hml, hown, hts⟩ (c_X8_in l dC dI H.size a2 1 60 ) (va_cwS 3 hts gX8_patrol_X8_in rfl rfl rfl zd_X8_in.2 ⟨Nat.le_of_ble_eq_true rfl, Nat.le_of_ble_eq_true rfl⟩) ⟨ax_blind (fun _ _ _ _ _ => trivial), ax_pre (zp_P0 hP) (zp_K hK) (zp_D0 hD) (fun _ _ => trivial)⟩ rfl rfl hl.1 rfl (lv_room (Nat.le_of_ble_eq_true rfl)) dX8_patrol_14 ⟨Nat.le_of_ble_eq_true rfl, Nat.le_of_ble_eq_true rfl⟩) hS (fun q _ h => zp_F0 hD hS hA q h) (zp_F0 hD hS hA) (fun r14 u t H locs ht hvm hw hB hz1 hk1 hS1 => zo0 hB ht hP hD hk1 (zp_F0 hD hS hA) hS1 (fun hP hK1 hD hS => ?_))
  rcases hw with hw | hw
  · obtain ⟨hw, h14⟩ := hw
    subst hw
    have l14k0_a2 : (1 : Int) ≤ a2.toInt := Int.le_trans zq1 h14.1
    have u14k0_a2 : a2.toInt ≤ (60 : Int) := Int.le_trans h14.2 zq46
    refine va_calli (va_runV (As := [.int 0, .int 1]) (rest := []) ⟨hx, hb, hml, hown, hts⟩ (c_X8_whyB l dC dI H.size a0 0 1 (Value.int v1na0_0) a0g_1 a0g_2 a0g_3 a0g_4 a0g_5 a0g_6 a0g_7 a0g_8 a0g_9 a0g_10 (Value.int v1na0_11) a0g_12 a0g_13 (Value.int a0_14) a0g_15 a0g_16 a0g_17 a0g_18 a0g_19 a0g_20 a0g_21 a0g_22 a0g_23 a0g_24 a0g_25 a0g_26 a0g_27 a0g_28 a0g_29 a0g_30 a0g_31 a0g_32 a0g_33 a0g_34 a0g_35 a0g_36 a0g_37 a0g_38 a0g_39 zq5 (Int.le_trans zq6 zq4) (Int.le_trans zq4 zq1) zq0) (cwV 2 hts gX8_patrol_X8_why rfl rfl rfl zd_X8_why ⟨Nat.le_of_ble_eq_true rfl, Nat.le_of_ble_eq_true rfl⟩) ⟨ax_blind (fun _ _ _ _ _ => trivial), zr_8 (zp_K hK) (zp_P1 hP) (q0 := 0) rfl, ax_pre (zp_P1 hP) (zp_K hK) (zp_D1 hD) (fun _ _ => trivial)⟩ rfl rfl hl.1 rfl (lv_room (Nat.le_of_ble_eq_true rfl)) dX8_patrol_17 ⟨Nat.le_of_ble_eq_true rfl, Nat.le_of_ble_eq_true rfl⟩) hS (fun q _ h => zp_F1 hD hS hA q h) (zp_F1 hD hS hA) (fun r17 u t H locs ht hvm hw hB hz1 hk1 hS1 => zo1 hB ht hP hD hk1 (zp_F1 hD hS hA) hS1 (fun hP hK1 hD hS => ?_))
    rcases hw with hw | hw | hw
    · obtain ⟨hw, h17_0, h17_1, h17_2, h17_3⟩ := hw
      subst hw
      exact absurd h17_0 (by decide)
    · obtain ⟨hw, h17_0, h17_1⟩ := hw
      subst hw
      refine lv_istore_n (lv' := [(3, .int 1), (0, .ref a0), (1, .int a1), (2, .int a2)]) hx hb dX8_patrol_20 rfl hl (by decide) rfl (fun ls hl => ?_)
      refine lv_iload_n hx hb dX8_patrol_21 rfl (lv_at hl 0 rfl) ?_
      refine lv_if_eq (tgt := 31) hx hb dX8_patrol_22 (by decide) (fun c22 => absurd c22 (by decide +kernel)) (fun _ => ?_)
      refine lv_aload_n hx hb dX8_patrol_25 rfl (lv_at hl 1 rfl) ?_
      refine lv_iload_n hx hb dX8_patrol_26 rfl (lv_at hl 0 rfl) ?_
      refine va_calli (va_runV (As := [.int 1]) (rest := []) ⟨hx, hb, hml, hown, hts⟩ (c_X8_no l dC dI H.size a0 1 (Value.int v1na0_0) a0g_1 a0g_2 a0g_3 a0g_4 a0g_5 a0g_6 a0g_7 a0g_8 a0g_9 a0g_10 a0g_12 a0g_13 (Value.int a0_14) a0g_15 a0g_16 a0g_17 a0g_18 a0g_19 a0g_20 a0g_21 a0g_22 a0g_23 a0g_24 a0g_25 a0g_26 a0g_27 a0g_28 a0g_29 a0g_30 a0g_31 a0g_32 a0g_33 a0g_34 a0g_35 a0g_36 a0g_37 a0g_38 a0g_39 v1na0_11 ) (cwV 1 hts gX8_patrol_X8_no rfl rfl rfl zd_X8_no ⟨Nat.le_of_ble_eq_true rfl, Nat.le_of_ble_eq_true rfl⟩) ⟨ax_blind (fun _ _ _ _ _ => trivial), zr_8 (zp_K hK) (zp_P1 hP) (q0 := 0) rfl, ax_pre (zp_P1 hP) (zp_K hK) (zp_D1 hD) (fun _ _ => trivial)⟩ rfl rfl hl.1 rfl (lv_room (Nat.le_of_ble_eq_true rfl)) dX8_patrol_27 ⟨Nat.le_of_ble_eq_true rfl, Nat.le_of_ble_eq_true rfl⟩) hS (fun q _ h => zp_F1 hD hS hA q h) (zp_F1 hD hS hA) (fun r27 u t H locs ht hvm hw => zx_1 (fun v27na0_11 hB hz1 hk1 hS1 => zo1 hB ht hP hD hk1 (zp_F1 hD hS hA) hS1 (fun hP hK1 hD hS => ?_)))
      have hw : r27 = (-1) := hw
      have hw := hw.symm
      subst hw
      exact W.iret (v := (-1)) hx hb hr (fun t ht hW => ⟨⟨(-1), (), rfl, rfl, v1na0_0, v27na0_11, by rw [ht]; exact hP, va_K.moved hW.alike hK, hD⟩, hS.F ht⟩) hS.2.2 dX8_patrol_30
    · obtain ⟨hw, h17_0, h17_1, h17_2, h17_3⟩ := hw
      subst hw
      exact absurd h17_0 (by decide)
  · obtain ⟨hw, h14⟩ := hw
    subst hw
    refine va_calli (va_runV (As := [.int 0, .int 0]) (rest := []) ⟨hx, hb, hml, hown, hts⟩ (c_X8_whyB l dC dI H.size a0 0 0 (Value.int v1na0_0) a0g_1 a0g_2 a0g_3 a0g_4 a0g_5 a0g_6 a0g_7 a0g_8 a0g_9 a0g_10 (Value.int v1na0_11) a0g_12 a0g_13 (Value.int a0_14) a0g_15 a0g_16 a0g_17 a0g_18 a0g_19 a0g_20 a0g_21 a0g_22 a0g_23 a0g_24 a0g_25 a0g_26 a0g_27 a0g_28 a0g_29 a0g_30 a0g_31 a0g_32 a0g_33 a0g_34 a0g_35 a0g_36 a0g_37 a0g_38 a0g_39 zq5 (Int.le_trans zq6 zq4) zq5 (Int.le_trans zq6 zq4)) (cwV 2 hts gX8_patrol_X8_why rfl rfl rfl zd_X8_why ⟨Nat.le_of_ble_eq_true rfl, Nat.le_of_ble_eq_true rfl⟩) ⟨ax_blind (fun _ _ _ _ _ => trivial), zr_8 (zp_K hK) (zp_P1 hP) (q0 := 0) rfl, ax_pre (zp_P1 hP) (zp_K hK) (zp_D1 hD) (fun _ _ => trivial)⟩ rfl rfl hl.1 rfl (lv_room (Nat.le_of_ble_eq_true rfl)) dX8_patrol_17 ⟨Nat.le_of_ble_eq_true rfl, Nat.le_of_ble_eq_true rfl⟩) hS (fun q _ h => zp_F1 hD hS hA q h) (zp_F1 hD hS hA) (fun r17 u t H locs ht hvm hw hB hz1 hk1 hS1 => zo1 hB ht hP hD hk1 (zp_F1 hD hS hA) hS1 (fun hP hK1 hD hS => ?_))
    rcases hw with hw | hw | hw
    · obtain ⟨hw, h17_0, h17_1, h17_2, h17_3⟩ := hw
      subst hw
      exact absurd h17_0 (by decide)
    · obtain ⟨hw, h17_0, h17_1⟩ := hw
      subst hw
      refine lv_istore_n (lv' := [(3, .int 1), (0, .ref a0), (1, .int a1), (2, .int a2)]) hx hb dX8_patrol_20 rfl hl (by decide) rfl (fun ls hl => ?_)
      refine lv_iload_n hx hb dX8_patrol_21 rfl (lv_at hl 0 rfl) ?_
      refine lv_if_eq (tgt := 31) hx hb dX8_patrol_22 (by decide) (fun c22 => absurd c22 (by decide +kernel)) (fun _ => ?_)
      refine lv_aload_n hx hb dX8_patrol_25 rfl (lv_at hl 1 rfl) ?_
      refine lv_iload_n hx hb dX8_patrol_26 rfl (lv_at hl 0 rfl) ?_
      refine va_calli (va_runV (As := [.int 1]) (rest := []) ⟨hx, hb, hml, hown, hts⟩ (c_X8_no l dC dI H.size a0 1 (Value.int v1na0_0) a0g_1 a0g_2 a0g_3 a0g_4 a0g_5 a0g_6 a0g_7 a0g_8 a0g_9 a0g_10 a0g_12 a0g_13 (Value.int a0_14) a0g_15 a0g_16 a0g_17 a0g_18 a0g_19 a0g_20 a0g_21 a0g_22 a0g_23 a0g_24 a0g_25 a0g_26 a0g_27 a0g_28 a0g_29 a0g_30 a0g_31 a0g_32 a0g_33 a0g_34 a0g_35 a0g_36 a0g_37 a0g_38 a0g_39 v1na0_11 ) (cwV 1 hts gX8_patrol_X8_no rfl rfl rfl zd_X8_no ⟨Nat.le_of_ble_eq_true rfl, Nat.le_of_ble_eq_true rfl⟩) ⟨ax_blind (fun _ _ _ _ _ => trivial), zr_8 (zp_K hK) (zp_P1 hP) (q0 := 0) rfl, ax_pre (zp_P1 hP) (zp_K hK) (zp_D1 hD) (fun _ _ => trivial)⟩ rfl rfl hl.1 rfl (lv_room (Nat.le_of_ble_eq_true rfl)) dX8_patrol_27 ⟨Nat.le_of_ble_eq_true rfl, Nat.le_of_ble_eq_true rfl⟩) hS (fun q _ h => zp_F1 hD hS hA q h) (zp_F1 hD hS hA) (fun r27 u t H locs ht hvm hw => zx_1 (fun v27na0_11 hB hz1 hk1 hS1 => zo1 hB ht hP hD hk1 (zp_F1 hD hS hA) hS1 (fun hP hK1 hD hS => ?_)))
      have hw : r27 = (-1) := hw
      have hw := hw.symm
      subst hw
      exact W.iret (v := (-1)) hx hb hr (fun t ht hW => ⟨⟨(-1), (), rfl, rfl, v1na0_0, v27na0_11, by rw [ht]; exact hP, va_K.moved hW.alike hK, hD⟩, hS.F ht⟩) hS.2.2 dX8_patrol_30
    · obtain ⟨hw, h17_0, h17_1, h17_2, h17_3⟩ := hw
      subst hw
      exact absurd h17_0 (by decide)

set_option maxHeartbeats 4000000 in
set_option maxRecDepth 100000 in
theorem c0_X8_odds (l : Launch) (dC : Nat → ClassId) (dI : Nat → Nat → Nat) (sz : Nat) (a0 : Nat) (a1 : Int32) (a2 : Int32) (a3 : Int32) (a0_0 : Int32) (a0g_1 a0g_2 a0g_3 a0g_4 a0g_5 a0g_6 a0g_7 a0g_8 a0g_9 a0g_10 a0g_12 a0g_13 a0g_15 a0g_16 a0g_17 a0g_18 a0g_19 a0g_20 a0g_21 a0g_22 a0g_23 a0g_24 a0g_25 a0g_26 a0g_27 a0g_28 a0g_29 a0g_30 a0g_31 a0g_32 a0g_33 a0g_34 a0g_35 a0g_36 a0g_37 a0g_38 a0g_39 : Value) (a0_11 : Int32) (a0_14 : Int32) (ba0_14_l : (0 : Int) ≤ a0_14.toInt) (ba0_14_u : a0_14.toInt ≤ (0 : Int)) : zm l yX8_odds wsX8_odds ({ frames := 1, cells := 0, slots := 0, locals := 22 }) [.ref a0, .int a1, .int a2, .int a3] dC dI sz [(a0, .inr (8, [Value.int a0_0, a0g_1, a0g_2, a0g_3, a0g_4, a0g_5, a0g_6, a0g_7, a0g_8, a0g_9, a0g_10, Value.int a0_11, a0g_12, a0g_13, Value.int a0_14, a0g_15, a0g_16, a0g_17, a0g_18, a0g_19, a0g_20, a0g_21, a0g_22, a0g_23, a0g_24, a0g_25, a0g_26, a0g_27, a0g_28, a0g_29, a0g_30, a0g_31, a0g_32, a0g_33, a0g_34, a0g_35, a0g_36, a0g_37, a0g_38, a0g_39]))] [] (fun A _ => True) (fun A => va_Ql (fun (r : Int64) (_ : Unit) => True) (fun (_ : Unit) (t : State) => ∃ na0_0 : Int32, ∃ na0_11 : Int32, ax_B dC dI A [(a0, .inr (8, [Value.int na0_0, a0g_1, a0g_2, a0g_3, a0g_4, a0g_5, a0g_6, a0g_7, a0g_8, a0g_9, a0g_10, Value.int na0_11, a0g_12, a0g_13, Value.int a0_14, a0g_15, a0g_16, a0g_17, a0g_18, a0g_19, a0g_20, a0g_21, a0g_22, a0g_23, a0g_24, a0g_25, a0g_26, a0g_27, a0g_28, a0g_29, a0g_30, a0g_31, a0g_32, a0g_33, a0g_34, a0g_35, a0g_36, a0g_37, a0g_38, a0g_39]))] [] t) A) := by
  refine zh (cc := cX8_odds) (maxL := 11) (ret := (some .long)) zn_RX8 rfl (Nat.le_of_ble_eq_true rfl) (fun p e s m below meth c A ls hx hb hml hr hts (hown : s.vm.findClass RX8 = some m.cls) hlocks hA hS hP hK hD hE (hl : lv_has ls 11 [(0, .ref a0), (1, .int a1), (2, .int a2), (3, .int a3)]) => ?_)
  refine ai_open (fun K hK0 => ?_)
  refine (hK0 _ _ _).mpr ?_
  refine lv_aload_n hx hb dX8_odds_0 rfl (lv_at hl 0 rfl) ?_
  refine va_callv (va_runV (As := []) (rest := []) ⟨hx, hb, hml, hown, hts⟩ (c_X8_good l dC dI s.heap.size a0 a0_0 a0g_1 a0g_2 a0g_3 a0g_4 a0g_5 a0g_6 a0g_7 a0g_8 a0g_9 a0g_10 a0g_12 a0g_13 (Value.int a0_14) a0g_15 a0g_16 a0g_17 a0g_18 a0g_19 a0g_20 a0g_21 a0g_22 a0g_23 a0g_24 a0g_25 a0g_26 a0g_27 a0g_28 a0g_29 a0g_30 a0g_31 a0g_32 a0g_33 a0g_34 a0g_35 a0g_36 a0g_37 a0g_38 a0g_39 a0_11 ) (cwV 0 hts gX8_odds_X8_good rfl rfl rfl zd_X8_good ⟨Nat.le_of_ble_eq_true rfl, Nat.le_of_ble_eq_true rfl⟩) ⟨ax_blind (fun _ _ _ _ _ => trivial), zr_8 (zp_K hK) (zp_P1 hP) (q0 := 0) rfl, ax_pre (zp_P1 hP) (zp_K hK) (zp_D1 hD) (fun _ _ => trivial)⟩ rfl rfl hl.1 rfl (lv_room (Nat.le_of_ble_eq_true rfl)) dX8_odds_1 ⟨Nat.le_of_ble_eq_true rfl, Nat.le_of_ble_eq_true rfl⟩) hS (fun q _ h => zp_F1 hD hS hA q h) (zp_F1 hD hS hA) (fun u t H locs ht hvm hw => zx_2 (fun v1na0_0 v1na0_11 hB hz1 hk1 hS1 => zo1 hB ht hP hD hk1 (zp_F1 hD hS hA) hS1 (fun hP hK1 hD hS => ?_)))
  refine lv_aload_n hx hb dX8_odds_4 rfl (lv_at hl 0 rfl) ?_
  refine lv_aload_n hx hb dX8_odds_5 rfl (lv_at hl 0 rfl) ?_
  refine lv_iload_n hx hb dX8_odds_6 rfl (lv_at hl 1 rfl) ?_
  refine va_calli (va_runV (As := [.int a1]) (rest := [.ref a0]) ⟨hx, hb, hml, hown, hts⟩ (c0_X8_isFigure l dC dI H.size a0 a1 (Value.int v1na0_0) a0g_1 a0g_2 a0g_3 a0g_4 a0g_5 a0g_6 a0g_7 a0g_8 a0g_9 a0g_10 (Value.int v1na0_11) a0g_12 a0g_13 a0g_15 a0g_16 a0g_17 a0g_18 a0g_19 a0g_20 a0g_21 a0g_22 a0g_23 a0g_24 a0g_25 a0g_26 a0g_27 a0g_28 a0g_29 a0g_30 a0g_31 a0g_32 a0g_33 a0g_34 a0g_35 a0g_36 a0g_37 a0g_38 a0g_39 a0_14 ba0_14_l ba0_14_u) (cwV 1 hts gX8_odds_X8_isFigure rfl rfl rfl zd_X8_isFigure ⟨Nat.le_of_ble_eq_true rfl, Nat.le_of_ble_eq_true rfl⟩) ⟨ax_blind (fun _ _ _ _ _ => trivial), zr_8 (zp_K hK) (zp_P1 hP) (q0 := 0) rfl, ax_pre (zp_P1 hP) (zp_K hK) (zp_D1 hD) (fun _ _ => trivial)⟩ rfl rfl hl.1 rfl (lv_room (Nat.le_of_ble_eq_true rfl)) dX8_odds_7 ⟨Nat.le_of_ble_eq_true rfl, Nat.le_of_ble_eq_true rfl⟩) hS (fun q _ h => zp_F1 hD hS hA q h) (zp_F1 hD hS hA) (fun r7 u t H locs ht hvm hw hB hz1 hk1 hS1 => zo1 hB ht hP hD hk1 (zp_F1 hD hS hA) hS1 (fun hP hK1 hD hS => ?_))
  have hw : r7 = 0 := hw
  have hw := hw.symm
  subst hw
  refine lv_iload_n hx hb dX8_odds_10 rfl (lv_at hl 2 rfl) ?_
  refine lv_iconst (v := 0) hx hb dX8_odds_11 zk_iconst_0 ?_
  refine lv_bipush (v := 8) hx hb dX8_odds_12 zk_bipush_8 ?_
  refine va_calli (va_runS (As := [.int a2, .int 0, .int 8]) (rest := [.int 0, .ref a0]) ⟨hx, hb, hml, hown, hts⟩ (c_X8_in l dC dI H.size a2 0 8 ) (va_cwS 3 hts gX8_odds_X8_in rfl rfl rfl zd_X8_in.2 ⟨Nat.le_of_ble_eq_true rfl, Nat.le_of_ble_eq_true rfl⟩) ⟨ax_blind (fun _ _ _ _ _ => trivial), ax_pre (zp_P0 hP) (zp_K hK) (zp_D0 hD) (fun _ _ => trivial)⟩ rfl rfl hl.1 rfl (lv_room (Nat.le_of_ble_eq_true rfl)) dX8_odds_14 ⟨Nat.le_of_ble_eq_true rfl, Nat.le_of_ble_eq_true rfl⟩) hS (fun q _ h => zp_F0 hD hS hA q h) (zp_F0 hD hS hA) (fun r14 u t H locs ht hvm hw hB hz1 hk1 hS1 => zo0 hB ht hP hD hk1 (zp_F0 hD hS hA) hS1 (fun hP hK1 hD hS => ?_))
  rcases hw with hw | hw
  · obtain ⟨hw, h14⟩ := hw
    subst hw
    have l14k0_a2 : (0 : Int) ≤ a2.toInt := Int.le_trans zq5 h14.1
    have u14k0_a2 : a2.toInt ≤ (8 : Int) := Int.le_trans h14.2 zq28
    refine va_calli (va_runV (As := [.int 0, .int 1]) (rest := []) ⟨hx, hb, hml, hown, hts⟩ (c_X8_whyB l dC dI H.size a0 0 1 (Value.int v1na0_0) a0g_1 a0g_2 a0g_3 a0g_4 a0g_5 a0g_6 a0g_7 a0g_8 a0g_9 a0g_10 (Value.int v1na0_11) a0g_12 a0g_13 (Value.int a0_14) a0g_15 a0g_16 a0g_17 a0g_18 a0g_19 a0g_20 a0g_21 a0g_22 a0g_23 a0g_24 a0g_25 a0g_26 a0g_27 a0g_28 a0g_29 a0g_30 a0g_31 a0g_32 a0g_33 a0g_34 a0g_35 a0g_36 a0g_37 a0g_38 a0g_39 zq5 (Int.le_trans zq6 zq4) (Int.le_trans zq4 zq1) zq0) (cwV 2 hts gX8_odds_X8_why rfl rfl rfl zd_X8_why ⟨Nat.le_of_ble_eq_true rfl, Nat.le_of_ble_eq_true rfl⟩) ⟨ax_blind (fun _ _ _ _ _ => trivial), zr_8 (zp_K hK) (zp_P1 hP) (q0 := 0) rfl, ax_pre (zp_P1 hP) (zp_K hK) (zp_D1 hD) (fun _ _ => trivial)⟩ rfl rfl hl.1 rfl (lv_room (Nat.le_of_ble_eq_true rfl)) dX8_odds_17 ⟨Nat.le_of_ble_eq_true rfl, Nat.le_of_ble_eq_true rfl⟩) hS (fun q _ h => zp_F1 hD hS hA q h) (zp_F1 hD hS hA) (fun r17 u t H locs ht hvm hw hB hz1 hk1 hS1 => zo1 hB ht hP hD hk1 (zp_F1 hD hS hA) hS1 (fun hP hK1 hD hS => ?_))
    rcases hw with hw | hw | hw
    · obtain ⟨hw, h17_0, h17_1, h17_2, h17_3⟩ := hw
      subst hw
      exact absurd h17_0 (by decide)
    · obtain ⟨hw, h17_0, h17_1⟩ := hw
      subst hw
      refine lv_istore (lv' := [(4, .int 1), (0, .ref a0), (1, .int a1), (2, .int a2), (3, .int a3)]) hx hb dX8_odds_20 hl (by decide) rfl (fun ls hl => ?_)
      refine lv_iload hx hb dX8_odds_22 (lv_at hl 0 rfl) ?_
      refine lv_if_eq (tgt := 35) hx hb dX8_odds_24 (by decide) (fun c24 => absurd c24 (by decide +kernel)) (fun _ => ?_)
      refine lv_aload_n hx hb dX8_odds_27 rfl (lv_at hl 1 rfl) ?_
      refine lv_iload hx hb dX8_odds_28 (lv_at hl 0 rfl) ?_
      refine va_calli (va_runV (As := [.int 1]) (rest := []) ⟨hx, hb, hml, hown, hts⟩ (c_X8_no l dC dI H.size a0 1 (Value.int v1na0_0) a0g_1 a0g_2 a0g_3 a0g_4 a0g_5 a0g_6 a0g_7 a0g_8 a0g_9 a0g_10 a0g_12 a0g_13 (Value.int a0_14) a0g_15 a0g_16 a0g_17 a0g_18 a0g_19 a0g_20 a0g_21 a0g_22 a0g_23 a0g_24 a0g_25 a0g_26 a0g_27 a0g_28 a0g_29 a0g_30 a0g_31 a0g_32 a0g_33 a0g_34 a0g_35 a0g_36 a0g_37 a0g_38 a0g_39 v1na0_11 ) (cwV 1 hts gX8_odds_X8_no rfl rfl rfl zd_X8_no ⟨Nat.le_of_ble_eq_true rfl, Nat.le_of_ble_eq_true rfl⟩) ⟨ax_blind (fun _ _ _ _ _ => trivial), zr_8 (zp_K hK) (zp_P1 hP) (q0 := 0) rfl, ax_pre (zp_P1 hP) (zp_K hK) (zp_D1 hD) (fun _ _ => trivial)⟩ rfl rfl hl.1 rfl (lv_room (Nat.le_of_ble_eq_true rfl)) dX8_odds_30 ⟨Nat.le_of_ble_eq_true rfl, Nat.le_of_ble_eq_true rfl⟩) hS (fun q _ h => zp_F1 hD hS hA q h) (zp_F1 hD hS hA) (fun r30 u t H locs ht hvm hw => zx_1 (fun v30na0_11 hB hz1 hk1 hS1 => zo1 hB ht hP hD hk1 (zp_F1 hD hS hA) hS1 (fun hP hK1 hD hS => ?_)))
      have hw : r30 = (-1) := hw
      have hw := hw.symm
      subst hw
      obtain ⟨x33, ex33⟩ : ∃ y : Int64, y = ((-1) : Int32).toInt64 := ⟨_, rfl⟩
      refine lv_i2l (v := x33) hx hb dX8_odds_33 ex33.symm ?_
      exact W.lret (v := x33) hx hb hr (fun t ht hW => ⟨⟨x33, (), rfl, trivial, v1na0_0, v30na0_11, by rw [ht]; exact hP, va_K.moved hW.alike hK, hD⟩, hS.F ht⟩) hS.2.2 dX8_odds_34
    · obtain ⟨hw, h17_0, h17_1, h17_2, h17_3⟩ := hw
      subst hw
      exact absurd h17_0 (by decide)
  · obtain ⟨hw, h14⟩ := hw
    subst hw
    refine va_calli (va_runV (As := [.int 0, .int 0]) (rest := []) ⟨hx, hb, hml, hown, hts⟩ (c_X8_whyB l dC dI H.size a0 0 0 (Value.int v1na0_0) a0g_1 a0g_2 a0g_3 a0g_4 a0g_5 a0g_6 a0g_7 a0g_8 a0g_9 a0g_10 (Value.int v1na0_11) a0g_12 a0g_13 (Value.int a0_14) a0g_15 a0g_16 a0g_17 a0g_18 a0g_19 a0g_20 a0g_21 a0g_22 a0g_23 a0g_24 a0g_25 a0g_26 a0g_27 a0g_28 a0g_29 a0g_30 a0g_31 a0g_32 a0g_33 a0g_34 a0g_35 a0g_36 a0g_37 a0g_38 a0g_39 zq5 (Int.le_trans zq6 zq4) zq5 (Int.le_trans zq6 zq4)) (cwV 2 hts gX8_odds_X8_why rfl rfl rfl zd_X8_why ⟨Nat.le_of_ble_eq_true rfl, Nat.le_of_ble_eq_true rfl⟩) ⟨ax_blind (fun _ _ _ _ _ => trivial), zr_8 (zp_K hK) (zp_P1 hP) (q0 := 0) rfl, ax_pre (zp_P1 hP) (zp_K hK) (zp_D1 hD) (fun _ _ => trivial)⟩ rfl rfl hl.1 rfl (lv_room (Nat.le_of_ble_eq_true rfl)) dX8_odds_17 ⟨Nat.le_of_ble_eq_true rfl, Nat.le_of_ble_eq_true rfl⟩) hS (fun q _ h => zp_F1 hD hS hA q h) (zp_F1 hD hS hA) (fun r17 u t H locs ht hvm hw hB hz1 hk1 hS1 => zo1 hB ht hP hD hk1 (zp_F1 hD hS hA) hS1 (fun hP hK1 hD hS => ?_))
    rcases hw with hw | hw | hw
    · obtain ⟨hw, h17_0, h17_1, h17_2, h17_3⟩ := hw
      subst hw
      exact absurd h17_0 (by decide)
    · obtain ⟨hw, h17_0, h17_1⟩ := hw
      subst hw
      refine lv_istore (lv' := [(4, .int 1), (0, .ref a0), (1, .int a1), (2, .int a2), (3, .int a3)]) hx hb dX8_odds_20 hl (by decide) rfl (fun ls hl => ?_)
      refine lv_iload hx hb dX8_odds_22 (lv_at hl 0 rfl) ?_
      refine lv_if_eq (tgt := 35) hx hb dX8_odds_24 (by decide) (fun c24 => absurd c24 (by decide +kernel)) (fun _ => ?_)
      refine lv_aload_n hx hb dX8_odds_27 rfl (lv_at hl 1 rfl) ?_
      refine lv_iload hx hb dX8_odds_28 (lv_at hl 0 rfl) ?_
      refine va_calli (va_runV (As := [.int 1]) (rest := []) ⟨hx, hb, hml, hown, hts⟩ (c_X8_no l dC dI H.size a0 1 (Value.int v1na0_0) a0g_1 a0g_2 a0g_3 a0g_4 a0g_5 a0g_6 a0g_7 a0g_8 a0g_9 a0g_10 a0g_12 a0g_13 (Value.int a0_14) a0g_15 a0g_16 a0g_17 a0g_18 a0g_19 a0g_20 a0g_21 a0g_22 a0g_23 a0g_24 a0g_25 a0g_26 a0g_27 a0g_28 a0g_29 a0g_30 a0g_31 a0g_32 a0g_33 a0g_34 a0g_35 a0g_36 a0g_37 a0g_38 a0g_39 v1na0_11 ) (cwV 1 hts gX8_odds_X8_no rfl rfl rfl zd_X8_no ⟨Nat.le_of_ble_eq_true rfl, Nat.le_of_ble_eq_true rfl⟩) ⟨ax_blind (fun _ _ _ _ _ => trivial), zr_8 (zp_K hK) (zp_P1 hP) (q0 := 0) rfl, ax_pre (zp_P1 hP) (zp_K hK) (zp_D1 hD) (fun _ _ => trivial)⟩ rfl rfl hl.1 rfl (lv_room (Nat.le_of_ble_eq_true rfl)) dX8_odds_30 ⟨Nat.le_of_ble_eq_true rfl, Nat.le_of_ble_eq_true rfl⟩) hS (fun q _ h => zp_F1 hD hS hA q h) (zp_F1 hD hS hA) (fun r30 u t H locs ht hvm hw => zx_1 (fun v30na0_11 hB hz1 hk1 hS1 => zo1 hB ht hP hD hk1 (zp_F1 hD hS hA) hS1 (fun hP hK1 hD hS => ?_)))
      have hw : r30 = (-1) := hw
      have hw := hw.symm
      subst hw
      obtain ⟨x33, ex33⟩ : ∃ y : Int64, y = ((-1) : Int32).toInt64 := ⟨_, rfl⟩
      refine lv_i2l (v := x33) hx hb dX8_odds_33 ex33.symm ?_
      exact W.lret (v := x33) hx hb hr (fun t ht hW => ⟨⟨x33, (), rfl, trivial, v1na0_0, v30na0_11, by rw [ht]; exact hP, va_K.moved hW.alike hK, hD⟩, hS.F ht⟩) hS.2.2 dX8_odds_34
    · obtain ⟨hw, h17_0, h17_1, h17_2, h17_3⟩ := hw
      subst hw
      exact absurd h17_0 (by decide)

set_option maxHeartbeats 4000000 in
set_option maxRecDepth 100000 in
theorem c0_X8_mean (l : Launch) (dC : Nat → ClassId) (dI : Nat → Nat → Nat) (sz : Nat) (a0 : Nat) (a1 : Int32) (a2 : Int32) (a3 : Int32) (a0_0 : Int32) (a0g_1 a0g_2 a0g_3 a0g_4 a0g_5 a0g_6 a0g_7 a0g_8 a0g_9 a0g_10 a0g_12 a0g_13 a0g_15 a0g_16 a0g_17 a0g_18 a0g_19 a0g_20 a0g_21 a0g_22 a0g_23 a0g_24 a0g_25 a0g_26 a0g_27 a0g_28 a0g_29 a0g_30 a0g_31 a0g_32 a0g_33 a0g_34 a0g_35 a0g_36 a0g_37 a0g_38 a0g_39 : Value) (a0_11 : Int32) (a0_14 : Int32) (ba0_14_l : (0 : Int) ≤ a0_14.toInt) (ba0_14_u : a0_14.toInt ≤ (0 : Int)) : zm l yX8_mean wsX8_mean ({ frames := 1, cells := 0, slots := 0, locals := 22 }) [.ref a0, .int a1, .int a2, .int a3] dC dI sz [(a0, .inr (8, [Value.int a0_0, a0g_1, a0g_2, a0g_3, a0g_4, a0g_5, a0g_6, a0g_7, a0g_8, a0g_9, a0g_10, Value.int a0_11, a0g_12, a0g_13, Value.int a0_14, a0g_15, a0g_16, a0g_17, a0g_18, a0g_19, a0g_20, a0g_21, a0g_22, a0g_23, a0g_24, a0g_25, a0g_26, a0g_27, a0g_28, a0g_29, a0g_30, a0g_31, a0g_32, a0g_33, a0g_34, a0g_35, a0g_36, a0g_37, a0g_38, a0g_39]))] [] (fun A _ => True) (fun A => va_Ql (fun (r : Int64) (_ : Unit) => True) (fun (_ : Unit) (t : State) => ∃ na0_0 : Int32, ∃ na0_11 : Int32, ax_B dC dI A [(a0, .inr (8, [Value.int na0_0, a0g_1, a0g_2, a0g_3, a0g_4, a0g_5, a0g_6, a0g_7, a0g_8, a0g_9, a0g_10, Value.int na0_11, a0g_12, a0g_13, Value.int a0_14, a0g_15, a0g_16, a0g_17, a0g_18, a0g_19, a0g_20, a0g_21, a0g_22, a0g_23, a0g_24, a0g_25, a0g_26, a0g_27, a0g_28, a0g_29, a0g_30, a0g_31, a0g_32, a0g_33, a0g_34, a0g_35, a0g_36, a0g_37, a0g_38, a0g_39]))] [] t) A) := by
  refine zh (cc := cX8_mean) (maxL := 5) (ret := (some .long)) zn_RX8 rfl (Nat.le_of_ble_eq_true rfl) (fun p e s m below meth c A ls hx hb hml hr hts (hown : s.vm.findClass RX8 = some m.cls) hlocks hA hS hP hK hD hE (hl : lv_has ls 5 [(0, .ref a0), (1, .int a1), (2, .int a2), (3, .int a3)]) => ?_)
  refine lv_aload_n hx hb dX8_mean_0 rfl (lv_at hl 0 rfl) ?_
  refine va_callv (va_runV (As := []) (rest := []) ⟨hx, hb, hml, hown, hts⟩ (c_X8_good l dC dI s.heap.size a0 a0_0 a0g_1 a0g_2 a0g_3 a0g_4 a0g_5 a0g_6 a0g_7 a0g_8 a0g_9 a0g_10 a0g_12 a0g_13 (Value.int a0_14) a0g_15 a0g_16 a0g_17 a0g_18 a0g_19 a0g_20 a0g_21 a0g_22 a0g_23 a0g_24 a0g_25 a0g_26 a0g_27 a0g_28 a0g_29 a0g_30 a0g_31 a0g_32 a0g_33 a0g_34 a0g_35 a0g_36 a0g_37 a0g_38 a0g_39 a0_11 ) (cwV 0 hts gX8_mean_X8_good rfl rfl rfl zd_X8_good ⟨Nat.le_of_ble_eq_true rfl, Nat.le_of_ble_eq_true rfl⟩) ⟨ax_blind (fun _ _ _ _ _ => trivial), zr_8 (zp_K hK) (zp_P1 hP) (q0 := 0) rfl, ax_pre (zp_P1 hP) (zp_K hK) (zp_D1 hD) (fun _ _ => trivial)⟩ rfl rfl hl.1 rfl (lv_room (Nat.le_of_ble_eq_true rfl)) dX8_mean_1 ⟨Nat.le_of_ble_eq_true rfl, Nat.le_of_ble_eq_true rfl⟩) hS (fun q _ h => zp_F1 hD hS hA q h) (zp_F1 hD hS hA) (fun u t H locs ht hvm hw => zx_2 (fun v1na0_0 v1na0_11 hB hz1 hk1 hS1 => zo1 hB ht hP hD hk1 (zp_F1 hD hS hA) hS1 (fun hP hK1 hD hS => ?_)))
  refine lv_aload_n hx hb dX8_mean_4 rfl (lv_at hl 0 rfl) ?_
  refine lv_aload_n hx hb dX8_mean_5 rfl (lv_at hl 0 rfl) ?_
  refine lv_iload_n hx hb dX8_mean_6 rfl (lv_at hl 1 rfl) ?_
  refine va_calli (va_runV (As := [.int a1]) (rest := [.ref a0]) ⟨hx, hb, hml, hown, hts⟩ (c0_X8_isFigure l dC dI H.size a0 a1 (Value.int v1na0_0) a0g_1 a0g_2 a0g_3 a0g_4 a0g_5 a0g_6 a0g_7 a0g_8 a0g_9 a0g_10 (Value.int v1na0_11) a0g_12 a0g_13 a0g_15 a0g_16 a0g_17 a0g_18 a0g_19 a0g_20 a0g_21 a0g_22 a0g_23 a0g_24 a0g_25 a0g_26 a0g_27 a0g_28 a0g_29 a0g_30 a0g_31 a0g_32 a0g_33 a0g_34 a0g_35 a0g_36 a0g_37 a0g_38 a0g_39 a0_14 ba0_14_l ba0_14_u) (cwV 1 hts gX8_mean_X8_isFigure rfl rfl rfl zd_X8_isFigure ⟨Nat.le_of_ble_eq_true rfl, Nat.le_of_ble_eq_true rfl⟩) ⟨ax_blind (fun _ _ _ _ _ => trivial), zr_8 (zp_K hK) (zp_P1 hP) (q0 := 0) rfl, ax_pre (zp_P1 hP) (zp_K hK) (zp_D1 hD) (fun _ _ => trivial)⟩ rfl rfl hl.1 rfl (lv_room (Nat.le_of_ble_eq_true rfl)) dX8_mean_7 ⟨Nat.le_of_ble_eq_true rfl, Nat.le_of_ble_eq_true rfl⟩) hS (fun q _ h => zp_F1 hD hS hA q h) (zp_F1 hD hS hA) (fun r7 u t H locs ht hvm hw hB hz1 hk1 hS1 => zo1 hB ht hP hD hk1 (zp_F1 hD hS hA) hS1 (fun hP hK1 hD hS => ?_))
  have hw : r7 = 0 := hw
  have hw := hw.symm
  subst hw
  refine lv_iload_n hx hb dX8_mean_10 rfl (lv_at hl 2 rfl) ?_
  refine lv_iconst (v := 0) hx hb dX8_mean_11 zk_iconst_0 ?_
  refine lv_bipush (v := 8) hx hb dX8_mean_12 zk_bipush_8 ?_
  refine va_calli (va_runS (As := [.int a2, .int 0, .int 8]) (rest := [.int 0, .ref a0]) ⟨hx, hb, hml, hown, hts⟩ (c_X8_in l dC dI H.size a2 0 8 ) (va_cwS 3 hts gX8_mean_X8_in rfl rfl rfl zd_X8_in.2 ⟨Nat.le_of_ble_eq_true rfl, Nat.le_of_ble_eq_true rfl⟩) ⟨ax_blind (fun _ _ _ _ _ => trivial), ax_pre (zp_P0 hP) (zp_K hK) (zp_D0 hD) (fun _ _ => trivial)⟩ rfl rfl hl.1 rfl (lv_room (Nat.le_of_ble_eq_true rfl)) dX8_mean_14 ⟨Nat.le_of_ble_eq_true rfl, Nat.le_of_ble_eq_true rfl⟩) hS (fun q _ h => zp_F0 hD hS hA q h) (zp_F0 hD hS hA) (fun r14 u t H locs ht hvm hw hB hz1 hk1 hS1 => zo0 hB ht hP hD hk1 (zp_F0 hD hS hA) hS1 (fun hP hK1 hD hS => ?_))
  rcases hw with hw | hw
  · obtain ⟨hw, h14⟩ := hw
    subst hw
    have l14k0_a2 : (0 : Int) ≤ a2.toInt := Int.le_trans zq5 h14.1
    have u14k0_a2 : a2.toInt ≤ (8 : Int) := Int.le_trans h14.2 zq28
    refine va_calli (va_runV (As := [.int 0, .int 1]) (rest := []) ⟨hx, hb, hml, hown, hts⟩ (c_X8_whyB l dC dI H.size a0 0 1 (Value.int v1na0_0) a0g_1 a0g_2 a0g_3 a0g_4 a0g_5 a0g_6 a0g_7 a0g_8 a0g_9 a0g_10 (Value.int v1na0_11) a0g_12 a0g_13 (Value.int a0_14) a0g_15 a0g_16 a0g_17 a0g_18 a0g_19 a0g_20 a0g_21 a0g_22 a0g_23 a0g_24 a0g_25 a0g_26 a0g_27 a0g_28 a0g_29 a0g_30 a0g_31 a0g_32 a0g_33 a0g_34 a0g_35 a0g_36 a0g_37 a0g_38 a0g_39 zq5 (Int.le_trans zq6 zq4) (Int.le_trans zq4 zq1) zq0) (cwV 2 hts gX8_mean_X8_why rfl rfl rfl zd_X8_why ⟨Nat.le_of_ble_eq_true rfl, Nat.le_of_ble_eq_true rfl⟩) ⟨ax_blind (fun _ _ _ _ _ => trivial), zr_8 (zp_K hK) (zp_P1 hP) (q0 := 0) rfl, ax_pre (zp_P1 hP) (zp_K hK) (zp_D1 hD) (fun _ _ => trivial)⟩ rfl rfl hl.1 rfl (lv_room (Nat.le_of_ble_eq_true rfl)) dX8_mean_17 ⟨Nat.le_of_ble_eq_true rfl, Nat.le_of_ble_eq_true rfl⟩) hS (fun q _ h => zp_F1 hD hS hA q h) (zp_F1 hD hS hA) (fun r17 u t H locs ht hvm hw hB hz1 hk1 hS1 => zo1 hB ht hP hD hk1 (zp_F1 hD hS hA) hS1 (fun hP hK1 hD hS => ?_))
    rcases hw with hw | hw | hw
    · obtain ⟨hw, h17_0, h17_1, h17_2, h17_3⟩ := hw
      subst hw
      exact absurd h17_0 (by decide)
    · obtain ⟨hw, h17_0, h17_1⟩ := hw
      subst hw
      refine lv_istore (lv' := [(4, .int 1), (0, .ref a0), (1, .int a1), (2, .int a2), (3, .int a3)]) hx hb dX8_mean_20 hl (by decide) rfl (fun ls hl => ?_)
      refine lv_iload hx hb dX8_mean_22 (lv_at hl 0 rfl) ?_
      refine lv_if_eq (tgt := 35) hx hb dX8_mean_24 (by decide) (fun c24 => absurd c24 (by decide +kernel)) (fun _ => ?_)
      refine lv_aload_n hx hb dX8_mean_27 rfl (lv_at hl 1 rfl) ?_
      refine lv_iload hx hb dX8_mean_28 (lv_at hl 0 rfl) ?_
      refine va_calli (va_runV (As := [.int 1]) (rest := []) ⟨hx, hb, hml, hown, hts⟩ (c_X8_no l dC dI H.size a0 1 (Value.int v1na0_0) a0g_1 a0g_2 a0g_3 a0g_4 a0g_5 a0g_6 a0g_7 a0g_8 a0g_9 a0g_10 a0g_12 a0g_13 (Value.int a0_14) a0g_15 a0g_16 a0g_17 a0g_18 a0g_19 a0g_20 a0g_21 a0g_22 a0g_23 a0g_24 a0g_25 a0g_26 a0g_27 a0g_28 a0g_29 a0g_30 a0g_31 a0g_32 a0g_33 a0g_34 a0g_35 a0g_36 a0g_37 a0g_38 a0g_39 v1na0_11 ) (cwV 1 hts gX8_mean_X8_no rfl rfl rfl zd_X8_no ⟨Nat.le_of_ble_eq_true rfl, Nat.le_of_ble_eq_true rfl⟩) ⟨ax_blind (fun _ _ _ _ _ => trivial), zr_8 (zp_K hK) (zp_P1 hP) (q0 := 0) rfl, ax_pre (zp_P1 hP) (zp_K hK) (zp_D1 hD) (fun _ _ => trivial)⟩ rfl rfl hl.1 rfl (lv_room (Nat.le_of_ble_eq_true rfl)) dX8_mean_30 ⟨Nat.le_of_ble_eq_true rfl, Nat.le_of_ble_eq_true rfl⟩) hS (fun q _ h => zp_F1 hD hS hA q h) (zp_F1 hD hS hA) (fun r30 u t H locs ht hvm hw => zx_1 (fun v30na0_11 hB hz1 hk1 hS1 => zo1 hB ht hP hD hk1 (zp_F1 hD hS hA) hS1 (fun hP hK1 hD hS => ?_)))
      have hw : r30 = (-1) := hw
      have hw := hw.symm
      subst hw
      obtain ⟨x33, ex33⟩ : ∃ y : Int64, y = ((-1) : Int32).toInt64 := ⟨_, rfl⟩
      refine lv_i2l (v := x33) hx hb dX8_mean_33 ex33.symm ?_
      exact W.lret (v := x33) hx hb hr (fun t ht hW => ⟨⟨x33, (), rfl, trivial, v1na0_0, v30na0_11, by rw [ht]; exact hP, va_K.moved hW.alike hK, hD⟩, hS.F ht⟩) hS.2.2 dX8_mean_34
    · obtain ⟨hw, h17_0, h17_1, h17_2, h17_3⟩ := hw
      subst hw
      exact absurd h17_0 (by decide)
  · obtain ⟨hw, h14⟩ := hw
    subst hw
    refine va_calli (va_runV (As := [.int 0, .int 0]) (rest := []) ⟨hx, hb, hml, hown, hts⟩ (c_X8_whyB l dC dI H.size a0 0 0 (Value.int v1na0_0) a0g_1 a0g_2 a0g_3 a0g_4 a0g_5 a0g_6 a0g_7 a0g_8 a0g_9 a0g_10 (Value.int v1na0_11) a0g_12 a0g_13 (Value.int a0_14) a0g_15 a0g_16 a0g_17 a0g_18 a0g_19 a0g_20 a0g_21 a0g_22 a0g_23 a0g_24 a0g_25 a0g_26 a0g_27 a0g_28 a0g_29 a0g_30 a0g_31 a0g_32 a0g_33 a0g_34 a0g_35 a0g_36 a0g_37 a0g_38 a0g_39 zq5 (Int.le_trans zq6 zq4) zq5 (Int.le_trans zq6 zq4)) (cwV 2 hts gX8_mean_X8_why rfl rfl rfl zd_X8_why ⟨Nat.le_of_ble_eq_true rfl, Nat.le_of_ble_eq_true rfl⟩) ⟨ax_blind (fun _ _ _ _ _ => trivial), zr_8 (zp_K hK) (zp_P1 hP) (q0 := 0) rfl, ax_pre (zp_P1 hP) (zp_K hK) (zp_D1 hD) (fun _ _ => trivial)⟩ rfl rfl hl.1 rfl (lv_room (Nat.le_of_ble_eq_true rfl)) dX8_mean_17 ⟨Nat.le_of_ble_eq_true rfl, Nat.le_of_ble_eq_true rfl⟩) hS (fun q _ h => zp_F1 hD hS hA q h) (zp_F1 hD hS hA) (fun r17 u t H locs ht hvm hw hB hz1 hk1 hS1 => zo1 hB ht hP hD hk1 (zp_F1 hD hS hA) hS1 (fun hP hK1 hD hS => ?_))
    rcases hw with hw | hw | hw
    · obtain ⟨hw, h17_0, h17_1, h17_2, h17_3⟩ := hw
      subst hw
      exact absurd h17_0 (by decide)
    · obtain ⟨hw, h17_0, h17_1⟩ := hw
      subst hw
      refine lv_istore (lv' := [(4, .int 1), (0, .ref a0), (1, .int a1), (2, .int a2), (3, .int a3)]) hx hb dX8_mean_20 hl (by decide) rfl (fun ls hl => ?_)
      refine lv_iload hx hb dX8_mean_22 (lv_at hl 0 rfl) ?_
      refine lv_if_eq (tgt := 35) hx hb dX8_mean_24 (by decide) (fun c24 => absurd c24 (by decide +kernel)) (fun _ => ?_)
      refine lv_aload_n hx hb dX8_mean_27 rfl (lv_at hl 1 rfl) ?_
      refine lv_iload hx hb dX8_mean_28 (lv_at hl 0 rfl) ?_
      refine va_calli (va_runV (As := [.int 1]) (rest := []) ⟨hx, hb, hml, hown, hts⟩ (c_X8_no l dC dI H.size a0 1 (Value.int v1na0_0) a0g_1 a0g_2 a0g_3 a0g_4 a0g_5 a0g_6 a0g_7 a0g_8 a0g_9 a0g_10 a0g_12 a0g_13 (Value.int a0_14) a0g_15 a0g_16 a0g_17 a0g_18 a0g_19 a0g_20 a0g_21 a0g_22 a0g_23 a0g_24 a0g_25 a0g_26 a0g_27 a0g_28 a0g_29 a0g_30 a0g_31 a0g_32 a0g_33 a0g_34 a0g_35 a0g_36 a0g_37 a0g_38 a0g_39 v1na0_11 ) (cwV 1 hts gX8_mean_X8_no rfl rfl rfl zd_X8_no ⟨Nat.le_of_ble_eq_true rfl, Nat.le_of_ble_eq_true rfl⟩) ⟨ax_blind (fun _ _ _ _ _ => trivial), zr_8 (zp_K hK) (zp_P1 hP) (q0 := 0) rfl, ax_pre (zp_P1 hP) (zp_K hK) (zp_D1 hD) (fun _ _ => trivial)⟩ rfl rfl hl.1 rfl (lv_room (Nat.le_of_ble_eq_true rfl)) dX8_mean_30 ⟨Nat.le_of_ble_eq_true rfl, Nat.le_of_ble_eq_true rfl⟩) hS (fun q _ h => zp_F1 hD hS hA q h) (zp_F1 hD hS hA) (fun r30 u t H locs ht hvm hw => zx_1 (fun v30na0_11 hB hz1 hk1 hS1 => zo1 hB ht hP hD hk1 (zp_F1 hD hS hA) hS1 (fun hP hK1 hD hS => ?_)))
      have hw : r30 = (-1) := hw
      have hw := hw.symm
      subst hw
      obtain ⟨x33, ex33⟩ : ∃ y : Int64, y = ((-1) : Int32).toInt64 := ⟨_, rfl⟩
      refine lv_i2l (v := x33) hx hb dX8_mean_33 ex33.symm ?_
      exact W.lret (v := x33) hx hb hr (fun t ht hW => ⟨⟨x33, (), rfl, trivial, v1na0_0, v30na0_11, by rw [ht]; exact hP, va_K.moved hW.alike hK, hD⟩, hS.F ht⟩) hS.2.2 dX8_mean_34
    · obtain ⟨hw, h17_0, h17_1, h17_2, h17_3⟩ := hw
      subst hw
      exact absurd h17_0 (by decide)

set_option maxHeartbeats 4000000 in
set_option maxRecDepth 100000 in
theorem c0_X8_dares (l : Launch) (dC : Nat → ClassId) (dI : Nat → Nat → Nat) (sz : Nat) (a0 : Nat) (a1 : Int32) (a2 : Int32) (a3 : Int32) (a4 : Int32) (a0_0 : Int32) (a0g_1 a0g_2 a0g_3 a0g_4 a0g_5 a0g_6 a0g_7 a0g_8 a0g_9 a0g_10 a0g_12 a0g_13 a0g_15 a0g_16 a0g_17 a0g_18 a0g_19 a0g_20 a0g_21 a0g_22 a0g_23 a0g_24 a0g_25 a0g_26 a0g_27 a0g_28 a0g_29 a0g_30 a0g_31 a0g_32 a0g_33 a0g_34 a0g_35 a0g_36 a0g_37 a0g_38 a0g_39 : Value) (a0_11 : Int32) (a0_14 : Int32) (ba0_14_l : (0 : Int) ≤ a0_14.toInt) (ba0_14_u : a0_14.toInt ≤ (0 : Int)) : zm l yX8_dares wsX8_dares ({ frames := 1, cells := 0, slots := 0, locals := 22 }) [.ref a0, .int a1, .int a2, .int a3, .int a4] dC dI sz [(a0, .inr (8, [Value.int a0_0, a0g_1, a0g_2, a0g_3, a0g_4, a0g_5, a0g_6, a0g_7, a0g_8, a0g_9, a0g_10, Value.int a0_11, a0g_12, a0g_13, Value.int a0_14, a0g_15, a0g_16, a0g_17, a0g_18, a0g_19, a0g_20, a0g_21, a0g_22, a0g_23, a0g_24, a0g_25, a0g_26, a0g_27, a0g_28, a0g_29, a0g_30, a0g_31, a0g_32, a0g_33, a0g_34, a0g_35, a0g_36, a0g_37, a0g_38, a0g_39]))] [] (fun A _ => True) (fun A => va_Qi (fun (r : Int32) (_ : Unit) => r = (-100)) (fun (_ : Unit) (t : State) => ∃ na0_0 : Int32, ∃ na0_11 : Int32, ax_B dC dI A [(a0, .inr (8, [Value.int na0_0, a0g_1, a0g_2, a0g_3, a0g_4, a0g_5, a0g_6, a0g_7, a0g_8, a0g_9, a0g_10, Value.int na0_11, a0g_12, a0g_13, Value.int a0_14, a0g_15, a0g_16, a0g_17, a0g_18, a0g_19, a0g_20, a0g_21, a0g_22, a0g_23, a0g_24, a0g_25, a0g_26, a0g_27, a0g_28, a0g_29, a0g_30, a0g_31, a0g_32, a0g_33, a0g_34, a0g_35, a0g_36, a0g_37, a0g_38, a0g_39]))] [] t) A) := by
  refine zh (cc := cX8_dares) (maxL := 6) (ret := (some .int)) zn_RX8 rfl (Nat.le_of_ble_eq_true rfl) (fun p e s m below meth c A ls hx hb hml hr hts (hown : s.vm.findClass RX8 = some m.cls) hlocks hA hS hP hK hD hE (hl : lv_has ls 6 [(0, .ref a0), (1, .int a1), (2, .int a2), (3, .int a3), (4, .int a4)]) => ?_)
  refine lv_aload_n hx hb dX8_dares_0 rfl (lv_at hl 0 rfl) ?_
  refine va_callv (va_runV (As := []) (rest := []) ⟨hx, hb, hml, hown, hts⟩ (c_X8_good l dC dI s.heap.size a0 a0_0 a0g_1 a0g_2 a0g_3 a0g_4 a0g_5 a0g_6 a0g_7 a0g_8 a0g_9 a0g_10 a0g_12 a0g_13 (Value.int a0_14) a0g_15 a0g_16 a0g_17 a0g_18 a0g_19 a0g_20 a0g_21 a0g_22 a0g_23 a0g_24 a0g_25 a0g_26 a0g_27 a0g_28 a0g_29 a0g_30 a0g_31 a0g_32 a0g_33 a0g_34 a0g_35 a0g_36 a0g_37 a0g_38 a0g_39 a0_11 ) (cwV 0 hts gX8_dares_X8_good rfl rfl rfl zd_X8_good ⟨Nat.le_of_ble_eq_true rfl, Nat.le_of_ble_eq_true rfl⟩) ⟨ax_blind (fun _ _ _ _ _ => trivial), zr_8 (zp_K hK) (zp_P1 hP) (q0 := 0) rfl, ax_pre (zp_P1 hP) (zp_K hK) (zp_D1 hD) (fun _ _ => trivial)⟩ rfl rfl hl.1 rfl (lv_room (Nat.le_of_ble_eq_true rfl)) dX8_dares_1 ⟨Nat.le_of_ble_eq_true rfl, Nat.le_of_ble_eq_true rfl⟩) hS (fun q _ h => zp_F1 hD hS hA q h) (zp_F1 hD hS hA) (fun u t H locs ht hvm hw => zx_2 (fun v1na0_0 v1na0_11 hB hz1 hk1 hS1 => zo1 hB ht hP hD hk1 (zp_F1 hD hS hA) hS1 (fun hP hK1 hD hS => ?_)))
  refine lv_aload_n hx hb dX8_dares_4 rfl (lv_at hl 0 rfl) ?_
  refine lv_aload_n hx hb dX8_dares_5 rfl (lv_at hl 0 rfl) ?_
  refine va_get (D := (dC, dI)) (ci := 8) (v := .int a0_14) (C := RX8) (T := TX8) (N := 40) hx hb hts zi_X8_dares_8 hown hK hP 0 rfl rfl 14 (by decide) (hts (.fieldLink RX8 173 "WaxTurnsModel" "hasGallery" "Z") (List.mem_cons_of_mem _ (List.mem_append_left _ (List.mem_of_getElem? (i := 0) rfl)))) (fun _ h9 => h9) rfl dX8_dares_6 ?_
  refine lv_iload_n hx hb dX8_dares_9 rfl (lv_at hl 1 rfl) ?_
  refine lv_iconst (v := 0) hx hb dX8_dares_10 zk_iconst_0 ?_
  refine lv_bipush (v := 9) hx hb dX8_dares_11 zk_bipush_9 ?_
  refine va_calli (va_runS (As := [.int a1, .int 0, .int 9]) (rest := [.int a0_14, .ref a0]) ⟨hx, hb, hml, hown, hts⟩ (c_X8_in l dC dI H.size a1 0 9 ) (va_cwS 3 hts gX8_dares_X8_in rfl rfl rfl zd_X8_in.2 ⟨Nat.le_of_ble_eq_true rfl, Nat.le_of_ble_eq_true rfl⟩) ⟨ax_blind (fun _ _ _ _ _ => trivial), ax_pre (zp_P0 hP) (zp_K hK) (zp_D0 hD) (fun _ _ => trivial)⟩ rfl rfl hl.1 rfl (lv_room (Nat.le_of_ble_eq_true rfl)) dX8_dares_13 ⟨Nat.le_of_ble_eq_true rfl, Nat.le_of_ble_eq_true rfl⟩) hS (fun q _ h => zp_F0 hD hS hA q h) (zp_F0 hD hS hA) (fun r13 u t H locs ht hvm hw hB hz1 hk1 hS1 => zo0 hB ht hP hD hk1 (zp_F0 hD hS hA) hS1 (fun hP hK1 hD hS => ?_))
  rcases hw with hw | hw
  · obtain ⟨hw, h13⟩ := hw
    subst hw
    have l13k0_a1 : (0 : Int) ≤ a1.toInt := Int.le_trans zq5 h13.1
    have u13k0_a1 : a1.toInt ≤ (9 : Int) := Int.le_trans h13.2 zq3
    refine va_calli (va_runV (As := [.int a0_14, .int 1]) (rest := []) ⟨hx, hb, hml, hown, hts⟩ (c_X8_whyB l dC dI H.size a0 a0_14 1 (Value.int v1na0_0) a0g_1 a0g_2 a0g_3 a0g_4 a0g_5 a0g_6 a0g_7 a0g_8 a0g_9 a0g_10 (Value.int v1na0_11) a0g_12 a0g_13 (Value.int a0_14) a0g_15 a0g_16 a0g_17 a0g_18 a0g_19 a0g_20 a0g_21 a0g_22 a0g_23 a0g_24 a0g_25 a0g_26 a0g_27 a0g_28 a0g_29 a0g_30 a0g_31 a0g_32 a0g_33 a0g_34 a0g_35 a0g_36 a0g_37 a0g_38 a0g_39 ba0_14_l (Int.le_trans ba0_14_u zq4) (Int.le_trans zq4 zq1) zq0) (cwV 2 hts gX8_dares_X8_why rfl rfl rfl zd_X8_why ⟨Nat.le_of_ble_eq_true rfl, Nat.le_of_ble_eq_true rfl⟩) ⟨ax_blind (fun _ _ _ _ _ => trivial), zr_8 (zp_K hK) (zp_P1 hP) (q0 := 0) rfl, ax_pre (zp_P1 hP) (zp_K hK) (zp_D1 hD) (fun _ _ => trivial)⟩ rfl rfl hl.1 rfl (lv_room (Nat.le_of_ble_eq_true rfl)) dX8_dares_16 ⟨Nat.le_of_ble_eq_true rfl, Nat.le_of_ble_eq_true rfl⟩) hS (fun q _ h => zp_F1 hD hS hA q h) (zp_F1 hD hS hA) (fun r16 u t H locs ht hvm hw hB hz1 hk1 hS1 => zo1 hB ht hP hD hk1 (zp_F1 hD hS hA) hS1 (fun hP hK1 hD hS => ?_))
    rcases hw with hw | hw | hw
    · obtain ⟨hw, h16_0, h16_1, h16_2, h16_3⟩ := hw
      subst hw
      have l16k0_a0_14 : (1 : Int) ≤ a0_14.toInt := h16_0
      have u16k0_a0_14 : a0_14.toInt ≤ (0 : Int) := ba0_14_u
      exact absurd (Int.le_trans l16k0_a0_14 u16k0_a0_14) (by decide)
    · obtain ⟨hw, h16_0, h16_1⟩ := hw
      subst hw
      have l16k1_a0_14 : (0 : Int) ≤ a0_14.toInt := ba0_14_l
      have u16k1_a0_14 : a0_14.toInt ≤ (0 : Int) := ba0_14_u
      refine lv_istore (lv' := [(5, .int 1), (0, .ref a0), (1, .int a1), (2, .int a2), (3, .int a3), (4, .int a4)]) hx hb dX8_dares_19 hl (by decide) rfl (fun ls hl => ?_)
      refine lv_iload hx hb dX8_dares_21 (lv_at hl 0 rfl) ?_
      refine lv_if_ne (tgt := 46) hx hb dX8_dares_23 (by decide) (fun _ => ?_) (fun c23 => absurd c23 (by decide +kernel))
      refine lv_aload_n hx hb dX8_dares_46 rfl (lv_at hl 1 rfl) ?_
      refine lv_iload hx hb dX8_dares_47 (lv_at hl 0 rfl) ?_
      refine va_put (D := (dC, dI)) (ci := 8) (v := .int 1) (ty := .int) (C := RX8) (T := TX8) (N := 40) hx hb hts zi_X8_dares_8 tyX8 tyX8_ok nmX8 hown hK hP hD hS 0 rfl rfl 11 (by decide) (hts (.fieldLink RX8 62 "WaxTurnsModel" "trouble" "I") (List.mem_cons_of_mem _ (List.mem_append_left _ (List.mem_of_getElem? (i := 1) rfl)))) (fun _ h9 => h9) rfl (tyX8_ok 11 (by decide)) rfl rfl (Nat.le_of_ble_eq_true rfl) dX8_dares_49 (fun H locs hP hD hS => ?_)
      refine zs_0 (y := (a0, .inr (8, [Value.int v1na0_0, a0g_1, a0g_2, a0g_3, a0g_4, a0g_5, a0g_6, a0g_7, a0g_8, a0g_9, a0g_10, Value.int 1, a0g_12, a0g_13, Value.int a0_14, a0g_15, a0g_16, a0g_17, a0g_18, a0g_19, a0g_20, a0g_21, a0g_22, a0g_23, a0g_24, a0g_25, a0g_26, a0g_27, a0g_28, a0g_29, a0g_30, a0g_31, a0g_32, a0g_33, a0g_34, a0g_35, a0g_36, a0g_37, a0g_38, a0g_39]))) hP hD rfl (fun hP hD => ?_)
      refine lv_bipush (v := (-100)) hx hb dX8_dares_52 zk_bipush_n100 ?_
      exact W.iret (v := (-100)) hx hb hr (fun t ht hW => ⟨⟨(-100), (), rfl, rfl, v1na0_0, 1, by rw [ht]; exact hP, va_K.moved hW.alike hK, hD⟩, hS.F ht⟩) hS.2.2 dX8_dares_54
    · obtain ⟨hw, h16_0, h16_1, h16_2, h16_3⟩ := hw
      subst hw
      have l16k2_a0_14 : (1 : Int) ≤ a0_14.toInt := h16_0
      have u16k2_a0_14 : a0_14.toInt ≤ (0 : Int) := ba0_14_u
      exact absurd (Int.le_trans l16k2_a0_14 u16k2_a0_14) (by decide)
  · obtain ⟨hw, h13⟩ := hw
    subst hw
    refine va_calli (va_runV (As := [.int a0_14, .int 0]) (rest := []) ⟨hx, hb, hml, hown, hts⟩ (c_X8_whyB l dC dI H.size a0 a0_14 0 (Value.int v1na0_0) a0g_1 a0g_2 a0g_3 a0g_4 a0g_5 a0g_6 a0g_7 a0g_8 a0g_9 a0g_10 (Value.int v1na0_11) a0g_12 a0g_13 (Value.int a0_14) a0g_15 a0g_16 a0g_17 a0g_18 a0g_19 a0g_20 a0g_21 a0g_22 a0g_23 a0g_24 a0g_25 a0g_26 a0g_27 a0g_28 a0g_29 a0g_30 a0g_31 a0g_32 a0g_33 a0g_34 a0g_35 a0g_36 a0g_37 a0g_38 a0g_39 ba0_14_l (Int.le_trans ba0_14_u zq4) zq5 (Int.le_trans zq6 zq4)) (cwV 2 hts gX8_dares_X8_why rfl rfl rfl zd_X8_why ⟨Nat.le_of_ble_eq_true rfl, Nat.le_of_ble_eq_true rfl⟩) ⟨ax_blind (fun _ _ _ _ _ => trivial), zr_8 (zp_K hK) (zp_P1 hP) (q0 := 0) rfl, ax_pre (zp_P1 hP) (zp_K hK) (zp_D1 hD) (fun _ _ => trivial)⟩ rfl rfl hl.1 rfl (lv_room (Nat.le_of_ble_eq_true rfl)) dX8_dares_16 ⟨Nat.le_of_ble_eq_true rfl, Nat.le_of_ble_eq_true rfl⟩) hS (fun q _ h => zp_F1 hD hS hA q h) (zp_F1 hD hS hA) (fun r16 u t H locs ht hvm hw hB hz1 hk1 hS1 => zo1 hB ht hP hD hk1 (zp_F1 hD hS hA) hS1 (fun hP hK1 hD hS => ?_))
    rcases hw with hw | hw | hw
    · obtain ⟨hw, h16_0, h16_1, h16_2, h16_3⟩ := hw
      subst hw
      have l16k0_a0_14 : (1 : Int) ≤ a0_14.toInt := h16_0
      have u16k0_a0_14 : a0_14.toInt ≤ (0 : Int) := ba0_14_u
      exact absurd (Int.le_trans l16k0_a0_14 u16k0_a0_14) (by decide)
    · obtain ⟨hw, h16_0, h16_1⟩ := hw
      subst hw
      have l16k1_a0_14 : (0 : Int) ≤ a0_14.toInt := ba0_14_l
      have u16k1_a0_14 : a0_14.toInt ≤ (0 : Int) := ba0_14_u
      refine lv_istore (lv' := [(5, .int 1), (0, .ref a0), (1, .int a1), (2, .int a2), (3, .int a3), (4, .int a4)]) hx hb dX8_dares_19 hl (by decide) rfl (fun ls hl => ?_)
      refine lv_iload hx hb dX8_dares_21 (lv_at hl 0 rfl) ?_
      refine lv_if_ne (tgt := 46) hx hb dX8_dares_23 (by decide) (fun _ => ?_) (fun c23 => absurd c23 (by decide +kernel))
      refine lv_aload_n hx hb dX8_dares_46 rfl (lv_at hl 1 rfl) ?_
      refine lv_iload hx hb dX8_dares_47 (lv_at hl 0 rfl) ?_
      refine va_put (D := (dC, dI)) (ci := 8) (v := .int 1) (ty := .int) (C := RX8) (T := TX8) (N := 40) hx hb hts zi_X8_dares_8 tyX8 tyX8_ok nmX8 hown hK hP hD hS 0 rfl rfl 11 (by decide) (hts (.fieldLink RX8 62 "WaxTurnsModel" "trouble" "I") (List.mem_cons_of_mem _ (List.mem_append_left _ (List.mem_of_getElem? (i := 1) rfl)))) (fun _ h9 => h9) rfl (tyX8_ok 11 (by decide)) rfl rfl (Nat.le_of_ble_eq_true rfl) dX8_dares_49 (fun H locs hP hD hS => ?_)
      refine zs_0 (y := (a0, .inr (8, [Value.int v1na0_0, a0g_1, a0g_2, a0g_3, a0g_4, a0g_5, a0g_6, a0g_7, a0g_8, a0g_9, a0g_10, Value.int 1, a0g_12, a0g_13, Value.int a0_14, a0g_15, a0g_16, a0g_17, a0g_18, a0g_19, a0g_20, a0g_21, a0g_22, a0g_23, a0g_24, a0g_25, a0g_26, a0g_27, a0g_28, a0g_29, a0g_30, a0g_31, a0g_32, a0g_33, a0g_34, a0g_35, a0g_36, a0g_37, a0g_38, a0g_39]))) hP hD rfl (fun hP hD => ?_)
      refine lv_bipush (v := (-100)) hx hb dX8_dares_52 zk_bipush_n100 ?_
      exact W.iret (v := (-100)) hx hb hr (fun t ht hW => ⟨⟨(-100), (), rfl, rfl, v1na0_0, 1, by rw [ht]; exact hP, va_K.moved hW.alike hK, hD⟩, hS.F ht⟩) hS.2.2 dX8_dares_54
    · obtain ⟨hw, h16_0, h16_1, h16_2, h16_3⟩ := hw
      subst hw
      have l16k2_a0_14 : (1 : Int) ≤ a0_14.toInt := h16_0
      have u16k2_a0_14 : a0_14.toInt ≤ (0 : Int) := ba0_14_u
      exact absurd (Int.le_trans l16k2_a0_14 u16k2_a0_14) (by decide)
end P280_07_safe
section P280_08_safe
set_option maxHeartbeats 4000000 in
set_option maxRecDepth 100000 in
theorem c0_X8_size (l : Launch) (dC : Nat → ClassId) (dI : Nat → Nat → Nat) (sz : Nat) (a0 : Nat) (a1 : Int32) (a0_0 : Int32) (a0g_1 a0g_3 a0g_4 a0g_5 a0g_6 a0g_7 a0g_8 a0g_9 a0g_10 a0g_11 a0g_12 a0g_13 a0g_15 a0g_16 a0g_17 a0g_18 a0g_19 a0g_20 a0g_21 a0g_22 a0g_23 a0g_24 a0g_25 a0g_26 a0g_27 a0g_28 a0g_29 a0g_30 a0g_31 a0g_32 a0g_33 a0g_34 a0g_35 a0g_36 a0g_37 a0g_38 a0g_39 : Value) (a0_2 : Int32) (a0_14 : Int32) (ba0_2_l : (0 : Int) ≤ a0_2.toInt) (ba0_2_u : a0_2.toInt ≤ (900 : Int)) (ba0_14_l : (0 : Int) ≤ a0_14.toInt) (ba0_14_u : a0_14.toInt ≤ (0 : Int)) : zm l yX8_size wsX8_size ({ frames := 1, cells := 0, slots := 0, locals := 22 }) [.ref a0, .int a1] dC dI sz [(a0, .inr (8, [Value.int a0_0, a0g_1, Value.int a0_2, a0g_3, a0g_4, a0g_5, a0g_6, a0g_7, a0g_8, a0g_9, a0g_10, a0g_11, a0g_12, a0g_13, Value.int a0_14, a0g_15, a0g_16, a0g_17, a0g_18, a0g_19, a0g_20, a0g_21, a0g_22, a0g_23, a0g_24, a0g_25, a0g_26, a0g_27, a0g_28, a0g_29, a0g_30, a0g_31, a0g_32, a0g_33, a0g_34, a0g_35, a0g_36, a0g_37, a0g_38, a0g_39]))] [] (fun A _ => True) (fun A => va_Qi (fun (r : Int32) (_ : Unit) => (-1 : Int) ≤ r.toInt ∧ r.toInt ≤ (900 : Int)) (fun (_ : Unit) (t : State) => ∃ na0_0 : Int32, ax_B dC dI A [(a0, .inr (8, [Value.int na0_0, a0g_1, Value.int a0_2, a0g_3, a0g_4, a0g_5, a0g_6, a0g_7, a0g_8, a0g_9, a0g_10, a0g_11, a0g_12, a0g_13, Value.int a0_14, a0g_15, a0g_16, a0g_17, a0g_18, a0g_19, a0g_20, a0g_21, a0g_22, a0g_23, a0g_24, a0g_25, a0g_26, a0g_27, a0g_28, a0g_29, a0g_30, a0g_31, a0g_32, a0g_33, a0g_34, a0g_35, a0g_36, a0g_37, a0g_38, a0g_39]))] [] t) A) := by
  refine zh (cc := cX8_size) (maxL := 2) (ret := (some .int)) zn_RX8 rfl (Nat.le_of_ble_eq_true rfl) (fun p e s m below meth c A ls hx hb hml hr hts (hown : s.vm.findClass RX8 = some m.cls) hlocks hA hS hP hK hD hE (hl : lv_has ls 2 [(0, .ref a0), (1, .int a1)]) => ?_)
  refine lv_aload_n hx hb dX8_size_0 rfl (lv_at hl 0 rfl) ?_
  refine lv_iconst (v := 0) hx hb dX8_size_1 zk_iconst_0 ?_
  refine va_put (D := (dC, dI)) (ci := 8) (v := .int 0) (ty := .int) (C := RX8) (T := TX8) (N := 40) hx hb hts zi_X8_size_8 tyX8 tyX8_ok nmX8 hown hK hP hD hS 0 rfl rfl 0 (by decide) (hts (.fieldLink RX8 59 "WaxTurnsModel" "thrown" "I") (List.mem_cons_of_mem _ (List.mem_append_left _ (List.mem_of_getElem? (i := 0) rfl)))) (fun _ h9 => h9) rfl (tyX8_ok 0 (by decide)) rfl rfl (Nat.le_of_ble_eq_true rfl) dX8_size_2 (fun H locs hP hD hS => ?_)
  refine zs_0 (y := (a0, .inr (8, [Value.int 0, a0g_1, Value.int a0_2, a0g_3, a0g_4, a0g_5, a0g_6, a0g_7, a0g_8, a0g_9, a0g_10, a0g_11, a0g_12, a0g_13, Value.int a0_14, a0g_15, a0g_16, a0g_17, a0g_18, a0g_19, a0g_20, a0g_21, a0g_22, a0g_23, a0g_24, a0g_25, a0g_26, a0g_27, a0g_28, a0g_29, a0g_30, a0g_31, a0g_32, a0g_33, a0g_34, a0g_35, a0g_36, a0g_37, a0g_38, a0g_39]))) hP hD rfl (fun hP hD => ?_)
  refine lv_iload_n hx hb dX8_size_5 rfl (lv_at hl 1 rfl) ?_
  refine lv_bipush (v := 13) hx hb dX8_size_6 zk_bipush_13 ?_
  refine lv_icmp_ne (tgt := 16) hx hb dX8_size_8 (by decide) (fun c8 => ?_) (fun c8 => ?_)
  · have gc8 := ai_ne c8
    refine lv_aload_n hx hb dX8_size_16 rfl (lv_at hl 0 rfl) ?_
    refine va_get (D := (dC, dI)) (ci := 8) (v := .int a0_14) (C := RX8) (T := TX8) (N := 40) hx hb hts zi_X8_size_8 hown hK hP 0 rfl rfl 14 (by decide) (hts (.fieldLink RX8 173 "WaxTurnsModel" "hasGallery" "Z") (List.mem_cons_of_mem _ (List.mem_append_left _ (List.mem_of_getElem? (i := 2) rfl)))) (fun _ h9 => h9) rfl dX8_size_17 ?_
    refine lv_if_ne (tgt := 39) hx hb dX8_size_20 (by decide) (fun c20 => ?_) (fun c20 => ?_)
    · have gc20 := ai_ne c20
      have l20t_a0_14 : (1 : Int) ≤ a0_14.toInt := (by first | exact zg_l ba0_14_l gc20 (by decide) (by decide) | (have h1 := ba0_14_l; have h2 : (0 : Int32).toInt = 0 := (by decide); rw [h2] at gc20; omega))
      have u20t_a0_14 : a0_14.toInt ≤ (-1 : Int) := (by first | exact zg_u ba0_14_u gc20 (by decide) (by decide) | (have h1 := ba0_14_u; have h2 : (0 : Int32).toInt = 0 := (by decide); rw [h2] at gc20; omega))
      exact absurd (Int.le_trans l20t_a0_14 u20t_a0_14) (by decide)
    · have gc20 := ai_eq c20
      have u20f_a0_14 : a0_14.toInt ≤ (0 : Int) := ba0_14_u
      have l20f_a0_14 : (0 : Int) ≤ a0_14.toInt := ba0_14_l
      refine lv_iload_n hx hb dX8_size_23 rfl (lv_at hl 1 rfl) ?_
      refine lv_iconst (v := 0) hx hb dX8_size_24 zk_iconst_0 ?_
      refine lv_bipush (v := 12) hx hb dX8_size_25 zk_bipush_12 ?_
      refine va_calli (va_runS (As := [.int a1, .int 0, .int 12]) (rest := []) ⟨hx, hb, hml, hown, hts⟩ (c_X8_in l dC dI H.size a1 0 12 ) (va_cwS 3 hts gX8_size_X8_in rfl rfl rfl zd_X8_in.2 ⟨Nat.le_of_ble_eq_true rfl, Nat.le_of_ble_eq_true rfl⟩) ⟨ax_blind (fun _ _ _ _ _ => trivial), ax_pre (zp_P0 hP) (zp_K hK) (zp_D0 hD) (fun _ _ => trivial)⟩ rfl rfl hl.1 rfl (lv_room (Nat.le_of_ble_eq_true rfl)) dX8_size_27 ⟨Nat.le_of_ble_eq_true rfl, Nat.le_of_ble_eq_true rfl⟩) hS (fun q _ h => zp_F0 hD hS hA q h) (zp_F0 hD hS hA) (fun r27 u t H locs ht hvm hw hB hz1 hk1 hS1 => zo0 hB ht hP hD hk1 (zp_F0 hD hS hA) hS1 (fun hP hK1 hD hS => ?_))
      rcases hw with hw | hw
      · obtain ⟨hw, h27⟩ := hw
        subst hw
        have l27k0_a1 : (0 : Int) ≤ a1.toInt := Int.le_trans zq5 h27.1
        have u27k0_a1 : a1.toInt ≤ (12 : Int) := Int.le_trans h27.2 zq120
        refine lv_if_eq (tgt := 37) hx hb dX8_size_30 (by decide) (fun c30 => absurd c30 (by decide +kernel)) (fun _ => ?_)
        refine lv_iconst (v := 0) hx hb dX8_size_33 zk_iconst_0 ?_
        refine lv_goto (tgt := 38) hx hb dX8_size_34 (by decide) ?_
        exact W.iret (v := 0) hx hb hr (fun t ht hW => ⟨⟨0, (), rfl, ⟨(Int.le_trans zq69 zq5), (Int.le_trans zq6 zq40)⟩, 0, by rw [ht]; exact hP, va_K.moved hW.alike hK, hD⟩, hS.F ht⟩) hS.2.2 dX8_size_38
      · obtain ⟨hw, h27⟩ := hw
        subst hw
        refine lv_if_eq (tgt := 37) hx hb dX8_size_30 (by decide) (fun _ => ?_) (fun c30 => absurd (by decide +kernel) c30)
        refine lv_iconst (v := (-1)) hx hb dX8_size_37 zk_iconst_n1 ?_
        exact W.iret (v := (-1)) hx hb hr (fun t ht hW => ⟨⟨(-1), (), rfl, ⟨zq70, (Int.le_trans zq71 zq228)⟩, 0, by rw [ht]; exact hP, va_K.moved hW.alike hK, hD⟩, hS.F ht⟩) hS.2.2 dX8_size_38
  · have gc8 := ai_eq c8
    have u8f_a1 : a1.toInt ≤ (13 : Int) := Int.le_trans (Int.le_of_eq gc8) zq122
    have l8f_a1 : (13 : Int) ≤ a1.toInt := Int.le_trans zq121 (Int.le_of_eq gc8.symm)
    refine lv_aload_n hx hb dX8_size_11 rfl (lv_at hl 0 rfl) ?_
    refine va_get (D := (dC, dI)) (ci := 8) (v := .int a0_2) (C := RX8) (T := TX8) (N := 40) hx hb hts zi_X8_size_8 hown hK hP 0 rfl rfl 2 (by decide) (hts (.fieldLink RX8 65 "WaxTurnsModel" "taped" "I") (List.mem_cons_of_mem _ (List.mem_append_left _ (List.mem_of_getElem? (i := 1) rfl)))) (fun _ h9 => h9) rfl dX8_size_12 ?_
    exact W.iret (v := a0_2) hx hb hr (fun t ht hW => ⟨⟨a0_2, (), rfl, ⟨(Int.le_trans zq69 ba0_2_l), ba0_2_u⟩, 0, by rw [ht]; exact hP, va_K.moved hW.alike hK, hD⟩, hS.F ht⟩) hS.2.2 dX8_size_15

set_option maxHeartbeats 4000000 in
set_option maxRecDepth 100000 in
theorem c0_X8_routeAt (l : Launch) (dC : Nat → ClassId) (dI : Nat → Nat → Nat) (sz : Nat) (a0 : Nat) (a1 : Int32) (a2 : Int32) (a3 : Int32) (a0_0 : Int32) (a0g_1 a0g_2 a0g_3 a0g_4 a0g_5 a0g_6 a0g_7 a0g_8 a0g_9 a0g_10 a0g_12 a0g_13 a0g_15 a0g_16 a0g_17 a0g_18 a0g_19 a0g_20 a0g_21 a0g_22 a0g_23 a0g_24 a0g_25 a0g_26 a0g_27 a0g_28 a0g_29 a0g_30 a0g_31 a0g_32 a0g_33 a0g_34 a0g_35 a0g_36 a0g_37 a0g_38 a0g_39 : Value) (a0_11 : Int32) (a0_14 : Int32) (ba0_14_l : (0 : Int) ≤ a0_14.toInt) (ba0_14_u : a0_14.toInt ≤ (0 : Int)) : zm l yX8_routeAt wsX8_routeAt ({ frames := 2, cells := 0, slots := 0, locals := 44 }) [.ref a0, .int a1, .int a2, .int a3] dC dI sz [(a0, .inr (8, [Value.int a0_0, a0g_1, a0g_2, a0g_3, a0g_4, a0g_5, a0g_6, a0g_7, a0g_8, a0g_9, a0g_10, Value.int a0_11, a0g_12, a0g_13, Value.int a0_14, a0g_15, a0g_16, a0g_17, a0g_18, a0g_19, a0g_20, a0g_21, a0g_22, a0g_23, a0g_24, a0g_25, a0g_26, a0g_27, a0g_28, a0g_29, a0g_30, a0g_31, a0g_32, a0g_33, a0g_34, a0g_35, a0g_36, a0g_37, a0g_38, a0g_39]))] [] (fun A _ => True) (fun A => va_Qi (fun (r : Int32) (_ : Unit) => r = (-1)) (fun (_ : Unit) (t : State) => ∃ na0_0 : Int32, ∃ na0_11 : Int32, ax_B dC dI A [(a0, .inr (8, [Value.int na0_0, a0g_1, a0g_2, a0g_3, a0g_4, a0g_5, a0g_6, a0g_7, a0g_8, a0g_9, a0g_10, Value.int na0_11, a0g_12, a0g_13, Value.int a0_14, a0g_15, a0g_16, a0g_17, a0g_18, a0g_19, a0g_20, a0g_21, a0g_22, a0g_23, a0g_24, a0g_25, a0g_26, a0g_27, a0g_28, a0g_29, a0g_30, a0g_31, a0g_32, a0g_33, a0g_34, a0g_35, a0g_36, a0g_37, a0g_38, a0g_39]))] [] t) A) := by
  refine zh (cc := cX8_routeAt) (maxL := 7) (ret := (some .int)) zn_RX8 rfl (Nat.le_of_ble_eq_true rfl) (fun p e s m below meth c A ls hx hb hml hr hts (hown : s.vm.findClass RX8 = some m.cls) hlocks hA hS hP hK hD hE (hl : lv_has ls 7 [(0, .ref a0), (1, .int a1), (2, .int a2), (3, .int a3)]) => ?_)
  refine ai_open (fun K hK0 => ?_)
  refine (hK0 _ _ _).mpr ?_
  refine lv_aload_n hx hb dX8_routeAt_0 rfl (lv_at hl 0 rfl) ?_
  refine va_callv (va_runV (As := []) (rest := []) ⟨hx, hb, hml, hown, hts⟩ (c_X8_good l dC dI s.heap.size a0 a0_0 a0g_1 a0g_2 a0g_3 a0g_4 a0g_5 a0g_6 a0g_7 a0g_8 a0g_9 a0g_10 a0g_12 a0g_13 (Value.int a0_14) a0g_15 a0g_16 a0g_17 a0g_18 a0g_19 a0g_20 a0g_21 a0g_22 a0g_23 a0g_24 a0g_25 a0g_26 a0g_27 a0g_28 a0g_29 a0g_30 a0g_31 a0g_32 a0g_33 a0g_34 a0g_35 a0g_36 a0g_37 a0g_38 a0g_39 a0_11 ) (cwV 0 hts gX8_routeAt_X8_good rfl rfl rfl zd_X8_good ⟨Nat.le_of_ble_eq_true rfl, Nat.le_of_ble_eq_true rfl⟩) ⟨ax_blind (fun _ _ _ _ _ => trivial), zr_8 (zp_K hK) (zp_P1 hP) (q0 := 0) rfl, ax_pre (zp_P1 hP) (zp_K hK) (zp_D1 hD) (fun _ _ => trivial)⟩ rfl rfl hl.1 rfl (lv_room (Nat.le_of_ble_eq_true rfl)) dX8_routeAt_1 ⟨Nat.le_of_ble_eq_true rfl, Nat.le_of_ble_eq_true rfl⟩) hS (fun q _ h => zp_F1 hD hS hA q h) (zp_F1 hD hS hA) (fun u t H locs ht hvm hw => zx_2 (fun v1na0_0 v1na0_11 hB hz1 hk1 hS1 => zo1 hB ht hP hD hk1 (zp_F1 hD hS hA) hS1 (fun hP hK1 hD hS => ?_)))
  refine lv_aload_n hx hb dX8_routeAt_4 rfl (lv_at hl 0 rfl) ?_
  refine lv_iload_n hx hb dX8_routeAt_5 rfl (lv_at hl 1 rfl) ?_
  refine lv_iload_n hx hb dX8_routeAt_6 rfl (lv_at hl 2 rfl) ?_
  refine va_calli (va_runV (As := [.int a1, .int a2]) (rest := []) ⟨hx, hb, hml, hown, hts⟩ (c0_X8_routeWhy l dC dI H.size a0 a1 a2 (Value.int v1na0_0) a0g_1 a0g_2 a0g_3 a0g_4 a0g_5 a0g_6 a0g_7 a0g_8 a0g_9 a0g_10 (Value.int v1na0_11) a0g_12 a0g_13 a0g_15 a0g_16 a0g_17 a0g_18 a0g_19 a0g_20 a0g_21 a0g_22 a0g_23 a0g_24 a0g_25 a0g_26 a0g_27 a0g_28 a0g_29 a0g_30 a0g_31 a0g_32 a0g_33 a0g_34 a0g_35 a0g_36 a0g_37 a0g_38 a0g_39 a0_14 ba0_14_l ba0_14_u) (cwV 2 hts gX8_routeAt_X8_routeWhy rfl rfl rfl zd_X8_routeWhy ⟨Nat.le_of_ble_eq_true rfl, Nat.le_of_ble_eq_true rfl⟩) ⟨ax_blind (fun _ _ _ _ _ => trivial), zr_8 (zp_K hK) (zp_P1 hP) (q0 := 0) rfl, ax_pre (zp_P1 hP) (zp_K hK) (zp_D1 hD) (fun _ _ => trivial)⟩ rfl rfl hl.1 rfl (lv_room (Nat.le_of_ble_eq_true rfl)) dX8_routeAt_7 ⟨Nat.le_of_ble_eq_true rfl, Nat.le_of_ble_eq_true rfl⟩) hS (fun q _ h => zp_F1 hD hS hA q h) (zp_F1 hD hS hA) (fun r7 u t H locs ht hvm hw hB hz1 hk1 hS1 => zo1 hB ht hP hD hk1 (zp_F1 hD hS hA) hS1 (fun hP hK1 hD hS => ?_))
  have hw : r7 = 1 := hw
  have hw := hw.symm
  subst hw
  refine lv_istore (lv' := [(4, .int 1), (0, .ref a0), (1, .int a1), (2, .int a2), (3, .int a3)]) hx hb dX8_routeAt_10 hl (by decide) rfl (fun ls hl => ?_)
  refine lv_iload hx hb dX8_routeAt_12 (lv_at hl 0 rfl) ?_
  refine lv_if_ne (tgt := 29) hx hb dX8_routeAt_14 (by decide) (fun _ => ?_) (fun c14 => absurd c14 (by decide +kernel))
  refine lv_iload hx hb dX8_routeAt_29 (lv_at hl 0 rfl) ?_
  refine lv_if_eq (tgt := 41) hx hb dX8_routeAt_31 (by decide) (fun c31 => absurd c31 (by decide +kernel)) (fun _ => ?_)
  refine lv_aload_n hx hb dX8_routeAt_34 rfl (lv_at hl 1 rfl) ?_
  refine lv_iload hx hb dX8_routeAt_35 (lv_at hl 0 rfl) ?_
  refine va_calli (va_runV (As := [.int 1]) (rest := []) ⟨hx, hb, hml, hown, hts⟩ (c_X8_no l dC dI H.size a0 1 (Value.int v1na0_0) a0g_1 a0g_2 a0g_3 a0g_4 a0g_5 a0g_6 a0g_7 a0g_8 a0g_9 a0g_10 a0g_12 a0g_13 (Value.int a0_14) a0g_15 a0g_16 a0g_17 a0g_18 a0g_19 a0g_20 a0g_21 a0g_22 a0g_23 a0g_24 a0g_25 a0g_26 a0g_27 a0g_28 a0g_29 a0g_30 a0g_31 a0g_32 a0g_33 a0g_34 a0g_35 a0g_36 a0g_37 a0g_38 a0g_39 v1na0_11 ) (cwV 1 hts gX8_routeAt_X8_no rfl rfl rfl zd_X8_no ⟨Nat.le_of_ble_eq_true rfl, Nat.le_of_ble_eq_true rfl⟩) ⟨ax_blind (fun _ _ _ _ _ => trivial), zr_8 (zp_K hK) (zp_P1 hP) (q0 := 0) rfl, ax_pre (zp_P1 hP) (zp_K hK) (zp_D1 hD) (fun _ _ => trivial)⟩ rfl rfl hl.1 rfl (lv_room (Nat.le_of_ble_eq_true rfl)) dX8_routeAt_37 ⟨Nat.le_of_ble_eq_true rfl, Nat.le_of_ble_eq_true rfl⟩) hS (fun q _ h => zp_F1 hD hS hA q h) (zp_F1 hD hS hA) (fun r37 u t H locs ht hvm hw => zx_1 (fun v37na0_11 hB hz1 hk1 hS1 => zo1 hB ht hP hD hk1 (zp_F1 hD hS hA) hS1 (fun hP hK1 hD hS => ?_)))
  have hw : r37 = (-1) := hw
  have hw := hw.symm
  subst hw
  exact W.iret (v := (-1)) hx hb hr (fun t ht hW => ⟨⟨(-1), (), rfl, rfl, v1na0_0, v37na0_11, by rw [ht]; exact hP, va_K.moved hW.alike hK, hD⟩, hS.F ht⟩) hS.2.2 dX8_routeAt_40
end P280_08_safe
section P305_fg
section FG
theorem fg_o {f : Nat → Int32} {i : Nat} {v : Int32} (h : ((1 : Int) ≤ (f 11).toInt → (2 : Int) ≤ (f 0).toInt ∧ (1 : Int) ≤ (f 1).toInt)) (hi : i ≠ 0 ∧ i ≠ 1 ∧ i ≠ 11) : ((1 : Int) ≤ (upd f i v 11).toInt → (2 : Int) ≤ (upd f i v 0).toInt ∧ (1 : Int) ≤ (upd f i v 1).toInt) := by
  unfold upd; rw [if_neg (by omega), if_neg (by omega), if_neg (by omega)]; exact h
theorem fg_0 {f : Nat → Int32} {i : Nat} {v : Int32} (h : ((1 : Int) ≤ (f 11).toInt → (2 : Int) ≤ (f 0).toInt ∧ (1 : Int) ≤ (f 1).toInt)) (hi : i = 0) (hv : (2 : Int) ≤ v.toInt) : ((1 : Int) ≤ (upd f i v 11).toInt → (2 : Int) ≤ (upd f i v 0).toInt ∧ (1 : Int) ≤ (upd f i v 1).toInt) := by
  subst hi; intro h9; unfold upd at h9 ⊢; rw [if_neg (by omega)] at h9; rw [if_pos rfl, if_neg (by omega)]; exact ⟨hv, (h h9).2⟩
theorem fg_1 {f : Nat → Int32} {i : Nat} {v : Int32} (h : ((1 : Int) ≤ (f 11).toInt → (2 : Int) ≤ (f 0).toInt ∧ (1 : Int) ≤ (f 1).toInt)) (hi : i = 1) (hv : (1 : Int) ≤ v.toInt) : ((1 : Int) ≤ (upd f i v 11).toInt → (2 : Int) ≤ (upd f i v 0).toInt ∧ (1 : Int) ≤ (upd f i v 1).toInt) := by
  subst hi; intro h9; unfold upd at h9 ⊢; rw [if_neg (by omega)] at h9; rw [if_pos rfl, if_neg (by omega)]; exact ⟨(h h9).1, hv⟩
theorem fg_11 {f : Nat → Int32} {i : Nat} {v : Int32} (hi : i = 11) (h0 : (2 : Int) ≤ (f 0).toInt) (h1 : (1 : Int) ≤ (f 1).toInt) : ((1 : Int) ≤ (upd f i v 11).toInt → (2 : Int) ≤ (upd f i v 0).toInt ∧ (1 : Int) ≤ (upd f i v 1).toInt) := by
  subst hi; intro h9; unfold upd; rw [if_neg (by omega), if_neg (by omega)]; exact ⟨h0, h1⟩
theorem fg_ko {f : Nat → Int32} {n : Nat} {v : Int32} (h : (∀ (j i0 i : Int32), (0 : Int) ≤ j.toInt → j.toInt ≤ 8 → i0.toInt = 12 + 2 * j.toInt → i.toInt = 13 + 2 * j.toInt → (f i0.toNatClampNeg).toInt = (1 : Int32).toInt → (1 : Int) ≤ (f i.toNatClampNeg).toInt)) (hn : n < 12 ∨ 29 < n) : (∀ (j i0 i : Int32), (0 : Int) ≤ j.toInt → j.toInt ≤ 8 → i0.toInt = 12 + 2 * j.toInt → i.toInt = 13 + 2 * j.toInt → (upd f n v i0.toNatClampNeg).toInt = (1 : Int32).toInt → (1 : Int) ≤ (upd f n v i.toNatClampNeg).toInt) := by
  intro j i0 i a b e1 e2
  have q1 : i0.toNatClampNeg = i0.toInt.toNat := rfl
  have q2 : i.toNatClampNeg = i.toInt.toNat := rfl
  unfold upd
  rw [if_neg (by omega), if_neg (by omega)]
  exact h j i0 i a b e1 e2
theorem fg_kp {f g : Nat → Int32} {k k2 m v v2 : Int32} (h : (∀ (j i0 i : Int32), (0 : Int) ≤ j.toInt → j.toInt ≤ 8 → i0.toInt = 12 + 2 * j.toInt → i.toInt = 13 + 2 * j.toInt → (f i0.toNatClampNeg).toInt = (1 : Int32).toInt → (1 : Int) ≤ (f i.toNatClampNeg).toInt)) (e : g = upd f k.toNatClampNeg v) (hk : k.toInt = 12 + 2 * m.toInt) (h2 : k2.toInt = 13 + 2 * m.toInt) (hm : 0 ≤ m.toInt) (hm8 : m.toInt ≤ 8) (hv : (1 : Int) ≤ v2.toInt) : (∀ (j i0 i : Int32), (0 : Int) ≤ j.toInt → j.toInt ≤ 8 → i0.toInt = 12 + 2 * j.toInt → i.toInt = 13 + 2 * j.toInt → (upd g k2.toNatClampNeg v2 i0.toNatClampNeg).toInt = (1 : Int32).toInt → (1 : Int) ≤ (upd g k2.toNatClampNeg v2 i.toNatClampNeg).toInt) := by
  subst e
  intro j i0 i a b e1 e2
  have q1 : i0.toNatClampNeg = i0.toInt.toNat := rfl
  have q2 : i.toNatClampNeg = i.toInt.toNat := rfl
  have q3 : k.toNatClampNeg = k.toInt.toNat := rfl
  have q4 : k2.toNatClampNeg = k2.toInt.toNat := rfl
  unfold upd
  by_cases hj : j.toInt = m.toInt
  · intro _; rw [if_pos (by omega)]; exact hv
  · rw [if_neg (by omega), if_neg (by omega), if_neg (by omega), if_neg (by omega)]; exact h j i0 i a b e1 e2
theorem fg_z {f : Nat → Int32} (h : ∀ i : Nat, i < 156 → f i = 0) : ((∀ k : Nat, 0 ≤ k → k ≤ 0 → (0 : Int) ≤ (f k).toInt ∧ (f k).toInt ≤ 9) ∧ (∀ k : Nat, 1 ≤ k → k ≤ 1 → (0 : Int) ≤ (f k).toInt ∧ (f k).toInt ≤ 20) ∧ (∀ k : Nat, 2 ≤ k → k ≤ 2 → (0 : Int) ≤ (f k).toInt ∧ (f k).toInt ≤ 8) ∧ (∀ k : Nat, 3 ≤ k → k ≤ 3 → (0 : Int) ≤ (f k).toInt ∧ (f k).toInt ≤ 100) ∧ (∀ k : Nat, 4 ≤ k → k ≤ 4 → (0 : Int) ≤ (f k).toInt ∧ (f k).toInt ≤ 9) ∧ (∀ k : Nat, 5 ≤ k → k ≤ 5 → (0 : Int) ≤ (f k).toInt ∧ (f k).toInt ≤ 3) ∧ (∀ k : Nat, 6 ≤ k → k ≤ 6 → (0 : Int) ≤ (f k).toInt ∧ (f k).toInt ≤ 6) ∧ (∀ k : Nat, 7 ≤ k → k ≤ 9 → (0 : Int) ≤ (f k).toInt ∧ (f k).toInt ≤ 8) ∧ (∀ k : Nat, 10 ≤ k → k ≤ 11 → (0 : Int) ≤ (f k).toInt ∧ (f k).toInt ≤ 1) ∧ (∀ k : Nat, 12 ≤ k → k ≤ 29 → (0 : Int) ≤ (f k).toInt ∧ (f k).toInt ≤ 20) ∧ (∀ k : Nat, 30 ≤ k → k ≤ 35 → (0 : Int) ≤ (f k).toInt ∧ (f k).toInt ≤ 8) ∧ (∀ k : Nat, 36 ≤ k → k ≤ 47 → (0 : Int) ≤ (f k).toInt ∧ (f k).toInt ≤ 999) ∧ (∀ k : Nat, 48 ≤ k → k ≤ 59 → (0 : Int) ≤ (f k).toInt ∧ (f k).toInt ≤ 8) ∧ ((1 : Int) ≤ (f 11).toInt → (2 : Int) ≤ (f 0).toInt ∧ (1 : Int) ≤ (f 1).toInt) ∧ (∀ (j i0 i : Int32), (0 : Int) ≤ j.toInt → j.toInt ≤ 8 → i0.toInt = 12 + 2 * j.toInt → i.toInt = 13 + 2 * j.toInt → (f i0.toNatClampNeg).toInt = (1 : Int32).toInt → (1 : Int) ≤ (f i.toNatClampNeg).toInt)) := ⟨fun k a b => by rw [h k (by omega)]; decide, fun k a b => by rw [h k (by omega)]; decide, fun k a b => by rw [h k (by omega)]; decide, fun k a b => by rw [h k (by omega)]; decide, fun k a b => by rw [h k (by omega)]; decide, fun k a b => by rw [h k (by omega)]; decide, fun k a b => by rw [h k (by omega)]; decide, fun k a b => by rw [h k (by omega)]; decide, fun k a b => by rw [h k (by omega)]; decide, fun k a b => by rw [h k (by omega)]; decide, fun k a b => by rw [h k (by omega)]; decide, fun k a b => by rw [h k (by omega)]; decide, fun k a b => by rw [h k (by omega)]; decide, fun h9 => by rw [h 11 (by omega)] at h9; exact absurd h9 (by decide), fun j i0 i a b e1 e2 h9 => by
  have q1 : i0.toNatClampNeg = i0.toInt.toNat := rfl
  rw [h _ (by omega)] at h9; exact absurd h9 (by decide)⟩
theorem fg_zs {f g : Nat → Int32} {k k2 : Int32} (h : ∀ i : Nat, i < k.toNatClampNeg → f i = 0) (e : g = upd f k.toNatClampNeg 0) (hk : k2.toInt = k.toInt + 1) (h0 : (0 : Int) ≤ k.toInt) : ∀ i : Nat, i < k2.toNatClampNeg → g i = 0 := by
  intro i a
  rw [cp_k hk h0] at a
  rw [e]; unfold upd; split
  · rfl
  · exact h i (by omega)
theorem fg_z0 {f : Nat → Int32} {n : Nat} (h : n = 0) : ∀ i : Nat, i < n → f i = 0 := fun i a => by omega
theorem fg_ze {f : Nat → Int32} {k : Int32} (h : ∀ i : Nat, i < k.toNatClampNeg → f i = 0) (hk : (156 : Int) ≤ k.toInt) : ∀ i : Nat, i < 156 → f i = 0 := by
  intro i a
  have q1 : k.toNatClampNeg = k.toInt.toNat := rfl
  exact h i (by omega)
theorem fg_r {f g r : Nat → Int32} {sp dp : Nat} (e : r = va_cpy f g sp dp 156) (h1 : sp = 0) (h2 : dp = 0) (hf : ((∀ k : Nat, 0 ≤ k → k ≤ 0 → (0 : Int) ≤ (f k).toInt ∧ (f k).toInt ≤ 9) ∧ (∀ k : Nat, 1 ≤ k → k ≤ 1 → (0 : Int) ≤ (f k).toInt ∧ (f k).toInt ≤ 20) ∧ (∀ k : Nat, 2 ≤ k → k ≤ 2 → (0 : Int) ≤ (f k).toInt ∧ (f k).toInt ≤ 8) ∧ (∀ k : Nat, 3 ≤ k → k ≤ 3 → (0 : Int) ≤ (f k).toInt ∧ (f k).toInt ≤ 100) ∧ (∀ k : Nat, 4 ≤ k → k ≤ 4 → (0 : Int) ≤ (f k).toInt ∧ (f k).toInt ≤ 9) ∧ (∀ k : Nat, 5 ≤ k → k ≤ 5 → (0 : Int) ≤ (f k).toInt ∧ (f k).toInt ≤ 3) ∧ (∀ k : Nat, 6 ≤ k → k ≤ 6 → (0 : Int) ≤ (f k).toInt ∧ (f k).toInt ≤ 6) ∧ (∀ k : Nat, 7 ≤ k → k ≤ 9 → (0 : Int) ≤ (f k).toInt ∧ (f k).toInt ≤ 8) ∧ (∀ k : Nat, 10 ≤ k → k ≤ 11 → (0 : Int) ≤ (f k).toInt ∧ (f k).toInt ≤ 1) ∧ (∀ k : Nat, 12 ≤ k → k ≤ 29 → (0 : Int) ≤ (f k).toInt ∧ (f k).toInt ≤ 20) ∧ (∀ k : Nat, 30 ≤ k → k ≤ 35 → (0 : Int) ≤ (f k).toInt ∧ (f k).toInt ≤ 8) ∧ (∀ k : Nat, 36 ≤ k → k ≤ 47 → (0 : Int) ≤ (f k).toInt ∧ (f k).toInt ≤ 999) ∧ (∀ k : Nat, 48 ≤ k → k ≤ 59 → (0 : Int) ≤ (f k).toInt ∧ (f k).toInt ≤ 8) ∧ ((1 : Int) ≤ (f 11).toInt → (2 : Int) ≤ (f 0).toInt ∧ (1 : Int) ≤ (f 1).toInt) ∧ (∀ (j i0 i : Int32), (0 : Int) ≤ j.toInt → j.toInt ≤ 8 → i0.toInt = 12 + 2 * j.toInt → i.toInt = 13 + 2 * j.toInt → (f i0.toNatClampNeg).toInt = (1 : Int32).toInt → (1 : Int) ≤ (f i.toNatClampNeg).toInt))) (h : (1 : Int) ≤ (f 11).toInt) : ((∀ k : Nat, 0 ≤ k → k ≤ 0 → (2 : Int) ≤ (r k).toInt ∧ (r k).toInt ≤ 9) ∧ (∀ k : Nat, 1 ≤ k → k ≤ 1 → (1 : Int) ≤ (r k).toInt ∧ (r k).toInt ≤ 20) ∧ (∀ k : Nat, 2 ≤ k → k ≤ 2 → (0 : Int) ≤ (r k).toInt ∧ (r k).toInt ≤ 8) ∧ (∀ k : Nat, 3 ≤ k → k ≤ 3 → (0 : Int) ≤ (r k).toInt ∧ (r k).toInt ≤ 100) ∧ (∀ k : Nat, 4 ≤ k → k ≤ 4 → (0 : Int) ≤ (r k).toInt ∧ (r k).toInt ≤ 9) ∧ (∀ k : Nat, 5 ≤ k → k ≤ 5 → (0 : Int) ≤ (r k).toInt ∧ (r k).toInt ≤ 3) ∧ (∀ k : Nat, 6 ≤ k → k ≤ 6 → (0 : Int) ≤ (r k).toInt ∧ (r k).toInt ≤ 6) ∧ (∀ k : Nat, 7 ≤ k → k ≤ 9 → (0 : Int) ≤ (r k).toInt ∧ (r k).toInt ≤ 8) ∧ (∀ k : Nat, 12 ≤ k → k ≤ 29 → (0 : Int) ≤ (r k).toInt ∧ (r k).toInt ≤ 20) ∧ (∀ k : Nat, 30 ≤ k → k ≤ 35 → (0 : Int) ≤ (r k).toInt ∧ (r k).toInt ≤ 8) ∧ (∀ k : Nat, 36 ≤ k → k ≤ 47 → (0 : Int) ≤ (r k).toInt ∧ (r k).toInt ≤ 999)) := by
  have q : ∀ k : Nat, k < 156 → r k = f k := fun k hk => by rw [e, pk_cpy_in (by omega) (by omega)]; exact congrArg f (by omega)
  have h11 := hf.2.2.2.2.2.2.2.2.2.2.2.2.2.1
  exact ⟨fun k a b => by rw [q k (by omega)]; have e : k = 0 := (by omega); subst e; exact ⟨(h11 h).1, (hf.1 0 (by omega) (by omega)).2⟩, fun k a b => by rw [q k (by omega)]; have e : k = 1 := (by omega); subst e; exact ⟨(h11 h).2, (hf.2.1 1 (by omega) (by omega)).2⟩, fun k a b => by rw [q k (by omega)]; exact hf.2.2.1 k (by omega) (by omega), fun k a b => by rw [q k (by omega)]; exact hf.2.2.2.1 k (by omega) (by omega), fun k a b => by rw [q k (by omega)]; exact hf.2.2.2.2.1 k (by omega) (by omega), fun k a b => by rw [q k (by omega)]; exact hf.2.2.2.2.2.1 k (by omega) (by omega), fun k a b => by rw [q k (by omega)]; exact hf.2.2.2.2.2.2.1 k (by omega) (by omega), fun k a b => by rw [q k (by omega)]; exact hf.2.2.2.2.2.2.2.1 k (by omega) (by omega), fun k a b => by rw [q k (by omega)]; exact hf.2.2.2.2.2.2.2.2.2.1 k (by omega) (by omega), fun k a b => by rw [q k (by omega)]; exact hf.2.2.2.2.2.2.2.2.2.2.1 k (by omega) (by omega), fun k a b => by rw [q k (by omega)]; exact hf.2.2.2.2.2.2.2.2.2.2.2.1 k (by omega) (by omega)⟩
theorem fg_rk {f g r : Nat → Int32} {sp dp : Nat} (e : r = va_cpy f g sp dp 156) (h1 : sp = 0) (h2 : dp = 0) (hf : ((∀ k : Nat, 0 ≤ k → k ≤ 0 → (0 : Int) ≤ (f k).toInt ∧ (f k).toInt ≤ 9) ∧ (∀ k : Nat, 1 ≤ k → k ≤ 1 → (0 : Int) ≤ (f k).toInt ∧ (f k).toInt ≤ 20) ∧ (∀ k : Nat, 2 ≤ k → k ≤ 2 → (0 : Int) ≤ (f k).toInt ∧ (f k).toInt ≤ 8) ∧ (∀ k : Nat, 3 ≤ k → k ≤ 3 → (0 : Int) ≤ (f k).toInt ∧ (f k).toInt ≤ 100) ∧ (∀ k : Nat, 4 ≤ k → k ≤ 4 → (0 : Int) ≤ (f k).toInt ∧ (f k).toInt ≤ 9) ∧ (∀ k : Nat, 5 ≤ k → k ≤ 5 → (0 : Int) ≤ (f k).toInt ∧ (f k).toInt ≤ 3) ∧ (∀ k : Nat, 6 ≤ k → k ≤ 6 → (0 : Int) ≤ (f k).toInt ∧ (f k).toInt ≤ 6) ∧ (∀ k : Nat, 7 ≤ k → k ≤ 9 → (0 : Int) ≤ (f k).toInt ∧ (f k).toInt ≤ 8) ∧ (∀ k : Nat, 10 ≤ k → k ≤ 11 → (0 : Int) ≤ (f k).toInt ∧ (f k).toInt ≤ 1) ∧ (∀ k : Nat, 12 ≤ k → k ≤ 29 → (0 : Int) ≤ (f k).toInt ∧ (f k).toInt ≤ 20) ∧ (∀ k : Nat, 30 ≤ k → k ≤ 35 → (0 : Int) ≤ (f k).toInt ∧ (f k).toInt ≤ 8) ∧ (∀ k : Nat, 36 ≤ k → k ≤ 47 → (0 : Int) ≤ (f k).toInt ∧ (f k).toInt ≤ 999) ∧ (∀ k : Nat, 48 ≤ k → k ≤ 59 → (0 : Int) ≤ (f k).toInt ∧ (f k).toInt ≤ 8) ∧ ((1 : Int) ≤ (f 11).toInt → (2 : Int) ≤ (f 0).toInt ∧ (1 : Int) ≤ (f 1).toInt) ∧ (∀ (j i0 i : Int32), (0 : Int) ≤ j.toInt → j.toInt ≤ 8 → i0.toInt = 12 + 2 * j.toInt → i.toInt = 13 + 2 * j.toInt → (f i0.toNatClampNeg).toInt = (1 : Int32).toInt → (1 : Int) ≤ (f i.toNatClampNeg).toInt))) : (∀ (j i0 i : Int32), (0 : Int) ≤ j.toInt → j.toInt ≤ 8 → i0.toInt = 12 + 2 * j.toInt → i.toInt = 13 + 2 * j.toInt → (r i0.toNatClampNeg).toInt = (1 : Int32).toInt → (1 : Int) ≤ (r i.toNatClampNeg).toInt) := by
  have q : ∀ k : Nat, k < 156 → r k = f k := fun k hk => by rw [e, pk_cpy_in (by omega) (by omega)]; exact congrArg f (by omega)
  have hk := hf.2.2.2.2.2.2.2.2.2.2.2.2.2.2
  intro j i0 i a b e1 e2
  have q1 : i0.toNatClampNeg = i0.toInt.toNat := rfl
  have q2 : i.toNatClampNeg = i.toInt.toNat := rfl
  rw [q _ (by omega), q _ (by omega)]
  exact hk j i0 i a b e1 e2
theorem fz_s {f f2 g : Nat → Int32} {i v : Int32} (h : ∀ k : Nat, k < 48 → f k = g k) (e : f2 = upd f i.toNatClampNeg v) (hi : (48 : Int) ≤ i.toInt) : ∀ k : Nat, k < 48 → f2 k = g k := by
  intro k hk
  have q1 : i.toNatClampNeg = i.toInt.toNat := rfl
  rw [e]; unfold upd; rw [if_neg (by omega)]; exact h k hk
theorem fg_u {f g : Nat → Int32} {k v : Int32} {m : Nat} (e : g = upd f k.toNatClampNeg v) (hk : (12 : Int) ≤ k.toInt) (hm : m < 12) : g m = f m := by
  have q1 : k.toNatClampNeg = k.toInt.toNat := rfl
  rw [e]; unfold upd; rw [if_neg (by omega)]
theorem fg_le {f : Nat → Int32} {x : Int32} {m : Nat} {b : Int} (e : x = f m) (h : (f m).toInt ≤ b) : x.toInt ≤ b := by rw [e]; exact h
end FG
end P305_fg
section P306_good
set_option maxRecDepth 20000 in
theorem gX8_next_X8_see : GoodIn wsX8_next (wsV RX8 74 RX8 yX8_see wsX8_see) := goodIn_s _ [(7, 7), (20, 40)] rfl (by decide +kernel)
set_option maxRecDepth 20000 in
theorem gX8_next_X8_isSmall : GoodIn wsX8_next (va_wsS RX8 90 yX8_isSmall wsX8_isSmall) := goodIn_s _ [(14, 2), (10, 1), (16, 1)] rfl (by decide +kernel)
set_option maxRecDepth 20000 in
theorem gX8_next_X8_isDigit : GoodIn wsX8_next (va_wsS RX8 94 yX8_isDigit wsX8_isDigit) := goodIn_s _ [(17, 2), (10, 1), (19, 1)] rfl (by decide +kernel)
set_option maxRecDepth 20000 in
theorem gX8_isWord_J0_length_8abf5 : GoodIn wsX8_isWord (wsV RX8 104 RJ0 yJ0_length_8abf5 wsJ0_length_8abf5) := goodIn_s _ [(5, 9), (8, 1), (14, 3)] rfl (by decide +kernel)
set_option maxRecDepth 20000 in
theorem gX8_isWord_J0_charAt_5068e : GoodIn wsX8_isWord (wsV RX8 110 RJ0 yJ0_charAt_5068e wsJ0_charAt_5068e) := goodIn_s _ [(17, 3), (8, 1), (20, 1), (10, 1), (21, 3), (8, 1), (24, 1), (15, 2), (25, 29)] rfl (by decide +kernel)
set_option maxRecDepth 20000 in
theorem gX8_takesWord_X8_isWord : GoodIn wsX8_takesWord (wsV RX8 114 RX8 yX8_isWord wsX8_isWord) := goodIn_s _ [(1, 58), (78, 40)] rfl (by decide +kernel)
set_option maxRecDepth 20000 in
theorem gX8_takesWord_X8_next : GoodIn wsX8_takesWord (wsV RX8 118 RX8 yX8_next wsX8_next) := goodIn_s _ [(59, 3), (4, 1), (62, 3), (8, 1), (65, 1), (7, 1), (9, 1), (66, 3), (4, 1), (69, 49)] rfl (by decide +kernel)
set_option maxRecDepth 20000 in
theorem gX8_must_X8_takesWord : GoodIn wsX8_must (wsV RX8 121 RX8 yX8_takesWord wsX8_takesWord) := goodIn_s _ [(3, 8), (6, 1), (11, 1), (1, 1), (12, 57), (2, 1), (69, 13), (88, 40)] rfl (by decide +kernel)
set_option maxRecDepth 20000 in
theorem gX8_must_X8_wrong : GoodIn wsX8_must (wsV RX8 124 RX8 yX8_wrong wsX8_wrong) := goodIn_s _ [(82, 3), (6, 1), (85, 1), (1, 1), (86, 42)] rfl (by decide +kernel)
set_option maxRecDepth 20000 in
theorem gX8_newName_X8_isWord : GoodIn wsX8_newName (wsV RX8 114 RX8 yX8_isWord wsX8_isWord) := goodIn_s _ [(7, 5), (1, 2), (4, 1), (6, 1), (12, 49), (89, 40)] rfl (by decide +kernel)
set_option maxRecDepth 20000 in
theorem gX8_newName_X8_wrong : GoodIn wsX8_newName (wsV RX8 124 RX8 yX8_wrong wsX8_wrong) := goodIn_s _ [(61, 3), (10, 1), (64, 1), (1, 1), (65, 2), (89, 40)] rfl (by decide +kernel)
set_option maxRecDepth 20000 in
theorem gX8_newName_X8_isKnown : GoodIn wsX8_newName (wsV RX8 138 RX8 yX8_isKnown wsX8_isKnown) := goodIn_s _ [(67, 3), (10, 1), (70, 1), (5, 1), (4, 1), (6, 1), (89, 40)] rfl (by decide +kernel)
set_option maxRecDepth 20000 in
theorem gX8_newName_X8_next : GoodIn wsX8_newName (wsV RX8 118 RX8 yX8_next wsX8_next) := goodIn_s _ [(71, 3), (10, 1), (74, 2), (3, 2), (76, 1), (2, 1), (6, 1), (77, 3), (10, 1), (80, 49)] rfl (by decide +kernel)
set_option maxRecDepth 20000 in
theorem gX8_pass_X8_next : GoodIn wsX8_pass (wsV RX8 118 RX8 yX8_next wsX8_next) := goodIn_s _ [(2, 14), (5, 1), (16, 49)] rfl (by decide +kernel)
set_option maxRecDepth 20000 in
theorem gX8_numberHere_X8_wrong : GoodIn wsX8_numberHere (wsV RX8 124 RX8 yX8_wrong wsX8_wrong) := goodIn_s _ [(5, 5), (1, 1), (10, 2), (15, 40)] rfl (by decide +kernel)
set_option maxRecDepth 20000 in
theorem gX8_numberHere_X8_in : GoodIn wsX8_numberHere (va_wsS RX8 142 yX8_in wsX8_in) := goodIn_s _ [(12, 2), (8, 1), (14, 1)] rfl (by decide +kernel)
set_option maxRecDepth 20000 in
theorem gX8_number_X8_numberHere : GoodIn wsX8_number (wsV RX8 146 RX8 yX8_numberHere wsX8_numberHere) := goodIn_s _ [(1, 12), (4, 1), (13, 6), (42, 40)] rfl (by decide +kernel)
set_option maxRecDepth 20000 in
theorem gX8_number_X8_pass : GoodIn wsX8_number (wsV RX8 150 RX8 yX8_pass wsX8_pass) := goodIn_s _ [(19, 3), (4, 1), (22, 1), (6, 1), (23, 3), (4, 1), (26, 2), (8, 1), (28, 1), (9, 1), (7, 1), (29, 53)] rfl (by decide +kernel)
set_option maxRecDepth 20000 in
theorem gX8_after_X8_must : GoodIn wsX8_after (wsV RX8 153 RX8 yX8_must wsX8_must) := goodIn_s _ [(1, 10), (4, 1), (11, 81), (107, 40)] rfl (by decide +kernel)
set_option maxRecDepth 20000 in
theorem gX8_after_X8_number : GoodIn wsX8_after (wsV RX8 157 RX8 yX8_number wsX8_number) := goodIn_s _ [(92, 3), (4, 1), (95, 4), (4, 1), (99, 1), (6, 1), (16, 1), (7, 1), (73, 1), (86, 6), (100, 7), (68, 5), (17, 2), (74, 12), (107, 40)] rfl (by decide +kernel)
set_option maxRecDepth 20000 in
theorem gX8_gallery_X8_good : GoodIn wsX8_gallery (wsV RX8 160 RX8 yX8_good wsX8_good) := goodIn_s _ [(14, 7), (171, 40)] rfl (by decide +kernel)
set_option maxRecDepth 20000 in
theorem gX8_gallery_X8_in : GoodIn wsX8_gallery (va_wsS RX8 142 yX8_in wsX8_in) := goodIn_s _ [(21, 2), (17, 1), (23, 1)] rfl (by decide +kernel)
set_option maxRecDepth 20000 in
theorem gX8_gallery_X8_no : GoodIn wsX8_gallery (wsV RX8 163 RX8 yX8_no wsX8_no) := goodIn_s _ [(24, 3), (17, 1), (27, 1), (20, 1), (171, 40)] rfl (by decide +kernel)
set_option maxRecDepth 20000 in
theorem gX8_gallery_X8_next : GoodIn wsX8_gallery (wsV RX8 118 RX8 yX8_next wsX8_next) := goodIn_s _ [(28, 3), (17, 1), (31, 1), (6, 1), (8, 1), (32, 2), (7, 1), (34, 4), (17, 1), (38, 1), (5, 1), (39, 7), (171, 40)] rfl (by decide +kernel)
set_option maxRecDepth 20000 in
theorem gX8_gallery_X8_readLine : GoodIn wsX8_gallery (wsV RX8 166 RX8 yX8_readLine wsX8_readLine) := goodIn_s _ [(46, 3), (17, 1), (49, 1), (4, 1), (8, 1), (50, 3), (17, 1), (53, 1), (3, 1), (7, 1), (32, 1), (34, 1), (54, 57), (2, 1), (111, 1), (28, 4), (6, 1), (33, 1), (35, 4), (5, 1), (39, 7), (112, 20), (21, 3), (132, 36), (171, 40)] rfl (by decide +kernel)
set_option maxRecDepth 20000 in
theorem gX8_gallery_X8_wrong : GoodIn wsX8_gallery (wsV RX8 124 RX8 yX8_wrong wsX8_wrong) := goodIn_s _ [(107, 3), (17, 1), (110, 1), (3, 1), (2, 1), (111, 1), (171, 40)] rfl (by decide +kernel)
set_option maxRecDepth 20000 in
theorem gX8_gallery_X8_copy : GoodIn wsX8_gallery (va_wsS RX8 169 yX8_copy wsX8_copy) := goodIn_s _ [(168, 2), (17, 1), (170, 1)] rfl (by decide +kernel)
set_option maxRecDepth 20000 in
theorem gX8_begins_X8_isWord : GoodIn wsX8_begins (wsV RX8 114 RX8 yX8_isWord wsX8_isWord) := goodIn_s _ [(3, 58), (89, 40)] rfl (by decide +kernel)
set_option maxRecDepth 20000 in
theorem gX8_begins_X8_wrong : GoodIn wsX8_begins (wsV RX8 124 RX8 yX8_wrong wsX8_wrong) := goodIn_s _ [(61, 3), (6, 1), (64, 1), (8, 1), (65, 2), (89, 40)] rfl (by decide +kernel)
set_option maxRecDepth 20000 in
theorem gX8_begins_X8_pass : GoodIn wsX8_begins (wsV RX8 150 RX8 yX8_pass wsX8_pass) := goodIn_s _ [(67, 3), (6, 1), (70, 1), (8, 1), (71, 3), (6, 1), (74, 2), (1, 1), (10, 1), (76, 1), (9, 1), (11, 1), (77, 52)] rfl (by decide +kernel)
end P306_good
section P306_good_1
set_option maxRecDepth 20000 in
theorem gX8_readLine_X8_isWord : GoodIn wsX8_readLine (wsV RX8 114 RX8 yX8_isWord wsX8_isWord) := goodIn_s _ [(3, 58), (148, 40)] rfl (by decide +kernel)
set_option maxRecDepth 20000 in
theorem gX8_readLine_X8_galleryLine : GoodIn wsX8_readLine (wsV RX8 182 RX8 yX8_galleryLine wsX8_galleryLine) := goodIn_s _ [(61, 3), (6, 1), (64, 1), (1, 2), (8, 1), (65, 3), (6, 1), (68, 8), (10, 1), (76, 1), (9, 1), (11, 1), (77, 24), (3, 3), (7, 1), (12, 49), (101, 15), (148, 40)] rfl (by decide +kernel)
set_option maxRecDepth 20000 in
theorem gX8_readLine_X8_lawLine : GoodIn wsX8_readLine (wsV RX8 185 RX8 yX8_lawLine wsX8_lawLine) := goodIn_s _ [(116, 3), (6, 1), (119, 1), (1, 2), (8, 1), (65, 3), (6, 1), (68, 8), (10, 1), (76, 1), (9, 1), (11, 1), (77, 12), (120, 4), (89, 12), (3, 3), (7, 1), (12, 49), (101, 15), (148, 40)] rfl (by decide +kernel)
set_option maxRecDepth 20000 in
theorem gX8_readLine_X8_begins : GoodIn wsX8_readLine (wsV RX8 188 RX8 yX8_begins wsX8_begins) := goodIn_s _ [(124, 3), (6, 1), (127, 1), (2, 1), (1, 1), (3, 58), (65, 6), (112, 4), (71, 18), (148, 40)] rfl (by decide +kernel)
set_option maxRecDepth 20000 in
theorem gX8_readLine_X8_figureLine : GoodIn wsX8_readLine (wsV RX8 192 RX8 yX8_figureLine wsX8_figureLine) := goodIn_s _ [(128, 3), (6, 1), (131, 1), (8, 1), (1, 2), (132, 3), (6, 1), (135, 1), (9, 3), (3, 3), (7, 1), (12, 49), (65, 6), (136, 4), (71, 18), (93, 8), (120, 4), (105, 11), (101, 4), (148, 40)] rfl (by decide +kernel)
set_option maxRecDepth 20000 in
theorem gX8_readLine_X8_watcherLine : GoodIn wsX8_readLine (wsV RX8 195 RX8 yX8_watcherLine wsX8_watcherLine) := goodIn_s _ [(140, 3), (6, 1), (143, 1), (8, 1), (1, 1), (132, 3), (6, 1), (135, 1), (9, 1), (2, 1), (10, 2), (3, 3), (7, 1), (12, 49), (65, 6), (136, 4), (71, 18), (120, 4), (89, 27), (148, 40)] rfl (by decide +kernel)
set_option maxRecDepth 20000 in
theorem gX8_readLine_X8_seenLine : GoodIn wsX8_readLine (wsV RX8 198 RX8 yX8_seenLine wsX8_seenLine) := goodIn_s _ [(144, 3), (6, 1), (147, 1), (8, 1), (1, 2), (120, 3), (6, 1), (123, 1), (101, 8), (9, 1), (76, 1), (65, 6), (109, 7), (71, 5), (10, 2), (77, 12), (93, 8), (3, 3), (7, 1), (12, 49), (148, 40)] rfl (by decide +kernel)
set_option maxRecDepth 20000 in
theorem gX8_readLine_X8_wrong : GoodIn wsX8_readLine (wsV RX8 124 RX8 yX8_wrong wsX8_wrong) := goodIn_s _ [(65, 3), (6, 1), (68, 1), (8, 1), (69, 2), (148, 40)] rfl (by decide +kernel)
set_option maxRecDepth 20000 in
theorem gX8_galleryLine_X8_wrong : GoodIn wsX8_galleryLine (wsV RX8 124 RX8 yX8_wrong wsX8_wrong) := goodIn_s _ [(4, 5), (3, 1), (9, 2), (112, 40)] rfl (by decide +kernel)
set_option maxRecDepth 20000 in
theorem gX8_galleryLine_X8_next : GoodIn wsX8_galleryLine (wsV RX8 118 RX8 yX8_next wsX8_next) := goodIn_s _ [(11, 3), (7, 1), (14, 2), (2, 1), (16, 7), (7, 1), (23, 9), (112, 40)] rfl (by decide +kernel)
set_option maxRecDepth 20000 in
theorem gX8_galleryLine_X8_after : GoodIn wsX8_galleryLine (wsV RX8 203 RX8 yX8_after wsX8_after) := goodIn_s _ [(32, 3), (7, 1), (35, 4), (7, 1), (39, 1), (3, 1), (2, 1), (40, 8), (18, 1), (16, 1), (19, 1), (48, 49), (11, 5), (17, 1), (20, 12), (4, 3), (8, 3), (97, 55)] rfl (by decide +kernel)
set_option maxRecDepth 20000 in
theorem gX8_lawLine_X8_wrong : GoodIn wsX8_lawLine (wsV RX8 124 RX8 yX8_wrong wsX8_wrong) := goodIn_s _ [(4, 5), (3, 1), (9, 2), (116, 40)] rfl (by decide +kernel)
set_option maxRecDepth 20000 in
theorem gX8_lawLine_X8_next : GoodIn wsX8_lawLine (wsV RX8 118 RX8 yX8_next wsX8_next) := goodIn_s _ [(11, 3), (7, 1), (14, 2), (2, 1), (16, 7), (7, 1), (23, 9), (116, 40)] rfl (by decide +kernel)
set_option maxRecDepth 20000 in
theorem gX8_lawLine_X8_last : GoodIn wsX8_lawLine (wsV RX8 215 RX8 yX8_last wsX8_last) := goodIn_s _ [(32, 3), (7, 1), (35, 1), (1, 1), (116, 40)] rfl (by decide +kernel)
set_option maxRecDepth 20000 in
theorem gX8_lawLine_X8_after : GoodIn wsX8_lawLine (wsV RX8 203 RX8 yX8_after wsX8_after) := goodIn_s _ [(36, 3), (7, 1), (39, 4), (7, 1), (43, 1), (3, 1), (2, 1), (44, 8), (18, 1), (16, 1), (19, 1), (52, 49), (11, 5), (17, 1), (20, 12), (4, 3), (8, 3), (101, 55)] rfl (by decide +kernel)
set_option maxRecDepth 20000 in
theorem gX8_figureLine_X8_newName : GoodIn wsX8_figureLine (wsV RX8 222 RX8 yX8_newName wsX8_newName) := goodIn_s _ [(4, 5), (1, 1), (9, 1), (3, 1), (10, 1), (2, 1), (11, 4), (7, 1), (15, 78), (120, 40)] rfl (by decide +kernel)
set_option maxRecDepth 20000 in
theorem gX8_figureLine_X8_must : GoodIn wsX8_figureLine (wsV RX8 153 RX8 yX8_must wsX8_must) := goodIn_s _ [(93, 3), (7, 1), (96, 1), (1, 1), (3, 1), (97, 3), (7, 1), (100, 1), (12, 4), (9, 3), (16, 49), (75, 18), (65, 6), (120, 40)] rfl (by decide +kernel)
set_option maxRecDepth 20000 in
theorem gX8_figureLine_X8_last : GoodIn wsX8_figureLine (wsV RX8 215 RX8 yX8_last wsX8_last) := goodIn_s _ [(101, 3), (7, 1), (104, 1), (2, 1), (120, 40)] rfl (by decide +kernel)
set_option maxRecDepth 20000 in
theorem gX8_figureLine_X8_numberHere : GoodIn wsX8_figureLine (wsV RX8 146 RX8 yX8_numberHere wsX8_numberHere) := goodIn_s _ [(105, 3), (7, 1), (108, 1), (1, 1), (9, 1), (3, 1), (80, 1), (65, 3), (7, 1), (68, 3), (109, 3), (120, 40)] rfl (by decide +kernel)
set_option maxRecDepth 20000 in
theorem gX8_figureLine_X8_wrong : GoodIn wsX8_figureLine (wsV RX8 124 RX8 yX8_wrong wsX8_wrong) := goodIn_s _ [(65, 3), (7, 1), (68, 1), (1, 1), (69, 2), (120, 40)] rfl (by decide +kernel)
set_option maxRecDepth 20000 in
theorem gX8_figureLine_X8_pass : GoodIn wsX8_figureLine (wsV RX8 150 RX8 yX8_pass wsX8_pass) := goodIn_s _ [(112, 3), (7, 1), (115, 1), (1, 1), (75, 3), (7, 1), (78, 2), (3, 1), (10, 1), (80, 1), (9, 1), (11, 1), (81, 12), (120, 40)] rfl (by decide +kernel)
set_option maxRecDepth 20000 in
theorem gX8_figureLine_X8_isWord : GoodIn wsX8_figureLine (wsV RX8 114 RX8 yX8_isWord wsX8_isWord) := goodIn_s _ [(12, 3), (7, 1), (15, 1), (1, 1), (9, 3), (16, 49), (120, 40)] rfl (by decide +kernel)
set_option maxRecDepth 20000 in
theorem gX8_figureLine_X8_number : GoodIn wsX8_figureLine (wsV RX8 157 RX8 yX8_number wsX8_number) := goodIn_s _ [(116, 3), (7, 1), (119, 1), (105, 3), (7, 1), (108, 1), (1, 1), (9, 1), (3, 1), (80, 1), (65, 6), (109, 7), (75, 5), (10, 2), (81, 12), (120, 40)] rfl (by decide +kernel)
set_option maxRecDepth 20000 in
theorem gX8_watcherLine_X8_newName : GoodIn wsX8_watcherLine (wsV RX8 222 RX8 yX8_newName wsX8_newName) := goodIn_s _ [(3, 5), (1, 1), (8, 3), (2, 1), (11, 4), (6, 1), (15, 78), (124, 40)] rfl (by decide +kernel)
set_option maxRecDepth 20000 in
theorem gX8_watcherLine_X8_last : GoodIn wsX8_watcherLine (wsV RX8 215 RX8 yX8_last wsX8_last) := goodIn_s _ [(93, 3), (6, 1), (96, 1), (2, 1), (124, 40)] rfl (by decide +kernel)
set_option maxRecDepth 20000 in
theorem gX8_watcherLine_X8_after : GoodIn wsX8_watcherLine (wsV RX8 203 RX8 yX8_after wsX8_after) := goodIn_s _ [(97, 3), (6, 1), (100, 4), (6, 1), (104, 1), (1, 1), (9, 1), (105, 4), (12, 4), (8, 1), (10, 2), (16, 49), (75, 18), (65, 6), (109, 55)] rfl (by decide +kernel)
set_option maxRecDepth 20000 in
theorem gX8_seenLine_X8_last : GoodIn wsX8_seenLine (wsV RX8 215 RX8 yX8_last wsX8_last) := goodIn_s _ [(4, 5), (2, 1), (112, 40)] rfl (by decide +kernel)
set_option maxRecDepth 20000 in
theorem gX8_seenLine_X8_number : GoodIn wsX8_seenLine (wsV RX8 157 RX8 yX8_number wsX8_number) := goodIn_s _ [(9, 3), (7, 1), (12, 4), (7, 1), (16, 1), (1, 1), (17, 1), (3, 1), (18, 33), (112, 40)] rfl (by decide +kernel)
set_option maxRecDepth 20000 in
theorem gX8_seenLine_X8_must : GoodIn wsX8_seenLine (wsV RX8 153 RX8 yX8_must wsX8_must) := goodIn_s _ [(51, 3), (7, 1), (54, 1), (1, 1), (3, 1), (55, 3), (7, 1), (58, 5), (17, 1), (37, 2), (63, 49), (32, 5), (18, 1), (39, 12), (19, 6), (112, 40)] rfl (by decide +kernel)
set_option maxRecDepth 20000 in
theorem gX8_seenLine_X8_numberHere : GoodIn wsX8_seenLine (wsV RX8 146 RX8 yX8_numberHere wsX8_numberHere) := goodIn_s _ [(13, 3), (7, 1), (16, 1), (1, 1), (17, 1), (3, 1), (18, 4), (7, 1), (22, 6), (112, 40)] rfl (by decide +kernel)
set_option maxRecDepth 20000 in
theorem gX8_seenLine_X8_wrong : GoodIn wsX8_seenLine (wsV RX8 124 RX8 yX8_wrong wsX8_wrong) := goodIn_s _ [(19, 3), (7, 1), (22, 1), (1, 1), (23, 2), (112, 40)] rfl (by decide +kernel)
set_option maxRecDepth 20000 in
theorem gX8_seenLine_X8_pass : GoodIn wsX8_seenLine (wsV RX8 150 RX8 yX8_pass wsX8_pass) := goodIn_s _ [(28, 3), (7, 1), (31, 1), (1, 1), (32, 3), (7, 1), (35, 2), (3, 1), (37, 1), (18, 1), (17, 1), (38, 13), (112, 40)] rfl (by decide +kernel)
end P306_good_1
section P311_00_f
set_option maxHeartbeats 4000000 in
set_option maxRecDepth 100000 in
theorem f_X7_within (l : Launch) (dC : Nat → ClassId) (dI : Nat → Nat → Nat) (sz : Nat) (a1 : Int32) (a2 : Int32) (a3 : Int32)  : zm l yX7_within wsX7_within ({ frames := 0, cells := 0, slots := 0, locals := 0 }) [.int a1, .int a2, .int a3] dC dI sz [] [] (fun A _ => True) (fun A => va_Qi (fun (r : Int32) (_ : Unit) => ((r = 1 ∧ a2.toInt ≤ a1.toInt ∧ a1.toInt ≤ a3.toInt) ∨ (r = 0 ∧ (a1.toInt < a2.toInt ∨ a3.toInt < a1.toInt))) ∧ r.toInt = Ff_X7_within a1.toInt a2.toInt a3.toInt) (fun (_ : Unit) (t : State) => ax_B dC dI A [] [] t) A) := by
  refine zh (cc := cX7_within) (maxL := 3) (ret := (some .boolean)) zn_RX7 rfl (Nat.le_of_ble_eq_true rfl) (fun p e s m below meth c A ls hx hb hml hr hts (hown : s.vm.findClass RX7 = some m.cls) hlocks hA hS hP hK hD hE (hl : lv_has ls 3 [(0, .int a1), (1, .int a2), (2, .int a3)]) => ?_)
  generalize hFX : Ff_X7_within a1.toInt a2.toInt a3.toInt = FX at ⊢
  have hF0 := hFX.symm.trans (Ff_X7_within.eq_1 a1.toInt a2.toInt a3.toInt)
  refine lv_iload_n hx hb dX7_within_0 rfl (lv_at hl 0 rfl) ?_
  refine lv_iload_n hx hb dX7_within_1 rfl (lv_at hl 1 rfl) ?_
  refine lv_icmp_lt (tgt := 14) hx hb dX7_within_2 (by decide) (fun c2 => ?_) (fun c2 => ?_)
  · have gc2 := ai_lt c2
    have u2t_a1 : a1.toInt ≤ (2147483646 : Int) := ai_lthi gc2 (ai_max a2)
    have l2t_a2 : (-2147483647 : Int) ≤ a2.toInt := ai_ltlo gc2 (ai_min a1)
    have hF0 := hF0.trans (if_pos (show a1.toInt < a2.toInt from gc2))
    refine lv_iconst (v := 0) hx hb dX7_within_14 zk_iconst_0 ?_
    have hFe : FX = 0 := hF0
    exact W.zret (v := 0) hx hb hr rfl (fun t ht hW => ⟨⟨0, (), rfl, ⟨(Or.inr ⟨rfl, Or.inl gc2⟩), hFe.symm⟩, by rw [ht]; exact hP, va_K.moved hW.alike hK, hD⟩, hS.F ht⟩) hS.2.2 dX7_within_15
  · have gc2 := ai_nlt c2
    have hF0 := hF0.trans (if_neg (show ¬ (a1.toInt < a2.toInt) from Int.not_lt.mpr gc2))
    refine lv_iload_n hx hb dX7_within_5 rfl (lv_at hl 0 rfl) ?_
    refine lv_iload_n hx hb dX7_within_6 rfl (lv_at hl 2 rfl) ?_
    refine lv_icmp_gt (tgt := 14) hx hb dX7_within_7 (by decide) (fun c7 => ?_) (fun c7 => ?_)
    · have gc7 := ai_lt c7
      have u7t_a3 : a3.toInt ≤ (2147483646 : Int) := ai_lthi gc7 (ai_max a1)
      have l7t_a1 : (-2147483647 : Int) ≤ a1.toInt := ai_ltlo gc7 (ai_min a3)
      have hF0 := hF0.trans (if_pos (show a3.toInt < a1.toInt from gc7))
      refine lv_iconst (v := 0) hx hb dX7_within_14 zk_iconst_0 ?_
      have hFe : FX = 0 := hF0
      exact W.zret (v := 0) hx hb hr rfl (fun t ht hW => ⟨⟨0, (), rfl, ⟨(Or.inr ⟨rfl, Or.inr gc7⟩), hFe.symm⟩, by rw [ht]; exact hP, va_K.moved hW.alike hK, hD⟩, hS.F ht⟩) hS.2.2 dX7_within_15
    · have gc7 := ai_nlt c7
      have hF0 := hF0.trans (if_neg (show ¬ (a3.toInt < a1.toInt) from Int.not_lt.mpr gc7))
      refine lv_iconst (v := 1) hx hb dX7_within_10 zk_iconst_1 ?_
      refine lv_goto (tgt := 15) hx hb dX7_within_11 (by decide) ?_
      have hFe : FX = 1 := hF0
      exact W.zret (v := 1) hx hb hr rfl (fun t ht hW => ⟨⟨1, (), rfl, ⟨(Or.inl ⟨rfl, gc2, gc7⟩), hFe.symm⟩, by rw [ht]; exact hP, va_K.moved hW.alike hK, hD⟩, hS.F ht⟩) hS.2.2 dX7_within_15

set_option maxHeartbeats 4000000 in
set_option maxRecDepth 100000 in
theorem f_X7_hasBit (l : Launch) (dC : Nat → ClassId) (dI : Nat → Nat → Nat) (sz : Nat) (a1 : Int32) (a2 : Int32)  : zm l yX7_hasBit wsX7_hasBit ({ frames := 0, cells := 0, slots := 0, locals := 0 }) [.int a1, .int a2] dC dI sz [] [] (fun A _ => True) (fun A => va_Qi (fun (r : Int32) (_ : Unit) => ((r = 1) ∨ (r = 0)) ∧ r.toInt = Ff_X7_hasBit a1.toInt a2.toInt) (fun (_ : Unit) (t : State) => ax_B dC dI A [] [] t) A) := by
  refine zh (cc := cX7_hasBit) (maxL := 2) (ret := (some .boolean)) zn_RX7 rfl (Nat.le_of_ble_eq_true rfl) (fun p e s m below meth c A ls hx hb hml hr hts (hown : s.vm.findClass RX7 = some m.cls) hlocks hA hS hP hK hD hE (hl : lv_has ls 2 [(0, .int a1), (1, .int a2)]) => ?_)
  generalize hFX : Ff_X7_hasBit a1.toInt a2.toInt = FX at ⊢
  have hF0 := hFX.symm.trans (Ff_X7_hasBit.eq_1 a1.toInt a2.toInt)
  refine lv_iload_n hx hb dX7_hasBit_0 rfl (lv_at hl 0 rfl) ?_
  refine lv_iload_n hx hb dX7_hasBit_1 rfl (lv_at hl 1 rfl) ?_
  refine lv_ishr hx hb dX7_hasBit_2 ?_
  refine lv_topi (fun x2 ex2 => ?_)
  have fqx2 := fl_shr_eq ex2
  have hF0 := hF0.trans (fl_lt_eq (show x2.toInt = fl_shr a1.toInt a2.toInt from fqx2))
  refine lv_iconst (v := 1) hx hb dX7_hasBit_3 zk_iconst_1 ?_
  refine lv_iand hx hb dX7_hasBit_4 ?_
  refine lv_topi (fun x4 ex4 => ?_)
  have fqx4 := fl_and_eq ex4
  have hF0 := hF0.trans (fl_lt_eq (show x4.toInt = fl_and x2.toInt 1 from fqx4))
  refine lv_iconst (v := 1) hx hb dX7_hasBit_5 zk_iconst_1 ?_
  refine lv_icmp_ne (tgt := 13) hx hb dX7_hasBit_6 (by decide) (fun c6 => ?_) (fun c6 => ?_)
  · have gc6 := ai_ne c6
    have hF0 := hF0.trans (if_neg (show ¬ (x4.toInt = 1) from  gc6))
    refine lv_iconst (v := 0) hx hb dX7_hasBit_13 zk_iconst_0 ?_
    have hFe : FX = 0 := hF0
    exact W.zret (v := 0) hx hb hr rfl (fun t ht hW => ⟨⟨0, (), rfl, ⟨(Or.inr (rfl)), hFe.symm⟩, by rw [ht]; exact hP, va_K.moved hW.alike hK, hD⟩, hS.F ht⟩) hS.2.2 dX7_hasBit_14
  · have gc6 := ai_eq c6
    have u6f_x4 : x4.toInt ≤ (1 : Int) := Int.le_trans (Int.le_of_eq gc6) zq0
    have l6f_x4 : (1 : Int) ≤ x4.toInt := Int.le_trans zq1 (Int.le_of_eq gc6.symm)
    have hF0 := hF0.trans (if_pos (show x4.toInt = 1 from gc6))
    refine lv_iconst (v := 1) hx hb dX7_hasBit_9 zk_iconst_1 ?_
    refine lv_goto (tgt := 14) hx hb dX7_hasBit_10 (by decide) ?_
    have hFe : FX = 1 := hF0
    exact W.zret (v := 1) hx hb hr rfl (fun t ht hW => ⟨⟨1, (), rfl, ⟨(Or.inl (rfl)), hFe.symm⟩, by rw [ht]; exact hP, va_K.moved hW.alike hK, hD⟩, hS.F ht⟩) hS.2.2 dX7_hasBit_14

set_option maxHeartbeats 4000000 in
set_option maxRecDepth 100000 in
theorem f_J6_bitCount_0f7a4 (l : Launch) (dC : Nat → ClassId) (dI : Nat → Nat → Nat) (sz : Nat) (a1 : Int32)  : zm l yJ6_bitCount_0f7a4 wsJ6_bitCount_0f7a4 ({ frames := 0, cells := 0, slots := 0, locals := 0 }) [.int a1] dC dI sz [] [] (fun A _ => True) (fun A => va_Qi (fun (r : Int32) (_ : Unit) => (True) ∧ r.toInt = Ff_J6_bitCount_0f7a4 a1.toInt) (fun (_ : Unit) (t : State) => ax_B dC dI A [] [] t) A) := by
  refine zh (cc := cJ6_bitCount_0f7a4) (maxL := 1) (ret := (some .int)) zn_RJ6 rfl (Nat.le_of_ble_eq_true rfl) (fun p e s m below meth c A ls hx hb hml hr hts (hown : s.vm.findClass RJ6 = some m.cls) hlocks hA hS hP hK hD hE (hl : lv_has ls 1 [(0, .int a1)]) => ?_)
  generalize hFX : Ff_J6_bitCount_0f7a4 a1.toInt = FX at ⊢
  have hF0 := hFX.symm.trans (Ff_J6_bitCount_0f7a4.eq_1 a1.toInt)
  refine lv_iload_n hx hb dJ6_bitCount_0f7a4_0 rfl (lv_at hl 0 rfl) ?_
  refine lv_iload_n hx hb dJ6_bitCount_0f7a4_1 rfl (lv_at hl 0 rfl) ?_
  refine lv_iconst (v := 1) hx hb dJ6_bitCount_0f7a4_2 zk_iconst_1 ?_
  refine lv_iushr hx hb dJ6_bitCount_0f7a4_3 rfl ?_
  refine lv_topi (fun x3 ex3 => ?_)
  have fqx3 := fl_ushr_eq ex3
  have hF0 := hF0.trans (fl_lt_eq (show x3.toInt = fl_ushr a1.toInt 1 from fqx3))
  refine lv_ldcw (v := 1431655765) hx hb hown (hts (.constant RJ6 265 (1431655765)) (List.mem_cons_of_mem _ (List.mem_of_getElem? (i := 0) rfl))) dJ6_bitCount_0f7a4_4 ?_
  refine lv_iand hx hb dJ6_bitCount_0f7a4_7 ?_
  refine lv_topi (fun x7 ex7 => ?_)
  have fqx7 := fl_and_eq ex7
  have hF0 := hF0.trans (fl_lt_eq (show x7.toInt = fl_and x3.toInt 1431655765 from fqx7))
  refine lv_isub hx hb dJ6_bitCount_0f7a4_8 ?_
  refine lv_topi (fun x8 ex8 => ?_)
  have fqx8 := fl_isub_eq ex8
  have hF0 := hF0.trans (fl_lt_eq (show x8.toInt = fl_isub a1.toInt x7.toInt from fqx8))
  refine lv_istore_n (lv' := [(0, .int x8)]) hx hb dJ6_bitCount_0f7a4_9 rfl hl (by decide) rfl (fun ls hl => ?_)
  refine lv_iload_n hx hb dJ6_bitCount_0f7a4_10 rfl (lv_at hl 0 rfl) ?_
  refine lv_ldcw (v := 858993459) hx hb hown (hts (.constant RJ6 266 (858993459)) (List.mem_cons_of_mem _ (List.mem_of_getElem? (i := 1) rfl))) dJ6_bitCount_0f7a4_11 ?_
  refine lv_iand hx hb dJ6_bitCount_0f7a4_14 ?_
  refine lv_topi (fun x14 ex14 => ?_)
  have fqx14 := fl_and_eq ex14
  have hF0 := hF0.trans (fl_lt_eq (show x14.toInt = fl_and x8.toInt 858993459 from fqx14))
  refine lv_iload_n hx hb dJ6_bitCount_0f7a4_15 rfl (lv_at hl 0 rfl) ?_
  refine lv_iconst (v := 2) hx hb dJ6_bitCount_0f7a4_16 zk_iconst_2 ?_
  refine lv_iushr hx hb dJ6_bitCount_0f7a4_17 rfl ?_
  refine lv_topi (fun x17 ex17 => ?_)
  have fqx17 := fl_ushr_eq ex17
  have hF0 := hF0.trans (fl_lt_eq (show x17.toInt = fl_ushr x8.toInt 2 from fqx17))
  refine lv_ldcw (v := 858993459) hx hb hown (hts (.constant RJ6 266 (858993459)) (List.mem_cons_of_mem _ (List.mem_of_getElem? (i := 1) rfl))) dJ6_bitCount_0f7a4_18 ?_
  refine lv_iand hx hb dJ6_bitCount_0f7a4_21 ?_
  refine lv_topi (fun x21 ex21 => ?_)
  have fqx21 := fl_and_eq ex21
  have hF0 := hF0.trans (fl_lt_eq (show x21.toInt = fl_and x17.toInt 858993459 from fqx21))
  refine lv_iadd hx hb dJ6_bitCount_0f7a4_22 ?_
  refine lv_topi (fun x22 ex22 => ?_)
  have fqx22 := fl_iadd_eq ex22
  have hF0 := hF0.trans (fl_lt_eq (show x22.toInt = fl_iadd x14.toInt x21.toInt from fqx22))
  refine lv_istore_n (lv' := [(0, .int x22)]) hx hb dJ6_bitCount_0f7a4_23 rfl hl (by decide) rfl (fun ls hl => ?_)
  refine lv_iload_n hx hb dJ6_bitCount_0f7a4_24 rfl (lv_at hl 0 rfl) ?_
  refine lv_iload_n hx hb dJ6_bitCount_0f7a4_25 rfl (lv_at hl 0 rfl) ?_
  refine lv_iconst (v := 4) hx hb dJ6_bitCount_0f7a4_26 zk_iconst_4 ?_
  refine lv_iushr hx hb dJ6_bitCount_0f7a4_27 rfl ?_
  refine lv_topi (fun x27 ex27 => ?_)
  have fqx27 := fl_ushr_eq ex27
  have hF0 := hF0.trans (fl_lt_eq (show x27.toInt = fl_ushr x22.toInt 4 from fqx27))
  refine lv_iadd hx hb dJ6_bitCount_0f7a4_28 ?_
  refine lv_topi (fun x28 ex28 => ?_)
  have fqx28 := fl_iadd_eq ex28
  have hF0 := hF0.trans (fl_lt_eq (show x28.toInt = fl_iadd x22.toInt x27.toInt from fqx28))
  refine lv_ldcw (v := 252645135) hx hb hown (hts (.constant RJ6 267 (252645135)) (List.mem_cons_of_mem _ (List.mem_of_getElem? (i := 2) rfl))) dJ6_bitCount_0f7a4_29 ?_
  refine lv_iand hx hb dJ6_bitCount_0f7a4_32 ?_
  refine lv_topi (fun x32 ex32 => ?_)
  have fqx32 := fl_and_eq ex32
  have hF0 := hF0.trans (fl_lt_eq (show x32.toInt = fl_and x28.toInt 252645135 from fqx32))
  refine lv_istore_n (lv' := [(0, .int x32)]) hx hb dJ6_bitCount_0f7a4_33 rfl hl (by decide) rfl (fun ls hl => ?_)
  refine lv_iload_n hx hb dJ6_bitCount_0f7a4_34 rfl (lv_at hl 0 rfl) ?_
  refine lv_iload_n hx hb dJ6_bitCount_0f7a4_35 rfl (lv_at hl 0 rfl) ?_
  refine lv_bipush (v := 8) hx hb dJ6_bitCount_0f7a4_36 zk_bipush_8 ?_
  refine lv_iushr hx hb dJ6_bitCount_0f7a4_38 rfl ?_
  refine lv_topi (fun x38 ex38 => ?_)
  have fqx38 := fl_ushr_eq ex38
  have hF0 := hF0.trans (fl_lt_eq (show x38.toInt = fl_ushr x32.toInt 8 from fqx38))
  refine lv_iadd hx hb dJ6_bitCount_0f7a4_39 ?_
  refine lv_topi (fun x39 ex39 => ?_)
  have fqx39 := fl_iadd_eq ex39
  have hF0 := hF0.trans (fl_lt_eq (show x39.toInt = fl_iadd x32.toInt x38.toInt from fqx39))
  refine lv_istore_n (lv' := [(0, .int x39)]) hx hb dJ6_bitCount_0f7a4_40 rfl hl (by decide) rfl (fun ls hl => ?_)
  refine lv_iload_n hx hb dJ6_bitCount_0f7a4_41 rfl (lv_at hl 0 rfl) ?_
  refine lv_iload_n hx hb dJ6_bitCount_0f7a4_42 rfl (lv_at hl 0 rfl) ?_
  refine lv_bipush (v := 16) hx hb dJ6_bitCount_0f7a4_43 zk_bipush_16 ?_
  refine lv_iushr hx hb dJ6_bitCount_0f7a4_45 rfl ?_
  refine lv_topi (fun x45 ex45 => ?_)
  have fqx45 := fl_ushr_eq ex45
  have hF0 := hF0.trans (fl_lt_eq (show x45.toInt = fl_ushr x39.toInt 16 from fqx45))
  refine lv_iadd hx hb dJ6_bitCount_0f7a4_46 ?_
  refine lv_topi (fun x46 ex46 => ?_)
  have fqx46 := fl_iadd_eq ex46
  have hF0 := hF0.trans (fl_lt_eq (show x46.toInt = fl_iadd x39.toInt x45.toInt from fqx46))
  refine lv_istore_n (lv' := [(0, .int x46)]) hx hb dJ6_bitCount_0f7a4_47 rfl hl (by decide) rfl (fun ls hl => ?_)
  refine lv_iload_n hx hb dJ6_bitCount_0f7a4_48 rfl (lv_at hl 0 rfl) ?_
  refine lv_bipush (v := 63) hx hb dJ6_bitCount_0f7a4_49 zk_bipush_63 ?_
  refine lv_iand hx hb dJ6_bitCount_0f7a4_51 ?_
  refine lv_topi (fun x51 ex51 => ?_)
  have fqx51 := fl_and_eq ex51
  have hF0 := hF0.trans (fl_lt_eq (show x51.toInt = fl_and x46.toInt 63 from fqx51))
  have hFe : FX = x51.toInt := hF0
  exact W.iret (v := x51) hx hb hr (fun t ht hW => ⟨⟨x51, (), rfl, ⟨trivial, hFe.symm⟩, by rw [ht]; exact hP, va_K.moved hW.alike hK, hD⟩, hS.F ht⟩) hS.2.2 dJ6_bitCount_0f7a4_52

set_option maxHeartbeats 4000000 in
set_option maxRecDepth 100000 in
theorem f_X6_add (l : Launch) (dC : Nat → ClassId) (dI : Nat → Nat → Nat) (sz : Nat) (a0 : Nat) (a1 : Int32) (a2 : Int32) (a0_0 : Int32) (a0g_1 : Value) (a0_2 : Nat) (a0_3 : Nat) (ka0_2 : ClassId) (fa0_2 : Nat → Int32) (ka0_3 : ClassId) (fa0_3 : Nat → Int32) (ba1_l : (0 : Int) ≤ a1.toInt) (ba1_u : a1.toInt ≤ (8 : Int)) (ba2_l : (0 : Int) ≤ a2.toInt) (ba2_u : a2.toInt ≤ (8 : Int)) (ba0_0_l : (0 : Int) ≤ a0_0.toInt) (ba0_0_u : a0_0.toInt ≤ (3 : Int)) (bfa0_2 : (∀ k, (0 : Int) ≤ (fa0_2 k).toInt ∧ (fa0_2 k).toInt ≤ 80)) (bfa0_3 : (∀ k, (0 : Int) ≤ (fa0_3 k).toInt ∧ (fa0_3 k).toInt ≤ 80)) : zm l yX6_add wsX6_add ({ frames := 0, cells := 0, slots := 0, locals := 0 }) [.ref a0, .int a1, .int a2] dC dI sz [(a0, .inr (6, [.int a0_0, a0g_1, .ref a0_2, .ref a0_3])), (a0_2, .inl (ka0_2, 3, .inl (fa0_2))), (a0_3, .inl (ka0_3, 3, .inl (fa0_3)))] [(ka0_2, .int), (ka0_3, .int)] (fun A _ => True) (fun A => va_Qv (fun (_ : Unit) => True) (fun (_ : Unit) (t : State) => ∃ na0_0 : Int32, ∃ nfa0_2 : Nat → Int32, ∃ nfa0_3 : Nat → Int32, ((0 : Int) ≤ na0_0.toInt ∧ na0_0.toInt ≤ 3) ∧ (∀ k, (0 : Int) ≤ (nfa0_2 k).toInt ∧ (nfa0_2 k).toInt ≤ 80) ∧ (∀ k, (0 : Int) ≤ (nfa0_3 k).toInt ∧ (nfa0_3 k).toInt ≤ 80) ∧ (Ff_X6_add a1.toInt a2.toInt a0_0.toInt (fl_A fa0_2) (fl_A fa0_3) = (na0_0.toInt, (fl_A nfa0_2), (fl_A nfa0_3))) ∧ ax_B dC dI A [(a0, .inr (6, [.int na0_0, a0g_1, .ref a0_2, .ref a0_3])), (a0_2, .inl (ka0_2, 3, .inl (nfa0_2))), (a0_3, .inl (ka0_3, 3, .inl (nfa0_3)))] [(ka0_2, .int), (ka0_3, .int)] t) A) := by
  refine zh (cc := cX6_add) (maxL := 3) (ret := none) zn_RX6 rfl (Nat.le_of_ble_eq_true rfl) (fun p e s m below meth c A ls hx hb hml hr hts (hown : s.vm.findClass RX6 = some m.cls) hlocks hA hS hP hK hD hE (hl : lv_has ls 3 [(0, .ref a0), (1, .int a1), (2, .int a2)]) => ?_)
  generalize hFX : Ff_X6_add a1.toInt a2.toInt a0_0.toInt (fl_A fa0_2) (fl_A fa0_3) = FX at ⊢
  have hF0 := hFX.symm.trans (Ff_X6_add.eq_1 a1.toInt a2.toInt a0_0.toInt (fl_A fa0_2) (fl_A fa0_3))
  refine lv_aload_n hx hb dX6_add_0 rfl (lv_at hl 0 rfl) ?_
  refine va_get (D := (dC, dI)) (ci := 6) (v := .int a0_0) (C := RX6) (T := TX6) (N := 4) hx hb hts zi_X6_add_6 hown hK hP 0 rfl rfl 0 (by decide) (hts (.fieldLink RX6 18 "WaxTurns$Watchers" "count" "I") (List.mem_cons_of_mem _ (List.mem_append_left _ (List.mem_of_getElem? (i := 0) rfl)))) (fun _ h9 => h9) rfl dX6_add_1 ?_
  refine lv_iconst (v := 3) hx hb dX6_add_4 zk_iconst_3 ?_
  refine lv_icmp_ge (tgt := 38) hx hb dX6_add_5 (by decide) (fun c5 => ?_) (fun c5 => ?_)
  · have gc5 := ai_le c5
    have l5t_a0_0 : (3 : Int) ≤ a0_0.toInt := Int.le_trans zq8 gc5
    have hF0 := hF0.trans (if_pos (show 3 ≤ a0_0.toInt from gc5))
    have hFe : FX = (a0_0.toInt, (fl_A fa0_2), (fl_A fa0_3)) := hF0
    exact W.vret hx hb hr (fun t ht hW => ⟨⟨(), rfl, trivial, a0_0, fa0_2, fa0_3, ⟨Int.le_trans (by decide) l5t_a0_0, ba0_0_u⟩, bfa0_2, bfa0_3, hFe, by rw [ht]; exact hP, va_K.moved hW.alike hK, hD⟩, hS.F ht⟩) hS.2.2 dX6_add_38
  · have gc5 := ai_nle c5
    have u5f_a0_0 : a0_0.toInt ≤ (2 : Int) := ai_lthi gc5 zq9
    have hF0 := hF0.trans (if_neg (show ¬ (3 ≤ a0_0.toInt) from Int.not_le.mpr gc5))
    refine lv_aload_n hx hb dX6_add_8 rfl (lv_at hl 0 rfl) ?_
    refine va_get (D := (dC, dI)) (ci := 6) (v := .ref a0_2) (C := RX6) (T := TX6) (N := 4) hx hb hts zi_X6_add_6 hown hK hP 0 rfl rfl 2 (by decide) (hts (.fieldLink RX6 9 "WaxTurns$Watchers" "from" "[I") (List.mem_cons_of_mem _ (List.mem_append_left _ (List.mem_of_getElem? (i := 1) rfl)))) (fun _ h9 => h9) rfl dX6_add_9 ?_
    refine lv_aload_n hx hb dX6_add_12 rfl (lv_at hl 0 rfl) ?_
    refine va_get (D := (dC, dI)) (ci := 6) (v := .int a0_0) (C := RX6) (T := TX6) (N := 4) hx hb hts zi_X6_add_6 hown hK hP 0 rfl rfl 0 (by decide) (hts (.fieldLink RX6 18 "WaxTurns$Watchers" "count" "I") (List.mem_cons_of_mem _ (List.mem_append_left _ (List.mem_of_getElem? (i := 0) rfl)))) (fun _ h9 => h9) rfl dX6_add_13 ?_
    refine lv_iload_n hx hb dX6_add_16 rfl (lv_at hl 1 rfl) ?_
    refine va_iast hx hb hK hP hD hS 1 0 rfl rfl (ai_in ba0_0_l u5f_a0_0 (by decide) (by decide)) dX6_add_17 (fun H locs hP hD hS => ?_)
    obtain ⟨f17, ef17⟩ : ∃ g9 : Nat → Int32, g9 = upd fa0_2 (a0_0 : Int32).toNatClampNeg a1 := ⟨_, rfl⟩
    refine zs_1 (y := (a0_2, .inl (ka0_2, 3, .inl (f17)))) hP hD (by rw [ef17]) (fun hP hD => ?_)
    have bf17 : (∀ k, (0 : Int) ≤ (f17 k).toInt ∧ (f17 k).toInt ≤ 80) := by rw [ef17]; exact ai_upd bfa0_2 _ ⟨ba1_l, (Int.le_trans ba1_u zq10)⟩
    have fqf17 := fl_up_eq ef17
    have hF0 := hF0.trans (fl_lt_eq (show (fl_A f17) = fl_up (fl_A fa0_2) (a0_0.toInt.toNat) a1.toInt from fqf17))
    refine lv_aload_n hx hb dX6_add_18 rfl (lv_at hl 0 rfl) ?_
    refine va_get (D := (dC, dI)) (ci := 6) (v := .ref a0_3) (C := RX6) (T := TX6) (N := 4) hx hb hts zi_X6_add_6 hown hK hP 0 rfl rfl 3 (by decide) (hts (.fieldLink RX6 15 "WaxTurns$Watchers" "to" "[I") (List.mem_cons_of_mem _ (List.mem_append_left _ (List.mem_of_getElem? (i := 2) rfl)))) (fun _ h9 => h9) rfl dX6_add_19 ?_
    refine lv_aload_n hx hb dX6_add_22 rfl (lv_at hl 0 rfl) ?_
    refine va_get (D := (dC, dI)) (ci := 6) (v := .int a0_0) (C := RX6) (T := TX6) (N := 4) hx hb hts zi_X6_add_6 hown hK hP 0 rfl rfl 0 (by decide) (hts (.fieldLink RX6 18 "WaxTurns$Watchers" "count" "I") (List.mem_cons_of_mem _ (List.mem_append_left _ (List.mem_of_getElem? (i := 0) rfl)))) (fun _ h9 => h9) rfl dX6_add_23 ?_
    refine lv_iload_n hx hb dX6_add_26 rfl (lv_at hl 2 rfl) ?_
    refine va_iast hx hb hK hP hD hS 2 1 rfl rfl (ai_in ba0_0_l u5f_a0_0 (by decide) (by decide)) dX6_add_27 (fun H locs hP hD hS => ?_)
    obtain ⟨f27, ef27⟩ : ∃ g9 : Nat → Int32, g9 = upd fa0_3 (a0_0 : Int32).toNatClampNeg a2 := ⟨_, rfl⟩
    refine zs_2 (y := (a0_3, .inl (ka0_3, 3, .inl (f27)))) hP hD (by rw [ef27]) (fun hP hD => ?_)
    have bf27 : (∀ k, (0 : Int) ≤ (f27 k).toInt ∧ (f27 k).toInt ≤ 80) := by rw [ef27]; exact ai_upd bfa0_3 _ ⟨ba2_l, (Int.le_trans ba2_u zq10)⟩
    have fqf27 := fl_up_eq ef27
    have hF0 := hF0.trans (fl_lt_eq (show (fl_A f27) = fl_up (fl_A fa0_3) (a0_0.toInt.toNat) a2.toInt from fqf27))
    refine lv_aload_n hx hb dX6_add_28 rfl (lv_at hl 0 rfl) ?_
    refine lv_dup hx hb dX6_add_29 rfl ?_
    refine va_get (D := (dC, dI)) (ci := 6) (v := .int a0_0) (C := RX6) (T := TX6) (N := 4) hx hb hts zi_X6_add_6 hown hK hP 0 rfl rfl 0 (by decide) (hts (.fieldLink RX6 18 "WaxTurns$Watchers" "count" "I") (List.mem_cons_of_mem _ (List.mem_append_left _ (List.mem_of_getElem? (i := 0) rfl)))) (fun _ h9 => h9) rfl dX6_add_30 ?_
    refine lv_iconst (v := 1) hx hb dX6_add_33 zk_iconst_1 ?_
    refine lv_iadd hx hb dX6_add_34 ?_
    refine lv_topi (fun x34 ex34 => ?_)
    have qx34 : x34.toInt = a0_0.toInt + (1 : Int32).toInt := ai_add ex34 ⟨ba0_0_l, u5f_a0_0⟩ ⟨zq1, zq0⟩ (by decide) (by decide)
    have bx34 : (1 : Int) ≤ x34.toInt ∧ x34.toInt ≤ 3 := ⟨by rw [qx34]; exact Int.add_le_add ba0_0_l zq1, by rw [qx34]; exact Int.add_le_add u5f_a0_0 zq0⟩
    have wx34 : x34.toInt = a0_0.toInt + 1 := qx34
    have hF0 := hF0.trans (fl_lt_eq (show x34.toInt = a0_0.toInt + 1 from qx34))
    refine va_put (D := (dC, dI)) (ci := 6) (v := .int x34) (ty := .int) (C := RX6) (T := TX6) (N := 4) hx hb hts zi_X6_add_6 tyX6 tyX6_ok nmX6 hown hK hP hD hS 0 rfl rfl 0 (by decide) (hts (.fieldLink RX6 18 "WaxTurns$Watchers" "count" "I") (List.mem_cons_of_mem _ (List.mem_append_left _ (List.mem_of_getElem? (i := 0) rfl)))) (fun _ h9 => h9) rfl (tyX6_ok 0 (by decide)) rfl rfl (Nat.le_of_ble_eq_true rfl) dX6_add_35 (fun H locs hP hD hS => ?_)
    refine zs_0 (y := (a0, .inr (6, [.int x34, a0g_1, .ref a0_2, .ref a0_3]))) hP hD rfl (fun hP hD => ?_)
    have hFe : FX = (x34.toInt, (fl_A f17), (fl_A f27)) := hF0
    exact W.vret hx hb hr (fun t ht hW => ⟨⟨(), rfl, trivial, x34, f17, f27, ⟨Int.le_trans (by decide) bx34.1, bx34.2⟩, bf17, bf27, hFe, by rw [ht]; exact hP, va_K.moved hW.alike hK, hD⟩, hS.F ht⟩) hS.2.2 dX6_add_38

set_option maxHeartbeats 4000000 in
set_option maxRecDepth 100000 in
theorem f_X0_clear (l : Launch) (dC : Nat → ClassId) (dI : Nat → Nat → Nat) (sz : Nat) (a0 : Nat) (a0_0 : Int32) (a0g_1 a0g_2 a0g_3 a0g_5 a0g_6 a0g_7 a0g_12 a0g_13 : Value) (a0_4 : Int32) (a0_8 : Int32) (a0_9 : Int32) (a0_10 : Nat) (a0_11 : Nat) (a0_14 : Nat) (a0_14_0 : Int32) (a0_14g_1 a0_14g_2 a0_14g_3 : Value) (ka0_10 : ClassId) (fa0_10 : Nat → Int32) (ka0_11 : ClassId) (fa0_11 : Nat → Int32) (ba0_0_l : (0 : Int) ≤ a0_0.toInt) (ba0_0_u : a0_0.toInt ≤ (9 : Int)) (ba0_4_l : (0 : Int) ≤ a0_4.toInt) (ba0_4_u : a0_4.toInt ≤ (1 : Int)) (ba0_9_l : (0 : Int) ≤ a0_9.toInt) (ba0_9_u : a0_9.toInt ≤ (6 : Int)) (ba0_14_0_l : (0 : Int) ≤ a0_14_0.toInt) (ba0_14_0_u : a0_14_0.toInt ≤ (3 : Int)) : zm l yX0_clear wsX0_clear ({ frames := 0, cells := 0, slots := 0, locals := 0 }) [.ref a0] dC dI sz [(a0, .inr (0, [.int a0_0, a0g_1, a0g_2, a0g_3, .int a0_4, a0g_5, a0g_6, a0g_7, .int a0_8, .int a0_9, .ref a0_10, .ref a0_11, a0g_12, a0g_13, .ref a0_14])), (a0_14, .inr (6, [.int a0_14_0, a0_14g_1, a0_14g_2, a0_14g_3])), (a0_10, .inl (ka0_10, 9, .inl (fa0_10))), (a0_11, .inl (ka0_11, 9, .inl (fa0_11)))] [(ka0_10, .int), (ka0_11, .int)] (fun A _ => True) (fun A => va_Qv (fun (_ : Unit) => True) (fun (_ : Unit) (t : State) => ∃ na0_0 : Int32, ∃ na0_4 : Int32, ∃ na0_8 : Int32, ∃ na0_9 : Int32, ∃ na0_14_0 : Int32, ∃ nfa0_10 : Nat → Int32, ∃ nfa0_11 : Nat → Int32, ((0 : Int) ≤ na0_0.toInt ∧ na0_0.toInt ≤ 9) ∧ ((0 : Int) ≤ na0_4.toInt ∧ na0_4.toInt ≤ 1) ∧ ((0 : Int) ≤ na0_9.toInt ∧ na0_9.toInt ≤ 6) ∧ ((0 : Int) ≤ na0_14_0.toInt ∧ na0_14_0.toInt ≤ 3) ∧ (Ff_X0_clear (fl_A fa0_10) (fl_A fa0_11) = (na0_0.toInt, na0_4.toInt, na0_8.toInt, na0_9.toInt, na0_14_0.toInt, (fl_A nfa0_10), (fl_A nfa0_11))) ∧ ax_B dC dI A [(a0, .inr (0, [.int na0_0, a0g_1, a0g_2, a0g_3, .int na0_4, a0g_5, a0g_6, a0g_7, .int na0_8, .int na0_9, .ref a0_10, .ref a0_11, a0g_12, a0g_13, .ref a0_14])), (a0_14, .inr (6, [.int na0_14_0, a0_14g_1, a0_14g_2, a0_14g_3])), (a0_10, .inl (ka0_10, 9, .inl (nfa0_10))), (a0_11, .inl (ka0_11, 9, .inl (nfa0_11)))] [(ka0_10, .int), (ka0_11, .int)] t) A) := by
  refine zh (cc := cX0_clear) (maxL := 2) (ret := none) zn_RX0 rfl (Nat.le_of_ble_eq_true rfl) (fun p e s m below meth c A ls hx hb hml hr hts (hown : s.vm.findClass RX0 = some m.cls) hlocks hA hS hP hK hD hE (hl : lv_has ls 2 [(0, .ref a0)]) => ?_)
  generalize hFX : Ff_X0_clear (fl_A fa0_10) (fl_A fa0_11) = FX at ⊢
  have hF0 := hFX.symm.trans (Ff_X0_clear.eq_1 (fl_A fa0_10) (fl_A fa0_11))
  refine ai_open (fun K hK0 => ?_)
  refine (hK0 _ _ _).mpr ?_
  refine lv_aload_n hx hb dX0_clear_0 rfl (lv_at hl 0 rfl) ?_
  refine lv_iconst (v := 0) hx hb dX0_clear_1 zk_iconst_0 ?_
  refine va_put (D := (dC, dI)) (ci := 0) (v := .int 0) (ty := .int) (C := RX0) (T := TX0) (N := 15) hx hb hts zi_X0_clear_0 tyX0 tyX0_ok nmX0 hown hK hP hD hS 0 rfl rfl 0 (by decide) (hts (.fieldLink RX0 31 "WaxTurns$Hall" "figures" "I") (List.mem_cons_of_mem _ (List.mem_append_left _ (List.mem_append_left _ (List.mem_of_getElem? (i := 0) rfl))))) (fun _ h9 => h9) rfl (tyX0_ok 0 (by decide)) rfl rfl (Nat.le_of_ble_eq_true rfl) dX0_clear_2 (fun H locs hP hD hS => ?_)
  refine zs_0 (y := (a0, .inr (0, [.int 0, a0g_1, a0g_2, a0g_3, .int a0_4, a0g_5, a0g_6, a0g_7, .int a0_8, .int a0_9, .ref a0_10, .ref a0_11, a0g_12, a0g_13, .ref a0_14]))) hP hD rfl (fun hP hD => ?_)
  refine lv_aload_n hx hb dX0_clear_5 rfl (lv_at hl 0 rfl) ?_
  refine lv_iconst (v := 0) hx hb dX0_clear_6 zk_iconst_0 ?_
  refine va_put (D := (dC, dI)) (ci := 0) (v := .int 0) (ty := .boolean) (C := RX0) (T := TX0) (N := 15) hx hb hts zi_X0_clear_0 tyX0 tyX0_ok nmX0 hown hK hP hD hS 0 rfl rfl 4 (by decide) (hts (.fieldLink RX0 35 "WaxTurns$Hall" "lawTold" "Z") (List.mem_cons_of_mem _ (List.mem_append_left _ (List.mem_append_left _ (List.mem_of_getElem? (i := 1) rfl))))) (fun _ h9 => h9) rfl (tyX0_ok 4 (by decide)) rfl rfl (Nat.le_of_ble_eq_true rfl) dX0_clear_7 (fun H locs hP hD hS => ?_)
  refine zs_0 (y := (a0, .inr (0, [.int 0, a0g_1, a0g_2, a0g_3, .int 0, a0g_5, a0g_6, a0g_7, .int a0_8, .int a0_9, .ref a0_10, .ref a0_11, a0g_12, a0g_13, .ref a0_14]))) hP hD rfl (fun hP hD => ?_)
  refine lv_aload_n hx hb dX0_clear_10 rfl (lv_at hl 0 rfl) ?_
  refine lv_iconst (v := 0) hx hb dX0_clear_11 zk_iconst_0 ?_
  refine va_put (D := (dC, dI)) (ci := 0) (v := .int 0) (ty := .int) (C := RX0) (T := TX0) (N := 15) hx hb hts zi_X0_clear_0 tyX0 tyX0_ok nmX0 hown hK hP hD hS 0 rfl rfl 8 (by decide) (hts (.fieldLink RX0 39 "WaxTurns$Hall" "toldBits" "I") (List.mem_cons_of_mem _ (List.mem_append_left _ (List.mem_append_left _ (List.mem_of_getElem? (i := 2) rfl))))) (fun _ h9 => h9) rfl (tyX0_ok 8 (by decide)) rfl rfl (Nat.le_of_ble_eq_true rfl) dX0_clear_12 (fun H locs hP hD hS => ?_)
  refine zs_0 (y := (a0, .inr (0, [.int 0, a0g_1, a0g_2, a0g_3, .int 0, a0g_5, a0g_6, a0g_7, .int 0, .int a0_9, .ref a0_10, .ref a0_11, a0g_12, a0g_13, .ref a0_14]))) hP hD rfl (fun hP hD => ?_)
  refine lv_aload_n hx hb dX0_clear_15 rfl (lv_at hl 0 rfl) ?_
  refine lv_iconst (v := 0) hx hb dX0_clear_16 zk_iconst_0 ?_
  refine va_put (D := (dC, dI)) (ci := 0) (v := .int 0) (ty := .int) (C := RX0) (T := TX0) (N := 15) hx hb hts zi_X0_clear_0 tyX0 tyX0_ok nmX0 hown hK hP hD hS 0 rfl rfl 9 (by decide) (hts (.fieldLink RX0 42 "WaxTurns$Hall" "seenCount" "I") (List.mem_cons_of_mem _ (List.mem_append_left _ (List.mem_append_left _ (List.mem_of_getElem? (i := 3) rfl))))) (fun _ h9 => h9) rfl (tyX0_ok 9 (by decide)) rfl rfl (Nat.le_of_ble_eq_true rfl) dX0_clear_17 (fun H locs hP hD hS => ?_)
  refine zs_0 (y := (a0, .inr (0, [.int 0, a0g_1, a0g_2, a0g_3, .int 0, a0g_5, a0g_6, a0g_7, .int 0, .int 0, .ref a0_10, .ref a0_11, a0g_12, a0g_13, .ref a0_14]))) hP hD rfl (fun hP hD => ?_)
  refine lv_aload_n hx hb dX0_clear_20 rfl (lv_at hl 0 rfl) ?_
  refine va_get (D := (dC, dI)) (ci := 0) (v := .ref a0_14) (C := RX0) (T := TX0) (N := 15) hx hb hts zi_X0_clear_0 hown hK hP 0 rfl rfl 14 (by decide) (hts (.fieldLink RX0 27 "WaxTurns$Hall" "watchers" "LWaxTurns$Watchers;") (List.mem_cons_of_mem _ (List.mem_append_left _ (List.mem_append_left _ (List.mem_of_getElem? (i := 4) rfl))))) (fun _ h9 => h9) rfl dX0_clear_21 ?_
  refine lv_iconst (v := 0) hx hb dX0_clear_24 zk_iconst_0 ?_
  refine va_put (D := (dC, dI)) (ci := 6) (v := .int 0) (ty := .int) (C := RX6) (T := TX6) (N := 4) hx hb hts zi_X0_clear_6 tyX6 tyX6_ok nmX6 hown hK hP hD hS 1 rfl rfl 0 (by decide) (hts (.fieldLink RX0 45 "WaxTurns$Watchers" "count" "I") (List.mem_cons_of_mem _ (List.mem_append_left _ (List.mem_append_left _ (List.mem_of_getElem? (i := 5) rfl))))) (fun _ h9 => h9) rfl (tyX6_ok 0 (by decide)) rfl rfl (Nat.le_of_ble_eq_true rfl) dX0_clear_25 (fun H locs hP hD hS => ?_)
  refine zs_1 (y := (a0_14, .inr (6, [.int 0, a0_14g_1, a0_14g_2, a0_14g_3]))) hP hD rfl (fun hP hD => ?_)
  refine lv_iconst (v := 0) hx hb dX0_clear_28 zk_iconst_0 ?_
  refine lv_istore_n (lv' := [(1, .int 0), (0, .ref a0)]) hx hb dX0_clear_29 rfl hl (by decide) rfl (fun ls hl => ?_)
  have J30 : ∀ (n : Nat) (j30l1 : Int32) (j30a0_10_a : Nat → Int32) (j30a0_11_a : Nat → Int32) (H : Heap) (locs : List Loc) (ls : Array Slot), (10 : Int) - j30l1.toInt ≤ (n : Int) → (0 : Int) ≤ j30l1.toInt → j30l1.toInt ≤ (9 : Int) → (FX = fl_wh (fun t9 => Sf_X0_clear_30_1  t9.1 t9.2.1 t9.2.2) (0, 0, 0, 0, 0, (fun _ => 0), (fun _ => 0)) n (j30l1.toInt, (fl_A j30a0_10_a), (fl_A j30a0_11_a))) → va_P (dC, dI) vwCl [(a0, .inr (0, [.int 0, a0g_1, a0g_2, a0g_3, .int 0, a0g_5, a0g_6, a0g_7, .int 0, .int 0, .ref a0_10, .ref a0_11, a0g_12, a0g_13, .ref a0_14])), (a0_14, .inr (6, [.int 0, a0_14g_1, a0_14g_2, a0_14g_3])), (a0_10, .inl (ka0_10, 9, .inl (j30a0_10_a))), (a0_11, .inl (ka0_11, 9, .inl (j30a0_11_a)))] H → va_D A [(a0, .inr (0, [.int 0, a0g_1, a0g_2, a0g_3, .int 0, a0g_5, a0g_6, a0g_7, .int 0, .int 0, .ref a0_10, .ref a0_11, a0g_12, a0g_13, .ref a0_14])), (a0_14, .inr (6, [.int 0, a0_14g_1, a0_14g_2, a0_14g_3])), (a0_10, .inl (ka0_10, 9, .inl (j30a0_10_a))), (a0_11, .inl (ka0_11, 9, .inl (j30a0_11_a)))] → va_S A s.heap H locs → lv_has ls 2 [(0, .ref a0), (1, .int j30l1)] → K H locs (F0 m 30 ls []) := by
    intro n
    induction n with
    | zero =>
      intro j30l1 j30a0_10_a j30a0_11_a H locs ls hm bj30l1_l bj30l1_u hF0 hP hD hS hl
      first | exact zg_0 hm bj30l1_u (by decide) | (have h8 := ai_min j30l1; have h9 := ai_max j30l1; exact absurd hm (by omega))
    | succ n ih30 =>
      intro j30l1 j30a0_10_a j30a0_11_a H locs ls hm bj30l1_l bj30l1_u hF0 hP hD hS hl
      refine (hK0 _ _ _).mpr ?_
      have hm30 := hm
      obtain ⟨SX30, hSX30⟩ : ∃ q9, Sf_X0_clear_30_1  j30l1.toInt (fl_A j30a0_10_a) (fl_A j30a0_11_a) = q9 := ⟨_, rfl⟩
      have hF1 := hSX30.symm.trans (Sf_X0_clear_30_1.eq_1  j30l1.toInt (fl_A j30a0_10_a) (fl_A j30a0_11_a))
      refine lv_iload_n hx hb dX0_clear_30 rfl (lv_at hl 1 rfl) ?_
      refine lv_bipush (v := 9) hx hb dX0_clear_31 zk_bipush_9 ?_
      refine lv_icmp_ge (tgt := 56) hx hb dX0_clear_33 (by decide) (fun c33 => ?_) (fun c33 => ?_)
      · have gc33 := ai_le c33
        have l33t_j30l1 : (9 : Int) ≤ j30l1.toInt := Int.le_trans zq2 gc33
        have hF1 := hF1.trans (if_pos (show 9 ≤ j30l1.toInt from gc33))
        have hF0 := hF0.trans (fl_wh_r (hSX30.trans hF1))
        have hFe : FX = (0, 0, 0, 0, 0, (fl_A j30a0_10_a), (fl_A j30a0_11_a)) := hF0
        exact W.vret hx hb hr (fun t ht hW => ⟨⟨(), rfl, trivial, 0, 0, 0, 0, 0, j30a0_10_a, j30a0_11_a, ⟨zq5, Int.le_trans zq6 (by decide)⟩, ⟨zq5, Int.le_trans zq6 (by decide)⟩, ⟨zq5, Int.le_trans zq6 (by decide)⟩, ⟨zq5, Int.le_trans zq6 (by decide)⟩, hFe, by rw [ht]; exact hP, va_K.moved hW.alike hK, hD⟩, hS.F ht⟩) hS.2.2 dX0_clear_56
      · have gc33 := ai_nle c33
        have u33f_j30l1 : j30l1.toInt ≤ (8 : Int) := ai_lthi gc33 zq3
        have hF1 := hF1.trans (if_neg (show ¬ (9 ≤ j30l1.toInt) from Int.not_le.mpr gc33))
        refine lv_aload_n hx hb dX0_clear_36 rfl (lv_at hl 0 rfl) ?_
        refine va_get (D := (dC, dI)) (ci := 0) (v := .ref a0_10) (C := RX0) (T := TX0) (N := 15) hx hb hts zi_X0_clear_0 hown hK hP 0 rfl rfl 10 (by decide) (hts (.fieldLink RX0 9 "WaxTurns$Hall" "kinds" "[I") (List.mem_cons_of_mem _ (List.mem_append_left _ (List.mem_append_left _ (List.mem_of_getElem? (i := 6) rfl))))) (fun _ h9 => h9) rfl dX0_clear_37 ?_
        refine lv_iload_n hx hb dX0_clear_40 rfl (lv_at hl 1 rfl) ?_
        refine lv_iconst (v := 0) hx hb dX0_clear_41 zk_iconst_0 ?_
        refine va_iast hx hb hK hP hD hS 2 0 rfl rfl (ai_in bj30l1_l u33f_j30l1 (by decide) (by decide)) dX0_clear_42 (fun H locs hP hD hS => ?_)
        obtain ⟨f42, ef42⟩ : ∃ g9 : Nat → Int32, g9 = upd j30a0_10_a (j30l1 : Int32).toNatClampNeg (0 : Int32) := ⟨_, rfl⟩
        refine zs_2 (y := (a0_10, .inl (ka0_10, 9, .inl (f42)))) hP hD (by rw [ef42]) (fun hP hD => ?_)
        have fqf42 := fl_up_eq ef42
        have hF1 := hF1.trans (fl_lt_eq (show (fl_A f42) = fl_up (fl_A j30a0_10_a) (j30l1.toInt.toNat) 0 from fqf42))
        refine lv_aload_n hx hb dX0_clear_43 rfl (lv_at hl 0 rfl) ?_
        refine va_get (D := (dC, dI)) (ci := 0) (v := .ref a0_11) (C := RX0) (T := TX0) (N := 15) hx hb hts zi_X0_clear_0 hown hK hP 0 rfl rfl 11 (by decide) (hts (.fieldLink RX0 15 "WaxTurns$Hall" "measures" "[I") (List.mem_cons_of_mem _ (List.mem_append_left _ (List.mem_append_left _ (List.mem_of_getElem? (i := 7) rfl))))) (fun _ h9 => h9) rfl dX0_clear_44 ?_
        refine lv_iload_n hx hb dX0_clear_47 rfl (lv_at hl 1 rfl) ?_
        refine lv_iconst (v := 0) hx hb dX0_clear_48 zk_iconst_0 ?_
        refine va_iast hx hb hK hP hD hS 3 1 rfl rfl (ai_in bj30l1_l u33f_j30l1 (by decide) (by decide)) dX0_clear_49 (fun H locs hP hD hS => ?_)
        obtain ⟨f49, ef49⟩ : ∃ g9 : Nat → Int32, g9 = upd j30a0_11_a (j30l1 : Int32).toNatClampNeg (0 : Int32) := ⟨_, rfl⟩
        refine zs_3 (y := (a0_11, .inl (ka0_11, 9, .inl (f49)))) hP hD (by rw [ef49]) (fun hP hD => ?_)
        have fqf49 := fl_up_eq ef49
        have hF1 := hF1.trans (fl_lt_eq (show (fl_A f49) = fl_up (fl_A j30a0_11_a) (j30l1.toInt.toNat) 0 from fqf49))
        obtain ⟨x50, ex50⟩ : ∃ y : Int32, y = j30l1 + Int32.ofInt 1 := ⟨_, rfl⟩
        have qx50 : x50.toInt = j30l1.toInt + 1 := ai_inc ex50 (by decide) (by decide) u33f_j30l1 (by decide)
        have bx50 : (1 : Int) ≤ x50.toInt ∧ x50.toInt ≤ 9 := ⟨by rw [qx50]; exact Int.add_le_add bj30l1_l (Int.le_refl _), by rw [qx50]; exact Int.add_le_add u33f_j30l1 (Int.le_refl _)⟩
        refine lv_iinc (v := x50) (lv' := [(1, .int x50), (0, .ref a0)]) hx hb dX0_clear_50 hl (k := 1) rfl ex50.symm (by decide) rfl (fun ls hl => ?_)
        have hF1 := hF1.trans (fl_lt_eq (show x50.toInt = j30l1.toInt + 1 from qx50))
        refine lv_goto (tgt := 30) hx hb dX0_clear_53 (by decide) ?_
        exact (hK0 _ _ _).mp (ih30 x50 f42 f49 _ _ _ (by first | exact zg_s hm30 qx50 | (have h0 := qx50; omega)) (Int.le_trans zq4 bx50.1) bx50.2 (hF0.trans (fl_wh_l (hSX30.trans hF1))) hP hD hS (lv_sub hl [1, 0] rfl))
  exact (hK0 _ _ _).mp (J30 10 0 fa0_10 fa0_11 _ _ _ (by first | decide +kernel | (have h1 : (0 : Int) ≤ (0 : Int32).toInt := zq5; have h2 : (0 : Int32).toInt ≤ (0 : Int) := zq6; omega)) zq5 (Int.le_trans zq6 zq7) (by rw [show (0 : Int32).toInt = 0 from by decide]; exact hF0) hP hD hS (lv_sub hl [1, 0] rfl))

set_option maxHeartbeats 4000000 in
set_option maxRecDepth 100000 in
theorem f_X0_addFigure (l : Launch) (dC : Nat → ClassId) (dI : Nat → Nat → Nat) (sz : Nat) (a0 : Nat) (a1 : Int32) (a2 : Int32) (a3 : Int32) (a0g_0 a0g_1 a0g_2 a0g_3 a0g_4 a0g_5 a0g_6 a0g_7 a0g_9 a0g_12 a0g_13 a0g_14 : Value) (a0_8 : Int32) (a0_10 : Nat) (a0_11 : Nat) (ka0_10 : ClassId) (fa0_10 : Nat → Int32) (ka0_11 : ClassId) (fa0_11 : Nat → Int32)  : zm l yX0_addFigure wsX0_addFigure ({ frames := 0, cells := 0, slots := 0, locals := 0 }) [.ref a0, .int a1, .int a2, .int a3] dC dI sz [(a0, .inr (0, [a0g_0, a0g_1, a0g_2, a0g_3, a0g_4, a0g_5, a0g_6, a0g_7, .int a0_8, a0g_9, .ref a0_10, .ref a0_11, a0g_12, a0g_13, a0g_14])), (a0_10, .inl (ka0_10, 9, .inl (fa0_10))), (a0_11, .inl (ka0_11, 9, .inl (fa0_11)))] [(ka0_10, .int), (ka0_11, .int)] (fun A _ => True) (fun A => va_Qv (fun (_ : Unit) => True) (fun (_ : Unit) (t : State) => ∃ na0_8 : Int32, ∃ nfa0_10 : Nat → Int32, ∃ nfa0_11 : Nat → Int32, (Ff_X0_addFigure a1.toInt a2.toInt a3.toInt a0_8.toInt (fl_A fa0_10) (fl_A fa0_11) = (na0_8.toInt, (fl_A nfa0_10), (fl_A nfa0_11))) ∧ ax_B dC dI A [(a0, .inr (0, [a0g_0, a0g_1, a0g_2, a0g_3, a0g_4, a0g_5, a0g_6, a0g_7, .int na0_8, a0g_9, .ref a0_10, .ref a0_11, a0g_12, a0g_13, a0g_14])), (a0_10, .inl (ka0_10, 9, .inl (nfa0_10))), (a0_11, .inl (ka0_11, 9, .inl (nfa0_11)))] [(ka0_10, .int), (ka0_11, .int)] t) A) := by
  refine zh (cc := cX0_addFigure) (maxL := 4) (ret := none) zn_RX0 rfl (Nat.le_of_ble_eq_true rfl) (fun p e s m below meth c A ls hx hb hml hr hts (hown : s.vm.findClass RX0 = some m.cls) hlocks hA hS hP hK hD hE (hl : lv_has ls 4 [(0, .ref a0), (1, .int a1), (2, .int a2), (3, .int a3)]) => ?_)
  generalize hFX : Ff_X0_addFigure a1.toInt a2.toInt a3.toInt a0_8.toInt (fl_A fa0_10) (fl_A fa0_11) = FX at ⊢
  have hF0 := hFX.symm.trans (Ff_X0_addFigure.eq_1 a1.toInt a2.toInt a3.toInt a0_8.toInt (fl_A fa0_10) (fl_A fa0_11))
  refine lv_iload_n hx hb dX0_addFigure_0 rfl (lv_at hl 1 rfl) ?_
  refine lv_if_lt (tgt := 36) hx hb dX0_addFigure_1 (by decide) (fun c1 => ?_) (fun c1 => ?_)
  · have gc1 := ai_lt c1
    have u1t_a1 : a1.toInt ≤ (-1 : Int) := ai_lthi gc1 zq6
    have hF0 := hF0.trans (if_pos (show a1.toInt < 0 from gc1))
    have hFe : FX = (a0_8.toInt, (fl_A fa0_10), (fl_A fa0_11)) := hF0
    exact W.vret hx hb hr (fun t ht hW => ⟨⟨(), rfl, trivial, a0_8, fa0_10, fa0_11, hFe, by rw [ht]; exact hP, va_K.moved hW.alike hK, hD⟩, hS.F ht⟩) hS.2.2 dX0_addFigure_36
  · have gc1 := ai_nlt c1
    have l1f_a1 : (0 : Int) ≤ a1.toInt := Int.le_trans zq5 gc1
    have hF0 := hF0.trans (if_neg (show ¬ (a1.toInt < 0) from Int.not_lt.mpr gc1))
    refine lv_iload_n hx hb dX0_addFigure_4 rfl (lv_at hl 1 rfl) ?_
    refine lv_bipush (v := 9) hx hb dX0_addFigure_5 zk_bipush_9 ?_
    refine lv_icmp_ge (tgt := 36) hx hb dX0_addFigure_7 (by decide) (fun c7 => ?_) (fun c7 => ?_)
    · have gc7 := ai_le c7
      have l7t_a1 : (9 : Int) ≤ a1.toInt := Int.le_trans zq2 gc7
      have hF0 := hF0.trans (if_pos (show 9 ≤ a1.toInt from gc7))
      have hFe : FX = (a0_8.toInt, (fl_A fa0_10), (fl_A fa0_11)) := hF0
      exact W.vret hx hb hr (fun t ht hW => ⟨⟨(), rfl, trivial, a0_8, fa0_10, fa0_11, hFe, by rw [ht]; exact hP, va_K.moved hW.alike hK, hD⟩, hS.F ht⟩) hS.2.2 dX0_addFigure_36
    · have gc7 := ai_nle c7
      have u7f_a1 : a1.toInt ≤ (8 : Int) := ai_lthi gc7 zq3
      have hF0 := hF0.trans (if_neg (show ¬ (9 ≤ a1.toInt) from Int.not_le.mpr gc7))
      refine lv_aload_n hx hb dX0_addFigure_10 rfl (lv_at hl 0 rfl) ?_
      refine lv_dup hx hb dX0_addFigure_11 rfl ?_
      refine va_get (D := (dC, dI)) (ci := 0) (v := .int a0_8) (C := RX0) (T := TX0) (N := 15) hx hb hts zi_X0_addFigure_0 hown hK hP 0 rfl rfl 8 (by decide) (hts (.fieldLink RX0 39 "WaxTurns$Hall" "toldBits" "I") (List.mem_cons_of_mem _ (List.mem_append_left _ (List.mem_of_getElem? (i := 0) rfl)))) (fun _ h9 => h9) rfl dX0_addFigure_12 ?_
      refine lv_iconst (v := 1) hx hb dX0_addFigure_15 zk_iconst_1 ?_
      refine lv_iload_n hx hb dX0_addFigure_16 rfl (lv_at hl 1 rfl) ?_
      refine lv_ishl hx hb dX0_addFigure_17 ?_
      refine lv_topi (fun x17 ex17 => ?_)
      have bx17 : (1 : Int) ≤ x17.toInt ∧ x17.toInt ≤ 512 := sh_1 ex17 l1f_a1 (Int.le_trans u7f_a1 zq22)
      have fqx17 := fl_shl_eq ex17
      have hF0 := hF0.trans (fl_lt_eq (show x17.toInt = fl_shl 1 a1.toInt from fqx17))
      refine lv_ior hx hb dX0_addFigure_18 ?_
      refine lv_topi (fun x18 ex18 => ?_)
      have fqx18 := fl_or_eq ex18
      have hF0 := hF0.trans (fl_lt_eq (show x18.toInt = fl_or a0_8.toInt x17.toInt from fqx18))
      refine va_put (D := (dC, dI)) (ci := 0) (v := .int x18) (ty := .int) (C := RX0) (T := TX0) (N := 15) hx hb hts zi_X0_addFigure_0 tyX0 tyX0_ok nmX0 hown hK hP hD hS 0 rfl rfl 8 (by decide) (hts (.fieldLink RX0 39 "WaxTurns$Hall" "toldBits" "I") (List.mem_cons_of_mem _ (List.mem_append_left _ (List.mem_of_getElem? (i := 0) rfl)))) (fun _ h9 => h9) rfl (tyX0_ok 8 (by decide)) rfl rfl (Nat.le_of_ble_eq_true rfl) dX0_addFigure_19 (fun H locs hP hD hS => ?_)
      refine zs_0 (y := (a0, .inr (0, [a0g_0, a0g_1, a0g_2, a0g_3, a0g_4, a0g_5, a0g_6, a0g_7, .int x18, a0g_9, .ref a0_10, .ref a0_11, a0g_12, a0g_13, a0g_14]))) hP hD rfl (fun hP hD => ?_)
      refine lv_aload_n hx hb dX0_addFigure_22 rfl (lv_at hl 0 rfl) ?_
      refine va_get (D := (dC, dI)) (ci := 0) (v := .ref a0_10) (C := RX0) (T := TX0) (N := 15) hx hb hts zi_X0_addFigure_0 hown hK hP 0 rfl rfl 10 (by decide) (hts (.fieldLink RX0 9 "WaxTurns$Hall" "kinds" "[I") (List.mem_cons_of_mem _ (List.mem_append_left _ (List.mem_of_getElem? (i := 1) rfl)))) (fun _ h9 => h9) rfl dX0_addFigure_23 ?_
      refine lv_iload_n hx hb dX0_addFigure_26 rfl (lv_at hl 1 rfl) ?_
      refine lv_iload_n hx hb dX0_addFigure_27 rfl (lv_at hl 2 rfl) ?_
      refine va_iast hx hb hK hP hD hS 1 0 rfl rfl (ai_in l1f_a1 u7f_a1 (by decide) (by decide)) dX0_addFigure_28 (fun H locs hP hD hS => ?_)
      obtain ⟨f28, ef28⟩ : ∃ g9 : Nat → Int32, g9 = upd fa0_10 (a1 : Int32).toNatClampNeg a2 := ⟨_, rfl⟩
      refine zs_1 (y := (a0_10, .inl (ka0_10, 9, .inl (f28)))) hP hD (by rw [ef28]) (fun hP hD => ?_)
      have fqf28 := fl_up_eq ef28
      have hF0 := hF0.trans (fl_lt_eq (show (fl_A f28) = fl_up (fl_A fa0_10) (a1.toInt.toNat) a2.toInt from fqf28))
      refine lv_aload_n hx hb dX0_addFigure_29 rfl (lv_at hl 0 rfl) ?_
      refine va_get (D := (dC, dI)) (ci := 0) (v := .ref a0_11) (C := RX0) (T := TX0) (N := 15) hx hb hts zi_X0_addFigure_0 hown hK hP 0 rfl rfl 11 (by decide) (hts (.fieldLink RX0 15 "WaxTurns$Hall" "measures" "[I") (List.mem_cons_of_mem _ (List.mem_append_left _ (List.mem_of_getElem? (i := 2) rfl)))) (fun _ h9 => h9) rfl dX0_addFigure_30 ?_
      refine lv_iload_n hx hb dX0_addFigure_33 rfl (lv_at hl 1 rfl) ?_
      refine lv_iload_n hx hb dX0_addFigure_34 rfl (lv_at hl 3 rfl) ?_
      refine va_iast hx hb hK hP hD hS 2 1 rfl rfl (ai_in l1f_a1 u7f_a1 (by decide) (by decide)) dX0_addFigure_35 (fun H locs hP hD hS => ?_)
      obtain ⟨f35, ef35⟩ : ∃ g9 : Nat → Int32, g9 = upd fa0_11 (a1 : Int32).toNatClampNeg a3 := ⟨_, rfl⟩
      refine zs_2 (y := (a0_11, .inl (ka0_11, 9, .inl (f35)))) hP hD (by rw [ef35]) (fun hP hD => ?_)
      have fqf35 := fl_up_eq ef35
      have hF0 := hF0.trans (fl_lt_eq (show (fl_A f35) = fl_up (fl_A fa0_11) (a1.toInt.toNat) a3.toInt from fqf35))
      have hFe : FX = (x18.toInt, (fl_A f28), (fl_A f35)) := hF0
      exact W.vret hx hb hr (fun t ht hW => ⟨⟨(), rfl, trivial, x18, f28, f35, hFe, by rw [ht]; exact hP, va_K.moved hW.alike hK, hD⟩, hS.F ht⟩) hS.2.2 dX0_addFigure_36

set_option maxHeartbeats 4000000 in
set_option maxRecDepth 100000 in
theorem f_X0_addSeen (l : Launch) (dC : Nat → ClassId) (dI : Nat → Nat → Nat) (sz : Nat) (a0 : Nat) (a1 : Int32) (a2 : Int32) (a0g_0 a0g_1 a0g_2 a0g_3 a0g_4 a0g_5 a0g_6 a0g_7 a0g_8 a0g_10 a0g_11 a0g_14 : Value) (a0_9 : Int32) (a0_12 : Nat) (a0_13 : Nat) (ka0_12 : ClassId) (fa0_12 : Nat → Int32) (ka0_13 : ClassId) (fa0_13 : Nat → Int32) (ba2_l : (0 : Int) ≤ a2.toInt) (ba2_u : a2.toInt ≤ (999 : Int)) (ba0_9_l : (0 : Int) ≤ a0_9.toInt) (ba0_9_u : a0_9.toInt ≤ (6 : Int)) (bfa0_13 : (∀ k, (0 : Int) ≤ (fa0_13 k).toInt ∧ (fa0_13 k).toInt ≤ 999)) : zm l yX0_addSeen wsX0_addSeen ({ frames := 0, cells := 0, slots := 0, locals := 0 }) [.ref a0, .int a1, .int a2] dC dI sz [(a0, .inr (0, [a0g_0, a0g_1, a0g_2, a0g_3, a0g_4, a0g_5, a0g_6, a0g_7, a0g_8, .int a0_9, a0g_10, a0g_11, .ref a0_12, .ref a0_13, a0g_14])), (a0_12, .inl (ka0_12, 6, .inl (fa0_12))), (a0_13, .inl (ka0_13, 6, .inl (fa0_13)))] [(ka0_12, .int), (ka0_13, .int)] (fun A _ => True) (fun A => va_Qv (fun (_ : Unit) => True) (fun (_ : Unit) (t : State) => ∃ na0_9 : Int32, ∃ nfa0_12 : Nat → Int32, ∃ nfa0_13 : Nat → Int32, ((0 : Int) ≤ na0_9.toInt ∧ na0_9.toInt ≤ 6) ∧ (∀ k, (0 : Int) ≤ (nfa0_13 k).toInt ∧ (nfa0_13 k).toInt ≤ 999) ∧ (Ff_X0_addSeen a1.toInt a2.toInt a0_9.toInt (fl_A fa0_12) (fl_A fa0_13) = (na0_9.toInt, (fl_A nfa0_12), (fl_A nfa0_13))) ∧ ax_B dC dI A [(a0, .inr (0, [a0g_0, a0g_1, a0g_2, a0g_3, a0g_4, a0g_5, a0g_6, a0g_7, a0g_8, .int na0_9, a0g_10, a0g_11, .ref a0_12, .ref a0_13, a0g_14])), (a0_12, .inl (ka0_12, 6, .inl (nfa0_12))), (a0_13, .inl (ka0_13, 6, .inl (nfa0_13)))] [(ka0_12, .int), (ka0_13, .int)] t) A) := by
  refine zh (cc := cX0_addSeen) (maxL := 3) (ret := none) zn_RX0 rfl (Nat.le_of_ble_eq_true rfl) (fun p e s m below meth c A ls hx hb hml hr hts (hown : s.vm.findClass RX0 = some m.cls) hlocks hA hS hP hK hD hE (hl : lv_has ls 3 [(0, .ref a0), (1, .int a1), (2, .int a2)]) => ?_)
  generalize hFX : Ff_X0_addSeen a1.toInt a2.toInt a0_9.toInt (fl_A fa0_12) (fl_A fa0_13) = FX at ⊢
  have hF0 := hFX.symm.trans (Ff_X0_addSeen.eq_1 a1.toInt a2.toInt a0_9.toInt (fl_A fa0_12) (fl_A fa0_13))
  refine lv_aload_n hx hb dX0_addSeen_0 rfl (lv_at hl 0 rfl) ?_
  refine va_get (D := (dC, dI)) (ci := 0) (v := .int a0_9) (C := RX0) (T := TX0) (N := 15) hx hb hts zi_X0_addSeen_0 hown hK hP 0 rfl rfl 9 (by decide) (hts (.fieldLink RX0 42 "WaxTurns$Hall" "seenCount" "I") (List.mem_cons_of_mem _ (List.mem_append_left _ (List.mem_of_getElem? (i := 0) rfl)))) (fun _ h9 => h9) rfl dX0_addSeen_1 ?_
  refine lv_bipush (v := 6) hx hb dX0_addSeen_4 zk_bipush_6 ?_
  refine lv_icmp_ge (tgt := 39) hx hb dX0_addSeen_6 (by decide) (fun c6 => ?_) (fun c6 => ?_)
  · have gc6 := ai_le c6
    have l6t_a0_9 : (6 : Int) ≤ a0_9.toInt := Int.le_trans zq15 gc6
    have hF0 := hF0.trans (if_pos (show 6 ≤ a0_9.toInt from gc6))
    have hFe : FX = (a0_9.toInt, (fl_A fa0_12), (fl_A fa0_13)) := hF0
    exact W.vret hx hb hr (fun t ht hW => ⟨⟨(), rfl, trivial, a0_9, fa0_12, fa0_13, ⟨Int.le_trans (by decide) l6t_a0_9, ba0_9_u⟩, bfa0_13, hFe, by rw [ht]; exact hP, va_K.moved hW.alike hK, hD⟩, hS.F ht⟩) hS.2.2 dX0_addSeen_39
  · have gc6 := ai_nle c6
    have u6f_a0_9 : a0_9.toInt ≤ (5 : Int) := ai_lthi gc6 zq16
    have hF0 := hF0.trans (if_neg (show ¬ (6 ≤ a0_9.toInt) from Int.not_le.mpr gc6))
    refine lv_aload_n hx hb dX0_addSeen_9 rfl (lv_at hl 0 rfl) ?_
    refine va_get (D := (dC, dI)) (ci := 0) (v := .ref a0_12) (C := RX0) (T := TX0) (N := 15) hx hb hts zi_X0_addSeen_0 hown hK hP 0 rfl rfl 12 (by decide) (hts (.fieldLink RX0 18 "WaxTurns$Hall" "seenFigures" "[I") (List.mem_cons_of_mem _ (List.mem_append_left _ (List.mem_of_getElem? (i := 1) rfl)))) (fun _ h9 => h9) rfl dX0_addSeen_10 ?_
    refine lv_aload_n hx hb dX0_addSeen_13 rfl (lv_at hl 0 rfl) ?_
    refine va_get (D := (dC, dI)) (ci := 0) (v := .int a0_9) (C := RX0) (T := TX0) (N := 15) hx hb hts zi_X0_addSeen_0 hown hK hP 0 rfl rfl 9 (by decide) (hts (.fieldLink RX0 42 "WaxTurns$Hall" "seenCount" "I") (List.mem_cons_of_mem _ (List.mem_append_left _ (List.mem_of_getElem? (i := 0) rfl)))) (fun _ h9 => h9) rfl dX0_addSeen_14 ?_
    refine lv_iload_n hx hb dX0_addSeen_17 rfl (lv_at hl 1 rfl) ?_
    refine va_iast hx hb hK hP hD hS 1 0 rfl rfl (ai_in ba0_9_l u6f_a0_9 (by decide) (by decide)) dX0_addSeen_18 (fun H locs hP hD hS => ?_)
    obtain ⟨f18, ef18⟩ : ∃ g9 : Nat → Int32, g9 = upd fa0_12 (a0_9 : Int32).toNatClampNeg a1 := ⟨_, rfl⟩
    refine zs_1 (y := (a0_12, .inl (ka0_12, 6, .inl (f18)))) hP hD (by rw [ef18]) (fun hP hD => ?_)
    have fqf18 := fl_up_eq ef18
    have hF0 := hF0.trans (fl_lt_eq (show (fl_A f18) = fl_up (fl_A fa0_12) (a0_9.toInt.toNat) a1.toInt from fqf18))
    refine lv_aload_n hx hb dX0_addSeen_19 rfl (lv_at hl 0 rfl) ?_
    refine va_get (D := (dC, dI)) (ci := 0) (v := .ref a0_13) (C := RX0) (T := TX0) (N := 15) hx hb hts zi_X0_addSeen_0 hown hK hP 0 rfl rfl 13 (by decide) (hts (.fieldLink RX0 21 "WaxTurns$Hall" "seenMinutes" "[I") (List.mem_cons_of_mem _ (List.mem_append_left _ (List.mem_of_getElem? (i := 2) rfl)))) (fun _ h9 => h9) rfl dX0_addSeen_20 ?_
    refine lv_aload_n hx hb dX0_addSeen_23 rfl (lv_at hl 0 rfl) ?_
    refine va_get (D := (dC, dI)) (ci := 0) (v := .int a0_9) (C := RX0) (T := TX0) (N := 15) hx hb hts zi_X0_addSeen_0 hown hK hP 0 rfl rfl 9 (by decide) (hts (.fieldLink RX0 42 "WaxTurns$Hall" "seenCount" "I") (List.mem_cons_of_mem _ (List.mem_append_left _ (List.mem_of_getElem? (i := 0) rfl)))) (fun _ h9 => h9) rfl dX0_addSeen_24 ?_
    refine lv_iload_n hx hb dX0_addSeen_27 rfl (lv_at hl 2 rfl) ?_
    refine va_iast hx hb hK hP hD hS 2 1 rfl rfl (ai_in ba0_9_l u6f_a0_9 (by decide) (by decide)) dX0_addSeen_28 (fun H locs hP hD hS => ?_)
    obtain ⟨f28, ef28⟩ : ∃ g9 : Nat → Int32, g9 = upd fa0_13 (a0_9 : Int32).toNatClampNeg a2 := ⟨_, rfl⟩
    refine zs_2 (y := (a0_13, .inl (ka0_13, 6, .inl (f28)))) hP hD (by rw [ef28]) (fun hP hD => ?_)
    have bf28 : (∀ k, (0 : Int) ≤ (f28 k).toInt ∧ (f28 k).toInt ≤ 999) := by rw [ef28]; exact ai_upd bfa0_13 _ ⟨ba2_l, ba2_u⟩
    have fqf28 := fl_up_eq ef28
    have hF0 := hF0.trans (fl_lt_eq (show (fl_A f28) = fl_up (fl_A fa0_13) (a0_9.toInt.toNat) a2.toInt from fqf28))
    refine lv_aload_n hx hb dX0_addSeen_29 rfl (lv_at hl 0 rfl) ?_
    refine lv_dup hx hb dX0_addSeen_30 rfl ?_
    refine va_get (D := (dC, dI)) (ci := 0) (v := .int a0_9) (C := RX0) (T := TX0) (N := 15) hx hb hts zi_X0_addSeen_0 hown hK hP 0 rfl rfl 9 (by decide) (hts (.fieldLink RX0 42 "WaxTurns$Hall" "seenCount" "I") (List.mem_cons_of_mem _ (List.mem_append_left _ (List.mem_of_getElem? (i := 0) rfl)))) (fun _ h9 => h9) rfl dX0_addSeen_31 ?_
    refine lv_iconst (v := 1) hx hb dX0_addSeen_34 zk_iconst_1 ?_
    refine lv_iadd hx hb dX0_addSeen_35 ?_
    refine lv_topi (fun x35 ex35 => ?_)
    have qx35 : x35.toInt = a0_9.toInt + (1 : Int32).toInt := ai_add ex35 ⟨ba0_9_l, u6f_a0_9⟩ ⟨zq1, zq0⟩ (by decide) (by decide)
    have bx35 : (1 : Int) ≤ x35.toInt ∧ x35.toInt ≤ 6 := ⟨by rw [qx35]; exact Int.add_le_add ba0_9_l zq1, by rw [qx35]; exact Int.add_le_add u6f_a0_9 zq0⟩
    have wx35 : x35.toInt = a0_9.toInt + 1 := qx35
    have hF0 := hF0.trans (fl_lt_eq (show x35.toInt = a0_9.toInt + 1 from qx35))
    refine va_put (D := (dC, dI)) (ci := 0) (v := .int x35) (ty := .int) (C := RX0) (T := TX0) (N := 15) hx hb hts zi_X0_addSeen_0 tyX0 tyX0_ok nmX0 hown hK hP hD hS 0 rfl rfl 9 (by decide) (hts (.fieldLink RX0 42 "WaxTurns$Hall" "seenCount" "I") (List.mem_cons_of_mem _ (List.mem_append_left _ (List.mem_of_getElem? (i := 0) rfl)))) (fun _ h9 => h9) rfl (tyX0_ok 9 (by decide)) rfl rfl (Nat.le_of_ble_eq_true rfl) dX0_addSeen_36 (fun H locs hP hD hS => ?_)
    refine zs_0 (y := (a0, .inr (0, [a0g_0, a0g_1, a0g_2, a0g_3, a0g_4, a0g_5, a0g_6, a0g_7, a0g_8, .int x35, a0g_10, a0g_11, .ref a0_12, .ref a0_13, a0g_14]))) hP hD rfl (fun hP hD => ?_)
    have hFe : FX = (x35.toInt, (fl_A f18), (fl_A f28)) := hF0
    exact W.vret hx hb hr (fun t ht hW => ⟨⟨(), rfl, trivial, x35, f18, f28, ⟨Int.le_trans (by decide) bx35.1, bx35.2⟩, bf28, hFe, by rw [ht]; exact hP, va_K.moved hW.alike hK, hD⟩, hS.F ht⟩) hS.2.2 dX0_addSeen_39

set_option maxHeartbeats 4000000 in
set_option maxRecDepth 100000 in
theorem f_X0_isSeenMinute (l : Launch) (dC : Nat → ClassId) (dI : Nat → Nat → Nat) (sz : Nat) (a0 : Nat) (a1 : Int32) (a0g_0 a0g_1 a0g_2 a0g_3 a0g_4 a0g_5 a0g_6 a0g_7 a0g_8 a0g_10 a0g_11 a0g_12 a0g_14 : Value) (a0_9 : Int32) (a0_13 : Nat) (ka0_13 : ClassId) (fa0_13 : Nat → Int32) (ba0_9_l : (0 : Int) ≤ a0_9.toInt) (ba0_9_u : a0_9.toInt ≤ (6 : Int)) (bfa0_13 : (∀ k, (0 : Int) ≤ (fa0_13 k).toInt ∧ (fa0_13 k).toInt ≤ 999)) : zm l yX0_isSeenMinute wsX0_isSeenMinute ({ frames := 0, cells := 0, slots := 0, locals := 0 }) [.ref a0, .int a1] dC dI sz [(a0, .inr (0, [a0g_0, a0g_1, a0g_2, a0g_3, a0g_4, a0g_5, a0g_6, a0g_7, a0g_8, .int a0_9, a0g_10, a0g_11, a0g_12, .ref a0_13, a0g_14])), (a0_13, .inl (ka0_13, 6, .inl (fa0_13)))] [(ka0_13, .int)] (fun A _ => True) (fun A => va_Qi (fun (r : Int32) (_ : Unit) => ((r = 1 ∧ (0 : Int) ≤ a1.toInt ∧ a1.toInt ≤ (999 : Int) ∧ (1 : Int) ≤ a0_9.toInt ∧ a0_9.toInt ≤ (6 : Int)) ∨ (r = 0)) ∧ r.toInt = Ff_X0_isSeenMinute a1.toInt a0_9.toInt (fl_A fa0_13)) (fun (_ : Unit) (t : State) => ax_B dC dI A [(a0, .inr (0, [a0g_0, a0g_1, a0g_2, a0g_3, a0g_4, a0g_5, a0g_6, a0g_7, a0g_8, .int a0_9, a0g_10, a0g_11, a0g_12, .ref a0_13, a0g_14])), (a0_13, .inl (ka0_13, 6, .inl (fa0_13)))] [(ka0_13, .int)] t) A) := by
  refine zh (cc := cX0_isSeenMinute) (maxL := 3) (ret := (some .boolean)) zn_RX0 rfl (Nat.le_of_ble_eq_true rfl) (fun p e s m below meth c A ls hx hb hml hr hts (hown : s.vm.findClass RX0 = some m.cls) hlocks hA hS hP hK hD hE (hl : lv_has ls 3 [(0, .ref a0), (1, .int a1)]) => ?_)
  generalize hFX : Ff_X0_isSeenMinute a1.toInt a0_9.toInt (fl_A fa0_13) = FX at ⊢
  have hF0 := hFX.symm.trans (Ff_X0_isSeenMinute.eq_1 a1.toInt a0_9.toInt (fl_A fa0_13))
  refine ai_open (fun K hK0 => ?_)
  refine (hK0 _ _ _).mpr ?_
  refine lv_iconst (v := 0) hx hb dX0_isSeenMinute_0 zk_iconst_0 ?_
  refine lv_istore_n (lv' := [(2, .int 0), (0, .ref a0), (1, .int a1)]) hx hb dX0_isSeenMinute_1 rfl hl (by decide) rfl (fun ls hl => ?_)
  have J2 : ∀ (n : Nat) (j2l2 : Int32) (H : Heap) (locs : List Loc) (ls : Array Slot), (7 : Int) - j2l2.toInt ≤ (n : Int) → (0 : Int) ≤ j2l2.toInt → j2l2.toInt ≤ (6 : Int) → (FX = fl_wh (Sf_X0_isSeenMinute_2_1 a1.toInt a0_9.toInt (fl_A fa0_13)) 0 n j2l2.toInt) → va_P (dC, dI) vwCl [(a0, .inr (0, [a0g_0, a0g_1, a0g_2, a0g_3, a0g_4, a0g_5, a0g_6, a0g_7, a0g_8, .int a0_9, a0g_10, a0g_11, a0g_12, .ref a0_13, a0g_14])), (a0_13, .inl (ka0_13, 6, .inl (fa0_13)))] H → va_D A [(a0, .inr (0, [a0g_0, a0g_1, a0g_2, a0g_3, a0g_4, a0g_5, a0g_6, a0g_7, a0g_8, .int a0_9, a0g_10, a0g_11, a0g_12, .ref a0_13, a0g_14])), (a0_13, .inl (ka0_13, 6, .inl (fa0_13)))] → va_S A s.heap H locs → lv_has ls 3 [(0, .ref a0), (1, .int a1), (2, .int j2l2)] → K H locs (F0 m 2 ls []) := by
    intro n
    induction n with
    | zero =>
      intro j2l2 H locs ls hm bj2l2_l bj2l2_u hF0 hP hD hS hl
      first | exact zg_0 hm bj2l2_u (by decide) | (have h8 := ai_min j2l2; have h9 := ai_max j2l2; exact absurd hm (by omega))
    | succ n ih2 =>
      intro j2l2 H locs ls hm bj2l2_l bj2l2_u hF0 hP hD hS hl
      refine (hK0 _ _ _).mpr ?_
      have hm2 := hm
      obtain ⟨SX2, hSX2⟩ : ∃ q9, Sf_X0_isSeenMinute_2_1 a1.toInt a0_9.toInt (fl_A fa0_13) j2l2.toInt = q9 := ⟨_, rfl⟩
      have hF1 := hSX2.symm.trans (Sf_X0_isSeenMinute_2_1.eq_1 a1.toInt a0_9.toInt (fl_A fa0_13) j2l2.toInt)
      refine lv_iload_n hx hb dX0_isSeenMinute_2 rfl (lv_at hl 2 rfl) ?_
      refine lv_aload_n hx hb dX0_isSeenMinute_3 rfl (lv_at hl 0 rfl) ?_
      refine va_get (D := (dC, dI)) (ci := 0) (v := .int a0_9) (C := RX0) (T := TX0) (N := 15) hx hb hts zi_X0_isSeenMinute_0 hown hK hP 0 rfl rfl 9 (by decide) (hts (.fieldLink RX0 42 "WaxTurns$Hall" "seenCount" "I") (List.mem_cons_of_mem _ (List.mem_append_left _ (List.mem_of_getElem? (i := 0) rfl)))) (fun _ h9 => h9) rfl dX0_isSeenMinute_4 ?_
      refine lv_icmp_ge (tgt := 28) hx hb dX0_isSeenMinute_7 (by decide) (fun c7 => ?_) (fun c7 => ?_)
      · have gc7 := ai_le c7
        have u7t_a0_9 : a0_9.toInt ≤ (6 : Int) := ba0_9_u
        have l7t_j2l2 : (0 : Int) ≤ j2l2.toInt := bj2l2_l
        have hF1 := hF1.trans (if_pos (show a0_9.toInt ≤ j2l2.toInt from gc7))
        have hF0 := hF0.trans (fl_wh_r (hSX2.trans hF1))
        refine lv_iconst (v := 0) hx hb dX0_isSeenMinute_28 zk_iconst_0 ?_
        have hFe : FX = 0 := hF0
        exact W.zret (v := 0) hx hb hr rfl (fun t ht hW => ⟨⟨0, (), rfl, ⟨(Or.inr (rfl)), hFe.symm⟩, by rw [ht]; exact hP, va_K.moved hW.alike hK, hD⟩, hS.F ht⟩) hS.2.2 dX0_isSeenMinute_29
      · have gc7 := ai_nle c7
        have u7f_j2l2 : j2l2.toInt ≤ (5 : Int) := ai_lthi gc7 ba0_9_u
        have l7f_a0_9 : (1 : Int) ≤ a0_9.toInt := ai_ltlo gc7 bj2l2_l
        have hF1 := hF1.trans (if_neg (show ¬ (a0_9.toInt ≤ j2l2.toInt) from Int.not_le.mpr gc7))
        refine lv_aload_n hx hb dX0_isSeenMinute_10 rfl (lv_at hl 0 rfl) ?_
        refine va_get (D := (dC, dI)) (ci := 0) (v := .ref a0_13) (C := RX0) (T := TX0) (N := 15) hx hb hts zi_X0_isSeenMinute_0 hown hK hP 0 rfl rfl 13 (by decide) (hts (.fieldLink RX0 21 "WaxTurns$Hall" "seenMinutes" "[I") (List.mem_cons_of_mem _ (List.mem_append_left _ (List.mem_of_getElem? (i := 1) rfl)))) (fun _ h9 => h9) rfl dX0_isSeenMinute_11 ?_
        refine lv_iload_n hx hb dX0_isSeenMinute_14 rfl (lv_at hl 2 rfl) ?_
        refine va_iald hx hb hK hP 1 0 rfl rfl (ai_in bj2l2_l u7f_j2l2 (by decide) (by decide)) dX0_isSeenMinute_15 ?_
        refine lv_topi (fun x15 ex15 => ?_)
        have bx15 : (0 : Int) ≤ x15.toInt ∧ x15.toInt ≤ 999 := by rw [ex15]; exact bfa0_13 _
        have fqx15 := congrArg Int32.toInt ex15
        have hF1 := hF1.trans (fl_lt_eq (show x15.toInt = (fl_A fa0_13) (j2l2.toInt.toNat) from fqx15))
        refine lv_iload_n hx hb dX0_isSeenMinute_16 rfl (lv_at hl 1 rfl) ?_
        refine lv_icmp_ne (tgt := 22) hx hb dX0_isSeenMinute_17 (by decide) (fun c17 => ?_) (fun c17 => ?_)
        · have gc17 := ai_ne c17
          have hF1 := hF1.trans (if_neg (show ¬ (x15.toInt = a1.toInt) from  gc17))
          obtain ⟨x22, ex22⟩ : ∃ y : Int32, y = j2l2 + Int32.ofInt 1 := ⟨_, rfl⟩
          have qx22 : x22.toInt = j2l2.toInt + 1 := ai_inc ex22 (by decide) (by decide) u7f_j2l2 (by decide)
          have bx22 : (1 : Int) ≤ x22.toInt ∧ x22.toInt ≤ 6 := ⟨by rw [qx22]; exact Int.add_le_add bj2l2_l (Int.le_refl _), by rw [qx22]; exact Int.add_le_add u7f_j2l2 (Int.le_refl _)⟩
          refine lv_iinc (v := x22) (lv' := [(2, .int x22), (0, .ref a0), (1, .int a1)]) hx hb dX0_isSeenMinute_22 hl (k := 2) rfl ex22.symm (by decide) rfl (fun ls hl => ?_)
          have hF1 := hF1.trans (fl_lt_eq (show x22.toInt = j2l2.toInt + 1 from qx22))
          refine lv_goto (tgt := 2) hx hb dX0_isSeenMinute_25 (by decide) ?_
          exact (hK0 _ _ _).mp (ih2 x22 _ _ _ (by first | exact zg_s hm2 qx22 | (have h0 := qx22; omega)) (Int.le_trans zq4 bx22.1) bx22.2 (hF0.trans (fl_wh_l (hSX2.trans hF1))) hP hD hS (lv_sub hl [1, 2, 0] rfl))
        · have gc17 := ai_eq c17
          have u17f_a1 : a1.toInt ≤ (999 : Int) := Int.le_trans (Int.le_of_eq gc17.symm) bx15.2
          have l17f_a1 : (0 : Int) ≤ a1.toInt := Int.le_trans bx15.1 (Int.le_of_eq gc17)
          have hF1 := hF1.trans (if_pos (show x15.toInt = a1.toInt from gc17))
          have hF0 := hF0.trans (fl_wh_r (hSX2.trans hF1))
          refine lv_iconst (v := 1) hx hb dX0_isSeenMinute_20 zk_iconst_1 ?_
          have hFe : FX = 1 := hF0
          exact W.zret (v := 1) hx hb hr rfl (fun t ht hW => ⟨⟨1, (), rfl, ⟨(Or.inl ⟨rfl, l17f_a1, u17f_a1, l7f_a0_9, ba0_9_u⟩), hFe.symm⟩, by rw [ht]; exact hP, va_K.moved hW.alike hK, hD⟩, hS.F ht⟩) hS.2.2 dX0_isSeenMinute_21
  exact (hK0 _ _ _).mp (J2 7 0 _ _ _ (by first | decide +kernel | (have h1 : (0 : Int) ≤ (0 : Int32).toInt := zq5; have h2 : (0 : Int32).toInt ≤ (0 : Int) := zq6; omega)) zq5 (Int.le_trans zq6 zq17) (by rw [show (0 : Int32).toInt = 0 from by decide]; exact hF0) hP hD hS (lv_sub hl [1, 2, 0] rfl))

set_option maxHeartbeats 4000000 in
set_option maxRecDepth 100000 in
theorem f_X3_fails (l : Launch) (dC : Nat → ClassId) (dI : Nat → Nat → Nat) (sz : Nat) (a0 : Nat) (a1 : Int32) (a0g_0 a0g_3 a0g_4 a0g_5 a0g_6 a0g_7 a0g_9 a0g_10 a0g_11 a0g_12 a0g_13 : Value) (a0_1 : Int32) (a0_2 : Int32) (a0_8 : Int32) (ba0_8_l : (0 : Int) ≤ a0_8.toInt) (ba0_8_u : a0_8.toInt ≤ (900 : Int)) : zm l yX3_fails wsX3_fails ({ frames := 0, cells := 0, slots := 0, locals := 0 }) [.ref a0, .int a1] dC dI sz [(a0, .inr (3, [a0g_0, .int a0_1, .int a0_2, a0g_3, a0g_4, a0g_5, a0g_6, a0g_7, .int a0_8, a0g_9, a0g_10, a0g_11, a0g_12, a0g_13]))] [] (fun A _ => True) (fun A => va_Qi (fun (r : Int32) (_ : Unit) => (r = 0) ∧ r.toInt = (Ff_X3_fails a1.toInt a0_8.toInt).1) (fun (_ : Unit) (t : State) => ∃ na0_1 : Int32, ∃ na0_2 : Int32, ((Ff_X3_fails a1.toInt a0_8.toInt).2 = (na0_1.toInt, na0_2.toInt)) ∧ ax_B dC dI A [(a0, .inr (3, [a0g_0, .int na0_1, .int na0_2, a0g_3, a0g_4, a0g_5, a0g_6, a0g_7, .int a0_8, a0g_9, a0g_10, a0g_11, a0g_12, a0g_13]))] [] t) A) := by
  refine zh (cc := cX3_fails) (maxL := 2) (ret := (some .boolean)) zn_RX3 rfl (Nat.le_of_ble_eq_true rfl) (fun p e s m below meth c A ls hx hb hml hr hts (hown : s.vm.findClass RX3 = some m.cls) hlocks hA hS hP hK hD hE (hl : lv_has ls 2 [(0, .ref a0), (1, .int a1)]) => ?_)
  generalize hFX : Ff_X3_fails a1.toInt a0_8.toInt = FX at ⊢
  have hF0 := hFX.symm.trans (Ff_X3_fails.eq_1 a1.toInt a0_8.toInt)
  refine lv_aload_n hx hb dX3_fails_0 rfl (lv_at hl 0 rfl) ?_
  refine lv_iload_n hx hb dX3_fails_1 rfl (lv_at hl 1 rfl) ?_
  refine va_put (D := (dC, dI)) (ci := 3) (v := .int a1) (ty := .int) (C := RX3) (T := TX3) (N := 14) hx hb hts zi_X3_fails_3 tyX3 tyX3_ok nmX3 hown hK hP hD hS 0 rfl rfl 1 (by decide) (hts (.fieldLink RX3 45 "WaxTurns$Reade\x72" "faultNumbe\x72" "I") (List.mem_cons_of_mem _ (List.mem_append_left _ (List.mem_of_getElem? (i := 0) rfl)))) (fun _ h9 => h9) rfl (tyX3_ok 1 (by decide)) rfl rfl (Nat.le_of_ble_eq_true rfl) dX3_fails_2 (fun H locs hP hD hS => ?_)
  refine zs_0 (y := (a0, .inr (3, [a0g_0, .int a1, .int a0_2, a0g_3, a0g_4, a0g_5, a0g_6, a0g_7, .int a0_8, a0g_9, a0g_10, a0g_11, a0g_12, a0g_13]))) hP hD rfl (fun hP hD => ?_)
  refine lv_aload_n hx hb dX3_fails_5 rfl (lv_at hl 0 rfl) ?_
  refine lv_aload_n hx hb dX3_fails_6 rfl (lv_at hl 0 rfl) ?_
  refine va_get (D := (dC, dI)) (ci := 3) (v := .int a0_8) (C := RX3) (T := TX3) (N := 14) hx hb hts zi_X3_fails_3 hown hK hP 0 rfl rfl 8 (by decide) (hts (.fieldLink RX3 72 "WaxTurns$Reade\x72" "start" "I") (List.mem_cons_of_mem _ (List.mem_append_left _ (List.mem_of_getElem? (i := 1) rfl)))) (fun _ h9 => h9) rfl dX3_fails_7 ?_
  refine va_put (D := (dC, dI)) (ci := 3) (v := .int a0_8) (ty := .int) (C := RX3) (T := TX3) (N := 14) hx hb hts zi_X3_fails_3 tyX3 tyX3_ok nmX3 hown hK hP hD hS 0 rfl rfl 2 (by decide) (hts (.fieldLink RX3 48 "WaxTurns$Reade\x72" "faultPlace" "I") (List.mem_cons_of_mem _ (List.mem_append_left _ (List.mem_of_getElem? (i := 2) rfl)))) (fun _ h9 => h9) rfl (tyX3_ok 2 (by decide)) rfl rfl (Nat.le_of_ble_eq_true rfl) dX3_fails_10 (fun H locs hP hD hS => ?_)
  refine zs_0 (y := (a0, .inr (3, [a0g_0, .int a1, .int a0_8, a0g_3, a0g_4, a0g_5, a0g_6, a0g_7, .int a0_8, a0g_9, a0g_10, a0g_11, a0g_12, a0g_13]))) hP hD rfl (fun hP hD => ?_)
  refine lv_iconst (v := 0) hx hb dX3_fails_13 zk_iconst_0 ?_
  have hFe : FX = (0, a1.toInt, a0_8.toInt) := hF0
  exact W.zret (v := 0) hx hb hr rfl (fun t ht hW => ⟨⟨0, (), rfl, ⟨rfl, (congrArg Prod.fst hFe).symm⟩, a1, a0_8, (congrArg Prod.snd hFe), by rw [ht]; exact hP, va_K.moved hW.alike hK, hD⟩, hS.F ht⟩) hS.2.2 dX3_fails_14

set_option maxHeartbeats 4000000 in
set_option maxRecDepth 100000 in
theorem f_X3_scanWord (l : Launch) (dC : Nat → ClassId) (dI : Nat → Nat → Nat) (sz : Nat) (a0 : Nat) (a0g_0 a0g_1 a0g_2 a0g_4 a0g_5 a0g_6 a0g_12 a0g_13 : Value) (a0_3 : Nat) (a0_7 : Int32) (a0_8 : Int32) (a0_9 : Int32) (a0_10 : Int32) (a0_11 : Int64) (ka0_3 : ClassId) (fa0_3 : Nat → Int32) (ba0_7_l : (0 : Int) ≤ a0_7.toInt) (ba0_7_u : a0_7.toInt ≤ (900 : Int)) (ba0_8_l : (0 : Int) ≤ a0_8.toInt) (ba0_8_u : a0_8.toInt ≤ (900 : Int)) (ba0_9_l : (0 : Int) ≤ a0_9.toInt) (ba0_9_u : a0_9.toInt ≤ (900 : Int)) (ba0_10_l : (0 : Int) ≤ a0_10.toInt) (ba0_10_u : a0_10.toInt ≤ (4 : Int)) : zm l yX3_scanWord wsX3_scanWord ({ frames := 0, cells := 0, slots := 0, locals := 0 }) [.ref a0] dC dI sz [(a0, .inr (3, [a0g_0, a0g_1, a0g_2, .ref a0_3, a0g_4, a0g_5, a0g_6, .int a0_7, .int a0_8, .int a0_9, .int a0_10, .long a0_11, a0g_12, a0g_13])), (a0_3, .inl (ka0_3, 900, .inl (fa0_3)))] [(ka0_3, .byte)] (fun A _ => True) (fun A => va_Qv (fun (_ : Unit) => True) (fun (_ : Unit) (t : State) => ∃ na0_9 : Int32, ∃ na0_10 : Int32, ∃ na0_11 : Int64, ((0 : Int) ≤ na0_9.toInt ∧ na0_9.toInt ≤ 900) ∧ ((0 : Int) ≤ na0_10.toInt ∧ na0_10.toInt ≤ 4) ∧ (Ff_X3_scanWord a0_7.toInt a0_8.toInt a0_9.toInt (fl_A fa0_3) = (na0_9.toInt, na0_10.toInt, na0_11.toInt)) ∧ ax_B dC dI A [(a0, .inr (3, [a0g_0, a0g_1, a0g_2, .ref a0_3, a0g_4, a0g_5, a0g_6, .int a0_7, .int a0_8, .int na0_9, .int na0_10, .long na0_11, a0g_12, a0g_13])), (a0_3, .inl (ka0_3, 900, .inl (fa0_3)))] [(ka0_3, .byte)] t) A) := by
  refine zh (cc := cX3_scanWord) (maxL := 1) (ret := none) zn_RX3 rfl (Nat.le_of_ble_eq_true rfl) (fun p e s m below meth c A ls hx hb hml hr hts (hown : s.vm.findClass RX3 = some m.cls) hlocks hA hS hP hK hD hE (hl : lv_has ls 1 [(0, .ref a0)]) => ?_)
  generalize hFX : Ff_X3_scanWord a0_7.toInt a0_8.toInt a0_9.toInt (fl_A fa0_3) = FX at ⊢
  have hF0 := hFX.symm.trans (Ff_X3_scanWord.eq_1 a0_7.toInt a0_8.toInt a0_9.toInt (fl_A fa0_3))
  refine ai_open (fun K hK0 => ?_)
  refine (hK0 _ _ _).mpr ?_
  refine lv_aload_n hx hb dX3_scanWord_0 rfl (lv_at hl 0 rfl) ?_
  refine lv_lconst (v := 0) hx hb dX3_scanWord_1 (by decide) ?_
  refine va_put (D := (dC, dI)) (ci := 3) (v := .long 0) (ty := .long) (C := RX3) (T := TX3) (N := 14) hx hb hts zi_X3_scanWord_3 tyX3 tyX3_ok nmX3 hown hK hP hD hS 0 rfl rfl 11 (by decide) (hts (.fieldLink RX3 81 "WaxTurns$Reade\x72" "word" "J") (List.mem_cons_of_mem _ (List.mem_append_left _ (List.mem_of_getElem? (i := 0) rfl)))) (fun _ h9 => h9) rfl (tyX3_ok 11 (by decide)) rfl rfl (Nat.le_of_ble_eq_true rfl) dX3_scanWord_2 (fun H locs hP hD hS => ?_)
  refine zs_0 (y := (a0, .inr (3, [a0g_0, a0g_1, a0g_2, .ref a0_3, a0g_4, a0g_5, a0g_6, .int a0_7, .int a0_8, .int a0_9, .int a0_10, .long 0, a0g_12, a0g_13]))) hP hD rfl (fun hP hD => ?_)
  have J5 : ∀ (n : Nat) (j5a0_9 : Int32) (j5a0_11 : Int64) (H : Heap) (locs : List Loc) (ls : Array Slot), (901 : Int) - j5a0_9.toInt ≤ (n : Int) → (0 : Int) ≤ j5a0_9.toInt → j5a0_9.toInt ≤ (900 : Int) → (FX = fl_wh (fun t9 => Sf_X3_scanWord_5_1 a0_7.toInt a0_8.toInt (fl_A fa0_3) t9.1 t9.2) (0, 0, 0) n (j5a0_9.toInt, j5a0_11.toInt)) → va_P (dC, dI) vwCl [(a0, .inr (3, [a0g_0, a0g_1, a0g_2, .ref a0_3, a0g_4, a0g_5, a0g_6, .int a0_7, .int a0_8, .int j5a0_9, .int a0_10, .long j5a0_11, a0g_12, a0g_13])), (a0_3, .inl (ka0_3, 900, .inl (fa0_3)))] H → va_D A [(a0, .inr (3, [a0g_0, a0g_1, a0g_2, .ref a0_3, a0g_4, a0g_5, a0g_6, .int a0_7, .int a0_8, .int j5a0_9, .int a0_10, .long j5a0_11, a0g_12, a0g_13])), (a0_3, .inl (ka0_3, 900, .inl (fa0_3)))] → va_S A s.heap H locs → lv_has ls 1 [(0, .ref a0)] → K H locs (F0 m 5 ls []) := by
    intro n
    induction n with
    | zero =>
      intro j5a0_9 j5a0_11 H locs ls hm bj5a0_9_l bj5a0_9_u hF0 hP hD hS hl
      first | exact zg_0 hm bj5a0_9_u (by decide) | (have h8 := ai_min j5a0_9; have h9 := ai_max j5a0_9; exact absurd hm (by omega))
    | succ n ih5 =>
      intro j5a0_9 j5a0_11 H locs ls hm bj5a0_9_l bj5a0_9_u hF0 hP hD hS hl
      refine (hK0 _ _ _).mpr ?_
      have hm5 := hm
      obtain ⟨SX5, hSX5⟩ : ∃ q9, Sf_X3_scanWord_5_1 a0_7.toInt a0_8.toInt (fl_A fa0_3) j5a0_9.toInt j5a0_11.toInt = q9 := ⟨_, rfl⟩
      have hF1 := hSX5.symm.trans (Sf_X3_scanWord_5_1.eq_1 a0_7.toInt a0_8.toInt (fl_A fa0_3) j5a0_9.toInt j5a0_11.toInt)
      refine lv_aload_n hx hb dX3_scanWord_5 rfl (lv_at hl 0 rfl) ?_
      refine va_get (D := (dC, dI)) (ci := 3) (v := .int j5a0_9) (C := RX3) (T := TX3) (N := 14) hx hb hts zi_X3_scanWord_3 hown hK hP 0 rfl rfl 9 (by decide) (hts (.fieldLink RX3 51 "WaxTurns$Reade\x72" "behind" "I") (List.mem_cons_of_mem _ (List.mem_append_left _ (List.mem_of_getElem? (i := 1) rfl)))) (fun _ h9 => h9) rfl dX3_scanWord_6 ?_
      refine lv_aload_n hx hb dX3_scanWord_9 rfl (lv_at hl 0 rfl) ?_
      refine va_get (D := (dC, dI)) (ci := 3) (v := .int a0_7) (C := RX3) (T := TX3) (N := 14) hx hb hts zi_X3_scanWord_3 hown hK hP 0 rfl rfl 7 (by decide) (hts (.fieldLink RX3 36 "WaxTurns$Reade\x72" "end" "I") (List.mem_cons_of_mem _ (List.mem_append_left _ (List.mem_of_getElem? (i := 2) rfl)))) (fun _ h9 => h9) rfl dX3_scanWord_10 ?_
      have J79 : ∀ (H : Heap) (locs : List Loc) (ls : Array Slot), (FX = Gf_X3_scanWord_79_1 a0_8.toInt j5a0_9.toInt j5a0_11.toInt) → va_P (dC, dI) vwCl [(a0, .inr (3, [a0g_0, a0g_1, a0g_2, .ref a0_3, a0g_4, a0g_5, a0g_6, .int a0_7, .int a0_8, .int j5a0_9, .int a0_10, .long j5a0_11, a0g_12, a0g_13])), (a0_3, .inl (ka0_3, 900, .inl (fa0_3)))] H → va_D A [(a0, .inr (3, [a0g_0, a0g_1, a0g_2, .ref a0_3, a0g_4, a0g_5, a0g_6, .int a0_7, .int a0_8, .int j5a0_9, .int a0_10, .long j5a0_11, a0g_12, a0g_13])), (a0_3, .inl (ka0_3, 900, .inl (fa0_3)))] → va_S A s.heap H locs → lv_has ls 1 [(0, .ref a0)] → K H locs (F0 m 79 ls []) := by
        intro  H locs ls  hF0 hP hD hS hl
        refine (hK0 _ _ _).mpr ?_
        have hF0 := hF0.trans (Gf_X3_scanWord_79_1.eq_1 a0_8.toInt j5a0_9.toInt j5a0_11.toInt)
        refine lv_aload_n hx hb dX3_scanWord_79 rfl (lv_at hl 0 rfl) ?_
        refine lv_aload_n hx hb dX3_scanWord_80 rfl (lv_at hl 0 rfl) ?_
        refine va_get (D := (dC, dI)) (ci := 3) (v := .int j5a0_9) (C := RX3) (T := TX3) (N := 14) hx hb hts zi_X3_scanWord_3 hown hK hP 0 rfl rfl 9 (by decide) (hts (.fieldLink RX3 51 "WaxTurns$Reade\x72" "behind" "I") (List.mem_cons_of_mem _ (List.mem_append_left _ (List.mem_of_getElem? (i := 1) rfl)))) (fun _ h9 => h9) rfl dX3_scanWord_81 ?_
        refine lv_aload_n hx hb dX3_scanWord_84 rfl (lv_at hl 0 rfl) ?_
        refine va_get (D := (dC, dI)) (ci := 3) (v := .int a0_8) (C := RX3) (T := TX3) (N := 14) hx hb hts zi_X3_scanWord_3 hown hK hP 0 rfl rfl 8 (by decide) (hts (.fieldLink RX3 72 "WaxTurns$Reade\x72" "start" "I") (List.mem_cons_of_mem _ (List.mem_append_left _ (List.mem_of_getElem? (i := 4) rfl)))) (fun _ h9 => h9) rfl dX3_scanWord_85 ?_
        refine lv_isub hx hb dX3_scanWord_88 ?_
        refine lv_topi (fun x88 ex88 => ?_)
        have qx88 : x88.toInt = j5a0_9.toInt - a0_8.toInt := ai_sub ex88 ⟨bj5a0_9_l, bj5a0_9_u⟩ ⟨ba0_8_l, ba0_8_u⟩ (by decide) (by decide)
        have bx88 : (-900 : Int) ≤ x88.toInt ∧ x88.toInt ≤ 900 := ⟨by rw [qx88]; exact Int.sub_le_sub bj5a0_9_l ba0_8_u, by rw [qx88]; exact Int.sub_le_sub bj5a0_9_u ba0_8_l⟩
        have hF0 := hF0.trans (fl_lt_eq (show x88.toInt = j5a0_9.toInt - a0_8.toInt from qx88))
        refine lv_bipush (v := 8) hx hb dX3_scanWord_89 zk_bipush_8 ?_
        have J99 : ∀ (j99s0 : Int32) (H : Heap) (locs : List Loc) (ls : Array Slot), (1 : Int) ≤ j99s0.toInt → j99s0.toInt ≤ (4 : Int) → (FX = Gf_X3_scanWord_99_1 j5a0_9.toInt j5a0_11.toInt j99s0.toInt) → va_P (dC, dI) vwCl [(a0, .inr (3, [a0g_0, a0g_1, a0g_2, .ref a0_3, a0g_4, a0g_5, a0g_6, .int a0_7, .int a0_8, .int j5a0_9, .int a0_10, .long j5a0_11, a0g_12, a0g_13])), (a0_3, .inl (ka0_3, 900, .inl (fa0_3)))] H → va_D A [(a0, .inr (3, [a0g_0, a0g_1, a0g_2, .ref a0_3, a0g_4, a0g_5, a0g_6, .int a0_7, .int a0_8, .int j5a0_9, .int a0_10, .long j5a0_11, a0g_12, a0g_13])), (a0_3, .inl (ka0_3, 900, .inl (fa0_3)))] → va_S A s.heap H locs → lv_has ls 1 [] → K H locs (F0 m 99 ls [.int j99s0, .ref a0]) := by
          intro j99s0 H locs ls  bj99s0_l bj99s0_u hF0 hP hD hS hl
          refine (hK0 _ _ _).mpr ?_
          have hF0 := hF0.trans (Gf_X3_scanWord_99_1.eq_1 j5a0_9.toInt j5a0_11.toInt j99s0.toInt)
          refine va_put (D := (dC, dI)) (ci := 3) (v := .int j99s0) (ty := .int) (C := RX3) (T := TX3) (N := 14) hx hb hts zi_X3_scanWord_3 tyX3 tyX3_ok nmX3 hown hK hP hD hS 0 rfl rfl 10 (by decide) (hts (.fieldLink RX3 61 "WaxTurns$Reade\x72" "token" "I") (List.mem_cons_of_mem _ (List.mem_append_left _ (List.mem_of_getElem? (i := 5) rfl)))) (fun _ h9 => h9) rfl (tyX3_ok 10 (by decide)) rfl rfl (Nat.le_of_ble_eq_true rfl) dX3_scanWord_99 (fun H locs hP hD hS => ?_)
          refine zs_0 (y := (a0, .inr (3, [a0g_0, a0g_1, a0g_2, .ref a0_3, a0g_4, a0g_5, a0g_6, .int a0_7, .int a0_8, .int j5a0_9, .int j99s0, .long j5a0_11, a0g_12, a0g_13]))) hP hD rfl (fun hP hD => ?_)
          have hFe : FX = (j5a0_9.toInt, j99s0.toInt, j5a0_11.toInt) := hF0
          exact W.vret hx hb hr (fun t ht hW => ⟨⟨(), rfl, trivial, j5a0_9, j99s0, j5a0_11, ⟨bj5a0_9_l, bj5a0_9_u⟩, ⟨Int.le_trans (by decide) bj99s0_l, bj99s0_u⟩, hFe, by rw [ht]; exact hP, va_K.moved hW.alike hK, hD⟩, hS.F ht⟩) hS.2.2 dX3_scanWord_102
        refine lv_icmp_gt (tgt := 98) hx hb dX3_scanWord_91 (by decide) (fun c91 => ?_) (fun c91 => ?_)
        · have gc91 := ai_lt c91
          have l91t_x88 : (9 : Int) ≤ x88.toInt := ai_ltlo gc91 zq116
          have hF0 := hF0.trans (if_pos (show 8 < x88.toInt from gc91))
          refine lv_iconst (v := 4) hx hb dX3_scanWord_98 zk_iconst_4 ?_
          exact (hK0 _ _ _).mp (J99 4 _ _ _  (Int.le_trans zq135 zq68) zq67 (by rw [show (4 : Int32).toInt = 4 from by decide]; exact hF0) hP hD hS (lv_sub hl [] rfl))
        · have gc91 := ai_nlt c91
          have u91f_x88 : x88.toInt ≤ (8 : Int) := Int.le_trans gc91 zq28
          have hF0 := hF0.trans (if_neg (show ¬ (8 < x88.toInt) from Int.not_lt.mpr gc91))
          refine lv_iconst (v := 1) hx hb dX3_scanWord_94 zk_iconst_1 ?_
          refine lv_goto (tgt := 99) hx hb dX3_scanWord_95 (by decide) ?_
          exact (hK0 _ _ _).mp (J99 1 _ _ _  zq1 (Int.le_trans zq0 zq135) (by rw [show (1 : Int32).toInt = 1 from by decide]; exact hF0) hP hD hS (lv_sub hl [] rfl))
      refine lv_icmp_ge (tgt := 79) hx hb dX3_scanWord_13 (by decide) (fun c13 => ?_) (fun c13 => ?_)
      · have gc13 := ai_le c13
        have u13t_a0_7 : a0_7.toInt ≤ (900 : Int) := ba0_7_u
        have l13t_j5a0_9 : (0 : Int) ≤ j5a0_9.toInt := bj5a0_9_l
        have hF1 := hF1.trans (if_pos (show a0_7.toInt ≤ j5a0_9.toInt from gc13))
        have hF0 := hF0.trans (fl_wh_r (hSX5.trans hF1))
        exact (hK0 _ _ _).mp (J79  _ _ _   hF0 hP hD hS (lv_sub hl [0] rfl))
      · have gc13 := ai_nle c13
        have u13f_j5a0_9 : j5a0_9.toInt ≤ (899 : Int) := ai_lthi gc13 ba0_7_u
        have l13f_a0_7 : (1 : Int) ≤ a0_7.toInt := ai_ltlo gc13 bj5a0_9_l
        have hF1 := hF1.trans (if_neg (show ¬ (a0_7.toInt ≤ j5a0_9.toInt) from Int.not_le.mpr gc13))
        refine lv_aload_n hx hb dX3_scanWord_16 rfl (lv_at hl 0 rfl) ?_
        refine va_get (D := (dC, dI)) (ci := 3) (v := .ref a0_3) (C := RX3) (T := TX3) (N := 14) hx hb hts zi_X3_scanWord_3 hown hK hP 0 rfl rfl 3 (by decide) (hts (.fieldLink RX3 9 "WaxTurns$Reade\x72" "tape" "[B") (List.mem_cons_of_mem _ (List.mem_append_left _ (List.mem_of_getElem? (i := 3) rfl)))) (fun _ h9 => h9) rfl dX3_scanWord_17 ?_
        refine lv_aload_n hx hb dX3_scanWord_20 rfl (lv_at hl 0 rfl) ?_
        refine va_get (D := (dC, dI)) (ci := 3) (v := .int j5a0_9) (C := RX3) (T := TX3) (N := 14) hx hb hts zi_X3_scanWord_3 hown hK hP 0 rfl rfl 9 (by decide) (hts (.fieldLink RX3 51 "WaxTurns$Reade\x72" "behind" "I") (List.mem_cons_of_mem _ (List.mem_append_left _ (List.mem_of_getElem? (i := 1) rfl)))) (fun _ h9 => h9) rfl dX3_scanWord_21 ?_
        refine va_bald hx hb hK hP 1 0 rfl rfl (ai_in bj5a0_9_l u13f_j5a0_9 (by decide) (by decide)) dX3_scanWord_24 ?_
        refine lv_topi (fun x24 ex24 => ?_)
        have fqx24 := congrArg Int32.toInt ex24
        have hF1 := hF1.trans (fl_lt_eq (show x24.toInt = (fl_A fa0_3) (j5a0_9.toInt.toNat) from fqx24))
        refine lv_bipush (v := 97) hx hb dX3_scanWord_25 zk_bipush_97 ?_
        refine lv_icmp_lt (tgt := 79) hx hb dX3_scanWord_27 (by decide) (fun c27 => ?_) (fun c27 => ?_)
        · have gc27 := ai_lt c27
          have u27t_x24 : x24.toInt ≤ (96 : Int) := ai_lthi gc27 zq136
          have hF1 := hF1.trans (if_pos (show x24.toInt < 97 from gc27))
          have hF0 := hF0.trans (fl_wh_r (hSX5.trans hF1))
          exact (hK0 _ _ _).mp (J79  _ _ _   hF0 hP hD hS (lv_sub hl [0] rfl))
        · have gc27 := ai_nlt c27
          have l27f_x24 : (97 : Int) ≤ x24.toInt := Int.le_trans zq137 gc27
          have hF1 := hF1.trans (if_neg (show ¬ (x24.toInt < 97) from Int.not_lt.mpr gc27))
          refine lv_aload_n hx hb dX3_scanWord_30 rfl (lv_at hl 0 rfl) ?_
          refine va_get (D := (dC, dI)) (ci := 3) (v := .ref a0_3) (C := RX3) (T := TX3) (N := 14) hx hb hts zi_X3_scanWord_3 hown hK hP 0 rfl rfl 3 (by decide) (hts (.fieldLink RX3 9 "WaxTurns$Reade\x72" "tape" "[B") (List.mem_cons_of_mem _ (List.mem_append_left _ (List.mem_of_getElem? (i := 3) rfl)))) (fun _ h9 => h9) rfl dX3_scanWord_31 ?_
          refine lv_aload_n hx hb dX3_scanWord_34 rfl (lv_at hl 0 rfl) ?_
          refine va_get (D := (dC, dI)) (ci := 3) (v := .int j5a0_9) (C := RX3) (T := TX3) (N := 14) hx hb hts zi_X3_scanWord_3 hown hK hP 0 rfl rfl 9 (by decide) (hts (.fieldLink RX3 51 "WaxTurns$Reade\x72" "behind" "I") (List.mem_cons_of_mem _ (List.mem_append_left _ (List.mem_of_getElem? (i := 1) rfl)))) (fun _ h9 => h9) rfl dX3_scanWord_35 ?_
          refine va_bald hx hb hK hP 1 0 rfl rfl (ai_in bj5a0_9_l u13f_j5a0_9 (by decide) (by decide)) dX3_scanWord_38 ?_
          refine ax_ti x24 ex24.symm ?_
          refine lv_bipush (v := 122) hx hb dX3_scanWord_39 zk_bipush_122 ?_
          refine lv_icmp_gt (tgt := 79) hx hb dX3_scanWord_41 (by decide) (fun c41 => ?_) (fun c41 => ?_)
          · have gc41 := ai_lt c41
            have l41t_x24 : (123 : Int) ≤ x24.toInt := ai_ltlo gc41 zq138
            have hF1 := hF1.trans (if_pos (show 122 < x24.toInt from gc41))
            have hF0 := hF0.trans (fl_wh_r (hSX5.trans hF1))
            exact (hK0 _ _ _).mp (J79  _ _ _   hF0 hP hD hS (lv_sub hl [0] rfl))
          · have gc41 := ai_nlt c41
            have u41f_x24 : x24.toInt ≤ (122 : Int) := Int.le_trans gc41 zq139
            have hF1 := hF1.trans (if_neg (show ¬ (122 < x24.toInt) from Int.not_lt.mpr gc41))
            refine lv_aload_n hx hb dX3_scanWord_44 rfl (lv_at hl 0 rfl) ?_
            refine lv_aload_n hx hb dX3_scanWord_45 rfl (lv_at hl 0 rfl) ?_
            refine va_get (D := (dC, dI)) (ci := 3) (v := .long j5a0_11) (C := RX3) (T := TX3) (N := 14) hx hb hts zi_X3_scanWord_3 hown hK hP 0 rfl rfl 11 (by decide) (hts (.fieldLink RX3 81 "WaxTurns$Reade\x72" "word" "J") (List.mem_cons_of_mem _ (List.mem_append_left _ (List.mem_of_getElem? (i := 0) rfl)))) (fun _ h9 => h9) rfl dX3_scanWord_46 ?_
            refine lv_bipush (v := 8) hx hb dX3_scanWord_49 zk_bipush_8 ?_
            refine lv_lshl hx hb dX3_scanWord_51 rfl ?_
            refine lv_topl (fun x51 ex51 => ?_)
            have fqx51 := fl_lshl_eq ex51
            have hF1 := hF1.trans (fl_lt_eq (show x51.toInt = fl_lshl j5a0_11.toInt 8 from fqx51))
            refine lv_aload_n hx hb dX3_scanWord_52 rfl (lv_at hl 0 rfl) ?_
            refine va_get (D := (dC, dI)) (ci := 3) (v := .ref a0_3) (C := RX3) (T := TX3) (N := 14) hx hb hts zi_X3_scanWord_3 hown hK hP 0 rfl rfl 3 (by decide) (hts (.fieldLink RX3 9 "WaxTurns$Reade\x72" "tape" "[B") (List.mem_cons_of_mem _ (List.mem_append_left _ (List.mem_of_getElem? (i := 3) rfl)))) (fun _ h9 => h9) rfl dX3_scanWord_53 ?_
            refine lv_aload_n hx hb dX3_scanWord_56 rfl (lv_at hl 0 rfl) ?_
            refine va_get (D := (dC, dI)) (ci := 3) (v := .int j5a0_9) (C := RX3) (T := TX3) (N := 14) hx hb hts zi_X3_scanWord_3 hown hK hP 0 rfl rfl 9 (by decide) (hts (.fieldLink RX3 51 "WaxTurns$Reade\x72" "behind" "I") (List.mem_cons_of_mem _ (List.mem_append_left _ (List.mem_of_getElem? (i := 1) rfl)))) (fun _ h9 => h9) rfl dX3_scanWord_57 ?_
            refine va_bald hx hb hK hP 1 0 rfl rfl (ai_in bj5a0_9_l u13f_j5a0_9 (by decide) (by decide)) dX3_scanWord_60 ?_
            refine ax_ti x24 ex24.symm ?_
            obtain ⟨x61, ex61⟩ : ∃ y : Int64, y = (x24 : Int32).toInt64 := ⟨_, rfl⟩
            refine lv_i2l (v := x61) hx hb dX3_scanWord_61 ex61.symm ?_
            have fqx61 := fl_i2l_eq ex61
            have hF1 := hF1.trans (fl_lt_eq (show x61.toInt = x24.toInt from fqx61))
            refine lv_lor hx hb dX3_scanWord_62 ?_
            refine lv_topl (fun x62 ex62 => ?_)
            have fqx62 := fl_lor_eq ex62
            have hF1 := hF1.trans (fl_lt_eq (show x62.toInt = fl_lor x51.toInt x61.toInt from fqx62))
            refine va_put (D := (dC, dI)) (ci := 3) (v := .long x62) (ty := .long) (C := RX3) (T := TX3) (N := 14) hx hb hts zi_X3_scanWord_3 tyX3 tyX3_ok nmX3 hown hK hP hD hS 0 rfl rfl 11 (by decide) (hts (.fieldLink RX3 81 "WaxTurns$Reade\x72" "word" "J") (List.mem_cons_of_mem _ (List.mem_append_left _ (List.mem_of_getElem? (i := 0) rfl)))) (fun _ h9 => h9) rfl (tyX3_ok 11 (by decide)) rfl rfl (Nat.le_of_ble_eq_true rfl) dX3_scanWord_63 (fun H locs hP hD hS => ?_)
            refine zs_0 (y := (a0, .inr (3, [a0g_0, a0g_1, a0g_2, .ref a0_3, a0g_4, a0g_5, a0g_6, .int a0_7, .int a0_8, .int j5a0_9, .int a0_10, .long x62, a0g_12, a0g_13]))) hP hD rfl (fun hP hD => ?_)
            refine lv_aload_n hx hb dX3_scanWord_66 rfl (lv_at hl 0 rfl) ?_
            refine lv_dup hx hb dX3_scanWord_67 rfl ?_
            refine va_get (D := (dC, dI)) (ci := 3) (v := .int j5a0_9) (C := RX3) (T := TX3) (N := 14) hx hb hts zi_X3_scanWord_3 hown hK hP 0 rfl rfl 9 (by decide) (hts (.fieldLink RX3 51 "WaxTurns$Reade\x72" "behind" "I") (List.mem_cons_of_mem _ (List.mem_append_left _ (List.mem_of_getElem? (i := 1) rfl)))) (fun _ h9 => h9) rfl dX3_scanWord_68 ?_
            refine lv_iconst (v := 1) hx hb dX3_scanWord_71 zk_iconst_1 ?_
            refine lv_iadd hx hb dX3_scanWord_72 ?_
            refine lv_topi (fun x72 ex72 => ?_)
            have qx72 : x72.toInt = j5a0_9.toInt + (1 : Int32).toInt := ai_add ex72 ⟨bj5a0_9_l, u13f_j5a0_9⟩ ⟨zq1, zq0⟩ (by decide) (by decide)
            have bx72 : (1 : Int) ≤ x72.toInt ∧ x72.toInt ≤ 900 := ⟨by rw [qx72]; exact Int.add_le_add bj5a0_9_l zq1, by rw [qx72]; exact Int.add_le_add u13f_j5a0_9 zq0⟩
            have wx72 : x72.toInt = j5a0_9.toInt + 1 := qx72
            have hF1 := hF1.trans (fl_lt_eq (show x72.toInt = j5a0_9.toInt + 1 from qx72))
            refine va_put (D := (dC, dI)) (ci := 3) (v := .int x72) (ty := .int) (C := RX3) (T := TX3) (N := 14) hx hb hts zi_X3_scanWord_3 tyX3 tyX3_ok nmX3 hown hK hP hD hS 0 rfl rfl 9 (by decide) (hts (.fieldLink RX3 51 "WaxTurns$Reade\x72" "behind" "I") (List.mem_cons_of_mem _ (List.mem_append_left _ (List.mem_of_getElem? (i := 1) rfl)))) (fun _ h9 => h9) rfl (tyX3_ok 9 (by decide)) rfl rfl (Nat.le_of_ble_eq_true rfl) dX3_scanWord_73 (fun H locs hP hD hS => ?_)
            refine zs_0 (y := (a0, .inr (3, [a0g_0, a0g_1, a0g_2, .ref a0_3, a0g_4, a0g_5, a0g_6, .int a0_7, .int a0_8, .int x72, .int a0_10, .long x62, a0g_12, a0g_13]))) hP hD rfl (fun hP hD => ?_)
            refine lv_goto (tgt := 5) hx hb dX3_scanWord_76 (by decide) ?_
            exact (hK0 _ _ _).mp (ih5 x72 x62 _ _ _ (by have h0 := qx72; omega) (Int.le_trans zq4 bx72.1) bx72.2 (hF0.trans (fl_wh_l (hSX5.trans hF1))) hP hD hS (lv_sub hl [0] rfl))
  exact (hK0 _ _ _).mp (J5 901 a0_9 0 _ _ _ (by have h1 : (0 : Int) ≤ a0_9.toInt := ba0_9_l; have h2 : a0_9.toInt ≤ (900 : Int) := ba0_9_u; omega) ba0_9_l ba0_9_u (by rw [show (0 : Int64).toInt = 0 from by decide]; exact hF0) hP hD hS (lv_sub hl [0] rfl))

set_option maxHeartbeats 4000000 in
set_option maxRecDepth 100000 in
theorem f_X3_scanWhole (l : Launch) (dC : Nat → ClassId) (dI : Nat → Nat → Nat) (sz : Nat) (a0 : Nat) (a0g_0 a0g_1 a0g_2 a0g_4 a0g_5 a0g_6 a0g_11 a0g_13 : Value) (a0_3 : Nat) (a0_7 : Int32) (a0_8 : Int32) (a0_9 : Int32) (a0_10 : Int32) (a0_12 : Int32) (ka0_3 : ClassId) (fa0_3 : Nat → Int32) (ba0_7_l : (0 : Int) ≤ a0_7.toInt) (ba0_7_u : a0_7.toInt ≤ (900 : Int)) (ba0_8_l : (0 : Int) ≤ a0_8.toInt) (ba0_8_u : a0_8.toInt ≤ (900 : Int)) (ba0_9_l : (0 : Int) ≤ a0_9.toInt) (ba0_9_u : a0_9.toInt ≤ (900 : Int)) (ba0_10_l : (0 : Int) ≤ a0_10.toInt) (ba0_10_u : a0_10.toInt ≤ (4 : Int)) : zm l yX3_scanWhole wsX3_scanWhole ({ frames := 0, cells := 0, slots := 0, locals := 0 }) [.ref a0] dC dI sz [(a0, .inr (3, [a0g_0, a0g_1, a0g_2, .ref a0_3, a0g_4, a0g_5, a0g_6, .int a0_7, .int a0_8, .int a0_9, .int a0_10, a0g_11, .int a0_12, a0g_13])), (a0_3, .inl (ka0_3, 900, .inl (fa0_3)))] [(ka0_3, .byte)] (fun A _ => True) (fun A => va_Qv (fun (_ : Unit) => True) (fun (_ : Unit) (t : State) => ∃ na0_9 : Int32, ∃ na0_10 : Int32, ∃ na0_12 : Int32, ((0 : Int) ≤ na0_9.toInt ∧ na0_9.toInt ≤ 900) ∧ ((0 : Int) ≤ na0_10.toInt ∧ na0_10.toInt ≤ 4) ∧ (Ff_X3_scanWhole a0_7.toInt a0_8.toInt a0_9.toInt (fl_A fa0_3) = (na0_9.toInt, na0_10.toInt, na0_12.toInt)) ∧ ax_B dC dI A [(a0, .inr (3, [a0g_0, a0g_1, a0g_2, .ref a0_3, a0g_4, a0g_5, a0g_6, .int a0_7, .int a0_8, .int na0_9, .int na0_10, a0g_11, .int na0_12, a0g_13])), (a0_3, .inl (ka0_3, 900, .inl (fa0_3)))] [(ka0_3, .byte)] t) A) := by
  refine zh (cc := cX3_scanWhole) (maxL := 1) (ret := none) zn_RX3 rfl (Nat.le_of_ble_eq_true rfl) (fun p e s m below meth c A ls hx hb hml hr hts (hown : s.vm.findClass RX3 = some m.cls) hlocks hA hS hP hK hD hE (hl : lv_has ls 1 [(0, .ref a0)]) => ?_)
  generalize hFX : Ff_X3_scanWhole a0_7.toInt a0_8.toInt a0_9.toInt (fl_A fa0_3) = FX at ⊢
  have hF0 := hFX.symm.trans (Ff_X3_scanWhole.eq_1 a0_7.toInt a0_8.toInt a0_9.toInt (fl_A fa0_3))
  refine ai_open (fun K hK0 => ?_)
  refine (hK0 _ _ _).mpr ?_
  refine lv_aload_n hx hb dX3_scanWhole_0 rfl (lv_at hl 0 rfl) ?_
  refine lv_iconst (v := 0) hx hb dX3_scanWhole_1 zk_iconst_0 ?_
  refine va_put (D := (dC, dI)) (ci := 3) (v := .int 0) (ty := .int) (C := RX3) (T := TX3) (N := 14) hx hb hts zi_X3_scanWhole_3 tyX3 tyX3_ok nmX3 hown hK hP hD hS 0 rfl rfl 12 (by decide) (hts (.fieldLink RX3 85 "WaxTurns$Reade\x72" "whole" "I") (List.mem_cons_of_mem _ (List.mem_append_left _ (List.mem_of_getElem? (i := 0) rfl)))) (fun _ h9 => h9) rfl (tyX3_ok 12 (by decide)) rfl rfl (Nat.le_of_ble_eq_true rfl) dX3_scanWhole_2 (fun H locs hP hD hS => ?_)
  refine zs_0 (y := (a0, .inr (3, [a0g_0, a0g_1, a0g_2, .ref a0_3, a0g_4, a0g_5, a0g_6, .int a0_7, .int a0_8, .int a0_9, .int a0_10, a0g_11, .int 0, a0g_13]))) hP hD rfl (fun hP hD => ?_)
  have J5 : ∀ (n : Nat) (j5a0_9 : Int32) (j5a0_12 : Int32) (H : Heap) (locs : List Loc) (ls : Array Slot), (901 : Int) - j5a0_9.toInt ≤ (n : Int) → (0 : Int) ≤ j5a0_9.toInt → j5a0_9.toInt ≤ (900 : Int) → (FX = fl_wh (fun t9 => Sf_X3_scanWhole_5_1 a0_7.toInt a0_8.toInt (fl_A fa0_3) t9.1 t9.2) (0, 0, 0) n (j5a0_9.toInt, j5a0_12.toInt)) → va_P (dC, dI) vwCl [(a0, .inr (3, [a0g_0, a0g_1, a0g_2, .ref a0_3, a0g_4, a0g_5, a0g_6, .int a0_7, .int a0_8, .int j5a0_9, .int a0_10, a0g_11, .int j5a0_12, a0g_13])), (a0_3, .inl (ka0_3, 900, .inl (fa0_3)))] H → va_D A [(a0, .inr (3, [a0g_0, a0g_1, a0g_2, .ref a0_3, a0g_4, a0g_5, a0g_6, .int a0_7, .int a0_8, .int j5a0_9, .int a0_10, a0g_11, .int j5a0_12, a0g_13])), (a0_3, .inl (ka0_3, 900, .inl (fa0_3)))] → va_S A s.heap H locs → lv_has ls 1 [(0, .ref a0)] → K H locs (F0 m 5 ls []) := by
    intro n
    induction n with
    | zero =>
      intro j5a0_9 j5a0_12 H locs ls hm bj5a0_9_l bj5a0_9_u hF0 hP hD hS hl
      first | exact zg_0 hm bj5a0_9_u (by decide) | (have h8 := ai_min j5a0_9; have h9 := ai_max j5a0_9; exact absurd hm (by omega))
    | succ n ih5 =>
      intro j5a0_9 j5a0_12 H locs ls hm bj5a0_9_l bj5a0_9_u hF0 hP hD hS hl
      refine (hK0 _ _ _).mpr ?_
      have hm5 := hm
      obtain ⟨SX5, hSX5⟩ : ∃ q9, Sf_X3_scanWhole_5_1 a0_7.toInt a0_8.toInt (fl_A fa0_3) j5a0_9.toInt j5a0_12.toInt = q9 := ⟨_, rfl⟩
      have hF1 := hSX5.symm.trans (Sf_X3_scanWhole_5_1.eq_1 a0_7.toInt a0_8.toInt (fl_A fa0_3) j5a0_9.toInt j5a0_12.toInt)
      refine lv_aload_n hx hb dX3_scanWhole_5 rfl (lv_at hl 0 rfl) ?_
      refine va_get (D := (dC, dI)) (ci := 3) (v := .int j5a0_9) (C := RX3) (T := TX3) (N := 14) hx hb hts zi_X3_scanWhole_3 hown hK hP 0 rfl rfl 9 (by decide) (hts (.fieldLink RX3 51 "WaxTurns$Reade\x72" "behind" "I") (List.mem_cons_of_mem _ (List.mem_append_left _ (List.mem_of_getElem? (i := 1) rfl)))) (fun _ h9 => h9) rfl dX3_scanWhole_6 ?_
      refine lv_aload_n hx hb dX3_scanWhole_9 rfl (lv_at hl 0 rfl) ?_
      refine va_get (D := (dC, dI)) (ci := 3) (v := .int a0_7) (C := RX3) (T := TX3) (N := 14) hx hb hts zi_X3_scanWhole_3 hown hK hP 0 rfl rfl 7 (by decide) (hts (.fieldLink RX3 36 "WaxTurns$Reade\x72" "end" "I") (List.mem_cons_of_mem _ (List.mem_append_left _ (List.mem_of_getElem? (i := 2) rfl)))) (fun _ h9 => h9) rfl dX3_scanWhole_10 ?_
      have J81 : ∀ (H : Heap) (locs : List Loc) (ls : Array Slot), (FX = Gf_X3_scanWhole_81_1 a0_8.toInt j5a0_9.toInt j5a0_12.toInt) → va_P (dC, dI) vwCl [(a0, .inr (3, [a0g_0, a0g_1, a0g_2, .ref a0_3, a0g_4, a0g_5, a0g_6, .int a0_7, .int a0_8, .int j5a0_9, .int a0_10, a0g_11, .int j5a0_12, a0g_13])), (a0_3, .inl (ka0_3, 900, .inl (fa0_3)))] H → va_D A [(a0, .inr (3, [a0g_0, a0g_1, a0g_2, .ref a0_3, a0g_4, a0g_5, a0g_6, .int a0_7, .int a0_8, .int j5a0_9, .int a0_10, a0g_11, .int j5a0_12, a0g_13])), (a0_3, .inl (ka0_3, 900, .inl (fa0_3)))] → va_S A s.heap H locs → lv_has ls 1 [(0, .ref a0)] → K H locs (F0 m 81 ls []) := by
        intro  H locs ls  hF0 hP hD hS hl
        refine (hK0 _ _ _).mpr ?_
        have hF0 := hF0.trans (Gf_X3_scanWhole_81_1.eq_1 a0_8.toInt j5a0_9.toInt j5a0_12.toInt)
        refine lv_aload_n hx hb dX3_scanWhole_81 rfl (lv_at hl 0 rfl) ?_
        refine lv_aload_n hx hb dX3_scanWhole_82 rfl (lv_at hl 0 rfl) ?_
        refine va_get (D := (dC, dI)) (ci := 3) (v := .int j5a0_9) (C := RX3) (T := TX3) (N := 14) hx hb hts zi_X3_scanWhole_3 hown hK hP 0 rfl rfl 9 (by decide) (hts (.fieldLink RX3 51 "WaxTurns$Reade\x72" "behind" "I") (List.mem_cons_of_mem _ (List.mem_append_left _ (List.mem_of_getElem? (i := 1) rfl)))) (fun _ h9 => h9) rfl dX3_scanWhole_83 ?_
        refine lv_aload_n hx hb dX3_scanWhole_86 rfl (lv_at hl 0 rfl) ?_
        refine va_get (D := (dC, dI)) (ci := 3) (v := .int a0_8) (C := RX3) (T := TX3) (N := 14) hx hb hts zi_X3_scanWhole_3 hown hK hP 0 rfl rfl 8 (by decide) (hts (.fieldLink RX3 72 "WaxTurns$Reade\x72" "start" "I") (List.mem_cons_of_mem _ (List.mem_append_left _ (List.mem_of_getElem? (i := 4) rfl)))) (fun _ h9 => h9) rfl dX3_scanWhole_87 ?_
        refine lv_isub hx hb dX3_scanWhole_90 ?_
        refine lv_topi (fun x90 ex90 => ?_)
        have qx90 : x90.toInt = j5a0_9.toInt - a0_8.toInt := ai_sub ex90 ⟨bj5a0_9_l, bj5a0_9_u⟩ ⟨ba0_8_l, ba0_8_u⟩ (by decide) (by decide)
        have bx90 : (-900 : Int) ≤ x90.toInt ∧ x90.toInt ≤ 900 := ⟨by rw [qx90]; exact Int.sub_le_sub bj5a0_9_l ba0_8_u, by rw [qx90]; exact Int.sub_le_sub bj5a0_9_u ba0_8_l⟩
        have hF0 := hF0.trans (fl_lt_eq (show x90.toInt = j5a0_9.toInt - a0_8.toInt from qx90))
        refine lv_iconst (v := 3) hx hb dX3_scanWhole_91 zk_iconst_3 ?_
        have J100 : ∀ (j100s0 : Int32) (H : Heap) (locs : List Loc) (ls : Array Slot), (2 : Int) ≤ j100s0.toInt → j100s0.toInt ≤ (4 : Int) → (FX = Gf_X3_scanWhole_100_1 j5a0_9.toInt j5a0_12.toInt j100s0.toInt) → va_P (dC, dI) vwCl [(a0, .inr (3, [a0g_0, a0g_1, a0g_2, .ref a0_3, a0g_4, a0g_5, a0g_6, .int a0_7, .int a0_8, .int j5a0_9, .int a0_10, a0g_11, .int j5a0_12, a0g_13])), (a0_3, .inl (ka0_3, 900, .inl (fa0_3)))] H → va_D A [(a0, .inr (3, [a0g_0, a0g_1, a0g_2, .ref a0_3, a0g_4, a0g_5, a0g_6, .int a0_7, .int a0_8, .int j5a0_9, .int a0_10, a0g_11, .int j5a0_12, a0g_13])), (a0_3, .inl (ka0_3, 900, .inl (fa0_3)))] → va_S A s.heap H locs → lv_has ls 1 [] → K H locs (F0 m 100 ls [.int j100s0, .ref a0]) := by
          intro j100s0 H locs ls  bj100s0_l bj100s0_u hF0 hP hD hS hl
          refine (hK0 _ _ _).mpr ?_
          have hF0 := hF0.trans (Gf_X3_scanWhole_100_1.eq_1 j5a0_9.toInt j5a0_12.toInt j100s0.toInt)
          refine va_put (D := (dC, dI)) (ci := 3) (v := .int j100s0) (ty := .int) (C := RX3) (T := TX3) (N := 14) hx hb hts zi_X3_scanWhole_3 tyX3 tyX3_ok nmX3 hown hK hP hD hS 0 rfl rfl 10 (by decide) (hts (.fieldLink RX3 61 "WaxTurns$Reade\x72" "token" "I") (List.mem_cons_of_mem _ (List.mem_append_left _ (List.mem_of_getElem? (i := 5) rfl)))) (fun _ h9 => h9) rfl (tyX3_ok 10 (by decide)) rfl rfl (Nat.le_of_ble_eq_true rfl) dX3_scanWhole_100 (fun H locs hP hD hS => ?_)
          refine zs_0 (y := (a0, .inr (3, [a0g_0, a0g_1, a0g_2, .ref a0_3, a0g_4, a0g_5, a0g_6, .int a0_7, .int a0_8, .int j5a0_9, .int j100s0, a0g_11, .int j5a0_12, a0g_13]))) hP hD rfl (fun hP hD => ?_)
          have hFe : FX = (j5a0_9.toInt, j100s0.toInt, j5a0_12.toInt) := hF0
          exact W.vret hx hb hr (fun t ht hW => ⟨⟨(), rfl, trivial, j5a0_9, j100s0, j5a0_12, ⟨bj5a0_9_l, bj5a0_9_u⟩, ⟨Int.le_trans (by decide) bj100s0_l, bj100s0_u⟩, hFe, by rw [ht]; exact hP, va_K.moved hW.alike hK, hD⟩, hS.F ht⟩) hS.2.2 dX3_scanWhole_103
        refine lv_icmp_gt (tgt := 99) hx hb dX3_scanWhole_92 (by decide) (fun c92 => ?_) (fun c92 => ?_)
        · have gc92 := ai_lt c92
          have l92t_x90 : (4 : Int) ≤ x90.toInt := ai_ltlo gc92 zq8
          have hF0 := hF0.trans (if_pos (show 3 < x90.toInt from gc92))
          refine lv_iconst (v := 4) hx hb dX3_scanWhole_99 zk_iconst_4 ?_
          exact (hK0 _ _ _).mp (J100 4 _ _ _  (Int.le_trans zq140 zq68) zq67 (by rw [show (4 : Int32).toInt = 4 from by decide]; exact hF0) hP hD hS (lv_sub hl [] rfl))
        · have gc92 := ai_nlt c92
          have u92f_x90 : x90.toInt ≤ (3 : Int) := Int.le_trans gc92 zq9
          have hF0 := hF0.trans (if_neg (show ¬ (3 < x90.toInt) from Int.not_lt.mpr gc92))
          refine lv_iconst (v := 2) hx hb dX3_scanWhole_95 zk_iconst_2 ?_
          refine lv_goto (tgt := 100) hx hb dX3_scanWhole_96 (by decide) ?_
          exact (hK0 _ _ _).mp (J100 2 _ _ _  zq12 (Int.le_trans zq13 zq140) (by rw [show (2 : Int32).toInt = 2 from by decide]; exact hF0) hP hD hS (lv_sub hl [] rfl))
      refine lv_icmp_ge (tgt := 81) hx hb dX3_scanWhole_13 (by decide) (fun c13 => ?_) (fun c13 => ?_)
      · have gc13 := ai_le c13
        have u13t_a0_7 : a0_7.toInt ≤ (900 : Int) := ba0_7_u
        have l13t_j5a0_9 : (0 : Int) ≤ j5a0_9.toInt := bj5a0_9_l
        have hF1 := hF1.trans (if_pos (show a0_7.toInt ≤ j5a0_9.toInt from gc13))
        have hF0 := hF0.trans (fl_wh_r (hSX5.trans hF1))
        exact (hK0 _ _ _).mp (J81  _ _ _   hF0 hP hD hS (lv_sub hl [0] rfl))
      · have gc13 := ai_nle c13
        have u13f_j5a0_9 : j5a0_9.toInt ≤ (899 : Int) := ai_lthi gc13 ba0_7_u
        have l13f_a0_7 : (1 : Int) ≤ a0_7.toInt := ai_ltlo gc13 bj5a0_9_l
        have hF1 := hF1.trans (if_neg (show ¬ (a0_7.toInt ≤ j5a0_9.toInt) from Int.not_le.mpr gc13))
        refine lv_aload_n hx hb dX3_scanWhole_16 rfl (lv_at hl 0 rfl) ?_
        refine va_get (D := (dC, dI)) (ci := 3) (v := .ref a0_3) (C := RX3) (T := TX3) (N := 14) hx hb hts zi_X3_scanWhole_3 hown hK hP 0 rfl rfl 3 (by decide) (hts (.fieldLink RX3 9 "WaxTurns$Reade\x72" "tape" "[B") (List.mem_cons_of_mem _ (List.mem_append_left _ (List.mem_of_getElem? (i := 3) rfl)))) (fun _ h9 => h9) rfl dX3_scanWhole_17 ?_
        refine lv_aload_n hx hb dX3_scanWhole_20 rfl (lv_at hl 0 rfl) ?_
        refine va_get (D := (dC, dI)) (ci := 3) (v := .int j5a0_9) (C := RX3) (T := TX3) (N := 14) hx hb hts zi_X3_scanWhole_3 hown hK hP 0 rfl rfl 9 (by decide) (hts (.fieldLink RX3 51 "WaxTurns$Reade\x72" "behind" "I") (List.mem_cons_of_mem _ (List.mem_append_left _ (List.mem_of_getElem? (i := 1) rfl)))) (fun _ h9 => h9) rfl dX3_scanWhole_21 ?_
        refine va_bald hx hb hK hP 1 0 rfl rfl (ai_in bj5a0_9_l u13f_j5a0_9 (by decide) (by decide)) dX3_scanWhole_24 ?_
        refine lv_topi (fun x24 ex24 => ?_)
        have fqx24 := congrArg Int32.toInt ex24
        have hF1 := hF1.trans (fl_lt_eq (show x24.toInt = (fl_A fa0_3) (j5a0_9.toInt.toNat) from fqx24))
        refine lv_bipush (v := 48) hx hb dX3_scanWhole_25 zk_bipush_48 ?_
        refine lv_icmp_lt (tgt := 81) hx hb dX3_scanWhole_27 (by decide) (fun c27 => ?_) (fun c27 => ?_)
        · have gc27 := ai_lt c27
          have u27t_x24 : x24.toInt ≤ (47 : Int) := ai_lthi gc27 zq141
          have hF1 := hF1.trans (if_pos (show x24.toInt < 48 from gc27))
          have hF0 := hF0.trans (fl_wh_r (hSX5.trans hF1))
          exact (hK0 _ _ _).mp (J81  _ _ _   hF0 hP hD hS (lv_sub hl [0] rfl))
        · have gc27 := ai_nlt c27
          have l27f_x24 : (48 : Int) ≤ x24.toInt := Int.le_trans zq142 gc27
          have hF1 := hF1.trans (if_neg (show ¬ (x24.toInt < 48) from Int.not_lt.mpr gc27))
          refine lv_aload_n hx hb dX3_scanWhole_30 rfl (lv_at hl 0 rfl) ?_
          refine va_get (D := (dC, dI)) (ci := 3) (v := .ref a0_3) (C := RX3) (T := TX3) (N := 14) hx hb hts zi_X3_scanWhole_3 hown hK hP 0 rfl rfl 3 (by decide) (hts (.fieldLink RX3 9 "WaxTurns$Reade\x72" "tape" "[B") (List.mem_cons_of_mem _ (List.mem_append_left _ (List.mem_of_getElem? (i := 3) rfl)))) (fun _ h9 => h9) rfl dX3_scanWhole_31 ?_
          refine lv_aload_n hx hb dX3_scanWhole_34 rfl (lv_at hl 0 rfl) ?_
          refine va_get (D := (dC, dI)) (ci := 3) (v := .int j5a0_9) (C := RX3) (T := TX3) (N := 14) hx hb hts zi_X3_scanWhole_3 hown hK hP 0 rfl rfl 9 (by decide) (hts (.fieldLink RX3 51 "WaxTurns$Reade\x72" "behind" "I") (List.mem_cons_of_mem _ (List.mem_append_left _ (List.mem_of_getElem? (i := 1) rfl)))) (fun _ h9 => h9) rfl dX3_scanWhole_35 ?_
          refine va_bald hx hb hK hP 1 0 rfl rfl (ai_in bj5a0_9_l u13f_j5a0_9 (by decide) (by decide)) dX3_scanWhole_38 ?_
          refine ax_ti x24 ex24.symm ?_
          refine lv_bipush (v := 57) hx hb dX3_scanWhole_39 zk_bipush_57 ?_
          refine lv_icmp_gt (tgt := 81) hx hb dX3_scanWhole_41 (by decide) (fun c41 => ?_) (fun c41 => ?_)
          · have gc41 := ai_lt c41
            have l41t_x24 : (58 : Int) ≤ x24.toInt := ai_ltlo gc41 zq143
            have hF1 := hF1.trans (if_pos (show 57 < x24.toInt from gc41))
            have hF0 := hF0.trans (fl_wh_r (hSX5.trans hF1))
            exact (hK0 _ _ _).mp (J81  _ _ _   hF0 hP hD hS (lv_sub hl [0] rfl))
          · have gc41 := ai_nlt c41
            have u41f_x24 : x24.toInt ≤ (57 : Int) := Int.le_trans gc41 zq144
            have hF1 := hF1.trans (if_neg (show ¬ (57 < x24.toInt) from Int.not_lt.mpr gc41))
            refine lv_aload_n hx hb dX3_scanWhole_44 rfl (lv_at hl 0 rfl) ?_
            refine lv_bipush (v := 10) hx hb dX3_scanWhole_45 zk_bipush_10 ?_
            refine lv_aload_n hx hb dX3_scanWhole_47 rfl (lv_at hl 0 rfl) ?_
            refine va_get (D := (dC, dI)) (ci := 3) (v := .int j5a0_12) (C := RX3) (T := TX3) (N := 14) hx hb hts zi_X3_scanWhole_3 hown hK hP 0 rfl rfl 12 (by decide) (hts (.fieldLink RX3 85 "WaxTurns$Reade\x72" "whole" "I") (List.mem_cons_of_mem _ (List.mem_append_left _ (List.mem_of_getElem? (i := 0) rfl)))) (fun _ h9 => h9) rfl dX3_scanWhole_48 ?_
            refine lv_imul hx hb dX3_scanWhole_51 ?_
            refine lv_topi (fun x51 ex51 => ?_)
            have fqx51 := fl_imul_eq ex51
            have hF1 := hF1.trans (fl_lt_eq (show x51.toInt = fl_imul 10 j5a0_12.toInt from fqx51))
            refine lv_aload_n hx hb dX3_scanWhole_52 rfl (lv_at hl 0 rfl) ?_
            refine va_get (D := (dC, dI)) (ci := 3) (v := .ref a0_3) (C := RX3) (T := TX3) (N := 14) hx hb hts zi_X3_scanWhole_3 hown hK hP 0 rfl rfl 3 (by decide) (hts (.fieldLink RX3 9 "WaxTurns$Reade\x72" "tape" "[B") (List.mem_cons_of_mem _ (List.mem_append_left _ (List.mem_of_getElem? (i := 3) rfl)))) (fun _ h9 => h9) rfl dX3_scanWhole_53 ?_
            refine lv_aload_n hx hb dX3_scanWhole_56 rfl (lv_at hl 0 rfl) ?_
            refine va_get (D := (dC, dI)) (ci := 3) (v := .int j5a0_9) (C := RX3) (T := TX3) (N := 14) hx hb hts zi_X3_scanWhole_3 hown hK hP 0 rfl rfl 9 (by decide) (hts (.fieldLink RX3 51 "WaxTurns$Reade\x72" "behind" "I") (List.mem_cons_of_mem _ (List.mem_append_left _ (List.mem_of_getElem? (i := 1) rfl)))) (fun _ h9 => h9) rfl dX3_scanWhole_57 ?_
            refine va_bald hx hb hK hP 1 0 rfl rfl (ai_in bj5a0_9_l u13f_j5a0_9 (by decide) (by decide)) dX3_scanWhole_60 ?_
            refine ax_ti x24 ex24.symm ?_
            refine lv_iadd hx hb dX3_scanWhole_61 ?_
            refine lv_topi (fun x61 ex61 => ?_)
            have fqx61 := fl_iadd_eq ex61
            have hF1 := hF1.trans (fl_lt_eq (show x61.toInt = fl_iadd x51.toInt x24.toInt from fqx61))
            refine lv_bipush (v := 48) hx hb dX3_scanWhole_62 zk_bipush_48 ?_
            refine lv_isub hx hb dX3_scanWhole_64 ?_
            refine lv_topi (fun x64 ex64 => ?_)
            have fqx64 := fl_isub_eq ex64
            have hF1 := hF1.trans (fl_lt_eq (show x64.toInt = fl_isub x61.toInt 48 from fqx64))
            refine va_put (D := (dC, dI)) (ci := 3) (v := .int x64) (ty := .int) (C := RX3) (T := TX3) (N := 14) hx hb hts zi_X3_scanWhole_3 tyX3 tyX3_ok nmX3 hown hK hP hD hS 0 rfl rfl 12 (by decide) (hts (.fieldLink RX3 85 "WaxTurns$Reade\x72" "whole" "I") (List.mem_cons_of_mem _ (List.mem_append_left _ (List.mem_of_getElem? (i := 0) rfl)))) (fun _ h9 => h9) rfl (tyX3_ok 12 (by decide)) rfl rfl (Nat.le_of_ble_eq_true rfl) dX3_scanWhole_65 (fun H locs hP hD hS => ?_)
            refine zs_0 (y := (a0, .inr (3, [a0g_0, a0g_1, a0g_2, .ref a0_3, a0g_4, a0g_5, a0g_6, .int a0_7, .int a0_8, .int j5a0_9, .int a0_10, a0g_11, .int x64, a0g_13]))) hP hD rfl (fun hP hD => ?_)
            refine lv_aload_n hx hb dX3_scanWhole_68 rfl (lv_at hl 0 rfl) ?_
            refine lv_dup hx hb dX3_scanWhole_69 rfl ?_
            refine va_get (D := (dC, dI)) (ci := 3) (v := .int j5a0_9) (C := RX3) (T := TX3) (N := 14) hx hb hts zi_X3_scanWhole_3 hown hK hP 0 rfl rfl 9 (by decide) (hts (.fieldLink RX3 51 "WaxTurns$Reade\x72" "behind" "I") (List.mem_cons_of_mem _ (List.mem_append_left _ (List.mem_of_getElem? (i := 1) rfl)))) (fun _ h9 => h9) rfl dX3_scanWhole_70 ?_
            refine lv_iconst (v := 1) hx hb dX3_scanWhole_73 zk_iconst_1 ?_
            refine lv_iadd hx hb dX3_scanWhole_74 ?_
            refine lv_topi (fun x74 ex74 => ?_)
            have qx74 : x74.toInt = j5a0_9.toInt + (1 : Int32).toInt := ai_add ex74 ⟨bj5a0_9_l, u13f_j5a0_9⟩ ⟨zq1, zq0⟩ (by decide) (by decide)
            have bx74 : (1 : Int) ≤ x74.toInt ∧ x74.toInt ≤ 900 := ⟨by rw [qx74]; exact Int.add_le_add bj5a0_9_l zq1, by rw [qx74]; exact Int.add_le_add u13f_j5a0_9 zq0⟩
            have wx74 : x74.toInt = j5a0_9.toInt + 1 := qx74
            have hF1 := hF1.trans (fl_lt_eq (show x74.toInt = j5a0_9.toInt + 1 from qx74))
            refine va_put (D := (dC, dI)) (ci := 3) (v := .int x74) (ty := .int) (C := RX3) (T := TX3) (N := 14) hx hb hts zi_X3_scanWhole_3 tyX3 tyX3_ok nmX3 hown hK hP hD hS 0 rfl rfl 9 (by decide) (hts (.fieldLink RX3 51 "WaxTurns$Reade\x72" "behind" "I") (List.mem_cons_of_mem _ (List.mem_append_left _ (List.mem_of_getElem? (i := 1) rfl)))) (fun _ h9 => h9) rfl (tyX3_ok 9 (by decide)) rfl rfl (Nat.le_of_ble_eq_true rfl) dX3_scanWhole_75 (fun H locs hP hD hS => ?_)
            refine zs_0 (y := (a0, .inr (3, [a0g_0, a0g_1, a0g_2, .ref a0_3, a0g_4, a0g_5, a0g_6, .int a0_7, .int a0_8, .int x74, .int a0_10, a0g_11, .int x64, a0g_13]))) hP hD rfl (fun hP hD => ?_)
            refine lv_goto (tgt := 5) hx hb dX3_scanWhole_78 (by decide) ?_
            exact (hK0 _ _ _).mp (ih5 x74 x64 _ _ _ (by have h0 := qx74; omega) (Int.le_trans zq4 bx74.1) bx74.2 (hF0.trans (fl_wh_l (hSX5.trans hF1))) hP hD hS (lv_sub hl [0] rfl))
  exact (hK0 _ _ _).mp (J5 901 a0_9 0 _ _ _ (by have h1 : (0 : Int) ≤ a0_9.toInt := ba0_9_l; have h2 : a0_9.toInt ≤ (900 : Int) := ba0_9_u; omega) ba0_9_l ba0_9_u (by rw [show (0 : Int32).toInt = 0 from by decide]; exact hF0) hP hD hS (lv_sub hl [0] rfl))
end P311_00_f
section P311_01_f
set_option maxHeartbeats 4000000 in
set_option maxRecDepth 100000 in
theorem f_X3_advance (l : Launch) (dC : Nat → ClassId) (dI : Nat → Nat → Nat) (sz : Nat) (a0 : Nat) (a0g_0 a0g_1 a0g_2 a0g_4 a0g_5 a0g_6 a0g_13 : Value) (a0_3 : Nat) (a0_7 : Int32) (a0_8 : Int32) (a0_9 : Int32) (a0_10 : Int32) (a0_11 : Int64) (a0_12 : Int32) (ka0_3 : ClassId) (fa0_3 : Nat → Int32) (ba0_7_l : (0 : Int) ≤ a0_7.toInt) (ba0_7_u : a0_7.toInt ≤ (900 : Int)) (ba0_8_l : (0 : Int) ≤ a0_8.toInt) (ba0_8_u : a0_8.toInt ≤ (900 : Int)) (ba0_9_l : (0 : Int) ≤ a0_9.toInt) (ba0_9_u : a0_9.toInt ≤ (900 : Int)) (ba0_10_l : (0 : Int) ≤ a0_10.toInt) (ba0_10_u : a0_10.toInt ≤ (4 : Int)) : zm l yX3_advance wsX3_advance ({ frames := 1, cells := 0, slots := 0, locals := 20 }) [.ref a0] dC dI sz [(a0, .inr (3, [a0g_0, a0g_1, a0g_2, .ref a0_3, a0g_4, a0g_5, a0g_6, .int a0_7, .int a0_8, .int a0_9, .int a0_10, .long a0_11, .int a0_12, a0g_13])), (a0_3, .inl (ka0_3, 900, .inl (fa0_3)))] [(ka0_3, .byte)] (fun A _ => True) (fun A => va_Qv (fun (_ : Unit) => True) (fun (_ : Unit) (t : State) => ∃ na0_8 : Int32, ∃ na0_9 : Int32, ∃ na0_10 : Int32, ∃ na0_11 : Int64, ∃ na0_12 : Int32, ((0 : Int) ≤ na0_8.toInt ∧ na0_8.toInt ≤ 900) ∧ ((0 : Int) ≤ na0_9.toInt ∧ na0_9.toInt ≤ 900) ∧ ((0 : Int) ≤ na0_10.toInt ∧ na0_10.toInt ≤ 4) ∧ (Ff_X3_advance a0_7.toInt a0_9.toInt a0_11.toInt a0_12.toInt (fl_A fa0_3) = (na0_8.toInt, na0_9.toInt, na0_10.toInt, na0_11.toInt, na0_12.toInt)) ∧ ax_B dC dI A [(a0, .inr (3, [a0g_0, a0g_1, a0g_2, .ref a0_3, a0g_4, a0g_5, a0g_6, .int a0_7, .int na0_8, .int na0_9, .int na0_10, .long na0_11, .int na0_12, a0g_13])), (a0_3, .inl (ka0_3, 900, .inl (fa0_3)))] [(ka0_3, .byte)] t) A) := by
  refine zh (cc := cX3_advance) (maxL := 1) (ret := none) zn_RX3 rfl (Nat.le_of_ble_eq_true rfl) (fun p e s m below meth c A ls hx hb hml hr hts (hown : s.vm.findClass RX3 = some m.cls) hlocks hA hS hP hK hD hE (hl : lv_has ls 1 [(0, .ref a0)]) => ?_)
  generalize hFX : Ff_X3_advance a0_7.toInt a0_9.toInt a0_11.toInt a0_12.toInt (fl_A fa0_3) = FX at ⊢
  have hF0 := hFX.symm.trans (Ff_X3_advance.eq_1 a0_7.toInt a0_9.toInt a0_11.toInt a0_12.toInt (fl_A fa0_3))
  refine ai_open (fun K hK0 => ?_)
  refine (hK0 _ _ _).mpr ?_
  have J0 : ∀ (n : Nat) (j0a0_9 : Int32) (H : Heap) (locs : List Loc) (ls : Array Slot), (901 : Int) - j0a0_9.toInt ≤ (n : Int) → (0 : Int) ≤ j0a0_9.toInt → j0a0_9.toInt ≤ (900 : Int) → (FX = fl_wh (Sf_X3_advance_0_1 a0_7.toInt a0_11.toInt a0_12.toInt (fl_A fa0_3)) (0, 0, 0, 0, 0) n j0a0_9.toInt) → va_P (dC, dI) vwCl [(a0, .inr (3, [a0g_0, a0g_1, a0g_2, .ref a0_3, a0g_4, a0g_5, a0g_6, .int a0_7, .int a0_8, .int j0a0_9, .int a0_10, .long a0_11, .int a0_12, a0g_13])), (a0_3, .inl (ka0_3, 900, .inl (fa0_3)))] H → va_D A [(a0, .inr (3, [a0g_0, a0g_1, a0g_2, .ref a0_3, a0g_4, a0g_5, a0g_6, .int a0_7, .int a0_8, .int j0a0_9, .int a0_10, .long a0_11, .int a0_12, a0g_13])), (a0_3, .inl (ka0_3, 900, .inl (fa0_3)))] → va_S A s.heap H locs → lv_has ls 1 [(0, .ref a0)] → K H locs (F0 m 0 ls []) := by
    intro n
    induction n with
    | zero =>
      intro j0a0_9 H locs ls hm bj0a0_9_l bj0a0_9_u hF0 hP hD hS hl
      first | exact zg_0 hm bj0a0_9_u (by decide) | (have h8 := ai_min j0a0_9; have h9 := ai_max j0a0_9; exact absurd hm (by omega))
    | succ n ih0 =>
      intro j0a0_9 H locs ls hm bj0a0_9_l bj0a0_9_u hF0 hP hD hS hl
      refine (hK0 _ _ _).mpr ?_
      have hm0 := hm
      obtain ⟨SX0, hSX0⟩ : ∃ q9, Sf_X3_advance_0_1 a0_7.toInt a0_11.toInt a0_12.toInt (fl_A fa0_3) j0a0_9.toInt = q9 := ⟨_, rfl⟩
      have hF1 := hSX0.symm.trans (Sf_X3_advance_0_1.eq_1 a0_7.toInt a0_11.toInt a0_12.toInt (fl_A fa0_3) j0a0_9.toInt)
      refine lv_aload_n hx hb dX3_advance_0 rfl (lv_at hl 0 rfl) ?_
      refine va_get (D := (dC, dI)) (ci := 3) (v := .int j0a0_9) (C := RX3) (T := TX3) (N := 14) hx hb hts zi_X3_advance_3 hown hK hP 0 rfl rfl 9 (by decide) (hts (.fieldLink RX3 51 "WaxTurns$Reade\x72" "behind" "I") (List.mem_cons_of_mem _ (List.mem_append_left _ (List.mem_of_getElem? (i := 0) rfl)))) (fun _ h9 => h9) rfl dX3_advance_1 ?_
      refine lv_aload_n hx hb dX3_advance_4 rfl (lv_at hl 0 rfl) ?_
      refine va_get (D := (dC, dI)) (ci := 3) (v := .int a0_7) (C := RX3) (T := TX3) (N := 14) hx hb hts zi_X3_advance_3 hown hK hP 0 rfl rfl 7 (by decide) (hts (.fieldLink RX3 36 "WaxTurns$Reade\x72" "end" "I") (List.mem_cons_of_mem _ (List.mem_append_left _ (List.mem_of_getElem? (i := 1) rfl)))) (fun _ h9 => h9) rfl dX3_advance_5 ?_
      have J38 : ∀ (H : Heap) (locs : List Loc) (ls : Array Slot), (FX = Gf_X3_advance_38_1 a0_7.toInt a0_11.toInt a0_12.toInt (fl_A fa0_3) j0a0_9.toInt) → va_P (dC, dI) vwCl [(a0, .inr (3, [a0g_0, a0g_1, a0g_2, .ref a0_3, a0g_4, a0g_5, a0g_6, .int a0_7, .int a0_8, .int j0a0_9, .int a0_10, .long a0_11, .int a0_12, a0g_13])), (a0_3, .inl (ka0_3, 900, .inl (fa0_3)))] H → va_D A [(a0, .inr (3, [a0g_0, a0g_1, a0g_2, .ref a0_3, a0g_4, a0g_5, a0g_6, .int a0_7, .int a0_8, .int j0a0_9, .int a0_10, .long a0_11, .int a0_12, a0g_13])), (a0_3, .inl (ka0_3, 900, .inl (fa0_3)))] → va_S A s.heap H locs → lv_has ls 1 [(0, .ref a0)] → K H locs (F0 m 38 ls []) := by
        intro  H locs ls  hF0 hP hD hS hl
        refine (hK0 _ _ _).mpr ?_
        have hF0 := hF0.trans (Gf_X3_advance_38_1.eq_1 a0_7.toInt a0_11.toInt a0_12.toInt (fl_A fa0_3) j0a0_9.toInt)
        refine lv_aload_n hx hb dX3_advance_38 rfl (lv_at hl 0 rfl) ?_
        refine lv_aload_n hx hb dX3_advance_39 rfl (lv_at hl 0 rfl) ?_
        refine va_get (D := (dC, dI)) (ci := 3) (v := .int j0a0_9) (C := RX3) (T := TX3) (N := 14) hx hb hts zi_X3_advance_3 hown hK hP 0 rfl rfl 9 (by decide) (hts (.fieldLink RX3 51 "WaxTurns$Reade\x72" "behind" "I") (List.mem_cons_of_mem _ (List.mem_append_left _ (List.mem_of_getElem? (i := 0) rfl)))) (fun _ h9 => h9) rfl dX3_advance_40 ?_
        refine va_put (D := (dC, dI)) (ci := 3) (v := .int j0a0_9) (ty := .int) (C := RX3) (T := TX3) (N := 14) hx hb hts zi_X3_advance_3 tyX3 tyX3_ok nmX3 hown hK hP hD hS 0 rfl rfl 8 (by decide) (hts (.fieldLink RX3 72 "WaxTurns$Reade\x72" "start" "I") (List.mem_cons_of_mem _ (List.mem_append_left _ (List.mem_of_getElem? (i := 3) rfl)))) (fun _ h9 => h9) rfl (tyX3_ok 8 (by decide)) rfl rfl (Nat.le_of_ble_eq_true rfl) dX3_advance_43 (fun H locs hP hD hS => ?_)
        refine zs_0 (y := (a0, .inr (3, [a0g_0, a0g_1, a0g_2, .ref a0_3, a0g_4, a0g_5, a0g_6, .int a0_7, .int j0a0_9, .int j0a0_9, .int a0_10, .long a0_11, .int a0_12, a0g_13]))) hP hD rfl (fun hP hD => ?_)
        refine lv_aload_n hx hb dX3_advance_46 rfl (lv_at hl 0 rfl) ?_
        refine va_get (D := (dC, dI)) (ci := 3) (v := .int j0a0_9) (C := RX3) (T := TX3) (N := 14) hx hb hts zi_X3_advance_3 hown hK hP 0 rfl rfl 8 (by decide) (hts (.fieldLink RX3 72 "WaxTurns$Reade\x72" "start" "I") (List.mem_cons_of_mem _ (List.mem_append_left _ (List.mem_of_getElem? (i := 3) rfl)))) (fun _ h9 => h9) rfl dX3_advance_47 ?_
        refine lv_aload_n hx hb dX3_advance_50 rfl (lv_at hl 0 rfl) ?_
        refine va_get (D := (dC, dI)) (ci := 3) (v := .int a0_7) (C := RX3) (T := TX3) (N := 14) hx hb hts zi_X3_advance_3 hown hK hP 0 rfl rfl 7 (by decide) (hts (.fieldLink RX3 36 "WaxTurns$Reade\x72" "end" "I") (List.mem_cons_of_mem _ (List.mem_append_left _ (List.mem_of_getElem? (i := 1) rfl)))) (fun _ h9 => h9) rfl dX3_advance_51 ?_
        refine lv_icmp_lt (tgt := 65) hx hb dX3_advance_54 (by decide) (fun c54 => ?_) (fun c54 => ?_)
        · have gc54 := ai_lt c54
          have u54t_j0a0_9 : j0a0_9.toInt ≤ (899 : Int) := ai_lthi gc54 ba0_7_u
          have l54t_a0_7 : (1 : Int) ≤ a0_7.toInt := ai_ltlo gc54 bj0a0_9_l
          have hF0 := hF0.trans (if_pos (show j0a0_9.toInt < a0_7.toInt from gc54))
          refine lv_aload_n hx hb dX3_advance_65 rfl (lv_at hl 0 rfl) ?_
          refine va_get (D := (dC, dI)) (ci := 3) (v := .ref a0_3) (C := RX3) (T := TX3) (N := 14) hx hb hts zi_X3_advance_3 hown hK hP 0 rfl rfl 3 (by decide) (hts (.fieldLink RX3 9 "WaxTurns$Reade\x72" "tape" "[B") (List.mem_cons_of_mem _ (List.mem_append_left _ (List.mem_of_getElem? (i := 2) rfl)))) (fun _ h9 => h9) rfl dX3_advance_66 ?_
          refine lv_aload_n hx hb dX3_advance_69 rfl (lv_at hl 0 rfl) ?_
          refine va_get (D := (dC, dI)) (ci := 3) (v := .int j0a0_9) (C := RX3) (T := TX3) (N := 14) hx hb hts zi_X3_advance_3 hown hK hP 0 rfl rfl 8 (by decide) (hts (.fieldLink RX3 72 "WaxTurns$Reade\x72" "start" "I") (List.mem_cons_of_mem _ (List.mem_append_left _ (List.mem_of_getElem? (i := 3) rfl)))) (fun _ h9 => h9) rfl dX3_advance_70 ?_
          refine va_bald hx hb hK hP 1 0 rfl rfl (ai_in bj0a0_9_l u54t_j0a0_9 (by decide) (by decide)) dX3_advance_73 ?_
          refine lv_topi (fun x73 ex73 => ?_)
          have fqx73 := congrArg Int32.toInt ex73
          have hF0 := hF0.trans (fl_lt_eq (show x73.toInt = (fl_A fa0_3) (j0a0_9.toInt.toNat) from fqx73))
          refine lv_bipush (v := 59) hx hb dX3_advance_74 zk_bipush_59 ?_
          refine lv_icmp_ne (tgt := 97) hx hb dX3_advance_76 (by decide) (fun c76 => ?_) (fun c76 => ?_)
          · have gc76 := ai_ne c76
            have hF0 := hF0.trans (if_neg (show ¬ (x73.toInt = 59) from  gc76))
            refine lv_aload_n hx hb dX3_advance_97 rfl (lv_at hl 0 rfl) ?_
            refine va_get (D := (dC, dI)) (ci := 3) (v := .ref a0_3) (C := RX3) (T := TX3) (N := 14) hx hb hts zi_X3_advance_3 hown hK hP 0 rfl rfl 3 (by decide) (hts (.fieldLink RX3 9 "WaxTurns$Reade\x72" "tape" "[B") (List.mem_cons_of_mem _ (List.mem_append_left _ (List.mem_of_getElem? (i := 2) rfl)))) (fun _ h9 => h9) rfl dX3_advance_98 ?_
            refine lv_aload_n hx hb dX3_advance_101 rfl (lv_at hl 0 rfl) ?_
            refine va_get (D := (dC, dI)) (ci := 3) (v := .int j0a0_9) (C := RX3) (T := TX3) (N := 14) hx hb hts zi_X3_advance_3 hown hK hP 0 rfl rfl 8 (by decide) (hts (.fieldLink RX3 72 "WaxTurns$Reade\x72" "start" "I") (List.mem_cons_of_mem _ (List.mem_append_left _ (List.mem_of_getElem? (i := 3) rfl)))) (fun _ h9 => h9) rfl dX3_advance_102 ?_
            refine va_bald hx hb hK hP 1 0 rfl rfl (ai_in bj0a0_9_l u54t_j0a0_9 (by decide) (by decide)) dX3_advance_105 ?_
            refine ax_ti x73 ex73.symm ?_
            refine lv_bipush (v := 97) hx hb dX3_advance_106 zk_bipush_97 ?_
            have J132 : ∀ (H : Heap) (locs : List Loc) (ls : Array Slot), (FX = Gf_X3_advance_132_1 a0_7.toInt a0_11.toInt a0_12.toInt (fl_A fa0_3) j0a0_9.toInt) → va_P (dC, dI) vwCl [(a0, .inr (3, [a0g_0, a0g_1, a0g_2, .ref a0_3, a0g_4, a0g_5, a0g_6, .int a0_7, .int j0a0_9, .int j0a0_9, .int a0_10, .long a0_11, .int a0_12, a0g_13])), (a0_3, .inl (ka0_3, 900, .inl (fa0_3)))] H → va_D A [(a0, .inr (3, [a0g_0, a0g_1, a0g_2, .ref a0_3, a0g_4, a0g_5, a0g_6, .int a0_7, .int j0a0_9, .int j0a0_9, .int a0_10, .long a0_11, .int a0_12, a0g_13])), (a0_3, .inl (ka0_3, 900, .inl (fa0_3)))] → va_S A s.heap H locs → lv_has ls 1 [(0, .ref a0)] → K H locs (F0 m 132 ls []) := by
              intro  H locs ls  hF0 hP hD hS hl
              refine (hK0 _ _ _).mpr ?_
              have hF0 := hF0.trans (Gf_X3_advance_132_1.eq_1 a0_7.toInt a0_11.toInt a0_12.toInt (fl_A fa0_3) j0a0_9.toInt)
              refine lv_aload_n hx hb dX3_advance_132 rfl (lv_at hl 0 rfl) ?_
              refine va_get (D := (dC, dI)) (ci := 3) (v := .ref a0_3) (C := RX3) (T := TX3) (N := 14) hx hb hts zi_X3_advance_3 hown hK hP 0 rfl rfl 3 (by decide) (hts (.fieldLink RX3 9 "WaxTurns$Reade\x72" "tape" "[B") (List.mem_cons_of_mem _ (List.mem_append_left _ (List.mem_of_getElem? (i := 2) rfl)))) (fun _ h9 => h9) rfl dX3_advance_133 ?_
              refine lv_aload_n hx hb dX3_advance_136 rfl (lv_at hl 0 rfl) ?_
              refine va_get (D := (dC, dI)) (ci := 3) (v := .int j0a0_9) (C := RX3) (T := TX3) (N := 14) hx hb hts zi_X3_advance_3 hown hK hP 0 rfl rfl 8 (by decide) (hts (.fieldLink RX3 72 "WaxTurns$Reade\x72" "start" "I") (List.mem_cons_of_mem _ (List.mem_append_left _ (List.mem_of_getElem? (i := 3) rfl)))) (fun _ h9 => h9) rfl dX3_advance_137 ?_
              refine va_bald hx hb hK hP 1 0 rfl rfl (ai_in bj0a0_9_l u54t_j0a0_9 (by decide) (by decide)) dX3_advance_140 ?_
              refine lv_topi (fun x140 ex140 => ?_)
              have fqx140 := congrArg Int32.toInt ex140
              have hF0 := hF0.trans (fl_lt_eq (show x140.toInt = (fl_A fa0_3) (j0a0_9.toInt.toNat) from fqx140))
              refine lv_bipush (v := 48) hx hb dX3_advance_141 zk_bipush_48 ?_
              have J167 : ∀ (H : Heap) (locs : List Loc) (ls : Array Slot), (FX = Gf_X3_advance_167_1 a0_11.toInt a0_12.toInt j0a0_9.toInt) → va_P (dC, dI) vwCl [(a0, .inr (3, [a0g_0, a0g_1, a0g_2, .ref a0_3, a0g_4, a0g_5, a0g_6, .int a0_7, .int j0a0_9, .int j0a0_9, .int a0_10, .long a0_11, .int a0_12, a0g_13])), (a0_3, .inl (ka0_3, 900, .inl (fa0_3)))] H → va_D A [(a0, .inr (3, [a0g_0, a0g_1, a0g_2, .ref a0_3, a0g_4, a0g_5, a0g_6, .int a0_7, .int j0a0_9, .int j0a0_9, .int a0_10, .long a0_11, .int a0_12, a0g_13])), (a0_3, .inl (ka0_3, 900, .inl (fa0_3)))] → va_S A s.heap H locs → lv_has ls 1 [(0, .ref a0)] → K H locs (F0 m 167 ls []) := by
                intro  H locs ls  hF0 hP hD hS hl
                refine (hK0 _ _ _).mpr ?_
                have hF0 := hF0.trans (Gf_X3_advance_167_1.eq_1 a0_11.toInt a0_12.toInt j0a0_9.toInt)
                refine lv_aload_n hx hb dX3_advance_167 rfl (lv_at hl 0 rfl) ?_
                refine lv_iconst (v := 4) hx hb dX3_advance_168 zk_iconst_4 ?_
                refine va_put (D := (dC, dI)) (ci := 3) (v := .int 4) (ty := .int) (C := RX3) (T := TX3) (N := 14) hx hb hts zi_X3_advance_3 tyX3 tyX3_ok nmX3 hown hK hP hD hS 0 rfl rfl 10 (by decide) (hts (.fieldLink RX3 61 "WaxTurns$Reade\x72" "token" "I") (List.mem_cons_of_mem _ (List.mem_append_left _ (List.mem_of_getElem? (i := 4) rfl)))) (fun _ h9 => h9) rfl (tyX3_ok 10 (by decide)) rfl rfl (Nat.le_of_ble_eq_true rfl) dX3_advance_169 (fun H locs hP hD hS => ?_)
                refine zs_0 (y := (a0, .inr (3, [a0g_0, a0g_1, a0g_2, .ref a0_3, a0g_4, a0g_5, a0g_6, .int a0_7, .int j0a0_9, .int j0a0_9, .int 4, .long a0_11, .int a0_12, a0g_13]))) hP hD rfl (fun hP hD => ?_)
                have hFe : FX = (j0a0_9.toInt, j0a0_9.toInt, 4, a0_11.toInt, a0_12.toInt) := hF0
                exact W.vret hx hb hr (fun t ht hW => ⟨⟨(), rfl, trivial, j0a0_9, j0a0_9, 4, a0_11, a0_12, ⟨bj0a0_9_l, Int.le_trans u54t_j0a0_9 (by decide)⟩, ⟨bj0a0_9_l, Int.le_trans u54t_j0a0_9 (by decide)⟩, ⟨Int.le_trans (by decide) zq68, zq67⟩, hFe, by rw [ht]; exact hP, va_K.moved hW.alike hK, hD⟩, hS.F ht⟩) hS.2.2 dX3_advance_172
              refine lv_icmp_lt (tgt := 167) hx hb dX3_advance_143 (by decide) (fun c143 => ?_) (fun c143 => ?_)
              · have gc143 := ai_lt c143
                have u143t_x140 : x140.toInt ≤ (47 : Int) := ai_lthi gc143 zq141
                have hF0 := hF0.trans (if_pos (show x140.toInt < 48 from gc143))
                exact (hK0 _ _ _).mp (J167  _ _ _   hF0 hP hD hS (lv_sub hl [0] rfl))
              · have gc143 := ai_nlt c143
                have l143f_x140 : (48 : Int) ≤ x140.toInt := Int.le_trans zq142 gc143
                have hF0 := hF0.trans (if_neg (show ¬ (x140.toInt < 48) from Int.not_lt.mpr gc143))
                refine lv_aload_n hx hb dX3_advance_146 rfl (lv_at hl 0 rfl) ?_
                refine va_get (D := (dC, dI)) (ci := 3) (v := .ref a0_3) (C := RX3) (T := TX3) (N := 14) hx hb hts zi_X3_advance_3 hown hK hP 0 rfl rfl 3 (by decide) (hts (.fieldLink RX3 9 "WaxTurns$Reade\x72" "tape" "[B") (List.mem_cons_of_mem _ (List.mem_append_left _ (List.mem_of_getElem? (i := 2) rfl)))) (fun _ h9 => h9) rfl dX3_advance_147 ?_
                refine lv_aload_n hx hb dX3_advance_150 rfl (lv_at hl 0 rfl) ?_
                refine va_get (D := (dC, dI)) (ci := 3) (v := .int j0a0_9) (C := RX3) (T := TX3) (N := 14) hx hb hts zi_X3_advance_3 hown hK hP 0 rfl rfl 8 (by decide) (hts (.fieldLink RX3 72 "WaxTurns$Reade\x72" "start" "I") (List.mem_cons_of_mem _ (List.mem_append_left _ (List.mem_of_getElem? (i := 3) rfl)))) (fun _ h9 => h9) rfl dX3_advance_151 ?_
                refine va_bald hx hb hK hP 1 0 rfl rfl (ai_in bj0a0_9_l u54t_j0a0_9 (by decide) (by decide)) dX3_advance_154 ?_
                refine ax_ti x140 ex140.symm ?_
                refine lv_bipush (v := 57) hx hb dX3_advance_155 zk_bipush_57 ?_
                refine lv_icmp_gt (tgt := 167) hx hb dX3_advance_157 (by decide) (fun c157 => ?_) (fun c157 => ?_)
                · have gc157 := ai_lt c157
                  have l157t_x140 : (58 : Int) ≤ x140.toInt := ai_ltlo gc157 zq143
                  have hF0 := hF0.trans (if_pos (show 57 < x140.toInt from gc157))
                  exact (hK0 _ _ _).mp (J167  _ _ _   hF0 hP hD hS (lv_sub hl [0] rfl))
                · have gc157 := ai_nlt c157
                  have u157f_x140 : x140.toInt ≤ (57 : Int) := Int.le_trans gc157 zq144
                  have hF0 := hF0.trans (if_neg (show ¬ (57 < x140.toInt) from Int.not_lt.mpr gc157))
                  refine lv_aload_n hx hb dX3_advance_160 rfl (lv_at hl 0 rfl) ?_
                  have hKc := hK.sub (tys' := [(ka0_3, .byte)]) [0] rfl
                  refine va_callv (va_runV (As := []) (rest := []) ⟨hx, hb, hml, hown, hts⟩ (f_X3_scanWhole l dC dI H.size a0 a0g_0 a0g_1 a0g_2 a0g_4 a0g_5 a0g_6 (.long a0_11) a0g_13 a0_3 a0_7 j0a0_9 j0a0_9 a0_10 a0_12 ka0_3 fa0_3 (Int.le_trans zq4 l54t_a0_7) ba0_7_u bj0a0_9_l (Int.le_trans u54t_j0a0_9 zq145) bj0a0_9_l (Int.le_trans u54t_j0a0_9 zq145) ba0_10_l ba0_10_u) (cwV 0 hts gX3_advance_X3_scanWhole rfl rfl rfl zd_X3_scanWhole ⟨Nat.le_of_ble_eq_true rfl, Nat.le_of_ble_eq_true rfl⟩) ⟨ax_blind (fun _ _ _ _ _ => trivial), zr_3 hKc (zp_P2 hP) (q0 := 0) rfl, ax_pre (zp_P2 hP) hKc (zp_D2 hD) (fun _ _ => trivial)⟩ rfl rfl hl.1 rfl (lv_room (Nat.le_of_ble_eq_true rfl)) dX3_advance_161 ⟨Nat.le_of_ble_eq_true rfl, Nat.le_of_ble_eq_true rfl⟩) hS (fun q _ h => zp_F2 hD hS hA q h) (zp_F2 hD hS hA) (fun u t H locs ht hvm hw => zx_3 (fun v161na0_9 v161na0_10 v161na0_12 => zy_3 (fun bv161na0_9 bv161na0_10 hraw161_0 hB hz1 hk1 hS1 => zo2 hB ht hP hD hk1 (zp_F2 hD hS hA) hS1 (fun hP hK1 hD hS => ?_))))
                  have hc161 : Ff_X3_scanWhole a0_7.toInt j0a0_9.toInt j0a0_9.toInt (fl_A fa0_3) = (v161na0_9.toInt, v161na0_10.toInt, v161na0_12.toInt) := hraw161_0
                  have hF0 := hF0.trans (fl_c3_eq hc161)
                  refine lv_goto (tgt := 172) hx hb dX3_advance_164 (by decide) ?_
                  have hFe : FX = (j0a0_9.toInt, v161na0_9.toInt, v161na0_10.toInt, a0_11.toInt, v161na0_12.toInt) := hF0
                  exact W.vret hx hb hr (fun t ht hW => ⟨⟨(), rfl, trivial, j0a0_9, v161na0_9, v161na0_10, a0_11, v161na0_12, ⟨bj0a0_9_l, Int.le_trans u54t_j0a0_9 (by decide)⟩, ⟨bv161na0_9.1, bv161na0_9.2⟩, ⟨bv161na0_10.1, bv161na0_10.2⟩, hFe, by rw [ht]; exact hP, va_K.moved hW.alike hK, hD⟩, hS.F ht⟩) hS.2.2 dX3_advance_172
            refine lv_icmp_lt (tgt := 132) hx hb dX3_advance_108 (by decide) (fun c108 => ?_) (fun c108 => ?_)
            · have gc108 := ai_lt c108
              have u108t_x73 : x73.toInt ≤ (96 : Int) := ai_lthi gc108 zq136
              have hF0 := hF0.trans (if_pos (show x73.toInt < 97 from gc108))
              exact (hK0 _ _ _).mp (J132  _ _ _   hF0 hP hD hS (lv_sub hl [0] rfl))
            · have gc108 := ai_nlt c108
              have l108f_x73 : (97 : Int) ≤ x73.toInt := Int.le_trans zq137 gc108
              have hF0 := hF0.trans (if_neg (show ¬ (x73.toInt < 97) from Int.not_lt.mpr gc108))
              refine lv_aload_n hx hb dX3_advance_111 rfl (lv_at hl 0 rfl) ?_
              refine va_get (D := (dC, dI)) (ci := 3) (v := .ref a0_3) (C := RX3) (T := TX3) (N := 14) hx hb hts zi_X3_advance_3 hown hK hP 0 rfl rfl 3 (by decide) (hts (.fieldLink RX3 9 "WaxTurns$Reade\x72" "tape" "[B") (List.mem_cons_of_mem _ (List.mem_append_left _ (List.mem_of_getElem? (i := 2) rfl)))) (fun _ h9 => h9) rfl dX3_advance_112 ?_
              refine lv_aload_n hx hb dX3_advance_115 rfl (lv_at hl 0 rfl) ?_
              refine va_get (D := (dC, dI)) (ci := 3) (v := .int j0a0_9) (C := RX3) (T := TX3) (N := 14) hx hb hts zi_X3_advance_3 hown hK hP 0 rfl rfl 8 (by decide) (hts (.fieldLink RX3 72 "WaxTurns$Reade\x72" "start" "I") (List.mem_cons_of_mem _ (List.mem_append_left _ (List.mem_of_getElem? (i := 3) rfl)))) (fun _ h9 => h9) rfl dX3_advance_116 ?_
              refine va_bald hx hb hK hP 1 0 rfl rfl (ai_in bj0a0_9_l u54t_j0a0_9 (by decide) (by decide)) dX3_advance_119 ?_
              refine ax_ti x73 ex73.symm ?_
              refine lv_bipush (v := 122) hx hb dX3_advance_120 zk_bipush_122 ?_
              refine lv_icmp_gt (tgt := 132) hx hb dX3_advance_122 (by decide) (fun c122 => ?_) (fun c122 => ?_)
              · have gc122 := ai_lt c122
                have l122t_x73 : (123 : Int) ≤ x73.toInt := ai_ltlo gc122 zq138
                have hF0 := hF0.trans (if_pos (show 122 < x73.toInt from gc122))
                exact (hK0 _ _ _).mp (J132  _ _ _   hF0 hP hD hS (lv_sub hl [0] rfl))
              · have gc122 := ai_nlt c122
                have u122f_x73 : x73.toInt ≤ (122 : Int) := Int.le_trans gc122 zq139
                have hF0 := hF0.trans (if_neg (show ¬ (122 < x73.toInt) from Int.not_lt.mpr gc122))
                refine lv_aload_n hx hb dX3_advance_125 rfl (lv_at hl 0 rfl) ?_
                have hKc := hK.sub (tys' := [(ka0_3, .byte)]) [0] rfl
                refine va_callv (va_runV (As := []) (rest := []) ⟨hx, hb, hml, hown, hts⟩ (f_X3_scanWord l dC dI H.size a0 a0g_0 a0g_1 a0g_2 a0g_4 a0g_5 a0g_6 (.int a0_12) a0g_13 a0_3 a0_7 j0a0_9 j0a0_9 a0_10 a0_11 ka0_3 fa0_3 (Int.le_trans zq4 l54t_a0_7) ba0_7_u bj0a0_9_l (Int.le_trans u54t_j0a0_9 zq145) bj0a0_9_l (Int.le_trans u54t_j0a0_9 zq145) ba0_10_l ba0_10_u) (cwV 0 hts gX3_advance_X3_scanWord rfl rfl rfl zd_X3_scanWord ⟨Nat.le_of_ble_eq_true rfl, Nat.le_of_ble_eq_true rfl⟩) ⟨ax_blind (fun _ _ _ _ _ => trivial), zr_3 hKc (zp_P2 hP) (q0 := 0) rfl, ax_pre (zp_P2 hP) hKc (zp_D2 hD) (fun _ _ => trivial)⟩ rfl rfl hl.1 rfl (lv_room (Nat.le_of_ble_eq_true rfl)) dX3_advance_126 ⟨Nat.le_of_ble_eq_true rfl, Nat.le_of_ble_eq_true rfl⟩) hS (fun q _ h => zp_F2 hD hS hA q h) (zp_F2 hD hS hA) (fun u t H locs ht hvm hw => zx_3 (fun v126na0_9 v126na0_10 v126na0_11 => zy_3 (fun bv126na0_9 bv126na0_10 hraw126_0 hB hz1 hk1 hS1 => zo2 hB ht hP hD hk1 (zp_F2 hD hS hA) hS1 (fun hP hK1 hD hS => ?_))))
                have hc126 : Ff_X3_scanWord a0_7.toInt j0a0_9.toInt j0a0_9.toInt (fl_A fa0_3) = (v126na0_9.toInt, v126na0_10.toInt, v126na0_11.toInt) := hraw126_0
                have hF0 := hF0.trans (fl_c3_eq hc126)
                refine lv_goto (tgt := 172) hx hb dX3_advance_129 (by decide) ?_
                have hFe : FX = (j0a0_9.toInt, v126na0_9.toInt, v126na0_10.toInt, v126na0_11.toInt, a0_12.toInt) := hF0
                exact W.vret hx hb hr (fun t ht hW => ⟨⟨(), rfl, trivial, j0a0_9, v126na0_9, v126na0_10, v126na0_11, a0_12, ⟨bj0a0_9_l, Int.le_trans u54t_j0a0_9 (by decide)⟩, ⟨bv126na0_9.1, bv126na0_9.2⟩, ⟨bv126na0_10.1, bv126na0_10.2⟩, hFe, by rw [ht]; exact hP, va_K.moved hW.alike hK, hD⟩, hS.F ht⟩) hS.2.2 dX3_advance_172
          · have gc76 := ai_eq c76
            have u76f_x73 : x73.toInt ≤ (59 : Int) := Int.le_trans (Int.le_of_eq gc76) zq146
            have l76f_x73 : (59 : Int) ≤ x73.toInt := Int.le_trans zq147 (Int.le_of_eq gc76.symm)
            have hF0 := hF0.trans (if_pos (show x73.toInt = 59 from gc76))
            refine lv_aload_n hx hb dX3_advance_79 rfl (lv_at hl 0 rfl) ?_
            refine lv_iconst (v := 3) hx hb dX3_advance_80 zk_iconst_3 ?_
            refine va_put (D := (dC, dI)) (ci := 3) (v := .int 3) (ty := .int) (C := RX3) (T := TX3) (N := 14) hx hb hts zi_X3_advance_3 tyX3 tyX3_ok nmX3 hown hK hP hD hS 0 rfl rfl 10 (by decide) (hts (.fieldLink RX3 61 "WaxTurns$Reade\x72" "token" "I") (List.mem_cons_of_mem _ (List.mem_append_left _ (List.mem_of_getElem? (i := 4) rfl)))) (fun _ h9 => h9) rfl (tyX3_ok 10 (by decide)) rfl rfl (Nat.le_of_ble_eq_true rfl) dX3_advance_81 (fun H locs hP hD hS => ?_)
            refine zs_0 (y := (a0, .inr (3, [a0g_0, a0g_1, a0g_2, .ref a0_3, a0g_4, a0g_5, a0g_6, .int a0_7, .int j0a0_9, .int j0a0_9, .int 3, .long a0_11, .int a0_12, a0g_13]))) hP hD rfl (fun hP hD => ?_)
            refine lv_aload_n hx hb dX3_advance_84 rfl (lv_at hl 0 rfl) ?_
            refine lv_dup hx hb dX3_advance_85 rfl ?_
            refine va_get (D := (dC, dI)) (ci := 3) (v := .int j0a0_9) (C := RX3) (T := TX3) (N := 14) hx hb hts zi_X3_advance_3 hown hK hP 0 rfl rfl 9 (by decide) (hts (.fieldLink RX3 51 "WaxTurns$Reade\x72" "behind" "I") (List.mem_cons_of_mem _ (List.mem_append_left _ (List.mem_of_getElem? (i := 0) rfl)))) (fun _ h9 => h9) rfl dX3_advance_86 ?_
            refine lv_iconst (v := 1) hx hb dX3_advance_89 zk_iconst_1 ?_
            refine lv_iadd hx hb dX3_advance_90 ?_
            refine lv_topi (fun x90 ex90 => ?_)
            have qx90 : x90.toInt = j0a0_9.toInt + (1 : Int32).toInt := ai_add ex90 ⟨bj0a0_9_l, u54t_j0a0_9⟩ ⟨zq1, zq0⟩ (by decide) (by decide)
            have bx90 : (1 : Int) ≤ x90.toInt ∧ x90.toInt ≤ 900 := ⟨by rw [qx90]; exact Int.add_le_add bj0a0_9_l zq1, by rw [qx90]; exact Int.add_le_add u54t_j0a0_9 zq0⟩
            have wx90 : x90.toInt = j0a0_9.toInt + 1 := qx90
            have hF0 := hF0.trans (fl_lt_eq (show x90.toInt = j0a0_9.toInt + 1 from qx90))
            refine va_put (D := (dC, dI)) (ci := 3) (v := .int x90) (ty := .int) (C := RX3) (T := TX3) (N := 14) hx hb hts zi_X3_advance_3 tyX3 tyX3_ok nmX3 hown hK hP hD hS 0 rfl rfl 9 (by decide) (hts (.fieldLink RX3 51 "WaxTurns$Reade\x72" "behind" "I") (List.mem_cons_of_mem _ (List.mem_append_left _ (List.mem_of_getElem? (i := 0) rfl)))) (fun _ h9 => h9) rfl (tyX3_ok 9 (by decide)) rfl rfl (Nat.le_of_ble_eq_true rfl) dX3_advance_91 (fun H locs hP hD hS => ?_)
            refine zs_0 (y := (a0, .inr (3, [a0g_0, a0g_1, a0g_2, .ref a0_3, a0g_4, a0g_5, a0g_6, .int a0_7, .int j0a0_9, .int x90, .int 3, .long a0_11, .int a0_12, a0g_13]))) hP hD rfl (fun hP hD => ?_)
            refine lv_goto (tgt := 172) hx hb dX3_advance_94 (by decide) ?_
            have hFe : FX = (j0a0_9.toInt, x90.toInt, 3, a0_11.toInt, a0_12.toInt) := hF0
            exact W.vret hx hb hr (fun t ht hW => ⟨⟨(), rfl, trivial, j0a0_9, x90, 3, a0_11, a0_12, ⟨bj0a0_9_l, Int.le_trans u54t_j0a0_9 (by decide)⟩, ⟨Int.le_trans (by decide) bx90.1, bx90.2⟩, ⟨Int.le_trans (by decide) zq8, Int.le_trans zq9 (by decide)⟩, hFe, by rw [ht]; exact hP, va_K.moved hW.alike hK, hD⟩, hS.F ht⟩) hS.2.2 dX3_advance_172
        · have gc54 := ai_nlt c54
          have u54f_a0_7 : a0_7.toInt ≤ (900 : Int) := ba0_7_u
          have l54f_j0a0_9 : (0 : Int) ≤ j0a0_9.toInt := bj0a0_9_l
          have hF0 := hF0.trans (if_neg (show ¬ (j0a0_9.toInt < a0_7.toInt) from Int.not_lt.mpr gc54))
          refine lv_aload_n hx hb dX3_advance_57 rfl (lv_at hl 0 rfl) ?_
          refine lv_iconst (v := 0) hx hb dX3_advance_58 zk_iconst_0 ?_
          refine va_put (D := (dC, dI)) (ci := 3) (v := .int 0) (ty := .int) (C := RX3) (T := TX3) (N := 14) hx hb hts zi_X3_advance_3 tyX3 tyX3_ok nmX3 hown hK hP hD hS 0 rfl rfl 10 (by decide) (hts (.fieldLink RX3 61 "WaxTurns$Reade\x72" "token" "I") (List.mem_cons_of_mem _ (List.mem_append_left _ (List.mem_of_getElem? (i := 4) rfl)))) (fun _ h9 => h9) rfl (tyX3_ok 10 (by decide)) rfl rfl (Nat.le_of_ble_eq_true rfl) dX3_advance_59 (fun H locs hP hD hS => ?_)
          refine zs_0 (y := (a0, .inr (3, [a0g_0, a0g_1, a0g_2, .ref a0_3, a0g_4, a0g_5, a0g_6, .int a0_7, .int j0a0_9, .int j0a0_9, .int 0, .long a0_11, .int a0_12, a0g_13]))) hP hD rfl (fun hP hD => ?_)
          refine lv_goto (tgt := 172) hx hb dX3_advance_62 (by decide) ?_
          have hFe : FX = (j0a0_9.toInt, j0a0_9.toInt, 0, a0_11.toInt, a0_12.toInt) := hF0
          exact W.vret hx hb hr (fun t ht hW => ⟨⟨(), rfl, trivial, j0a0_9, j0a0_9, 0, a0_11, a0_12, ⟨l54f_j0a0_9, bj0a0_9_u⟩, ⟨l54f_j0a0_9, bj0a0_9_u⟩, ⟨zq5, Int.le_trans zq6 (by decide)⟩, hFe, by rw [ht]; exact hP, va_K.moved hW.alike hK, hD⟩, hS.F ht⟩) hS.2.2 dX3_advance_172
      refine lv_icmp_ge (tgt := 38) hx hb dX3_advance_8 (by decide) (fun c8 => ?_) (fun c8 => ?_)
      · have gc8 := ai_le c8
        have u8t_a0_7 : a0_7.toInt ≤ (900 : Int) := ba0_7_u
        have l8t_j0a0_9 : (0 : Int) ≤ j0a0_9.toInt := bj0a0_9_l
        have hF1 := hF1.trans (if_pos (show a0_7.toInt ≤ j0a0_9.toInt from gc8))
        have hF0 := hF0.trans (fl_wh_r (hSX0.trans hF1))
        exact (hK0 _ _ _).mp (J38  _ _ _   hF0 hP hD hS (lv_sub hl [0] rfl))
      · have gc8 := ai_nle c8
        have u8f_j0a0_9 : j0a0_9.toInt ≤ (899 : Int) := ai_lthi gc8 ba0_7_u
        have l8f_a0_7 : (1 : Int) ≤ a0_7.toInt := ai_ltlo gc8 bj0a0_9_l
        have hF1 := hF1.trans (if_neg (show ¬ (a0_7.toInt ≤ j0a0_9.toInt) from Int.not_le.mpr gc8))
        refine lv_aload_n hx hb dX3_advance_11 rfl (lv_at hl 0 rfl) ?_
        refine va_get (D := (dC, dI)) (ci := 3) (v := .ref a0_3) (C := RX3) (T := TX3) (N := 14) hx hb hts zi_X3_advance_3 hown hK hP 0 rfl rfl 3 (by decide) (hts (.fieldLink RX3 9 "WaxTurns$Reade\x72" "tape" "[B") (List.mem_cons_of_mem _ (List.mem_append_left _ (List.mem_of_getElem? (i := 2) rfl)))) (fun _ h9 => h9) rfl dX3_advance_12 ?_
        refine lv_aload_n hx hb dX3_advance_15 rfl (lv_at hl 0 rfl) ?_
        refine va_get (D := (dC, dI)) (ci := 3) (v := .int j0a0_9) (C := RX3) (T := TX3) (N := 14) hx hb hts zi_X3_advance_3 hown hK hP 0 rfl rfl 9 (by decide) (hts (.fieldLink RX3 51 "WaxTurns$Reade\x72" "behind" "I") (List.mem_cons_of_mem _ (List.mem_append_left _ (List.mem_of_getElem? (i := 0) rfl)))) (fun _ h9 => h9) rfl dX3_advance_16 ?_
        refine va_bald hx hb hK hP 1 0 rfl rfl (ai_in bj0a0_9_l u8f_j0a0_9 (by decide) (by decide)) dX3_advance_19 ?_
        refine lv_topi (fun x19 ex19 => ?_)
        have fqx19 := congrArg Int32.toInt ex19
        have hF1 := hF1.trans (fl_lt_eq (show x19.toInt = (fl_A fa0_3) (j0a0_9.toInt.toNat) from fqx19))
        refine lv_bipush (v := 32) hx hb dX3_advance_20 zk_bipush_32 ?_
        refine lv_icmp_ne (tgt := 38) hx hb dX3_advance_22 (by decide) (fun c22 => ?_) (fun c22 => ?_)
        · have gc22 := ai_ne c22
          have hF1 := hF1.trans (if_neg (show ¬ (x19.toInt = 32) from  gc22))
          have hF0 := hF0.trans (fl_wh_r (hSX0.trans hF1))
          exact (hK0 _ _ _).mp (J38  _ _ _   hF0 hP hD hS (lv_sub hl [0] rfl))
        · have gc22 := ai_eq c22
          have u22f_x19 : x19.toInt ≤ (32 : Int) := Int.le_trans (Int.le_of_eq gc22) zq148
          have l22f_x19 : (32 : Int) ≤ x19.toInt := Int.le_trans zq149 (Int.le_of_eq gc22.symm)
          have hF1 := hF1.trans (if_pos (show x19.toInt = 32 from gc22))
          refine lv_aload_n hx hb dX3_advance_25 rfl (lv_at hl 0 rfl) ?_
          refine lv_dup hx hb dX3_advance_26 rfl ?_
          refine va_get (D := (dC, dI)) (ci := 3) (v := .int j0a0_9) (C := RX3) (T := TX3) (N := 14) hx hb hts zi_X3_advance_3 hown hK hP 0 rfl rfl 9 (by decide) (hts (.fieldLink RX3 51 "WaxTurns$Reade\x72" "behind" "I") (List.mem_cons_of_mem _ (List.mem_append_left _ (List.mem_of_getElem? (i := 0) rfl)))) (fun _ h9 => h9) rfl dX3_advance_27 ?_
          refine lv_iconst (v := 1) hx hb dX3_advance_30 zk_iconst_1 ?_
          refine lv_iadd hx hb dX3_advance_31 ?_
          refine lv_topi (fun x31 ex31 => ?_)
          have qx31 : x31.toInt = j0a0_9.toInt + (1 : Int32).toInt := ai_add ex31 ⟨bj0a0_9_l, u8f_j0a0_9⟩ ⟨zq1, zq0⟩ (by decide) (by decide)
          have bx31 : (1 : Int) ≤ x31.toInt ∧ x31.toInt ≤ 900 := ⟨by rw [qx31]; exact Int.add_le_add bj0a0_9_l zq1, by rw [qx31]; exact Int.add_le_add u8f_j0a0_9 zq0⟩
          have wx31 : x31.toInt = j0a0_9.toInt + 1 := qx31
          have hF1 := hF1.trans (fl_lt_eq (show x31.toInt = j0a0_9.toInt + 1 from qx31))
          refine va_put (D := (dC, dI)) (ci := 3) (v := .int x31) (ty := .int) (C := RX3) (T := TX3) (N := 14) hx hb hts zi_X3_advance_3 tyX3 tyX3_ok nmX3 hown hK hP hD hS 0 rfl rfl 9 (by decide) (hts (.fieldLink RX3 51 "WaxTurns$Reade\x72" "behind" "I") (List.mem_cons_of_mem _ (List.mem_append_left _ (List.mem_of_getElem? (i := 0) rfl)))) (fun _ h9 => h9) rfl (tyX3_ok 9 (by decide)) rfl rfl (Nat.le_of_ble_eq_true rfl) dX3_advance_32 (fun H locs hP hD hS => ?_)
          refine zs_0 (y := (a0, .inr (3, [a0g_0, a0g_1, a0g_2, .ref a0_3, a0g_4, a0g_5, a0g_6, .int a0_7, .int a0_8, .int x31, .int a0_10, .long a0_11, .int a0_12, a0g_13]))) hP hD rfl (fun hP hD => ?_)
          refine lv_goto (tgt := 0) hx hb dX3_advance_35 (by decide) ?_
          exact (hK0 _ _ _).mp (ih0 x31 _ _ _ (by have h0 := qx31; omega) (Int.le_trans zq4 bx31.1) bx31.2 (hF0.trans (fl_wh_l (hSX0.trans hF1))) hP hD hS (lv_sub hl [0] rfl))
  exact (hK0 _ _ _).mp (J0 901 a0_9 _ _ _ (by have h1 : (0 : Int) ≤ a0_9.toInt := ba0_9_l; have h2 : a0_9.toInt ≤ (900 : Int) := ba0_9_u; omega) ba0_9_l ba0_9_u hF0 hP hD hS (lv_sub hl [0] rfl))

set_option maxHeartbeats 4000000 in
set_option maxRecDepth 100000 in
theorem f_X3_isWord (l : Launch) (dC : Nat → ClassId) (dI : Nat → Nat → Nat) (sz : Nat) (a0 : Nat) (a1 : Nat) (a0g_0 a0g_1 a0g_2 a0g_3 a0g_4 a0g_5 a0g_6 a0g_7 a0g_8 a0g_9 a0g_12 a0g_13 : Value) (a0_10 : Int32) (a0_11 : Int64) (na1 : Nat) (ca1 : Nat → Int32) (ba0_10_l : (0 : Int) ≤ a0_10.toInt) (ba0_10_u : a0_10.toInt ≤ (4 : Int)) : zm l yX3_isWord wsX3_isWord ({ frames := 4, cells := 0, slots := 0, locals := 85 }) [.ref a0, .ref a1] dC dI sz [(a0, .inr (3, [a0g_0, a0g_1, a0g_2, a0g_3, a0g_4, a0g_5, a0g_6, a0g_7, a0g_8, a0g_9, .int a0_10, .long a0_11, a0g_12, a0g_13]))] [] (fun A U => sxc_W a1 na1 ca1 A U) (fun A => va_Qi (fun (r : Int32) (_ : Unit) => ((r = 1 ∧ (1 : Int) ≤ a0_10.toInt ∧ a0_10.toInt ≤ (1 : Int)) ∨ (r = 0)) ∧ r.toInt = Ff_X3_isWord a0_10.toInt a0_11.toInt (na1 : Int) (fl_A ca1)) (fun (_ : Unit) (t : State) => ax_B dC dI A [(a0, .inr (3, [a0g_0, a0g_1, a0g_2, a0g_3, a0g_4, a0g_5, a0g_6, a0g_7, a0g_8, a0g_9, .int a0_10, .long a0_11, a0g_12, a0g_13]))] [] t) A) := by
  refine zh (cc := cX3_isWord) (maxL := 5) (ret := (some .boolean)) zn_RX3 rfl (Nat.le_of_ble_eq_true rfl) (fun p e s m below meth c A ls hx hb hml hr hts (hown : s.vm.findClass RX3 = some m.cls) hlocks hA hS hP hK hD hE (hl : lv_has ls 5 [(0, .ref a0), (1, .ref a1)]) => ?_)
  have hE0 := hE
  generalize hFX : Ff_X3_isWord a0_10.toInt a0_11.toInt (na1 : Int) (fl_A ca1) = FX at ⊢
  have hF0 := hFX.symm.trans (Ff_X3_isWord.eq_1 a0_10.toInt a0_11.toInt (na1 : Int) (fl_A ca1))
  refine ai_open (fun K hK0 => ?_)
  refine (hK0 _ _ _).mpr ?_
  refine lv_aload_n hx hb dX3_isWord_0 rfl (lv_at hl 0 rfl) ?_
  refine va_get (D := (dC, dI)) (ci := 3) (v := .int a0_10) (C := RX3) (T := TX3) (N := 14) hx hb hts zi_X3_isWord_3 hown hK hP 0 rfl rfl 10 (by decide) (hts (.fieldLink RX3 61 "WaxTurns$Reade\x72" "token" "I") (zm_X3_isWord_r1 (List.mem_of_getElem? (i := 0) rfl))) (fun _ h9 => h9) rfl dX3_isWord_1 ?_
  refine lv_iconst (v := 1) hx hb dX3_isWord_4 zk_iconst_1 ?_
  refine lv_icmp_eq (tgt := 10) hx hb dX3_isWord_5 (by decide) (fun c5 => ?_) (fun c5 => ?_)
  · have gc5 := ai_eq c5
    have u5t_a0_10 : a0_10.toInt ≤ (1 : Int) := Int.le_trans (Int.le_of_eq gc5) zq0
    have l5t_a0_10 : (1 : Int) ≤ a0_10.toInt := Int.le_trans zq1 (Int.le_of_eq gc5.symm)
    have hF0 := hF0.trans (if_pos (show a0_10.toInt = 1 from gc5))
    refine lv_lconst (v := 0) hx hb dX3_isWord_10 (by decide) ?_
    refine lv_lstore_n (lv' := [(2, .long 0), (0, .ref a0), (1, .ref a1)]) hx hb dX3_isWord_11 rfl hl (by decide) rfl (fun ls hl => ?_)
    refine lv_iconst (v := 0) hx hb dX3_isWord_12 zk_iconst_0 ?_
    refine lv_istore (lv' := [(4, .int 0), (2, .long 0), (0, .ref a0), (1, .ref a1)]) hx hb dX3_isWord_13 hl (by decide) rfl (fun ls hl => ?_)
    have J15 : ∀ (n : Nat) (j15l4 : Int32) (j15l2 : Int64) (H : Heap) (locs : List Loc) (ls : Array Slot), (9 : Int) - j15l4.toInt ≤ (n : Int) → (0 : Int) ≤ j15l4.toInt → j15l4.toInt ≤ (8 : Int) → (FX = fl_wh (fun t9 => Sf_X3_isWord_15_1 a0_11.toInt (na1 : Int) (fl_A ca1) t9.1 t9.2) 0 n (j15l4.toInt, j15l2.toInt)) → va_P (dC, dI) vwCl [(a0, .inr (3, [a0g_0, a0g_1, a0g_2, a0g_3, a0g_4, a0g_5, a0g_6, a0g_7, a0g_8, a0g_9, .int a0_10, .long a0_11, a0g_12, a0g_13]))] H → va_D A [(a0, .inr (3, [a0g_0, a0g_1, a0g_2, a0g_3, a0g_4, a0g_5, a0g_6, a0g_7, a0g_8, a0g_9, .int a0_10, .long a0_11, a0g_12, a0g_13]))] → va_S A s.heap H locs → lv_has ls 5 [(0, .ref a0), (1, .ref a1), (2, .long j15l2), (4, .int j15l4)] → K H locs (F0 m 15 ls []) := by
      intro n
      induction n with
      | zero =>
        intro j15l4 j15l2 H locs ls hm bj15l4_l bj15l4_u hF0 hP hD hS hl
        first | exact zg_0 hm bj15l4_u (by decide) | (have h8 := ai_min j15l4; have h9 := ai_max j15l4; exact absurd hm (by omega))
      | succ n ih15 =>
        intro j15l4 j15l2 H locs ls hm bj15l4_l bj15l4_u hF0 hP hD hS hl
        refine (hK0 _ _ _).mpr ?_
        have hm15 := hm
        obtain ⟨SX15, hSX15⟩ : ∃ q9, Sf_X3_isWord_15_1 a0_11.toInt (na1 : Int) (fl_A ca1) j15l4.toInt j15l2.toInt = q9 := ⟨_, rfl⟩
        have hF1 := hSX15.symm.trans (Sf_X3_isWord_15_1.eq_1 a0_11.toInt (na1 : Int) (fl_A ca1) j15l4.toInt j15l2.toInt)
        refine lv_iload hx hb dX3_isWord_15 (lv_at hl 3 rfl) ?_
        refine lv_aload_n hx hb dX3_isWord_17 rfl (lv_at hl 1 rfl) ?_
        refine va_calli (va_runV (As := []) (rest := [.int j15l4]) ⟨hx, hb, hml, hown, hts⟩ (f_J0_length_8abf5 l dC dI H.size a1 na1 ca1 ) (cwV 0 hts gX3_isWord_J0_length_8abf5 rfl rfl rfl zd_J0_length_8abf5 ⟨Nat.le_of_ble_eq_true rfl, Nat.le_of_ble_eq_true rfl⟩) ⟨ax_blind (fun _ _ _ _ hq => sxc_W_same _ _ _ _ (hq)), sxc_recv hE0 hS, ax_preE (zp_P0 hP) (zp_K hK) (zp_D0 hD) (fun U hU hW => sxc_W_to hE0 hS.2.1 (zp_F0 hD hS hA) hU hW)⟩ rfl rfl hl.1 rfl (lv_room (Nat.le_of_ble_eq_true rfl)) dX3_isWord_18 ⟨Nat.le_of_ble_eq_true rfl, Nat.le_of_ble_eq_true rfl⟩) hS (fun q _ h => zp_F0 hD hS hA q h) (zp_F0 hD hS hA) (fun r18 u t H locs ht hvm hw hB hz1 hk1 hS1 => zo0 hB ht hP hD hk1 (zp_F0 hD hS hA) hS1 (fun hP hK1 hD hS => ?_))
        obtain ⟨hw, hfr18⟩ := hw
        have hc18 : (na1 : Int) = r18.toInt := hfr18.symm
        have hF1 := hF1.trans (fl_lt_eq hc18.symm)
        rcases hw with hw
        · obtain ⟨hwr18, hnr18⟩ := hw
          refine lv_icmp_ge (tgt := 43) hx hb dX3_isWord_21 (by decide) (fun c21 => ?_) (fun c21 => ?_)
          · have gc21 := ai_le c21
            have u21t_r18 : r18.toInt ≤ (8 : Int) := (by omega : r18.toInt ≤ (8 : Int))
            have l21t_j15l4 : (0 : Int) ≤ j15l4.toInt := bj15l4_l
            have hF1 := hF1.trans (if_pos (show r18.toInt ≤ j15l4.toInt from gc21))
            have hF0 := hF0.trans (fl_wh_r (hSX15.trans hF1))
            refine lv_aload_n hx hb dX3_isWord_43 rfl (lv_at hl 0 rfl) ?_
            refine va_get (D := (dC, dI)) (ci := 3) (v := .long a0_11) (C := RX3) (T := TX3) (N := 14) hx hb hts zi_X3_isWord_3 hown hK hP 0 rfl rfl 11 (by decide) (hts (.fieldLink RX3 81 "WaxTurns$Reade\x72" "word" "J") (zm_X3_isWord_r1 (List.mem_of_getElem? (i := 1) rfl))) (fun _ h9 => h9) rfl dX3_isWord_44 ?_
            refine lv_lload_n hx hb dX3_isWord_47 rfl (lv_at hl 2 rfl) ?_
            refine W.lcmp hx hb dX3_isWord_48 ?_
            refine lv_topi (fun x48 ex48 => ?_)
            have fqx48 := fl_cmp_eq ex48
            have hF0 := hF0.trans (fl_lt_eq (show x48.toInt = fl_cmp a0_11.toInt j15l2.toInt from fqx48))
            refine lv_if_ne (tgt := 56) hx hb dX3_isWord_49 (by decide) (fun c49 => ?_) (fun c49 => ?_)
            · have gc49 := ai_ne c49
              have hF0 := hF0.trans (if_neg (show ¬ (x48.toInt = 0) from  gc49))
              refine lv_iconst (v := 0) hx hb dX3_isWord_56 zk_iconst_0 ?_
              have hFe : FX = 0 := hF0
              exact W.zret (v := 0) hx hb hr rfl (fun t ht hW => ⟨⟨0, (), rfl, ⟨(Or.inr (rfl)), hFe.symm⟩, by rw [ht]; exact hP, va_K.moved hW.alike hK, hD⟩, hS.F ht⟩) hS.2.2 dX3_isWord_57
            · have gc49 := ai_eq c49
              have u49f_x48 : x48.toInt ≤ (0 : Int) := Int.le_trans (Int.le_of_eq gc49) zq6
              have l49f_x48 : (0 : Int) ≤ x48.toInt := Int.le_trans zq5 (Int.le_of_eq gc49.symm)
              have hF0 := hF0.trans (if_pos (show x48.toInt = 0 from gc49))
              refine lv_iconst (v := 1) hx hb dX3_isWord_52 zk_iconst_1 ?_
              refine lv_goto (tgt := 57) hx hb dX3_isWord_53 (by decide) ?_
              have hFe : FX = 1 := hF0
              exact W.zret (v := 1) hx hb hr rfl (fun t ht hW => ⟨⟨1, (), rfl, ⟨(Or.inl ⟨rfl, l5t_a0_10, u5t_a0_10⟩), hFe.symm⟩, by rw [ht]; exact hP, va_K.moved hW.alike hK, hD⟩, hS.F ht⟩) hS.2.2 dX3_isWord_57
          · have gc21 := ai_nle c21
            have u21f_j15l4 : j15l4.toInt ≤ (7 : Int) := ai_lthi gc21 (by omega : r18.toInt ≤ (8 : Int))
            have l21f_r18 : (1 : Int) ≤ r18.toInt := ai_ltlo gc21 bj15l4_l
            have hF1 := hF1.trans (if_neg (show ¬ (r18.toInt ≤ j15l4.toInt) from Int.not_le.mpr gc21))
            refine lv_lload_n hx hb dX3_isWord_24 rfl (lv_at hl 2 rfl) ?_
            refine lv_bipush (v := 8) hx hb dX3_isWord_25 zk_bipush_8 ?_
            refine lv_lshl hx hb dX3_isWord_27 rfl ?_
            refine lv_topl (fun x27 ex27 => ?_)
            have fqx27 := fl_lshl_eq ex27
            have hF1 := hF1.trans (fl_lt_eq (show x27.toInt = fl_lshl j15l2.toInt 8 from fqx27))
            refine lv_aload_n hx hb dX3_isWord_28 rfl (lv_at hl 1 rfl) ?_
            refine lv_iload hx hb dX3_isWord_29 (lv_at hl 3 rfl) ?_
            refine va_calli (va_runV (As := [.int j15l4]) (rest := [.long x27]) ⟨hx, hb, hml, hown, hts⟩ (f_J0_charAt_5068e l dC dI H.size a1 na1 ca1 j15l4 bj15l4_l (by omega)) (cwV 1 hts gX3_isWord_J0_charAt_5068e rfl rfl rfl zd_J0_charAt_5068e ⟨Nat.le_of_ble_eq_true rfl, Nat.le_of_ble_eq_true rfl⟩) ⟨ax_blind (fun _ _ _ _ hq => sxc_W_same _ _ _ _ (hq)), sxc_recv hE0 hS, ax_preE (zp_P0 hP) (zp_K hK) (zp_D0 hD) (fun U hU hW => sxc_W_to hE0 hS.2.1 (zp_F0 hD hS hA) hU hW)⟩ rfl rfl hl.1 rfl (lv_room (Nat.le_of_ble_eq_true rfl)) dX3_isWord_31 ⟨Nat.le_of_ble_eq_true rfl, Nat.le_of_ble_eq_true rfl⟩) hS (fun q _ h => zp_F0 hD hS hA q h) (zp_F0 hD hS hA) (fun r31 u t H locs ht hvm hw hB hz1 hk1 hS1 => zo0 hB ht hP hD hk1 (zp_F0 hD hS hA) hS1 (fun hP hK1 hD hS => ?_))
            obtain ⟨hw, hfr31⟩ := hw
            have hc31 : (fl_A ca1) (j15l4.toInt.toNat) = r31.toInt := hfr31.symm
            have hF1 := hF1.trans (fl_lt_eq hc31.symm)
            obtain ⟨x34, ex34⟩ : ∃ y : Int64, y = (r31 : Int32).toInt64 := ⟨_, rfl⟩
            refine lv_i2l (v := x34) hx hb dX3_isWord_34 ex34.symm ?_
            have fqx34 := fl_i2l_eq ex34
            have hF1 := hF1.trans (fl_lt_eq (show x34.toInt = r31.toInt from fqx34))
            refine lv_lor hx hb dX3_isWord_35 ?_
            refine lv_topl (fun x35 ex35 => ?_)
            have fqx35 := fl_lor_eq ex35
            have hF1 := hF1.trans (fl_lt_eq (show x35.toInt = fl_lor x27.toInt x34.toInt from fqx35))
            refine lv_lstore_n (lv' := [(2, .long x35), (0, .ref a0), (1, .ref a1), (4, .int j15l4)]) hx hb dX3_isWord_36 rfl hl (by decide) rfl (fun ls hl => ?_)
            obtain ⟨x37, ex37⟩ : ∃ y : Int32, y = j15l4 + Int32.ofInt 1 := ⟨_, rfl⟩
            have qx37 : x37.toInt = j15l4.toInt + 1 := ai_inc ex37 (by decide) (by decide) u21f_j15l4 (by decide)
            have bx37 : (1 : Int) ≤ x37.toInt ∧ x37.toInt ≤ 8 := ⟨by rw [qx37]; exact Int.add_le_add bj15l4_l (Int.le_refl _), by rw [qx37]; exact Int.add_le_add u21f_j15l4 (Int.le_refl _)⟩
            refine lv_iinc (v := x37) (lv' := [(4, .int x37), (2, .long x35), (0, .ref a0), (1, .ref a1)]) hx hb dX3_isWord_37 hl (k := 3) rfl ex37.symm (by decide) rfl (fun ls hl => ?_)
            have hF1 := hF1.trans (fl_lt_eq (show x37.toInt = j15l4.toInt + 1 from qx37))
            refine lv_goto (tgt := 15) hx hb dX3_isWord_40 (by decide) ?_
            exact (hK0 _ _ _).mp (ih15 x37 x35 _ _ _ (by first | exact zg_s hm15 qx37 | (have h0 := qx37; omega)) (Int.le_trans zq4 bx37.1) bx37.2 (hF0.trans (fl_wh_l (hSX15.trans hF1))) hP hD hS (lv_sub hl [2, 3, 1, 0] rfl))
    exact (hK0 _ _ _).mp (J15 9 0 0 _ _ _ (by first | decide +kernel | (have h1 : (0 : Int) ≤ (0 : Int32).toInt := zq5; have h2 : (0 : Int32).toInt ≤ (0 : Int) := zq6; omega)) zq5 (Int.le_trans zq6 zq20) (by rw [show (0 : Int32).toInt = 0 from by decide, show (0 : Int64).toInt = 0 from by decide]; exact hF0) hP hD hS (lv_sub hl [2, 3, 1, 0] rfl))
  · have gc5 := ai_ne c5
    have hF0 := hF0.trans (if_neg (show ¬ (a0_10.toInt = 1) from  gc5))
    refine lv_iconst (v := 0) hx hb dX3_isWord_8 zk_iconst_0 ?_
    have hFe : FX = 0 := hF0
    exact W.zret (v := 0) hx hb hr rfl (fun t ht hW => ⟨⟨0, (), rfl, ⟨(Or.inr (rfl)), hFe.symm⟩, by rw [ht]; exact hP, va_K.moved hW.alike hK, hD⟩, hS.F ht⟩) hS.2.2 dX3_isWord_9

set_option maxHeartbeats 4000000 in
set_option maxRecDepth 100000 in
theorem f_X3_isWholeWithin (l : Launch) (dC : Nat → ClassId) (dI : Nat → Nat → Nat) (sz : Nat) (a0 : Nat) (a1 : Int32) (a2 : Int32) (a0g_0 a0g_3 a0g_4 a0g_5 a0g_6 a0g_7 a0g_9 a0g_11 a0g_13 : Value) (a0_1 : Int32) (a0_2 : Int32) (a0_8 : Int32) (a0_10 : Int32) (a0_12 : Int32) (ba0_8_l : (0 : Int) ≤ a0_8.toInt) (ba0_8_u : a0_8.toInt ≤ (900 : Int)) (ba0_10_l : (0 : Int) ≤ a0_10.toInt) (ba0_10_u : a0_10.toInt ≤ (4 : Int)) : zm l yX3_isWholeWithin wsX3_isWholeWithin ({ frames := 1, cells := 0, slots := 0, locals := 22 }) [.ref a0, .int a1, .int a2] dC dI sz [(a0, .inr (3, [a0g_0, .int a0_1, .int a0_2, a0g_3, a0g_4, a0g_5, a0g_6, a0g_7, .int a0_8, a0g_9, .int a0_10, a0g_11, .int a0_12, a0g_13]))] [] (fun A U => va_Nw (.methodLinkNest RX3 223 yX7_within RX7) U) (fun A => va_Qi (fun (r : Int32) (_ : Unit) => ((r = 1 ∧ a1.toInt ≤ a0_12.toInt ∧ a0_12.toInt ≤ a2.toInt) ∨ r = 0) ∧ r.toInt = (Ff_X3_isWholeWithin a1.toInt a2.toInt a0_1.toInt a0_2.toInt a0_8.toInt a0_10.toInt a0_12.toInt).1) (fun (_ : Unit) (t : State) => ∃ na0_1 : Int32, ∃ na0_2 : Int32, ((Ff_X3_isWholeWithin a1.toInt a2.toInt a0_1.toInt a0_2.toInt a0_8.toInt a0_10.toInt a0_12.toInt).2 = (na0_1.toInt, na0_2.toInt)) ∧ ax_B dC dI A [(a0, .inr (3, [a0g_0, .int na0_1, .int na0_2, a0g_3, a0g_4, a0g_5, a0g_6, a0g_7, .int a0_8, a0g_9, .int a0_10, a0g_11, .int a0_12, a0g_13]))] [] t) A) := by
  refine zh (cc := cX3_isWholeWithin) (maxL := 3) (ret := (some .boolean)) zn_RX3 rfl (Nat.le_of_ble_eq_true rfl) (fun p e s m below meth c A ls hx hb hml hr hts (hown : s.vm.findClass RX3 = some m.cls) hlocks hA hS hP hK hD hE (hl : lv_has ls 3 [(0, .ref a0), (1, .int a1), (2, .int a2)]) => ?_)
  have hE0 := hE
  generalize hFX : Ff_X3_isWholeWithin a1.toInt a2.toInt a0_1.toInt a0_2.toInt a0_8.toInt a0_10.toInt a0_12.toInt = FX at ⊢
  have hF0 := hFX.symm.trans (Ff_X3_isWholeWithin.eq_1 a1.toInt a2.toInt a0_1.toInt a0_2.toInt a0_8.toInt a0_10.toInt a0_12.toInt)
  refine lv_aload_n hx hb dX3_isWholeWithin_0 rfl (lv_at hl 0 rfl) ?_
  refine va_get (D := (dC, dI)) (ci := 3) (v := .int a0_10) (C := RX3) (T := TX3) (N := 14) hx hb hts zi_X3_isWholeWithin_3 hown hK hP 0 rfl rfl 10 (by decide) (hts (.fieldLink RX3 61 "WaxTurns$Reade\x72" "token" "I") (List.mem_cons_of_mem _ (List.mem_append_left _ (List.mem_of_getElem? (i := 0) rfl)))) (fun _ h9 => h9) rfl dX3_isWholeWithin_1 ?_
  refine lv_iconst (v := 2) hx hb dX3_isWholeWithin_4 zk_iconst_2 ?_
  refine lv_icmp_eq (tgt := 14) hx hb dX3_isWholeWithin_5 (by decide) (fun c5 => ?_) (fun c5 => ?_)
  · have gc5 := ai_eq c5
    have u5t_a0_10 : a0_10.toInt ≤ (2 : Int) := Int.le_trans (Int.le_of_eq gc5) zq13
    have l5t_a0_10 : (2 : Int) ≤ a0_10.toInt := Int.le_trans zq12 (Int.le_of_eq gc5.symm)
    have hF0 := hF0.trans (if_pos (show a0_10.toInt = 2 from gc5))
    refine lv_aload_n hx hb dX3_isWholeWithin_14 rfl (lv_at hl 0 rfl) ?_
    refine va_get (D := (dC, dI)) (ci := 3) (v := .int a0_12) (C := RX3) (T := TX3) (N := 14) hx hb hts zi_X3_isWholeWithin_3 hown hK hP 0 rfl rfl 12 (by decide) (hts (.fieldLink RX3 85 "WaxTurns$Reade\x72" "whole" "I") (List.mem_cons_of_mem _ (List.mem_append_left _ (List.mem_of_getElem? (i := 1) rfl)))) (fun _ h9 => h9) rfl dX3_isWholeWithin_15 ?_
    refine lv_iload_n hx hb dX3_isWholeWithin_18 rfl (lv_at hl 1 rfl) ?_
    refine lv_iload_n hx hb dX3_isWholeWithin_19 rfl (lv_at hl 2 rfl) ?_
    refine va_calli (va_runSN (As := [.int a0_12, .int a1, .int a2]) (rest := []) ⟨hx, hb, hml, hown, hts⟩ (f_X7_within l dC dI s.heap.size a0_12 a1 a2 ) ⟨va_cnB 3 hts gX3_isWholeWithin_X7_within_n223 rfl rfl rfl hE0 (hts (.initialized RX7) (List.mem_cons_of_mem _ (List.mem_append_left _ (List.mem_of_getElem? (i := 11) rfl)))) zd_X7_within.2 ⟨Nat.le_of_ble_eq_true rfl, Nat.le_of_ble_eq_true rfl⟩, (hts (.static yX7_within) (List.mem_cons_of_mem _ (List.mem_append_left _ (List.mem_of_getElem? (i := 10) rfl)))), trivial⟩ ⟨ax_blind (fun _ _ _ _ _ => trivial), ax_pre (zp_P0 hP) (zp_K hK) (zp_D0 hD) (fun _ _ => trivial)⟩ rfl rfl hl.1 rfl (lv_room (Nat.le_of_ble_eq_true rfl)) dX3_isWholeWithin_20 ⟨Nat.le_of_ble_eq_true rfl, Nat.le_of_ble_eq_true rfl⟩) hS (fun q _ h => zp_F0 hD hS hA q h) (zp_F0 hD hS hA) (fun r20 u t H locs ht hvm hw hB hz1 hk1 hS1 => zo0 hB ht hP hD hk1 (zp_F0 hD hS hA) hS1 (fun hP hK1 hD hS => ?_))
    obtain ⟨hw, hfr20⟩ := hw
    have hc20 : Ff_X7_within a0_12.toInt a1.toInt a2.toInt = r20.toInt := hfr20.symm
    have hF0 := hF0.trans (fl_lt_eq hc20.symm)
    rcases hw with hw | hw
    · obtain ⟨hw, h20⟩ := hw
      subst hw
      have hF0 := hF0.trans (if_pos (by decide))
      refine lv_if_ne (tgt := 34) hx hb dX3_isWholeWithin_23 (by decide) (fun _ => ?_) (fun c23 => absurd c23 (by decide +kernel))
      refine lv_iconst (v := 1) hx hb dX3_isWholeWithin_34 zk_iconst_1 ?_
      refine lv_goto (tgt := 39) hx hb dX3_isWholeWithin_35 (by decide) ?_
      have hFe : FX = (1, a0_1.toInt, a0_2.toInt) := hF0
      exact W.zret (v := 1) hx hb hr rfl (fun t ht hW => ⟨⟨1, (), rfl, ⟨(Or.inl ⟨rfl, h20⟩), (congrArg Prod.fst hFe).symm⟩, a0_1, a0_2, (congrArg Prod.snd hFe), by rw [ht]; exact hP, va_K.moved hW.alike hK, hD⟩, hS.F ht⟩) hS.2.2 dX3_isWholeWithin_39
    · obtain ⟨hw, h20⟩ := hw
      subst hw
      have hF0 := hF0.trans (if_neg (by decide))
      refine lv_if_ne (tgt := 34) hx hb dX3_isWholeWithin_23 (by decide) (fun c23 => absurd (by decide +kernel) c23) (fun _ => ?_)
      refine lv_aload_n hx hb dX3_isWholeWithin_26 rfl (lv_at hl 0 rfl) ?_
      refine lv_iconst (v := 4) hx hb dX3_isWholeWithin_27 zk_iconst_4 ?_
      refine va_calli (va_runV (As := [.int 4]) (rest := []) ⟨hx, hb, hml, hown, hts⟩ (f_X3_fails l dC dI H.size a0 4 a0g_0 a0g_3 a0g_4 a0g_5 a0g_6 a0g_7 a0g_9 (.int a0_10) a0g_11 (.int a0_12) a0g_13 a0_1 a0_2 a0_8 ba0_8_l ba0_8_u) (cwV 1 hts gX3_isWholeWithin_X3_fails rfl rfl rfl zd_X3_fails ⟨Nat.le_of_ble_eq_true rfl, Nat.le_of_ble_eq_true rfl⟩) ⟨ax_blind (fun _ _ _ _ _ => trivial), zr_3 (zp_K hK) (zp_P1 hP) (q0 := 0) rfl, ax_pre (zp_P1 hP) (zp_K hK) (zp_D1 hD) (fun _ _ => trivial)⟩ rfl rfl hl.1 rfl (lv_room (Nat.le_of_ble_eq_true rfl)) dX3_isWholeWithin_28 ⟨Nat.le_of_ble_eq_true rfl, Nat.le_of_ble_eq_true rfl⟩) hS (fun q _ h => zp_F1 hD hS hA q h) (zp_F1 hD hS hA) (fun r28 u t H locs ht hvm hw => zx_2 (fun v28na0_1 v28na0_2 => zy_1 (fun hraw28_0 hB hz1 hk1 hS1 => zo1 hB ht hP hD hk1 (zp_F1 hD hS hA) hS1 (fun hP hK1 hD hS => ?_))))
      obtain ⟨hw, hfr28⟩ := hw
      rw [show (4 : Int32).toInt = 4 from by decide] at hfr28 hraw28_0
      have hc28 : Ff_X3_fails 4 a0_8.toInt = (r28.toInt, v28na0_1.toInt, v28na0_2.toInt) := Prod.ext hfr28.symm hraw28_0
      have hF0 := hF0.trans (fl_c3_eq hc28)
      have hw : r28 = 0 := hw
      have hw := hw.symm
      subst hw
      refine lv_if_eq (tgt := 38) hx hb dX3_isWholeWithin_31 (by decide) (fun _ => ?_) (fun c31 => absurd (by decide +kernel) c31)
      refine lv_iconst (v := 0) hx hb dX3_isWholeWithin_38 zk_iconst_0 ?_
      have hFe : FX = (0, v28na0_1.toInt, v28na0_2.toInt) := hF0
      exact W.zret (v := 0) hx hb hr rfl (fun t ht hW => ⟨⟨0, (), rfl, ⟨(Or.inr rfl), (congrArg Prod.fst hFe).symm⟩, v28na0_1, v28na0_2, (congrArg Prod.snd hFe), by rw [ht]; exact hP, va_K.moved hW.alike hK, hD⟩, hS.F ht⟩) hS.2.2 dX3_isWholeWithin_39
  · have gc5 := ai_ne c5
    have hF0 := hF0.trans (if_neg (show ¬ (a0_10.toInt = 2) from  gc5))
    refine lv_aload_n hx hb dX3_isWholeWithin_8 rfl (lv_at hl 0 rfl) ?_
    refine lv_iconst (v := 1) hx hb dX3_isWholeWithin_9 zk_iconst_1 ?_
    refine va_calli (va_runV (As := [.int 1]) (rest := []) ⟨hx, hb, hml, hown, hts⟩ (f_X3_fails l dC dI s.heap.size a0 1 a0g_0 a0g_3 a0g_4 a0g_5 a0g_6 a0g_7 a0g_9 (.int a0_10) a0g_11 (.int a0_12) a0g_13 a0_1 a0_2 a0_8 ba0_8_l ba0_8_u) (cwV 1 hts gX3_isWholeWithin_X3_fails rfl rfl rfl zd_X3_fails ⟨Nat.le_of_ble_eq_true rfl, Nat.le_of_ble_eq_true rfl⟩) ⟨ax_blind (fun _ _ _ _ _ => trivial), zr_3 (zp_K hK) (zp_P1 hP) (q0 := 0) rfl, ax_pre (zp_P1 hP) (zp_K hK) (zp_D1 hD) (fun _ _ => trivial)⟩ rfl rfl hl.1 rfl (lv_room (Nat.le_of_ble_eq_true rfl)) dX3_isWholeWithin_10 ⟨Nat.le_of_ble_eq_true rfl, Nat.le_of_ble_eq_true rfl⟩) hS (fun q _ h => zp_F1 hD hS hA q h) (zp_F1 hD hS hA) (fun r10 u t H locs ht hvm hw => zx_2 (fun v10na0_1 v10na0_2 => zy_1 (fun hraw10_0 hB hz1 hk1 hS1 => zo1 hB ht hP hD hk1 (zp_F1 hD hS hA) hS1 (fun hP hK1 hD hS => ?_))))
    obtain ⟨hw, hfr10⟩ := hw
    rw [show (1 : Int32).toInt = 1 from by decide] at hfr10 hraw10_0
    have hc10 : Ff_X3_fails 1 a0_8.toInt = (r10.toInt, v10na0_1.toInt, v10na0_2.toInt) := Prod.ext hfr10.symm hraw10_0
    have hF0 := hF0.trans (fl_c3_eq hc10)
    have hw : r10 = 0 := hw
    have hw := hw.symm
    subst hw
    have hFe : FX = (0, v10na0_1.toInt, v10na0_2.toInt) := hF0
    exact W.zret (v := 0) hx hb hr rfl (fun t ht hW => ⟨⟨0, (), rfl, ⟨(Or.inr rfl), (congrArg Prod.fst hFe).symm⟩, v10na0_1, v10na0_2, (congrArg Prod.snd hFe), by rw [ht]; exact hP, va_K.moved hW.alike hK, hD⟩, hS.F ht⟩) hS.2.2 dX3_isWholeWithin_13

set_option maxHeartbeats 4000000 in
set_option maxRecDepth 100000 in
theorem f_X3_takeWord (l : Launch) (dC : Nat → ClassId) (dI : Nat → Nat → Nat) (sz : Nat) (a0 : Nat) (a1 : Nat) (a0g_0 a0g_4 a0g_5 a0g_6 a0g_13 : Value) (a0_1 : Int32) (a0_2 : Int32) (a0_3 : Nat) (a0_7 : Int32) (a0_8 : Int32) (a0_9 : Int32) (a0_10 : Int32) (a0_11 : Int64) (a0_12 : Int32) (ka0_3 : ClassId) (fa0_3 : Nat → Int32) (na1 : Nat) (ca1 : Nat → Int32) (ba0_7_l : (0 : Int) ≤ a0_7.toInt) (ba0_7_u : a0_7.toInt ≤ (900 : Int)) (ba0_8_l : (0 : Int) ≤ a0_8.toInt) (ba0_8_u : a0_8.toInt ≤ (900 : Int)) (ba0_9_l : (0 : Int) ≤ a0_9.toInt) (ba0_9_u : a0_9.toInt ≤ (900 : Int)) (ba0_10_l : (0 : Int) ≤ a0_10.toInt) (ba0_10_u : a0_10.toInt ≤ (4 : Int)) : zm l yX3_takeWord wsX3_takeWord ({ frames := 5, cells := 0, slots := 0, locals := 109 }) [.ref a0, .ref a1] dC dI sz [(a0, .inr (3, [a0g_0, .int a0_1, .int a0_2, .ref a0_3, a0g_4, a0g_5, a0g_6, .int a0_7, .int a0_8, .int a0_9, .int a0_10, .long a0_11, .int a0_12, a0g_13])), (a0_3, .inl (ka0_3, 900, .inl (fa0_3)))] [(ka0_3, .byte)] (fun A U => sxc_W a1 na1 ca1 A U) (fun A => va_Qi (fun (r : Int32) (_ : Unit) => ((r = 1) ∨ (r = 0)) ∧ r.toInt = (Ff_X3_takeWord a0_1.toInt a0_2.toInt a0_7.toInt a0_8.toInt a0_9.toInt a0_10.toInt a0_11.toInt a0_12.toInt (fl_A fa0_3) (na1 : Int) (fl_A ca1)).1) (fun (_ : Unit) (t : State) => ∃ na0_1 : Int32, ∃ na0_2 : Int32, ∃ na0_8 : Int32, ∃ na0_9 : Int32, ∃ na0_10 : Int32, ∃ na0_11 : Int64, ∃ na0_12 : Int32, ((0 : Int) ≤ na0_8.toInt ∧ na0_8.toInt ≤ 900) ∧ ((0 : Int) ≤ na0_9.toInt ∧ na0_9.toInt ≤ 900) ∧ ((0 : Int) ≤ na0_10.toInt ∧ na0_10.toInt ≤ 4) ∧ ((Ff_X3_takeWord a0_1.toInt a0_2.toInt a0_7.toInt a0_8.toInt a0_9.toInt a0_10.toInt a0_11.toInt a0_12.toInt (fl_A fa0_3) (na1 : Int) (fl_A ca1)).2 = (na0_1.toInt, na0_2.toInt, na0_8.toInt, na0_9.toInt, na0_10.toInt, na0_11.toInt, na0_12.toInt)) ∧ ax_B dC dI A [(a0, .inr (3, [a0g_0, .int na0_1, .int na0_2, .ref a0_3, a0g_4, a0g_5, a0g_6, .int a0_7, .int na0_8, .int na0_9, .int na0_10, .long na0_11, .int na0_12, a0g_13])), (a0_3, .inl (ka0_3, 900, .inl (fa0_3)))] [(ka0_3, .byte)] t) A) := by
  refine zh (cc := cX3_takeWord) (maxL := 2) (ret := (some .boolean)) zn_RX3 rfl (Nat.le_of_ble_eq_true rfl) (fun p e s m below meth c A ls hx hb hml hr hts (hown : s.vm.findClass RX3 = some m.cls) hlocks hA hS hP hK hD hE (hl : lv_has ls 2 [(0, .ref a0), (1, .ref a1)]) => ?_)
  have hE0 := hE
  generalize hFX : Ff_X3_takeWord a0_1.toInt a0_2.toInt a0_7.toInt a0_8.toInt a0_9.toInt a0_10.toInt a0_11.toInt a0_12.toInt (fl_A fa0_3) (na1 : Int) (fl_A ca1) = FX at ⊢
  have hF0 := hFX.symm.trans (Ff_X3_takeWord.eq_1 a0_1.toInt a0_2.toInt a0_7.toInt a0_8.toInt a0_9.toInt a0_10.toInt a0_11.toInt a0_12.toInt (fl_A fa0_3) (na1 : Int) (fl_A ca1))
  refine lv_aload_n hx hb dX3_takeWord_0 rfl (lv_at hl 0 rfl) ?_
  refine lv_aload_n hx hb dX3_takeWord_1 rfl (lv_at hl 1 rfl) ?_
  refine va_calli (va_runV (As := [.ref a1]) (rest := []) ⟨hx, hb, hml, hown, hts⟩ (f_X3_isWord l dC dI s.heap.size a0 a1 a0g_0 (.int a0_1) (.int a0_2) (.ref a0_3) a0g_4 a0g_5 a0g_6 (.int a0_7) (.int a0_8) (.int a0_9) (.int a0_12) a0g_13 a0_10 a0_11 na1 ca1 ba0_10_l ba0_10_u) (cwV 1 hts gX3_takeWord_X3_isWord rfl rfl rfl zd_X3_isWord ⟨Nat.le_of_ble_eq_true rfl, Nat.le_of_ble_eq_true rfl⟩) ⟨ax_blind (fun _ _ _ _ hq => sxc_W_same _ _ _ _ (hq)), zr_3 (zp_K hK) (zp_P1 hP) (q0 := 0) rfl, ax_preE (zp_P1 hP) (zp_K hK) (zp_D1 hD) (fun U hU hW => sxc_W_to hE0 hS.2.1 (zp_F1 hD hS hA) hU hW)⟩ rfl rfl hl.1 rfl (lv_room (Nat.le_of_ble_eq_true rfl)) dX3_takeWord_2 ⟨Nat.le_of_ble_eq_true rfl, Nat.le_of_ble_eq_true rfl⟩) hS (fun q _ h => zp_F1 hD hS hA q h) (zp_F1 hD hS hA) (fun r2 u t H locs ht hvm hw hB hz1 hk1 hS1 => zo1 hB ht hP hD hk1 (zp_F1 hD hS hA) hS1 (fun hP hK1 hD hS => ?_))
  obtain ⟨hw, hfr2⟩ := hw
  have hc2 : Ff_X3_isWord a0_10.toInt a0_11.toInt (na1 : Int) (fl_A ca1) = r2.toInt := hfr2.symm
  have hF0 := hF0.trans (fl_lt_eq hc2.symm)
  rcases hw with hw | hw
  · obtain ⟨hw, h2_0, h2_1⟩ := hw
    subst hw
    have l2k0_a0_10 : (1 : Int) ≤ a0_10.toInt := h2_0
    have u2k0_a0_10 : a0_10.toInt ≤ (1 : Int) := h2_1
    have hF0 := hF0.trans (if_pos (by decide))
    refine lv_if_ne (tgt := 14) hx hb dX3_takeWord_5 (by decide) (fun _ => ?_) (fun c5 => absurd c5 (by decide +kernel))
    refine lv_aload_n hx hb dX3_takeWord_14 rfl (lv_at hl 0 rfl) ?_
    have hKc := hK.sub (tys' := [(ka0_3, .byte)]) [0] rfl
    refine va_callv (va_runV (As := []) (rest := []) ⟨hx, hb, hml, hown, hts⟩ (f_X3_advance l dC dI H.size a0 a0g_0 (.int a0_1) (.int a0_2) a0g_4 a0g_5 a0g_6 a0g_13 a0_3 a0_7 a0_8 a0_9 a0_10 a0_11 a0_12 ka0_3 fa0_3 ba0_7_l ba0_7_u ba0_8_l ba0_8_u ba0_9_l ba0_9_u (Int.le_trans zq4 l2k0_a0_10) (Int.le_trans u2k0_a0_10 zq135)) (cwV 0 hts gX3_takeWord_X3_advance rfl rfl rfl zd_X3_advance ⟨Nat.le_of_ble_eq_true rfl, Nat.le_of_ble_eq_true rfl⟩) ⟨ax_blind (fun _ _ _ _ _ => trivial), zr_3 hKc (zp_P2 hP) (q0 := 0) rfl, ax_pre (zp_P2 hP) hKc (zp_D2 hD) (fun _ _ => trivial)⟩ rfl rfl hl.1 rfl (lv_room (Nat.le_of_ble_eq_true rfl)) dX3_takeWord_15 ⟨Nat.le_of_ble_eq_true rfl, Nat.le_of_ble_eq_true rfl⟩) hS (fun q _ h => zp_F2 hD hS hA q h) (zp_F2 hD hS hA) (fun u t H locs ht hvm hw => zx_5 (fun v15na0_8 v15na0_9 v15na0_10 v15na0_11 v15na0_12 => zy_4 (fun bv15na0_8 bv15na0_9 bv15na0_10 hraw15_0 hB hz1 hk1 hS1 => zo2 hB ht hP hD hk1 (zp_F2 hD hS hA) hS1 (fun hP hK1 hD hS => ?_))))
    have hc15 : Ff_X3_advance a0_7.toInt a0_9.toInt a0_11.toInt a0_12.toInt (fl_A fa0_3) = (v15na0_8.toInt, v15na0_9.toInt, v15na0_10.toInt, v15na0_11.toInt, v15na0_12.toInt) := hraw15_0
    have hF0 := hF0.trans (fl_c5_eq hc15)
    refine lv_iconst (v := 1) hx hb dX3_takeWord_18 zk_iconst_1 ?_
    have hFe : FX = (1, a0_1.toInt, a0_2.toInt, v15na0_8.toInt, v15na0_9.toInt, v15na0_10.toInt, v15na0_11.toInt, v15na0_12.toInt) := hF0
    exact W.zret (v := 1) hx hb hr rfl (fun t ht hW => ⟨⟨1, (), rfl, ⟨(Or.inl (rfl)), (congrArg Prod.fst hFe).symm⟩, a0_1, a0_2, v15na0_8, v15na0_9, v15na0_10, v15na0_11, v15na0_12, ⟨bv15na0_8.1, bv15na0_8.2⟩, ⟨bv15na0_9.1, bv15na0_9.2⟩, ⟨bv15na0_10.1, bv15na0_10.2⟩, (congrArg Prod.snd hFe), by rw [ht]; exact hP, va_K.moved hW.alike hK, hD⟩, hS.F ht⟩) hS.2.2 dX3_takeWord_19
  · subst hw
    have hF0 := hF0.trans (if_neg (by decide))
    refine lv_if_ne (tgt := 14) hx hb dX3_takeWord_5 (by decide) (fun c5 => absurd (by decide +kernel) c5) (fun _ => ?_)
    refine lv_aload_n hx hb dX3_takeWord_8 rfl (lv_at hl 0 rfl) ?_
    refine lv_iconst (v := 1) hx hb dX3_takeWord_9 zk_iconst_1 ?_
    refine va_calli (va_runV (As := [.int 1]) (rest := []) ⟨hx, hb, hml, hown, hts⟩ (f_X3_fails l dC dI H.size a0 1 a0g_0 (.ref a0_3) a0g_4 a0g_5 a0g_6 (.int a0_7) (.int a0_9) (.int a0_10) (.long a0_11) (.int a0_12) a0g_13 a0_1 a0_2 a0_8 ba0_8_l ba0_8_u) (cwV 1 hts gX3_takeWord_X3_fails rfl rfl rfl zd_X3_fails ⟨Nat.le_of_ble_eq_true rfl, Nat.le_of_ble_eq_true rfl⟩) ⟨ax_blind (fun _ _ _ _ _ => trivial), zr_3 (zp_K hK) (zp_P1 hP) (q0 := 0) rfl, ax_pre (zp_P1 hP) (zp_K hK) (zp_D1 hD) (fun _ _ => trivial)⟩ rfl rfl hl.1 rfl (lv_room (Nat.le_of_ble_eq_true rfl)) dX3_takeWord_10 ⟨Nat.le_of_ble_eq_true rfl, Nat.le_of_ble_eq_true rfl⟩) hS (fun q _ h => zp_F1 hD hS hA q h) (zp_F1 hD hS hA) (fun r10 u t H locs ht hvm hw => zx_2 (fun v10na0_1 v10na0_2 => zy_1 (fun hraw10_0 hB hz1 hk1 hS1 => zo1 hB ht hP hD hk1 (zp_F1 hD hS hA) hS1 (fun hP hK1 hD hS => ?_))))
    obtain ⟨hw, hfr10⟩ := hw
    rw [show (1 : Int32).toInt = 1 from by decide] at hfr10 hraw10_0
    have hc10 : Ff_X3_fails 1 a0_8.toInt = (r10.toInt, v10na0_1.toInt, v10na0_2.toInt) := Prod.ext hfr10.symm hraw10_0
    have hF0 := hF0.trans (fl_c3_eq hc10)
    have hw : r10 = 0 := hw
    have hw := hw.symm
    subst hw
    have hFe : FX = (0, v10na0_1.toInt, v10na0_2.toInt, a0_8.toInt, a0_9.toInt, a0_10.toInt, a0_11.toInt, a0_12.toInt) := hF0
    exact W.zret (v := 0) hx hb hr rfl (fun t ht hW => ⟨⟨0, (), rfl, ⟨(Or.inr (rfl)), (congrArg Prod.fst hFe).symm⟩, v10na0_1, v10na0_2, a0_8, a0_9, a0_10, a0_11, a0_12, ⟨ba0_8_l, ba0_8_u⟩, ⟨ba0_9_l, ba0_9_u⟩, ⟨ba0_10_l, ba0_10_u⟩, (congrArg Prod.snd hFe), by rw [ht]; exact hP, va_K.moved hW.alike hK, hD⟩, hS.F ht⟩) hS.2.2 dX3_takeWord_13

set_option maxHeartbeats 4000000 in
set_option maxRecDepth 100000 in
theorem f_X3_takeWhole (l : Launch) (dC : Nat → ClassId) (dI : Nat → Nat → Nat) (sz : Nat) (a0 : Nat) (a1 : Nat) (a2 : Int32) (a3 : Int32) (a0g_0 a0g_4 a0g_5 a0g_6 : Value) (a0_1 : Int32) (a0_2 : Int32) (a0_3 : Nat) (a0_7 : Int32) (a0_8 : Int32) (a0_9 : Int32) (a0_10 : Int32) (a0_11 : Int64) (a0_12 : Int32) (a0_13 : Int32) (ka0_3 : ClassId) (fa0_3 : Nat → Int32) (na1 : Nat) (ca1 : Nat → Int32) (ba0_7_l : (0 : Int) ≤ a0_7.toInt) (ba0_7_u : a0_7.toInt ≤ (900 : Int)) (ba0_8_l : (0 : Int) ≤ a0_8.toInt) (ba0_8_u : a0_8.toInt ≤ (900 : Int)) (ba0_9_l : (0 : Int) ≤ a0_9.toInt) (ba0_9_u : a0_9.toInt ≤ (900 : Int)) (ba0_10_l : (0 : Int) ≤ a0_10.toInt) (ba0_10_u : a0_10.toInt ≤ (4 : Int)) : zm l yX3_takeWhole wsX3_takeWhole ({ frames := 5, cells := 0, slots := 0, locals := 109 }) [.ref a0, .ref a1, .int a2, .int a3] dC dI sz [(a0, .inr (3, [a0g_0, .int a0_1, .int a0_2, .ref a0_3, a0g_4, a0g_5, a0g_6, .int a0_7, .int a0_8, .int a0_9, .int a0_10, .long a0_11, .int a0_12, .int a0_13])), (a0_3, .inl (ka0_3, 900, .inl (fa0_3)))] [(ka0_3, .byte)] (fun A U => sxc_W a1 na1 ca1 A U ∧ va_Nw (.methodLinkNest RX3 223 yX7_within RX7) U) (fun A => va_Qi (fun (r : Int32) (na0_13 : Int32) => ((r = 1 ∧ a2.toInt ≤ na0_13.toInt ∧ na0_13.toInt ≤ a3.toInt) ∨ r = 0) ∧ r.toInt = (Ff_X3_takeWhole a2.toInt a3.toInt a0_1.toInt a0_2.toInt a0_7.toInt a0_8.toInt a0_9.toInt a0_10.toInt a0_11.toInt a0_12.toInt a0_13.toInt (fl_A fa0_3) (na1 : Int) (fl_A ca1)).1) (fun (na0_13 : Int32) (t : State) => ∃ na0_1 : Int32, ∃ na0_2 : Int32, ∃ na0_8 : Int32, ∃ na0_9 : Int32, ∃ na0_10 : Int32, ∃ na0_11 : Int64, ∃ na0_12 : Int32, ((0 : Int) ≤ na0_8.toInt ∧ na0_8.toInt ≤ 900) ∧ ((0 : Int) ≤ na0_9.toInt ∧ na0_9.toInt ≤ 900) ∧ ((0 : Int) ≤ na0_10.toInt ∧ na0_10.toInt ≤ 4) ∧ ((Ff_X3_takeWhole a2.toInt a3.toInt a0_1.toInt a0_2.toInt a0_7.toInt a0_8.toInt a0_9.toInt a0_10.toInt a0_11.toInt a0_12.toInt a0_13.toInt (fl_A fa0_3) (na1 : Int) (fl_A ca1)).2 = (na0_1.toInt, na0_2.toInt, na0_8.toInt, na0_9.toInt, na0_10.toInt, na0_11.toInt, na0_12.toInt, na0_13.toInt)) ∧ ax_B dC dI A [(a0, .inr (3, [a0g_0, .int na0_1, .int na0_2, .ref a0_3, a0g_4, a0g_5, a0g_6, .int a0_7, .int na0_8, .int na0_9, .int na0_10, .long na0_11, .int na0_12, .int na0_13])), (a0_3, .inl (ka0_3, 900, .inl (fa0_3)))] [(ka0_3, .byte)] t) A) := by
  refine zh (cc := cX3_takeWhole) (maxL := 4) (ret := (some .boolean)) zn_RX3 rfl (Nat.le_of_ble_eq_true rfl) (fun p e s m below meth c A ls hx hb hml hr hts (hown : s.vm.findClass RX3 = some m.cls) hlocks hA hS hP hK hD hE (hl : lv_has ls 4 [(0, .ref a0), (1, .ref a1), (2, .int a2), (3, .int a3)]) => ?_)
  obtain ⟨hE0, hE1⟩ := hE
  generalize hFX : Ff_X3_takeWhole a2.toInt a3.toInt a0_1.toInt a0_2.toInt a0_7.toInt a0_8.toInt a0_9.toInt a0_10.toInt a0_11.toInt a0_12.toInt a0_13.toInt (fl_A fa0_3) (na1 : Int) (fl_A ca1) = FX at ⊢
  have hF0 := hFX.symm.trans (Ff_X3_takeWhole.eq_1 a2.toInt a3.toInt a0_1.toInt a0_2.toInt a0_7.toInt a0_8.toInt a0_9.toInt a0_10.toInt a0_11.toInt a0_12.toInt a0_13.toInt (fl_A fa0_3) (na1 : Int) (fl_A ca1))
  refine lv_aload_n hx hb dX3_takeWhole_0 rfl (lv_at hl 0 rfl) ?_
  refine lv_aload_n hx hb dX3_takeWhole_1 rfl (lv_at hl 1 rfl) ?_
  refine va_calli (va_runV (As := [.ref a1]) (rest := []) ⟨hx, hb, hml, hown, hts⟩ (f_X3_isWord l dC dI s.heap.size a0 a1 a0g_0 (.int a0_1) (.int a0_2) (.ref a0_3) a0g_4 a0g_5 a0g_6 (.int a0_7) (.int a0_8) (.int a0_9) (.int a0_12) (.int a0_13) a0_10 a0_11 na1 ca1 ba0_10_l ba0_10_u) (cwV 1 hts gX3_takeWhole_X3_isWord rfl rfl rfl zd_X3_isWord ⟨Nat.le_of_ble_eq_true rfl, Nat.le_of_ble_eq_true rfl⟩) ⟨ax_blind (fun _ _ _ _ hq => sxc_W_same _ _ _ _ (hq)), zr_3 (zp_K hK) (zp_P1 hP) (q0 := 0) rfl, ax_preE (zp_P1 hP) (zp_K hK) (zp_D1 hD) (fun U hU hW => sxc_W_to hE0 hS.2.1 (zp_F1 hD hS hA) hU hW)⟩ rfl rfl hl.1 rfl (lv_room (Nat.le_of_ble_eq_true rfl)) dX3_takeWhole_2 ⟨Nat.le_of_ble_eq_true rfl, Nat.le_of_ble_eq_true rfl⟩) hS (fun q _ h => zp_F1 hD hS hA q h) (zp_F1 hD hS hA) (fun r2 u t H locs ht hvm hw hB hz1 hk1 hS1 => zo1 hB ht hP hD hk1 (zp_F1 hD hS hA) hS1 (fun hP hK1 hD hS => ?_))
  obtain ⟨hw, hfr2⟩ := hw
  have hc2 : Ff_X3_isWord a0_10.toInt a0_11.toInt (na1 : Int) (fl_A ca1) = r2.toInt := hfr2.symm
  have hF0 := hF0.trans (fl_lt_eq hc2.symm)
  rcases hw with hw | hw
  · obtain ⟨hw, h2_0, h2_1⟩ := hw
    subst hw
    have l2k0_a0_10 : (1 : Int) ≤ a0_10.toInt := h2_0
    have u2k0_a0_10 : a0_10.toInt ≤ (1 : Int) := h2_1
    have hF0 := hF0.trans (if_pos (by decide))
    refine lv_if_ne (tgt := 14) hx hb dX3_takeWhole_5 (by decide) (fun _ => ?_) (fun c5 => absurd c5 (by decide +kernel))
    refine lv_aload_n hx hb dX3_takeWhole_14 rfl (lv_at hl 0 rfl) ?_
    have hKc := hK.sub (tys' := [(ka0_3, .byte)]) [0] rfl
    refine va_callv (va_runV (As := []) (rest := []) ⟨hx, hb, hml, hown, hts⟩ (f_X3_advance l dC dI H.size a0 a0g_0 (.int a0_1) (.int a0_2) a0g_4 a0g_5 a0g_6 (.int a0_13) a0_3 a0_7 a0_8 a0_9 a0_10 a0_11 a0_12 ka0_3 fa0_3 ba0_7_l ba0_7_u ba0_8_l ba0_8_u ba0_9_l ba0_9_u (Int.le_trans zq4 l2k0_a0_10) (Int.le_trans u2k0_a0_10 zq135)) (cwV 0 hts gX3_takeWhole_X3_advance rfl rfl rfl zd_X3_advance ⟨Nat.le_of_ble_eq_true rfl, Nat.le_of_ble_eq_true rfl⟩) ⟨ax_blind (fun _ _ _ _ _ => trivial), zr_3 hKc (zp_P2 hP) (q0 := 0) rfl, ax_pre (zp_P2 hP) hKc (zp_D2 hD) (fun _ _ => trivial)⟩ rfl rfl hl.1 rfl (lv_room (Nat.le_of_ble_eq_true rfl)) dX3_takeWhole_15 ⟨Nat.le_of_ble_eq_true rfl, Nat.le_of_ble_eq_true rfl⟩) hS (fun q _ h => zp_F2 hD hS hA q h) (zp_F2 hD hS hA) (fun u t H locs ht hvm hw => zx_5 (fun v15na0_8 v15na0_9 v15na0_10 v15na0_11 v15na0_12 => zy_4 (fun bv15na0_8 bv15na0_9 bv15na0_10 hraw15_0 hB hz1 hk1 hS1 => zo2 hB ht hP hD hk1 (zp_F2 hD hS hA) hS1 (fun hP hK1 hD hS => ?_))))
    have hc15 : Ff_X3_advance a0_7.toInt a0_9.toInt a0_11.toInt a0_12.toInt (fl_A fa0_3) = (v15na0_8.toInt, v15na0_9.toInt, v15na0_10.toInt, v15na0_11.toInt, v15na0_12.toInt) := hraw15_0
    have hF0 := hF0.trans (fl_c5_eq hc15)
    refine lv_aload_n hx hb dX3_takeWhole_18 rfl (lv_at hl 0 rfl) ?_
    refine lv_iload_n hx hb dX3_takeWhole_19 rfl (lv_at hl 2 rfl) ?_
    refine lv_iload_n hx hb dX3_takeWhole_20 rfl (lv_at hl 3 rfl) ?_
    refine va_calli (va_runV (As := [.int a2, .int a3]) (rest := []) ⟨hx, hb, hml, hown, hts⟩ (f_X3_isWholeWithin l dC dI H.size a0 a2 a3 a0g_0 (.ref a0_3) a0g_4 a0g_5 a0g_6 (.int a0_7) (.int v15na0_9) (.long v15na0_11) (.int a0_13) a0_1 a0_2 v15na0_8 v15na0_10 v15na0_12 bv15na0_8.1 bv15na0_8.2 bv15na0_10.1 bv15na0_10.2) (cwV 2 hts gX3_takeWhole_X3_isWholeWithin rfl rfl rfl zd_X3_isWholeWithin ⟨Nat.le_of_ble_eq_true rfl, Nat.le_of_ble_eq_true rfl⟩) ⟨ax_blind (fun _ _ _ _ hq => va_Nw.same rfl rfl (hq)), zr_3 (zp_K hK) (zp_P1 hP) (q0 := 0) rfl, ax_pre (zp_P1 hP) (zp_K hK) (zp_D1 hD) (fun _ hW => va_Nw.warmM hW hE1)⟩ rfl rfl hl.1 rfl (lv_room (Nat.le_of_ble_eq_true rfl)) dX3_takeWhole_21 ⟨Nat.le_of_ble_eq_true rfl, Nat.le_of_ble_eq_true rfl⟩) hS (fun q _ h => zp_F1 hD hS hA q h) (zp_F1 hD hS hA) (fun r21 u t H locs ht hvm hw => zx_2 (fun v21na0_1 v21na0_2 => zy_1 (fun hraw21_0 hB hz1 hk1 hS1 => zo1 hB ht hP hD hk1 (zp_F1 hD hS hA) hS1 (fun hP hK1 hD hS => ?_))))
    obtain ⟨hw, hfr21⟩ := hw
    have hc21 : Ff_X3_isWholeWithin a2.toInt a3.toInt a0_1.toInt a0_2.toInt v15na0_8.toInt v15na0_10.toInt v15na0_12.toInt = (r21.toInt, v21na0_1.toInt, v21na0_2.toInt) := Prod.ext hfr21.symm hraw21_0
    have hF0 := hF0.trans (fl_c3_eq hc21)
    rcases hw with hw | hw
    · obtain ⟨hw, h21⟩ := hw
      subst hw
      have hF0 := hF0.trans (if_pos (by decide))
      refine lv_if_ne (tgt := 29) hx hb dX3_takeWhole_24 (by decide) (fun _ => ?_) (fun c24 => absurd c24 (by decide +kernel))
      refine lv_aload_n hx hb dX3_takeWhole_29 rfl (lv_at hl 0 rfl) ?_
      refine lv_aload_n hx hb dX3_takeWhole_30 rfl (lv_at hl 0 rfl) ?_
      refine va_get (D := (dC, dI)) (ci := 3) (v := .int v15na0_12) (C := RX3) (T := TX3) (N := 14) hx hb hts zi_X3_takeWhole_3 hown hK hP 0 rfl rfl 12 (by decide) (hts (.fieldLink RX3 85 "WaxTurns$Reade\x72" "whole" "I") (zm_X3_takeWhole_r1 (List.mem_of_getElem? (i := 0) rfl))) (fun _ h9 => h9) rfl dX3_takeWhole_31 ?_
      refine va_put (D := (dC, dI)) (ci := 3) (v := .int v15na0_12) (ty := .int) (C := RX3) (T := TX3) (N := 14) hx hb hts zi_X3_takeWhole_3 tyX3 tyX3_ok nmX3 hown hK hP hD hS 0 rfl rfl 13 (by decide) (hts (.fieldLink RX3 156 "WaxTurns$Reade\x72" "taken" "I") (zm_X3_takeWhole_r1 (List.mem_of_getElem? (i := 1) rfl))) (fun _ h9 => h9) rfl (tyX3_ok 13 (by decide)) rfl rfl (Nat.le_of_ble_eq_true rfl) dX3_takeWhole_34 (fun H locs hP hD hS => ?_)
      refine zs_0 (y := (a0, .inr (3, [a0g_0, .int v21na0_1, .int v21na0_2, .ref a0_3, a0g_4, a0g_5, a0g_6, .int a0_7, .int v15na0_8, .int v15na0_9, .int v15na0_10, .long v15na0_11, .int v15na0_12, .int v15na0_12]))) hP hD rfl (fun hP hD => ?_)
      refine lv_aload_n hx hb dX3_takeWhole_37 rfl (lv_at hl 0 rfl) ?_
      have hKc := hK.sub (tys' := [(ka0_3, .byte)]) [0] rfl
      refine va_callv (va_runV (As := []) (rest := []) ⟨hx, hb, hml, hown, hts⟩ (f_X3_advance l dC dI H.size a0 a0g_0 (.int v21na0_1) (.int v21na0_2) a0g_4 a0g_5 a0g_6 (.int v15na0_12) a0_3 a0_7 v15na0_8 v15na0_9 v15na0_10 v15na0_11 v15na0_12 ka0_3 fa0_3 ba0_7_l ba0_7_u bv15na0_8.1 bv15na0_8.2 bv15na0_9.1 bv15na0_9.2 bv15na0_10.1 bv15na0_10.2) (cwV 0 hts gX3_takeWhole_X3_advance rfl rfl rfl zd_X3_advance ⟨Nat.le_of_ble_eq_true rfl, Nat.le_of_ble_eq_true rfl⟩) ⟨ax_blind (fun _ _ _ _ _ => trivial), zr_3 hKc (zp_P2 hP) (q0 := 0) rfl, ax_pre (zp_P2 hP) hKc (zp_D2 hD) (fun _ _ => trivial)⟩ rfl rfl hl.1 rfl (lv_room (Nat.le_of_ble_eq_true rfl)) dX3_takeWhole_38 ⟨Nat.le_of_ble_eq_true rfl, Nat.le_of_ble_eq_true rfl⟩) hS (fun q _ h => zp_F2 hD hS hA q h) (zp_F2 hD hS hA) (fun u t H locs ht hvm hw => zx_5 (fun v38na0_8 v38na0_9 v38na0_10 v38na0_11 v38na0_12 => zy_4 (fun bv38na0_8 bv38na0_9 bv38na0_10 hraw38_0 hB hz1 hk1 hS1 => zo2 hB ht hP hD hk1 (zp_F2 hD hS hA) hS1 (fun hP hK1 hD hS => ?_))))
      have hc38 : Ff_X3_advance a0_7.toInt v15na0_9.toInt v15na0_11.toInt v15na0_12.toInt (fl_A fa0_3) = (v38na0_8.toInt, v38na0_9.toInt, v38na0_10.toInt, v38na0_11.toInt, v38na0_12.toInt) := hraw38_0
      have hF0 := hF0.trans (fl_c5_eq hc38)
      refine lv_iconst (v := 1) hx hb dX3_takeWhole_41 zk_iconst_1 ?_
      have hFe : FX = (1, v21na0_1.toInt, v21na0_2.toInt, v38na0_8.toInt, v38na0_9.toInt, v38na0_10.toInt, v38na0_11.toInt, v38na0_12.toInt, v15na0_12.toInt) := hF0
      exact W.zret (v := 1) hx hb hr rfl (fun t ht hW => ⟨⟨1, v15na0_12, rfl, ⟨(Or.inl ⟨rfl, h21⟩), (congrArg Prod.fst hFe).symm⟩, v21na0_1, v21na0_2, v38na0_8, v38na0_9, v38na0_10, v38na0_11, v38na0_12, ⟨bv38na0_8.1, bv38na0_8.2⟩, ⟨bv38na0_9.1, bv38na0_9.2⟩, ⟨bv38na0_10.1, bv38na0_10.2⟩, (congrArg Prod.snd hFe), by rw [ht]; exact hP, va_K.moved hW.alike hK, hD⟩, hS.F ht⟩) hS.2.2 dX3_takeWhole_42
    · subst hw
      have hF0 := hF0.trans (if_neg (by decide))
      refine lv_if_ne (tgt := 29) hx hb dX3_takeWhole_24 (by decide) (fun c24 => absurd (by decide +kernel) c24) (fun _ => ?_)
      refine lv_iconst (v := 0) hx hb dX3_takeWhole_27 zk_iconst_0 ?_
      have hFe : FX = (0, v21na0_1.toInt, v21na0_2.toInt, v15na0_8.toInt, v15na0_9.toInt, v15na0_10.toInt, v15na0_11.toInt, v15na0_12.toInt, a0_13.toInt) := hF0
      exact W.zret (v := 0) hx hb hr rfl (fun t ht hW => ⟨⟨0, a0_13, rfl, ⟨(Or.inr rfl), (congrArg Prod.fst hFe).symm⟩, v21na0_1, v21na0_2, v15na0_8, v15na0_9, v15na0_10, v15na0_11, v15na0_12, ⟨bv15na0_8.1, bv15na0_8.2⟩, ⟨bv15na0_9.1, bv15na0_9.2⟩, ⟨bv15na0_10.1, bv15na0_10.2⟩, (congrArg Prod.snd hFe), by rw [ht]; exact hP, va_K.moved hW.alike hK, hD⟩, hS.F ht⟩) hS.2.2 dX3_takeWhole_28
  · subst hw
    have hF0 := hF0.trans (if_neg (by decide))
    refine lv_if_ne (tgt := 14) hx hb dX3_takeWhole_5 (by decide) (fun c5 => absurd (by decide +kernel) c5) (fun _ => ?_)
    refine lv_aload_n hx hb dX3_takeWhole_8 rfl (lv_at hl 0 rfl) ?_
    refine lv_iconst (v := 1) hx hb dX3_takeWhole_9 zk_iconst_1 ?_
    refine va_calli (va_runV (As := [.int 1]) (rest := []) ⟨hx, hb, hml, hown, hts⟩ (f_X3_fails l dC dI H.size a0 1 a0g_0 (.ref a0_3) a0g_4 a0g_5 a0g_6 (.int a0_7) (.int a0_9) (.int a0_10) (.long a0_11) (.int a0_12) (.int a0_13) a0_1 a0_2 a0_8 ba0_8_l ba0_8_u) (cwV 1 hts gX3_takeWhole_X3_fails rfl rfl rfl zd_X3_fails ⟨Nat.le_of_ble_eq_true rfl, Nat.le_of_ble_eq_true rfl⟩) ⟨ax_blind (fun _ _ _ _ _ => trivial), zr_3 (zp_K hK) (zp_P1 hP) (q0 := 0) rfl, ax_pre (zp_P1 hP) (zp_K hK) (zp_D1 hD) (fun _ _ => trivial)⟩ rfl rfl hl.1 rfl (lv_room (Nat.le_of_ble_eq_true rfl)) dX3_takeWhole_10 ⟨Nat.le_of_ble_eq_true rfl, Nat.le_of_ble_eq_true rfl⟩) hS (fun q _ h => zp_F1 hD hS hA q h) (zp_F1 hD hS hA) (fun r10 u t H locs ht hvm hw => zx_2 (fun v10na0_1 v10na0_2 => zy_1 (fun hraw10_0 hB hz1 hk1 hS1 => zo1 hB ht hP hD hk1 (zp_F1 hD hS hA) hS1 (fun hP hK1 hD hS => ?_))))
    obtain ⟨hw, hfr10⟩ := hw
    rw [show (1 : Int32).toInt = 1 from by decide] at hfr10 hraw10_0
    have hc10 : Ff_X3_fails 1 a0_8.toInt = (r10.toInt, v10na0_1.toInt, v10na0_2.toInt) := Prod.ext hfr10.symm hraw10_0
    have hF0 := hF0.trans (fl_c3_eq hc10)
    have hw : r10 = 0 := hw
    have hw := hw.symm
    subst hw
    have hFe : FX = (0, v10na0_1.toInt, v10na0_2.toInt, a0_8.toInt, a0_9.toInt, a0_10.toInt, a0_11.toInt, a0_12.toInt, a0_13.toInt) := hF0
    exact W.zret (v := 0) hx hb hr rfl (fun t ht hW => ⟨⟨0, a0_13, rfl, ⟨(Or.inr rfl), (congrArg Prod.fst hFe).symm⟩, v10na0_1, v10na0_2, a0_8, a0_9, a0_10, a0_11, a0_12, ⟨ba0_8_l, ba0_8_u⟩, ⟨ba0_9_l, ba0_9_u⟩, ⟨ba0_10_l, ba0_10_u⟩, (congrArg Prod.snd hFe), by rw [ht]; exact hP, va_K.moved hW.alike hK, hD⟩, hS.F ht⟩) hS.2.2 dX3_takeWhole_13

set_option maxHeartbeats 4000000 in
set_option maxRecDepth 100000 in
theorem f_X3_takeName (l : Launch) (dC : Nat → ClassId) (dI : Nat → Nat → Nat) (sz : Nat) (a0 : Nat) (a0g_0 a0g_5 a0g_13 : Value) (a0_1 : Int32) (a0_2 : Int32) (a0_3 : Nat) (a0_4 : Nat) (a0_6 : Int32) (a0_7 : Int32) (a0_8 : Int32) (a0_9 : Int32) (a0_10 : Int32) (a0_11 : Int64) (a0_12 : Int32) (ka0_4 : ClassId) (fa0_4 : Nat → Int64) (ka0_3 : ClassId) (fa0_3 : Nat → Int32) (ad : Nat → Nat) (ba0_6_l : (0 : Int) ≤ a0_6.toInt) (ba0_6_u : a0_6.toInt ≤ (12 : Int)) (ba0_7_l : (0 : Int) ≤ a0_7.toInt) (ba0_7_u : a0_7.toInt ≤ (900 : Int)) (ba0_8_l : (0 : Int) ≤ a0_8.toInt) (ba0_8_u : a0_8.toInt ≤ (900 : Int)) (ba0_9_l : (0 : Int) ≤ a0_9.toInt) (ba0_9_u : a0_9.toInt ≤ (900 : Int)) (ba0_10_l : (0 : Int) ≤ a0_10.toInt) (ba0_10_u : a0_10.toInt ≤ (4 : Int)) : zm l yX3_takeName wsX3_takeName ({ frames := 5, cells := 0, slots := 0, locals := 109 }) [.ref a0] dC dI sz [(a0, .inr (3, [a0g_0, .int a0_1, .int a0_2, .ref a0_3, .ref a0_4, a0g_5, .int a0_6, .int a0_7, .int a0_8, .int a0_9, .int a0_10, .long a0_11, .int a0_12, a0g_13])), (a0_4, .inl (ka0_4, 12, .inr (.inl (fa0_4)))), (a0_3, .inl (ka0_3, 900, .inl (fa0_3)))] [(ka0_4, .long), (ka0_3, .byte)] (fun A U => sxc_T ad A U) (fun A => va_Qi (fun (r : Int32) (_ : Unit) => ((r = 1) ∨ (r = 0)) ∧ r.toInt = (Ff_X3_takeName a0_1.toInt a0_2.toInt a0_6.toInt a0_7.toInt a0_8.toInt a0_9.toInt a0_10.toInt a0_11.toInt a0_12.toInt (fl_L fa0_4) (fl_A fa0_3)).1) (fun (_ : Unit) (t : State) => ∃ na0_1 : Int32, ∃ na0_2 : Int32, ∃ na0_6 : Int32, ∃ na0_8 : Int32, ∃ na0_9 : Int32, ∃ na0_10 : Int32, ∃ na0_11 : Int64, ∃ na0_12 : Int32, ∃ nfa0_4 : Nat → Int64, ((0 : Int) ≤ na0_6.toInt ∧ na0_6.toInt ≤ 12) ∧ ((0 : Int) ≤ na0_8.toInt ∧ na0_8.toInt ≤ 900) ∧ ((0 : Int) ≤ na0_9.toInt ∧ na0_9.toInt ≤ 900) ∧ ((0 : Int) ≤ na0_10.toInt ∧ na0_10.toInt ≤ 4) ∧ ((Ff_X3_takeName a0_1.toInt a0_2.toInt a0_6.toInt a0_7.toInt a0_8.toInt a0_9.toInt a0_10.toInt a0_11.toInt a0_12.toInt (fl_L fa0_4) (fl_A fa0_3)).2 = (na0_1.toInt, na0_2.toInt, na0_6.toInt, na0_8.toInt, na0_9.toInt, na0_10.toInt, na0_11.toInt, na0_12.toInt, (fl_L nfa0_4))) ∧ ax_B dC dI A [(a0, .inr (3, [a0g_0, .int na0_1, .int na0_2, .ref a0_3, .ref a0_4, a0g_5, .int na0_6, .int a0_7, .int na0_8, .int na0_9, .int na0_10, .long na0_11, .int na0_12, a0g_13])), (a0_4, .inl (ka0_4, 12, .inr (.inl (nfa0_4)))), (a0_3, .inl (ka0_3, 900, .inl (fa0_3)))] [(ka0_4, .long), (ka0_3, .byte)] t) A) := by
  refine zh (cc := cX3_takeName) (maxL := 2) (ret := (some .boolean)) zn_RX3 rfl (Nat.le_of_ble_eq_true rfl) (fun p e s m below meth c A ls hx hb hml hr hts (hown : s.vm.findClass RX3 = some m.cls) hlocks hA hS hP hK hD hE (hl : lv_has ls 2 [(0, .ref a0)]) => ?_)
  have hE0 := hE
  generalize hFX : Ff_X3_takeName a0_1.toInt a0_2.toInt a0_6.toInt a0_7.toInt a0_8.toInt a0_9.toInt a0_10.toInt a0_11.toInt a0_12.toInt (fl_L fa0_4) (fl_A fa0_3) = FX at ⊢
  have hF0 := hFX.symm.trans (Ff_X3_takeName.eq_1 a0_1.toInt a0_2.toInt a0_6.toInt a0_7.toInt a0_8.toInt a0_9.toInt a0_10.toInt a0_11.toInt a0_12.toInt (fl_L fa0_4) (fl_A fa0_3))
  refine ai_open (fun K hK0 => ?_)
  refine (hK0 _ _ _).mpr ?_
  refine lv_aload_n hx hb dX3_takeName_0 rfl (lv_at hl 0 rfl) ?_
  refine va_get (D := (dC, dI)) (ci := 3) (v := .int a0_10) (C := RX3) (T := TX3) (N := 14) hx hb hts zi_X3_takeName_3 hown hK hP 0 rfl rfl 10 (by decide) (hts (.fieldLink RX3 61 "WaxTurns$Reade\x72" "token" "I") (zm_X3_takeName_r1 (List.mem_of_getElem? (i := 0) rfl))) (fun _ h9 => h9) rfl dX3_takeName_1 ?_
  refine lv_iconst (v := 1) hx hb dX3_takeName_4 zk_iconst_1 ?_
  have J53 : ∀ (H : Heap) (locs : List Loc) (ls : Array Slot), (FX = Gf_X3_takeName_53_1 a0_6.toInt a0_8.toInt a0_9.toInt a0_10.toInt a0_11.toInt a0_12.toInt (fl_L fa0_4)) → va_P (dC, dI) vwCl [(a0, .inr (3, [a0g_0, .int a0_1, .int a0_2, .ref a0_3, .ref a0_4, a0g_5, .int a0_6, .int a0_7, .int a0_8, .int a0_9, .int a0_10, .long a0_11, .int a0_12, a0g_13])), (a0_4, .inl (ka0_4, 12, .inr (.inl (fa0_4)))), (a0_3, .inl (ka0_3, 900, .inl (fa0_3)))] H → va_D A [(a0, .inr (3, [a0g_0, .int a0_1, .int a0_2, .ref a0_3, .ref a0_4, a0g_5, .int a0_6, .int a0_7, .int a0_8, .int a0_9, .int a0_10, .long a0_11, .int a0_12, a0g_13])), (a0_4, .inl (ka0_4, 12, .inr (.inl (fa0_4)))), (a0_3, .inl (ka0_3, 900, .inl (fa0_3)))] → va_S A s.heap H locs → lv_has ls 2 [(0, .ref a0)] → K H locs (F0 m 53 ls []) := by
    intro  H locs ls  hF0 hP hD hS hl
    refine (hK0 _ _ _).mpr ?_
    have hF0 := hF0.trans (Gf_X3_takeName_53_1.eq_1 a0_6.toInt a0_8.toInt a0_9.toInt a0_10.toInt a0_11.toInt a0_12.toInt (fl_L fa0_4))
    refine lv_aload_n hx hb dX3_takeName_53 rfl (lv_at hl 0 rfl) ?_
    refine lv_iconst (v := 1) hx hb dX3_takeName_54 zk_iconst_1 ?_
    refine va_calli (va_runV (As := [.int 1]) (rest := []) ⟨hx, hb, hml, hown, hts⟩ (f_X3_fails l dC dI H.size a0 1 a0g_0 (.ref a0_3) (.ref a0_4) a0g_5 (.int a0_6) (.int a0_7) (.int a0_9) (.int a0_10) (.long a0_11) (.int a0_12) a0g_13 a0_1 a0_2 a0_8 ba0_8_l ba0_8_u) (cwV 1 hts gX3_takeName_X3_fails rfl rfl rfl zd_X3_fails ⟨Nat.le_of_ble_eq_true rfl, Nat.le_of_ble_eq_true rfl⟩) ⟨ax_blind (fun _ _ _ _ _ => trivial), zr_3 (zp_K hK) (zp_P1 hP) (q0 := 0) rfl, ax_pre (zp_P1 hP) (zp_K hK) (zp_D1 hD) (fun _ _ => trivial)⟩ rfl rfl hl.1 rfl (lv_room (Nat.le_of_ble_eq_true rfl)) dX3_takeName_55 ⟨Nat.le_of_ble_eq_true rfl, Nat.le_of_ble_eq_true rfl⟩) hS (fun q _ h => zp_F1 hD hS hA q h) (zp_F1 hD hS hA) (fun r55 u t H locs ht hvm hw => zx_2 (fun v55na0_1 v55na0_2 => zy_1 (fun hraw55_0 hB hz1 hk1 hS1 => zo1 hB ht hP hD hk1 (zp_F1 hD hS hA) hS1 (fun hP hK1 hD hS => ?_))))
    obtain ⟨hw, hfr55⟩ := hw
    rw [show (1 : Int32).toInt = 1 from by decide] at hfr55 hraw55_0
    have hc55 : Ff_X3_fails 1 a0_8.toInt = (r55.toInt, v55na0_1.toInt, v55na0_2.toInt) := Prod.ext hfr55.symm hraw55_0
    have hF0 := hF0.trans (fl_c3_eq hc55)
    have hw : r55 = 0 := hw
    have hw := hw.symm
    subst hw
    have hFe : FX = (0, v55na0_1.toInt, v55na0_2.toInt, a0_6.toInt, a0_8.toInt, a0_9.toInt, a0_10.toInt, a0_11.toInt, a0_12.toInt, (fl_L fa0_4)) := hF0
    exact W.zret (v := 0) hx hb hr rfl (fun t ht hW => ⟨⟨0, (), rfl, ⟨(Or.inr (rfl)), (congrArg Prod.fst hFe).symm⟩, v55na0_1, v55na0_2, a0_6, a0_8, a0_9, a0_10, a0_11, a0_12, fa0_4, ⟨ba0_6_l, ba0_6_u⟩, ⟨ba0_8_l, ba0_8_u⟩, ⟨ba0_9_l, ba0_9_u⟩, ⟨ba0_10_l, ba0_10_u⟩, (congrArg Prod.snd hFe), by rw [ht]; exact hP, va_K.moved hW.alike hK, hD⟩, hS.F ht⟩) hS.2.2 dX3_takeName_58
  refine lv_icmp_ne (tgt := 53) hx hb dX3_takeName_5 (by decide) (fun c5 => ?_) (fun c5 => ?_)
  · have gc5 := ai_ne c5
    have hF0 := hF0.trans (if_neg (show ¬ (a0_10.toInt = 1) from  gc5))
    exact (hK0 _ _ _).mp (J53  _ _ _   hF0 hP hD hS (lv_sub hl [0] rfl))
  · have gc5 := ai_eq c5
    have u5f_a0_10 : a0_10.toInt ≤ (1 : Int) := Int.le_trans (Int.le_of_eq gc5) zq0
    have l5f_a0_10 : (1 : Int) ≤ a0_10.toInt := Int.le_trans zq1 (Int.le_of_eq gc5.symm)
    have hF0 := hF0.trans (if_pos (show a0_10.toInt = 1 from gc5))
    refine lv_aload_n hx hb dX3_takeName_8 rfl (lv_at hl 0 rfl) ?_
    refine va_ldcS hx hb hown (sxc_R0 hE0) dX3_takeName_9 ?_
    refine va_calli (va_runV (As := [.ref (ad 0)]) (rest := []) ⟨hx, hb, hml, hown, hts⟩ (f_X3_isWord l dC dI s.heap.size a0 (ad 0) a0g_0 (.int a0_1) (.int a0_2) (.ref a0_3) (.ref a0_4) a0g_5 (.int a0_6) (.int a0_7) (.int a0_8) (.int a0_9) (.int a0_12) a0g_13 a0_10 a0_11 7 (sxc 0) (Int.le_trans zq4 l5f_a0_10) (Int.le_trans u5f_a0_10 zq135)) (cwV 1 hts gX3_takeName_X3_isWord rfl rfl rfl zd_X3_isWord ⟨Nat.le_of_ble_eq_true rfl, Nat.le_of_ble_eq_true rfl⟩) ⟨ax_blind (fun _ _ _ _ hq => sxc_W_same _ _ _ _ (hq)), zr_3 (zp_K hK) (zp_P1 hP) (q0 := 0) rfl, ax_preE (zp_P1 hP) (zp_K hK) (zp_D1 hD) (fun U hU hW => sxc_W_to (sxc_T_w hE0 (i := 0) (by decide)) hS.2.1 (zp_F1 hD hS hA) hU hW)⟩ rfl rfl hl.1 rfl (lv_room (Nat.le_of_ble_eq_true rfl)) dX3_takeName_11 ⟨Nat.le_of_ble_eq_true rfl, Nat.le_of_ble_eq_true rfl⟩) hS (fun q _ h => zp_F1 hD hS hA q h) (zp_F1 hD hS hA) (fun r11 u t H locs ht hvm hw hB hz1 hk1 hS1 => zo1 hB ht hP hD hk1 (zp_F1 hD hS hA) hS1 (fun hP hK1 hD hS => ?_))
    obtain ⟨hw, hfr11⟩ := hw
    rw [show ((7 : Nat) : Int) = 7 from rfl] at hfr11
    have hc11 : Ff_X3_isWord a0_10.toInt a0_11.toInt 7 (fl_A (sxc 0)) = r11.toInt := hfr11.symm
    have hF0 := hF0.trans (fl_lt_eq hc11.symm)
    rcases hw with hw | hw
    · obtain ⟨hw, h11_0, h11_1⟩ := hw
      subst hw
      have l11k0_a0_10 : (1 : Int) ≤ a0_10.toInt := l5f_a0_10
      have u11k0_a0_10 : a0_10.toInt ≤ (1 : Int) := u5f_a0_10
      have hF0 := hF0.trans (if_pos (by decide))
      refine lv_if_ne (tgt := 53) hx hb dX3_takeName_14 (by decide) (fun _ => ?_) (fun c14 => absurd c14 (by decide +kernel))
      exact (hK0 _ _ _).mp (J53  _ _ _   hF0 hP hD hS (lv_sub hl [0] rfl))
    · subst hw
      have hF0 := hF0.trans (if_neg (by decide))
      refine lv_if_ne (tgt := 53) hx hb dX3_takeName_14 (by decide) (fun c14 => absurd (by decide +kernel) c14) (fun _ => ?_)
      refine lv_aload_n hx hb dX3_takeName_17 rfl (lv_at hl 0 rfl) ?_
      refine va_ldcS hx hb hown (sxc_R1 hE0) dX3_takeName_18 ?_
      refine va_calli (va_runV (As := [.ref (ad 1)]) (rest := []) ⟨hx, hb, hml, hown, hts⟩ (f_X3_isWord l dC dI H.size a0 (ad 1) a0g_0 (.int a0_1) (.int a0_2) (.ref a0_3) (.ref a0_4) a0g_5 (.int a0_6) (.int a0_7) (.int a0_8) (.int a0_9) (.int a0_12) a0g_13 a0_10 a0_11 3 (sxc 1) (Int.le_trans zq4 l5f_a0_10) (Int.le_trans u5f_a0_10 zq135)) (cwV 1 hts gX3_takeName_X3_isWord rfl rfl rfl zd_X3_isWord ⟨Nat.le_of_ble_eq_true rfl, Nat.le_of_ble_eq_true rfl⟩) ⟨ax_blind (fun _ _ _ _ hq => sxc_W_same _ _ _ _ (hq)), zr_3 (zp_K hK) (zp_P1 hP) (q0 := 0) rfl, ax_preE (zp_P1 hP) (zp_K hK) (zp_D1 hD) (fun U hU hW => sxc_W_to (sxc_T_w hE0 (i := 1) (by decide)) hS.2.1 (zp_F1 hD hS hA) hU hW)⟩ rfl rfl hl.1 rfl (lv_room (Nat.le_of_ble_eq_true rfl)) dX3_takeName_20 ⟨Nat.le_of_ble_eq_true rfl, Nat.le_of_ble_eq_true rfl⟩) hS (fun q _ h => zp_F1 hD hS hA q h) (zp_F1 hD hS hA) (fun r20 u t H locs ht hvm hw hB hz1 hk1 hS1 => zo1 hB ht hP hD hk1 (zp_F1 hD hS hA) hS1 (fun hP hK1 hD hS => ?_))
      obtain ⟨hw, hfr20⟩ := hw
      rw [show ((3 : Nat) : Int) = 3 from rfl] at hfr20
      have hc20 : Ff_X3_isWord a0_10.toInt a0_11.toInt 3 (fl_A (sxc 1)) = r20.toInt := hfr20.symm
      have hF0 := hF0.trans (fl_lt_eq hc20.symm)
      rcases hw with hw | hw
      · obtain ⟨hw, h20_0, h20_1⟩ := hw
        subst hw
        have l20k0_a0_10 : (1 : Int) ≤ a0_10.toInt := l5f_a0_10
        have u20k0_a0_10 : a0_10.toInt ≤ (1 : Int) := u5f_a0_10
        have hF0 := hF0.trans (if_pos (by decide))
        refine lv_if_ne (tgt := 53) hx hb dX3_takeName_23 (by decide) (fun _ => ?_) (fun c23 => absurd c23 (by decide +kernel))
        exact (hK0 _ _ _).mp (J53  _ _ _   hF0 hP hD hS (lv_sub hl [0] rfl))
      · subst hw
        have hF0 := hF0.trans (if_neg (by decide))
        refine lv_if_ne (tgt := 53) hx hb dX3_takeName_23 (by decide) (fun c23 => absurd (by decide +kernel) c23) (fun _ => ?_)
        refine lv_aload_n hx hb dX3_takeName_26 rfl (lv_at hl 0 rfl) ?_
        refine va_ldcS hx hb hown (sxc_R2 hE0) dX3_takeName_27 ?_
        refine va_calli (va_runV (As := [.ref (ad 2)]) (rest := []) ⟨hx, hb, hml, hown, hts⟩ (f_X3_isWord l dC dI H.size a0 (ad 2) a0g_0 (.int a0_1) (.int a0_2) (.ref a0_3) (.ref a0_4) a0g_5 (.int a0_6) (.int a0_7) (.int a0_8) (.int a0_9) (.int a0_12) a0g_13 a0_10 a0_11 6 (sxc 2) (Int.le_trans zq4 l5f_a0_10) (Int.le_trans u5f_a0_10 zq135)) (cwV 1 hts gX3_takeName_X3_isWord rfl rfl rfl zd_X3_isWord ⟨Nat.le_of_ble_eq_true rfl, Nat.le_of_ble_eq_true rfl⟩) ⟨ax_blind (fun _ _ _ _ hq => sxc_W_same _ _ _ _ (hq)), zr_3 (zp_K hK) (zp_P1 hP) (q0 := 0) rfl, ax_preE (zp_P1 hP) (zp_K hK) (zp_D1 hD) (fun U hU hW => sxc_W_to (sxc_T_w hE0 (i := 2) (by decide)) hS.2.1 (zp_F1 hD hS hA) hU hW)⟩ rfl rfl hl.1 rfl (lv_room (Nat.le_of_ble_eq_true rfl)) dX3_takeName_29 ⟨Nat.le_of_ble_eq_true rfl, Nat.le_of_ble_eq_true rfl⟩) hS (fun q _ h => zp_F1 hD hS hA q h) (zp_F1 hD hS hA) (fun r29 u t H locs ht hvm hw hB hz1 hk1 hS1 => zo1 hB ht hP hD hk1 (zp_F1 hD hS hA) hS1 (fun hP hK1 hD hS => ?_))
        obtain ⟨hw, hfr29⟩ := hw
        rw [show ((6 : Nat) : Int) = 6 from rfl] at hfr29
        have hc29 : Ff_X3_isWord a0_10.toInt a0_11.toInt 6 (fl_A (sxc 2)) = r29.toInt := hfr29.symm
        have hF0 := hF0.trans (fl_lt_eq hc29.symm)
        rcases hw with hw | hw
        · obtain ⟨hw, h29_0, h29_1⟩ := hw
          subst hw
          have l29k0_a0_10 : (1 : Int) ≤ a0_10.toInt := l5f_a0_10
          have u29k0_a0_10 : a0_10.toInt ≤ (1 : Int) := u5f_a0_10
          have hF0 := hF0.trans (if_pos (by decide))
          refine lv_if_ne (tgt := 53) hx hb dX3_takeName_32 (by decide) (fun _ => ?_) (fun c32 => absurd c32 (by decide +kernel))
          exact (hK0 _ _ _).mp (J53  _ _ _   hF0 hP hD hS (lv_sub hl [0] rfl))
        · subst hw
          have hF0 := hF0.trans (if_neg (by decide))
          refine lv_if_ne (tgt := 53) hx hb dX3_takeName_32 (by decide) (fun c32 => absurd (by decide +kernel) c32) (fun _ => ?_)
          refine lv_aload_n hx hb dX3_takeName_35 rfl (lv_at hl 0 rfl) ?_
          refine va_ldcS hx hb hown (sxc_R3 hE0) dX3_takeName_36 ?_
          refine va_calli (va_runV (As := [.ref (ad 3)]) (rest := []) ⟨hx, hb, hml, hown, hts⟩ (f_X3_isWord l dC dI H.size a0 (ad 3) a0g_0 (.int a0_1) (.int a0_2) (.ref a0_3) (.ref a0_4) a0g_5 (.int a0_6) (.int a0_7) (.int a0_8) (.int a0_9) (.int a0_12) a0g_13 a0_10 a0_11 7 (sxc 3) (Int.le_trans zq4 l5f_a0_10) (Int.le_trans u5f_a0_10 zq135)) (cwV 1 hts gX3_takeName_X3_isWord rfl rfl rfl zd_X3_isWord ⟨Nat.le_of_ble_eq_true rfl, Nat.le_of_ble_eq_true rfl⟩) ⟨ax_blind (fun _ _ _ _ hq => sxc_W_same _ _ _ _ (hq)), zr_3 (zp_K hK) (zp_P1 hP) (q0 := 0) rfl, ax_preE (zp_P1 hP) (zp_K hK) (zp_D1 hD) (fun U hU hW => sxc_W_to (sxc_T_w hE0 (i := 3) (by decide)) hS.2.1 (zp_F1 hD hS hA) hU hW)⟩ rfl rfl hl.1 rfl (lv_room (Nat.le_of_ble_eq_true rfl)) dX3_takeName_38 ⟨Nat.le_of_ble_eq_true rfl, Nat.le_of_ble_eq_true rfl⟩) hS (fun q _ h => zp_F1 hD hS hA q h) (zp_F1 hD hS hA) (fun r38 u t H locs ht hvm hw hB hz1 hk1 hS1 => zo1 hB ht hP hD hk1 (zp_F1 hD hS hA) hS1 (fun hP hK1 hD hS => ?_))
          obtain ⟨hw, hfr38⟩ := hw
          rw [show ((7 : Nat) : Int) = 7 from rfl] at hfr38
          have hc38 : Ff_X3_isWord a0_10.toInt a0_11.toInt 7 (fl_A (sxc 3)) = r38.toInt := hfr38.symm
          have hF0 := hF0.trans (fl_lt_eq hc38.symm)
          rcases hw with hw | hw
          · obtain ⟨hw, h38_0, h38_1⟩ := hw
            subst hw
            have l38k0_a0_10 : (1 : Int) ≤ a0_10.toInt := l5f_a0_10
            have u38k0_a0_10 : a0_10.toInt ≤ (1 : Int) := u5f_a0_10
            have hF0 := hF0.trans (if_pos (by decide))
            refine lv_if_ne (tgt := 53) hx hb dX3_takeName_41 (by decide) (fun _ => ?_) (fun c41 => absurd c41 (by decide +kernel))
            exact (hK0 _ _ _).mp (J53  _ _ _   hF0 hP hD hS (lv_sub hl [0] rfl))
          · subst hw
            have hF0 := hF0.trans (if_neg (by decide))
            refine lv_if_ne (tgt := 53) hx hb dX3_takeName_41 (by decide) (fun c41 => absurd (by decide +kernel) c41) (fun _ => ?_)
            refine lv_aload_n hx hb dX3_takeName_44 rfl (lv_at hl 0 rfl) ?_
            refine va_ldcS hx hb hown (sxc_R4 hE0) dX3_takeName_45 ?_
            refine va_calli (va_runV (As := [.ref (ad 4)]) (rest := []) ⟨hx, hb, hml, hown, hts⟩ (f_X3_isWord l dC dI H.size a0 (ad 4) a0g_0 (.int a0_1) (.int a0_2) (.ref a0_3) (.ref a0_4) a0g_5 (.int a0_6) (.int a0_7) (.int a0_8) (.int a0_9) (.int a0_12) a0g_13 a0_10 a0_11 4 (sxc 4) (Int.le_trans zq4 l5f_a0_10) (Int.le_trans u5f_a0_10 zq135)) (cwV 1 hts gX3_takeName_X3_isWord rfl rfl rfl zd_X3_isWord ⟨Nat.le_of_ble_eq_true rfl, Nat.le_of_ble_eq_true rfl⟩) ⟨ax_blind (fun _ _ _ _ hq => sxc_W_same _ _ _ _ (hq)), zr_3 (zp_K hK) (zp_P1 hP) (q0 := 0) rfl, ax_preE (zp_P1 hP) (zp_K hK) (zp_D1 hD) (fun U hU hW => sxc_W_to (sxc_T_w hE0 (i := 4) (by decide)) hS.2.1 (zp_F1 hD hS hA) hU hW)⟩ rfl rfl hl.1 rfl (lv_room (Nat.le_of_ble_eq_true rfl)) dX3_takeName_47 ⟨Nat.le_of_ble_eq_true rfl, Nat.le_of_ble_eq_true rfl⟩) hS (fun q _ h => zp_F1 hD hS hA q h) (zp_F1 hD hS hA) (fun r47 u t H locs ht hvm hw hB hz1 hk1 hS1 => zo1 hB ht hP hD hk1 (zp_F1 hD hS hA) hS1 (fun hP hK1 hD hS => ?_))
            obtain ⟨hw, hfr47⟩ := hw
            rw [show ((4 : Nat) : Int) = 4 from rfl] at hfr47
            have hc47 : Ff_X3_isWord a0_10.toInt a0_11.toInt 4 (fl_A (sxc 4)) = r47.toInt := hfr47.symm
            have hF0 := hF0.trans (fl_lt_eq hc47.symm)
            rcases hw with hw | hw
            · obtain ⟨hw, h47_0, h47_1⟩ := hw
              subst hw
              have l47k0_a0_10 : (1 : Int) ≤ a0_10.toInt := l5f_a0_10
              have u47k0_a0_10 : a0_10.toInt ≤ (1 : Int) := u5f_a0_10
              have hF0 := hF0.trans (if_pos (by decide))
              refine lv_if_eq (tgt := 59) hx hb dX3_takeName_50 (by decide) (fun c50 => absurd c50 (by decide +kernel)) (fun _ => ?_)
              exact (hK0 _ _ _).mp (J53  _ _ _   hF0 hP hD hS (lv_sub hl [0] rfl))
            · subst hw
              have hF0 := hF0.trans (if_neg (by decide))
              refine lv_if_eq (tgt := 59) hx hb dX3_takeName_50 (by decide) (fun _ => ?_) (fun c50 => absurd (by decide +kernel) c50)
              refine lv_iconst (v := 0) hx hb dX3_takeName_59 zk_iconst_0 ?_
              refine lv_istore_n (lv' := [(1, .int 0), (0, .ref a0)]) hx hb dX3_takeName_60 rfl hl (by decide) rfl (fun ls hl => ?_)
              have J61 : ∀ (n : Nat) (j61l1 : Int32) (H : Heap) (locs : List Loc) (ls : Array Slot), (13 : Int) - j61l1.toInt ≤ (n : Int) → (0 : Int) ≤ j61l1.toInt → j61l1.toInt ≤ (12 : Int) → (FX = fl_wh (Sf_X3_takeName_61_1 a0_1.toInt a0_2.toInt a0_6.toInt a0_7.toInt a0_8.toInt a0_9.toInt a0_10.toInt a0_11.toInt a0_12.toInt (fl_L fa0_4) (fl_A fa0_3)) (0, 0, 0, 0, 0, 0, 0, 0, 0, (fun _ => 0)) n j61l1.toInt) → va_P (dC, dI) vwCl [(a0, .inr (3, [a0g_0, .int a0_1, .int a0_2, .ref a0_3, .ref a0_4, a0g_5, .int a0_6, .int a0_7, .int a0_8, .int a0_9, .int a0_10, .long a0_11, .int a0_12, a0g_13])), (a0_4, .inl (ka0_4, 12, .inr (.inl (fa0_4)))), (a0_3, .inl (ka0_3, 900, .inl (fa0_3)))] H → va_D A [(a0, .inr (3, [a0g_0, .int a0_1, .int a0_2, .ref a0_3, .ref a0_4, a0g_5, .int a0_6, .int a0_7, .int a0_8, .int a0_9, .int a0_10, .long a0_11, .int a0_12, a0g_13])), (a0_4, .inl (ka0_4, 12, .inr (.inl (fa0_4)))), (a0_3, .inl (ka0_3, 900, .inl (fa0_3)))] → va_S A s.heap H locs → lv_has ls 2 [(0, .ref a0), (1, .int j61l1)] → K H locs (F0 m 61 ls []) := by
                intro n
                induction n with
                | zero =>
                  intro j61l1 H locs ls hm bj61l1_l bj61l1_u hF0 hP hD hS hl
                  first | exact zg_0 hm bj61l1_u (by decide) | (have h8 := ai_min j61l1; have h9 := ai_max j61l1; exact absurd hm (by omega))
                | succ n ih61 =>
                  intro j61l1 H locs ls hm bj61l1_l bj61l1_u hF0 hP hD hS hl
                  refine (hK0 _ _ _).mpr ?_
                  have hm61 := hm
                  obtain ⟨SX61, hSX61⟩ : ∃ q9, Sf_X3_takeName_61_1 a0_1.toInt a0_2.toInt a0_6.toInt a0_7.toInt a0_8.toInt a0_9.toInt a0_10.toInt a0_11.toInt a0_12.toInt (fl_L fa0_4) (fl_A fa0_3) j61l1.toInt = q9 := ⟨_, rfl⟩
                  have hF1 := hSX61.symm.trans (Sf_X3_takeName_61_1.eq_1 a0_1.toInt a0_2.toInt a0_6.toInt a0_7.toInt a0_8.toInt a0_9.toInt a0_10.toInt a0_11.toInt a0_12.toInt (fl_L fa0_4) (fl_A fa0_3) j61l1.toInt)
                  refine lv_iload_n hx hb dX3_takeName_61 rfl (lv_at hl 1 rfl) ?_
                  refine lv_aload_n hx hb dX3_takeName_62 rfl (lv_at hl 0 rfl) ?_
                  refine va_get (D := (dC, dI)) (ci := 3) (v := .int a0_6) (C := RX3) (T := TX3) (N := 14) hx hb hts zi_X3_takeName_3 hown hK hP 0 rfl rfl 6 (by decide) (hts (.fieldLink RX3 42 "WaxTurns$Reade\x72" "nameCount" "I") (zm_X3_takeName_r1 (List.mem_of_getElem? (i := 1) rfl))) (fun _ h9 => h9) rfl dX3_takeName_63 ?_
                  refine lv_icmp_ge (tgt := 95) hx hb dX3_takeName_66 (by decide) (fun c66 => ?_) (fun c66 => ?_)
                  · have gc66 := ai_le c66
                    have u66t_a0_6 : a0_6.toInt ≤ (12 : Int) := ba0_6_u
                    have l66t_j61l1 : (0 : Int) ≤ j61l1.toInt := bj61l1_l
                    have hF1 := hF1.trans (if_pos (show a0_6.toInt ≤ j61l1.toInt from gc66))
                    have hF0 := hF0.trans (fl_wh_r (hSX61.trans hF1))
                    refine lv_aload_n hx hb dX3_takeName_95 rfl (lv_at hl 0 rfl) ?_
                    refine va_get (D := (dC, dI)) (ci := 3) (v := .int a0_6) (C := RX3) (T := TX3) (N := 14) hx hb hts zi_X3_takeName_3 hown hK hP 0 rfl rfl 6 (by decide) (hts (.fieldLink RX3 42 "WaxTurns$Reade\x72" "nameCount" "I") (zm_X3_takeName_r1 (List.mem_of_getElem? (i := 1) rfl))) (fun _ h9 => h9) rfl dX3_takeName_96 ?_
                    refine lv_bipush (v := 12) hx hb dX3_takeName_99 zk_bipush_12 ?_
                    have J127 : ∀ (j127a0_6 : Int32) (j127a0_4_a : Nat → Int64) (H : Heap) (locs : List Loc) (ls : Array Slot), (0 : Int) ≤ j127a0_6.toInt → j127a0_6.toInt ≤ (12 : Int) → (FX = Gf_X3_takeName_127_1 a0_1.toInt a0_2.toInt a0_7.toInt a0_9.toInt a0_11.toInt a0_12.toInt (fl_A fa0_3) j127a0_6.toInt (fl_L j127a0_4_a)) → va_P (dC, dI) vwCl [(a0, .inr (3, [a0g_0, .int a0_1, .int a0_2, .ref a0_3, .ref a0_4, a0g_5, .int j127a0_6, .int a0_7, .int a0_8, .int a0_9, .int a0_10, .long a0_11, .int a0_12, a0g_13])), (a0_4, .inl (ka0_4, 12, .inr (.inl (j127a0_4_a)))), (a0_3, .inl (ka0_3, 900, .inl (fa0_3)))] H → va_D A [(a0, .inr (3, [a0g_0, .int a0_1, .int a0_2, .ref a0_3, .ref a0_4, a0g_5, .int j127a0_6, .int a0_7, .int a0_8, .int a0_9, .int a0_10, .long a0_11, .int a0_12, a0g_13])), (a0_4, .inl (ka0_4, 12, .inr (.inl (j127a0_4_a)))), (a0_3, .inl (ka0_3, 900, .inl (fa0_3)))] → va_S A s.heap H locs → lv_has ls 2 [(0, .ref a0)] → K H locs (F0 m 127 ls []) := by
                      intro j127a0_6 j127a0_4_a H locs ls  bj127a0_6_l bj127a0_6_u hF0 hP hD hS hl
                      refine (hK0 _ _ _).mpr ?_
                      have hF0 := hF0.trans (Gf_X3_takeName_127_1.eq_1 a0_1.toInt a0_2.toInt a0_7.toInt a0_9.toInt a0_11.toInt a0_12.toInt (fl_A fa0_3) j127a0_6.toInt (fl_L j127a0_4_a))
                      refine lv_aload_n hx hb dX3_takeName_127 rfl (lv_at hl 0 rfl) ?_
                      refine zc_cutc (wc := [(a0, .inr (3, [a0g_0, .int a0_1, .int a0_2, .ref a0_3, .ref a0_4, a0g_5, .int j127a0_6, .int a0_7, .int a0_8, .int a0_9, .int a0_10, .long a0_11, .int a0_12, a0g_13])), (a0_3, .inl (ka0_3, 900, .inl (fa0_3)))]) hP hD hS hA [0, 2] (by decide +kernel) rfl (fun hPc hDc hFc hCc => ?_)
                      have hKc := hK.sub (tys' := [(ka0_3, .byte)]) [1] rfl
                      refine va_callv (va_runV (As := []) (rest := []) ⟨hx, hb, hml, hown, hts⟩ (f_X3_advance l dC dI H.size a0 a0g_0 (.int a0_1) (.int a0_2) (.ref a0_4) a0g_5 (.int j127a0_6) a0g_13 a0_3 a0_7 a0_8 a0_9 a0_10 a0_11 a0_12 ka0_3 fa0_3 ba0_7_l ba0_7_u ba0_8_l ba0_8_u ba0_9_l ba0_9_u (Int.le_trans zq4 l5f_a0_10) (Int.le_trans u5f_a0_10 zq135)) (cwV 0 hts gX3_takeName_X3_advance rfl rfl rfl zd_X3_advance ⟨Nat.le_of_ble_eq_true rfl, Nat.le_of_ble_eq_true rfl⟩) ⟨ax_blind (fun _ _ _ _ _ => trivial), zr_3 hKc hPc (q0 := 0) rfl, ax_pre hPc hKc hDc (fun _ _ => trivial)⟩ rfl rfl hl.1 rfl (lv_room (Nat.le_of_ble_eq_true rfl)) dX3_takeName_128 ⟨Nat.le_of_ble_eq_true rfl, Nat.le_of_ble_eq_true rfl⟩) hS (fun q _ h => hFc q h) hFc (fun u t H locs ht hvm hw => zx_5 (fun v128na0_8 v128na0_9 v128na0_10 v128na0_11 v128na0_12 => zy_4 (fun bv128na0_8 bv128na0_9 bv128na0_10 hraw128_0 hB hz1 hk1 hS1 => zo hB ht hS1 (fun hP1 hK1 hD1 hS => ?_))))
                      refine zc_backc (w := [(a0, .inr (3, [a0g_0, .int a0_1, .int a0_2, .ref a0_3, .ref a0_4, a0g_5, .int j127a0_6, .int a0_7, .int v128na0_8, .int v128na0_9, .int v128na0_10, .long v128na0_11, .int v128na0_12, a0g_13])), (a0_4, .inl (ka0_4, 12, .inr (.inl (j127a0_4_a)))), (a0_3, .inl (ka0_3, 900, .inl (fa0_3)))]) hP hD hCc hk1 hFc hP1 hD1 [.inr 0, .inl 1, .inr 1] (by decide +kernel) rfl (fun hP hD => ?_)
                      have hc128 : Ff_X3_advance a0_7.toInt a0_9.toInt a0_11.toInt a0_12.toInt (fl_A fa0_3) = (v128na0_8.toInt, v128na0_9.toInt, v128na0_10.toInt, v128na0_11.toInt, v128na0_12.toInt) := hraw128_0
                      have hF0 := hF0.trans (fl_c5_eq hc128)
                      refine lv_iconst (v := 1) hx hb dX3_takeName_131 zk_iconst_1 ?_
                      have hFe : FX = (1, a0_1.toInt, a0_2.toInt, j127a0_6.toInt, v128na0_8.toInt, v128na0_9.toInt, v128na0_10.toInt, v128na0_11.toInt, v128na0_12.toInt, (fl_L j127a0_4_a)) := hF0
                      exact W.zret (v := 1) hx hb hr rfl (fun t ht hW => ⟨⟨1, (), rfl, ⟨(Or.inl (rfl)), (congrArg Prod.fst hFe).symm⟩, a0_1, a0_2, j127a0_6, v128na0_8, v128na0_9, v128na0_10, v128na0_11, v128na0_12, j127a0_4_a, ⟨bj127a0_6_l, bj127a0_6_u⟩, ⟨bv128na0_8.1, bv128na0_8.2⟩, ⟨bv128na0_9.1, bv128na0_9.2⟩, ⟨bv128na0_10.1, bv128na0_10.2⟩, (congrArg Prod.snd hFe), by rw [ht]; exact hP, va_K.moved hW.alike hK, hD⟩, hS.F ht⟩) hS.2.2 dX3_takeName_132
                    refine lv_icmp_ge (tgt := 127) hx hb dX3_takeName_101 (by decide) (fun c101 => ?_) (fun c101 => ?_)
                    · have gc101 := ai_le c101
                      have l101t_a0_6 : (12 : Int) ≤ a0_6.toInt := Int.le_trans zq119 gc101
                      have hF0 := hF0.trans (if_pos (show 12 ≤ a0_6.toInt from gc101))
                      exact (hK0 _ _ _).mp (J127 a0_6 fa0_4 _ _ _  (Int.le_trans zq169 l101t_a0_6) u66t_a0_6 hF0 hP hD hS (lv_sub hl [0] rfl))
                    · have gc101 := ai_nle c101
                      have u101f_a0_6 : a0_6.toInt ≤ (11 : Int) := ai_lthi gc101 zq120
                      have hF0 := hF0.trans (if_neg (show ¬ (12 ≤ a0_6.toInt) from Int.not_le.mpr gc101))
                      refine lv_aload_n hx hb dX3_takeName_104 rfl (lv_at hl 0 rfl) ?_
                      refine va_get (D := (dC, dI)) (ci := 3) (v := .ref a0_4) (C := RX3) (T := TX3) (N := 14) hx hb hts zi_X3_takeName_3 hown hK hP 0 rfl rfl 4 (by decide) (hts (.fieldLink RX3 15 "WaxTurns$Reade\x72" "names" "[J") (zm_X3_takeName_r1 (List.mem_of_getElem? (i := 2) rfl))) (fun _ h9 => h9) rfl dX3_takeName_105 ?_
                      refine lv_aload_n hx hb dX3_takeName_108 rfl (lv_at hl 0 rfl) ?_
                      refine va_get (D := (dC, dI)) (ci := 3) (v := .int a0_6) (C := RX3) (T := TX3) (N := 14) hx hb hts zi_X3_takeName_3 hown hK hP 0 rfl rfl 6 (by decide) (hts (.fieldLink RX3 42 "WaxTurns$Reade\x72" "nameCount" "I") (zm_X3_takeName_r1 (List.mem_of_getElem? (i := 1) rfl))) (fun _ h9 => h9) rfl dX3_takeName_109 ?_
                      refine lv_aload_n hx hb dX3_takeName_112 rfl (lv_at hl 0 rfl) ?_
                      refine va_get (D := (dC, dI)) (ci := 3) (v := .long a0_11) (C := RX3) (T := TX3) (N := 14) hx hb hts zi_X3_takeName_3 hown hK hP 0 rfl rfl 11 (by decide) (hts (.fieldLink RX3 81 "WaxTurns$Reade\x72" "word" "J") (zm_X3_takeName_r1 (List.mem_of_getElem? (i := 3) rfl))) (fun _ h9 => h9) rfl dX3_takeName_113 ?_
                      refine va_last hx hb hK hP hD hS 1 0 rfl rfl (ai_in ba0_6_l u101f_a0_6 (by decide) (by decide)) dX3_takeName_116 (fun H locs hP hD hS => ?_)
                      obtain ⟨f116, ef116⟩ : ∃ g9 : Nat → Int64, g9 = vp_updL fa0_4 (a0_6 : Int32).toNatClampNeg a0_11 := ⟨_, rfl⟩
                      refine zs_1 (y := (a0_4, .inl (ka0_4, 12, .inr (.inl (f116))))) hP hD (by rw [ef116]) (fun hP hD => ?_)
                      have fqf116 := fl_upL_eq ef116
                      have hF0 := hF0.trans (fl_lt_eq (show (fl_L f116) = fl_up (fl_L fa0_4) (a0_6.toInt.toNat) a0_11.toInt from fqf116))
                      refine lv_aload_n hx hb dX3_takeName_117 rfl (lv_at hl 0 rfl) ?_
                      refine lv_dup hx hb dX3_takeName_118 rfl ?_
                      refine va_get (D := (dC, dI)) (ci := 3) (v := .int a0_6) (C := RX3) (T := TX3) (N := 14) hx hb hts zi_X3_takeName_3 hown hK hP 0 rfl rfl 6 (by decide) (hts (.fieldLink RX3 42 "WaxTurns$Reade\x72" "nameCount" "I") (zm_X3_takeName_r1 (List.mem_of_getElem? (i := 1) rfl))) (fun _ h9 => h9) rfl dX3_takeName_119 ?_
                      refine lv_iconst (v := 1) hx hb dX3_takeName_122 zk_iconst_1 ?_
                      refine lv_iadd hx hb dX3_takeName_123 ?_
                      refine lv_topi (fun x123 ex123 => ?_)
                      have qx123 : x123.toInt = a0_6.toInt + (1 : Int32).toInt := ai_add ex123 ⟨ba0_6_l, u101f_a0_6⟩ ⟨zq1, zq0⟩ (by decide) (by decide)
                      have bx123 : (1 : Int) ≤ x123.toInt ∧ x123.toInt ≤ 12 := ⟨by rw [qx123]; exact Int.add_le_add ba0_6_l zq1, by rw [qx123]; exact Int.add_le_add u101f_a0_6 zq0⟩
                      have wx123 : x123.toInt = a0_6.toInt + 1 := qx123
                      have hF0 := hF0.trans (fl_lt_eq (show x123.toInt = a0_6.toInt + 1 from qx123))
                      refine va_put (D := (dC, dI)) (ci := 3) (v := .int x123) (ty := .int) (C := RX3) (T := TX3) (N := 14) hx hb hts zi_X3_takeName_3 tyX3 tyX3_ok nmX3 hown hK hP hD hS 0 rfl rfl 6 (by decide) (hts (.fieldLink RX3 42 "WaxTurns$Reade\x72" "nameCount" "I") (zm_X3_takeName_r1 (List.mem_of_getElem? (i := 1) rfl))) (fun _ h9 => h9) rfl (tyX3_ok 6 (by decide)) rfl rfl (Nat.le_of_ble_eq_true rfl) dX3_takeName_124 (fun H locs hP hD hS => ?_)
                      refine zs_0 (y := (a0, .inr (3, [a0g_0, .int a0_1, .int a0_2, .ref a0_3, .ref a0_4, a0g_5, .int x123, .int a0_7, .int a0_8, .int a0_9, .int a0_10, .long a0_11, .int a0_12, a0g_13]))) hP hD rfl (fun hP hD => ?_)
                      exact (hK0 _ _ _).mp (J127 x123 f116 _ _ _  (Int.le_trans zq4 bx123.1) bx123.2 hF0 hP hD hS (lv_sub hl [0] rfl))
                  · have gc66 := ai_nle c66
                    have u66f_j61l1 : j61l1.toInt ≤ (11 : Int) := ai_lthi gc66 ba0_6_u
                    have l66f_a0_6 : (1 : Int) ≤ a0_6.toInt := ai_ltlo gc66 bj61l1_l
                    have hF1 := hF1.trans (if_neg (show ¬ (a0_6.toInt ≤ j61l1.toInt) from Int.not_le.mpr gc66))
                    refine lv_aload_n hx hb dX3_takeName_69 rfl (lv_at hl 0 rfl) ?_
                    refine va_get (D := (dC, dI)) (ci := 3) (v := .ref a0_4) (C := RX3) (T := TX3) (N := 14) hx hb hts zi_X3_takeName_3 hown hK hP 0 rfl rfl 4 (by decide) (hts (.fieldLink RX3 15 "WaxTurns$Reade\x72" "names" "[J") (zm_X3_takeName_r1 (List.mem_of_getElem? (i := 2) rfl))) (fun _ h9 => h9) rfl dX3_takeName_70 ?_
                    refine lv_iload_n hx hb dX3_takeName_73 rfl (lv_at hl 1 rfl) ?_
                    refine va_lald hx hb hK hP 1 0 rfl rfl (ai_in bj61l1_l u66f_j61l1 (by decide) (by decide)) dX3_takeName_74 ?_
                    refine lv_topl (fun x74 ex74 => ?_)
                    have fqx74 := congrArg Int64.toInt ex74
                    have hF1 := hF1.trans (fl_lt_eq (show x74.toInt = (fl_L fa0_4) (j61l1.toInt.toNat) from fqx74))
                    refine lv_aload_n hx hb dX3_takeName_75 rfl (lv_at hl 0 rfl) ?_
                    refine va_get (D := (dC, dI)) (ci := 3) (v := .long a0_11) (C := RX3) (T := TX3) (N := 14) hx hb hts zi_X3_takeName_3 hown hK hP 0 rfl rfl 11 (by decide) (hts (.fieldLink RX3 81 "WaxTurns$Reade\x72" "word" "J") (zm_X3_takeName_r1 (List.mem_of_getElem? (i := 3) rfl))) (fun _ h9 => h9) rfl dX3_takeName_76 ?_
                    refine W.lcmp hx hb dX3_takeName_79 ?_
                    refine lv_topi (fun x79 ex79 => ?_)
                    have fqx79 := fl_cmp_eq ex79
                    have hF1 := hF1.trans (fl_lt_eq (show x79.toInt = fl_cmp x74.toInt a0_11.toInt from fqx79))
                    refine lv_if_ne (tgt := 89) hx hb dX3_takeName_80 (by decide) (fun c80 => ?_) (fun c80 => ?_)
                    · have gc80 := ai_ne c80
                      have hF1 := hF1.trans (if_neg (show ¬ (x79.toInt = 0) from  gc80))
                      obtain ⟨x89, ex89⟩ : ∃ y : Int32, y = j61l1 + Int32.ofInt 1 := ⟨_, rfl⟩
                      have qx89 : x89.toInt = j61l1.toInt + 1 := ai_inc ex89 (by decide) (by decide) u66f_j61l1 (by decide)
                      have bx89 : (1 : Int) ≤ x89.toInt ∧ x89.toInt ≤ 12 := ⟨by rw [qx89]; exact Int.add_le_add bj61l1_l (Int.le_refl _), by rw [qx89]; exact Int.add_le_add u66f_j61l1 (Int.le_refl _)⟩
                      refine lv_iinc (v := x89) (lv' := [(1, .int x89), (0, .ref a0)]) hx hb dX3_takeName_89 hl (k := 1) rfl ex89.symm (by decide) rfl (fun ls hl => ?_)
                      have hF1 := hF1.trans (fl_lt_eq (show x89.toInt = j61l1.toInt + 1 from qx89))
                      refine lv_goto (tgt := 61) hx hb dX3_takeName_92 (by decide) ?_
                      exact (hK0 _ _ _).mp (ih61 x89 _ _ _ (by first | exact zg_s hm61 qx89 | (have h0 := qx89; omega)) (Int.le_trans zq4 bx89.1) bx89.2 (hF0.trans (fl_wh_l (hSX61.trans hF1))) hP hD hS (lv_sub hl [1, 0] rfl))
                    · have gc80 := ai_eq c80
                      have u80f_x79 : x79.toInt ≤ (0 : Int) := Int.le_trans (Int.le_of_eq gc80) zq6
                      have l80f_x79 : (0 : Int) ≤ x79.toInt := Int.le_trans zq5 (Int.le_of_eq gc80.symm)
                      have hF1 := hF1.trans (if_pos (show x79.toInt = 0 from gc80))
                      have hF0 := hF0.trans (fl_wh_r (hSX61.trans hF1))
                      refine lv_aload_n hx hb dX3_takeName_83 rfl (lv_at hl 0 rfl) ?_
                      refine lv_iconst (v := 3) hx hb dX3_takeName_84 zk_iconst_3 ?_
                      refine va_calli (va_runV (As := [.int 3]) (rest := []) ⟨hx, hb, hml, hown, hts⟩ (f_X3_fails l dC dI H.size a0 3 a0g_0 (.ref a0_3) (.ref a0_4) a0g_5 (.int a0_6) (.int a0_7) (.int a0_9) (.int a0_10) (.long a0_11) (.int a0_12) a0g_13 a0_1 a0_2 a0_8 ba0_8_l ba0_8_u) (cwV 1 hts gX3_takeName_X3_fails rfl rfl rfl zd_X3_fails ⟨Nat.le_of_ble_eq_true rfl, Nat.le_of_ble_eq_true rfl⟩) ⟨ax_blind (fun _ _ _ _ _ => trivial), zr_3 (zp_K hK) (zp_P1 hP) (q0 := 0) rfl, ax_pre (zp_P1 hP) (zp_K hK) (zp_D1 hD) (fun _ _ => trivial)⟩ rfl rfl hl.1 rfl (lv_room (Nat.le_of_ble_eq_true rfl)) dX3_takeName_85 ⟨Nat.le_of_ble_eq_true rfl, Nat.le_of_ble_eq_true rfl⟩) hS (fun q _ h => zp_F1 hD hS hA q h) (zp_F1 hD hS hA) (fun r85 u t H locs ht hvm hw => zx_2 (fun v85na0_1 v85na0_2 => zy_1 (fun hraw85_0 hB hz1 hk1 hS1 => zo1 hB ht hP hD hk1 (zp_F1 hD hS hA) hS1 (fun hP hK1 hD hS => ?_))))
                      obtain ⟨hw, hfr85⟩ := hw
                      rw [show (3 : Int32).toInt = 3 from by decide] at hfr85 hraw85_0
                      have hc85 : Ff_X3_fails 3 a0_8.toInt = (r85.toInt, v85na0_1.toInt, v85na0_2.toInt) := Prod.ext hfr85.symm hraw85_0
                      have hF0 := hF0.trans (fl_c3_eq hc85)
                      have hw : r85 = 0 := hw
                      have hw := hw.symm
                      subst hw
                      have hFe : FX = (0, v85na0_1.toInt, v85na0_2.toInt, a0_6.toInt, a0_8.toInt, a0_9.toInt, a0_10.toInt, a0_11.toInt, a0_12.toInt, (fl_L fa0_4)) := hF0
                      exact W.zret (v := 0) hx hb hr rfl (fun t ht hW => ⟨⟨0, (), rfl, ⟨(Or.inr (rfl)), (congrArg Prod.fst hFe).symm⟩, v85na0_1, v85na0_2, a0_6, a0_8, a0_9, a0_10, a0_11, a0_12, fa0_4, ⟨Int.le_trans (by decide) l66f_a0_6, ba0_6_u⟩, ⟨ba0_8_l, ba0_8_u⟩, ⟨ba0_9_l, ba0_9_u⟩, ⟨Int.le_trans (by decide) l5f_a0_10, Int.le_trans u5f_a0_10 (by decide)⟩, (congrArg Prod.snd hFe), by rw [ht]; exact hP, va_K.moved hW.alike hK, hD⟩, hS.F ht⟩) hS.2.2 dX3_takeName_88
              exact (hK0 _ _ _).mp (J61 13 0 _ _ _ (by first | decide +kernel | (have h1 : (0 : Int) ≤ (0 : Int32).toInt := zq5; have h2 : (0 : Int32).toInt ≤ (0 : Int) := zq6; omega)) zq5 (Int.le_trans zq6 zq169) (by rw [show (0 : Int32).toInt = 0 from by decide]; exact hF0) hP hD hS (lv_sub hl [1, 0] rfl))
end P311_01_f
section P311_02_f
set_option maxHeartbeats 4000000 in
set_option maxRecDepth 100000 in
theorem f_X3_readHall (l : Launch) (dC : Nat → ClassId) (dI : Nat → Nat → Nat) (sz : Nat) (a0 : Nat) (a0g_0 a0g_4 a0g_6 : Value) (a0_1 : Int32) (a0_2 : Int32) (a0_3 : Nat) (a0_5 : Nat) (a0_7 : Int32) (a0_8 : Int32) (a0_9 : Int32) (a0_10 : Int32) (a0_11 : Int64) (a0_12 : Int32) (a0_13 : Int32) (ka0_3 : ClassId) (fa0_3 : Nat → Int32) (a0_5_0 : Int32) (a0_5_1 : Int32) (a0_5_2 : Int32) (a0_5_3 : Int32) (a0_5g_4 a0_5g_5 a0_5g_6 a0_5g_7 a0_5g_8 a0_5g_9 a0_5g_10 a0_5g_11 a0_5g_12 a0_5g_13 a0_5g_14 : Value) (ad : Nat → Nat) (ba0_7_l : (0 : Int) ≤ a0_7.toInt) (ba0_7_u : a0_7.toInt ≤ (900 : Int)) (ba0_8_l : (0 : Int) ≤ a0_8.toInt) (ba0_8_u : a0_8.toInt ≤ (900 : Int)) (ba0_9_l : (0 : Int) ≤ a0_9.toInt) (ba0_9_u : a0_9.toInt ≤ (900 : Int)) (ba0_10_l : (0 : Int) ≤ a0_10.toInt) (ba0_10_u : a0_10.toInt ≤ (4 : Int)) (ba0_5_0_l : (0 : Int) ≤ a0_5_0.toInt) (ba0_5_0_u : a0_5_0.toInt ≤ (9 : Int)) : zm l yX3_readHall wsX3_readHall ({ frames := 6, cells := 0, slots := 0, locals := 132 }) [.ref a0] dC dI sz [(a0, .inr (3, [a0g_0, .int a0_1, .int a0_2, .ref a0_3, a0g_4, .ref a0_5, a0g_6, .int a0_7, .int a0_8, .int a0_9, .int a0_10, .long a0_11, .int a0_12, .int a0_13])), (a0_3, .inl (ka0_3, 900, .inl (fa0_3))), (a0_5, .inr (0, [.int a0_5_0, .int a0_5_1, .int a0_5_2, .int a0_5_3, a0_5g_4, a0_5g_5, a0_5g_6, a0_5g_7, a0_5g_8, a0_5g_9, a0_5g_10, a0_5g_11, a0_5g_12, a0_5g_13, a0_5g_14]))] [(ka0_3, .byte)] (fun A U => sxc_T ad A U ∧ va_Nw (.methodLinkNest RX3 223 yX7_within RX7) U) (fun A => va_Qi (fun (r : Int32) (_ : Unit) => ((r = 1) ∨ (r = 0)) ∧ r.toInt = (Ff_X3_readHall a0_1.toInt a0_2.toInt a0_7.toInt a0_9.toInt a0_11.toInt a0_12.toInt a0_13.toInt (fl_A fa0_3) a0_5_0.toInt a0_5_1.toInt a0_5_2.toInt a0_5_3.toInt).1) (fun (_ : Unit) (t : State) => ∃ na0_1 : Int32, ∃ na0_2 : Int32, ∃ na0_8 : Int32, ∃ na0_9 : Int32, ∃ na0_10 : Int32, ∃ na0_11 : Int64, ∃ na0_12 : Int32, ∃ na0_13 : Int32, ∃ na0_5_0 : Int32, ∃ na0_5_1 : Int32, ∃ na0_5_2 : Int32, ∃ na0_5_3 : Int32, ((0 : Int) ≤ na0_8.toInt ∧ na0_8.toInt ≤ 900) ∧ ((0 : Int) ≤ na0_9.toInt ∧ na0_9.toInt ≤ 900) ∧ ((0 : Int) ≤ na0_10.toInt ∧ na0_10.toInt ≤ 4) ∧ ((0 : Int) ≤ na0_5_0.toInt ∧ na0_5_0.toInt ≤ 9) ∧ ((Ff_X3_readHall a0_1.toInt a0_2.toInt a0_7.toInt a0_9.toInt a0_11.toInt a0_12.toInt a0_13.toInt (fl_A fa0_3) a0_5_0.toInt a0_5_1.toInt a0_5_2.toInt a0_5_3.toInt).2 = (na0_1.toInt, na0_2.toInt, na0_8.toInt, na0_9.toInt, na0_10.toInt, na0_11.toInt, na0_12.toInt, na0_13.toInt, na0_5_0.toInt, na0_5_1.toInt, na0_5_2.toInt, na0_5_3.toInt)) ∧ ax_B dC dI A [(a0, .inr (3, [a0g_0, .int na0_1, .int na0_2, .ref a0_3, a0g_4, .ref a0_5, a0g_6, .int a0_7, .int na0_8, .int na0_9, .int na0_10, .long na0_11, .int na0_12, .int na0_13])), (a0_3, .inl (ka0_3, 900, .inl (fa0_3))), (a0_5, .inr (0, [.int na0_5_0, .int na0_5_1, .int na0_5_2, .int na0_5_3, a0_5g_4, a0_5g_5, a0_5g_6, a0_5g_7, a0_5g_8, a0_5g_9, a0_5g_10, a0_5g_11, a0_5g_12, a0_5g_13, a0_5g_14]))] [(ka0_3, .byte)] t) A) := by
  refine zh (cc := cX3_readHall) (maxL := 2) (ret := (some .boolean)) zn_RX3 rfl (Nat.le_of_ble_eq_true rfl) (fun p e s m below meth c A ls hx hb hml hr hts (hown : s.vm.findClass RX3 = some m.cls) hlocks hA hS hP hK hD hE (hl : lv_has ls 2 [(0, .ref a0)]) => ?_)
  obtain ⟨hE0, hE1⟩ := hE
  generalize hFX : Ff_X3_readHall a0_1.toInt a0_2.toInt a0_7.toInt a0_9.toInt a0_11.toInt a0_12.toInt a0_13.toInt (fl_A fa0_3) a0_5_0.toInt a0_5_1.toInt a0_5_2.toInt a0_5_3.toInt = FX at ⊢
  have hF0 := hFX.symm.trans (Ff_X3_readHall.eq_1 a0_1.toInt a0_2.toInt a0_7.toInt a0_9.toInt a0_11.toInt a0_12.toInt a0_13.toInt (fl_A fa0_3) a0_5_0.toInt a0_5_1.toInt a0_5_2.toInt a0_5_3.toInt)
  refine lv_aload_n hx hb dX3_readHall_0 rfl (lv_at hl 0 rfl) ?_
  have hKc := hK.sub (tys' := [(ka0_3, .byte)]) [0] rfl
  refine va_callv (va_runV (As := []) (rest := []) ⟨hx, hb, hml, hown, hts⟩ (f_X3_advance l dC dI s.heap.size a0 a0g_0 (.int a0_1) (.int a0_2) a0g_4 (.ref a0_5) a0g_6 (.int a0_13) a0_3 a0_7 a0_8 a0_9 a0_10 a0_11 a0_12 ka0_3 fa0_3 ba0_7_l ba0_7_u ba0_8_l ba0_8_u ba0_9_l ba0_9_u ba0_10_l ba0_10_u) (cwV 0 hts gX3_readHall_X3_advance rfl rfl rfl zd_X3_advance ⟨Nat.le_of_ble_eq_true rfl, Nat.le_of_ble_eq_true rfl⟩) ⟨ax_blind (fun _ _ _ _ _ => trivial), zr_3 hKc (zp_P2 hP) (q0 := 0) rfl, ax_pre (zp_P2 hP) hKc (zp_D2 hD) (fun _ _ => trivial)⟩ rfl rfl hl.1 rfl (lv_room (Nat.le_of_ble_eq_true rfl)) dX3_readHall_1 ⟨Nat.le_of_ble_eq_true rfl, Nat.le_of_ble_eq_true rfl⟩) hS (fun q _ h => zp_F2 hD hS hA q h) (zp_F2 hD hS hA) (fun u t H locs ht hvm hw => zx_5 (fun v1na0_8 v1na0_9 v1na0_10 v1na0_11 v1na0_12 => zy_4 (fun bv1na0_8 bv1na0_9 bv1na0_10 hraw1_0 hB hz1 hk1 hS1 => zo2 hB ht hP hD hk1 (zp_F2 hD hS hA) hS1 (fun hP hK1 hD hS => ?_))))
  have hc1 : Ff_X3_advance a0_7.toInt a0_9.toInt a0_11.toInt a0_12.toInt (fl_A fa0_3) = (v1na0_8.toInt, v1na0_9.toInt, v1na0_10.toInt, v1na0_11.toInt, v1na0_12.toInt) := hraw1_0
  have hF0 := hF0.trans (fl_c5_eq hc1)
  refine lv_aload_n hx hb dX3_readHall_4 rfl (lv_at hl 0 rfl) ?_
  refine va_ldcS hx hb hown (sxc_R5 hE0) dX3_readHall_5 ?_
  refine lv_iconst (v := 2) hx hb dX3_readHall_7 zk_iconst_2 ?_
  refine lv_bipush (v := 9) hx hb dX3_readHall_8 zk_bipush_9 ?_
  have hKc := hK.sub (tys' := [(ka0_3, .byte)]) [0] rfl
  refine va_calli (va_runV (As := [.ref (ad 5), .int 2, .int 9]) (rest := []) ⟨hx, hb, hml, hown, hts⟩ (f_X3_takeWhole l dC dI H.size a0 (ad 5) 2 9 a0g_0 a0g_4 (.ref a0_5) a0g_6 a0_1 a0_2 a0_3 a0_7 v1na0_8 v1na0_9 v1na0_10 v1na0_11 v1na0_12 a0_13 ka0_3 fa0_3 7 (sxc 5) ba0_7_l ba0_7_u bv1na0_8.1 bv1na0_8.2 bv1na0_9.1 bv1na0_9.2 bv1na0_10.1 bv1na0_10.2) (cwV 3 hts gX3_readHall_X3_takeWhole rfl rfl rfl zd_X3_takeWhole ⟨Nat.le_of_ble_eq_true rfl, Nat.le_of_ble_eq_true rfl⟩) ⟨ax_blind (fun _ _ _ _ hq => ⟨sxc_W_same _ _ _ _ (hq.1), va_Nw.same rfl rfl (hq.2)⟩), zr_3 hKc (zp_P2 hP) (q0 := 0) rfl, ax_preE (zp_P2 hP) hKc (zp_D2 hD) (fun U hU hW => ⟨sxc_W_to (sxc_T_w hE0 (i := 5) (by decide)) hS.2.1 (zp_F2 hD hS hA) hU hW, va_Nw.warmM hW hE1⟩)⟩ rfl rfl hl.1 rfl (lv_room (Nat.le_of_ble_eq_true rfl)) dX3_readHall_10 ⟨Nat.le_of_ble_eq_true rfl, Nat.le_of_ble_eq_true rfl⟩) hS (fun q _ h => zp_F2 hD hS hA q h) (zp_F2 hD hS hA) (fun r10 v10na0_13 t H1 locs ht hvm hw => zx_7 (fun v10na0_1 v10na0_2 v10na0_8 v10na0_9 v10na0_10 v10na0_11 v10na0_12 => zy_4 (fun bv10na0_8 bv10na0_9 bv10na0_10 hraw10_0 hB hz1 hk1 hS1 => zo2 hB ht hP hD hk1 (zp_F2 hD hS hA) hS1 (fun hP hK1 hD hS => ?_))))
  generalize H1 = H at hP hS ⊢
  obtain ⟨hw, hfr10⟩ := hw
  rw [show (2 : Int32).toInt = 2 from by decide, show (9 : Int32).toInt = 9 from by decide, show ((7 : Nat) : Int) = 7 from rfl] at hfr10 hraw10_0
  have hc10 : Ff_X3_takeWhole 2 9 a0_1.toInt a0_2.toInt a0_7.toInt v1na0_8.toInt v1na0_9.toInt v1na0_10.toInt v1na0_11.toInt v1na0_12.toInt a0_13.toInt (fl_A fa0_3) 7 (fl_A (sxc 5)) = (r10.toInt, v10na0_1.toInt, v10na0_2.toInt, v10na0_8.toInt, v10na0_9.toInt, v10na0_10.toInt, v10na0_11.toInt, v10na0_12.toInt, v10na0_13.toInt) := Prod.ext hfr10.symm hraw10_0
  have hF0 := hF0.trans (fl_c9_eq hc10)
  rcases hw with hw | hw
  · obtain ⟨hw, h10⟩ := hw
    subst hw
    have l10k0_v10na0_13 : (2 : Int) ≤ v10na0_13.toInt := Int.le_trans zq12 h10.1
    have u10k0_v10na0_13 : v10na0_13.toInt ≤ (9 : Int) := Int.le_trans h10.2 zq3
    have hF0 := hF0.trans (if_pos (by decide))
    refine lv_if_ne (tgt := 18) hx hb dX3_readHall_13 (by decide) (fun _ => ?_) (fun c13 => absurd c13 (by decide +kernel))
    refine lv_aload_n hx hb dX3_readHall_18 rfl (lv_at hl 0 rfl) ?_
    refine va_get (D := (dC, dI)) (ci := 3) (v := .int v10na0_13) (C := RX3) (T := TX3) (N := 14) hx hb hts zi_X3_readHall_3 hown hK hP 0 rfl rfl 13 (by decide) (hts (.fieldLink RX3 156 "WaxTurns$Reade\x72" "taken" "I") (zm_X3_readHall_r1 (List.mem_of_getElem? (i := 0) rfl))) (fun _ h9 => h9) rfl dX3_readHall_19 ?_
    refine lv_istore_n (lv' := [(1, .int v10na0_13), (0, .ref a0)]) hx hb dX3_readHall_22 rfl hl (by decide) rfl (fun ls hl => ?_)
    refine lv_aload_n hx hb dX3_readHall_23 rfl (lv_at hl 1 rfl) ?_
    refine va_ldcS hx hb hown (sxc_R6 hE0) dX3_readHall_24 ?_
    refine lv_iconst (v := 1) hx hb dX3_readHall_26 zk_iconst_1 ?_
    refine lv_bipush (v := 20) hx hb dX3_readHall_27 zk_bipush_20 ?_
    have hKc := hK.sub (tys' := [(ka0_3, .byte)]) [0] rfl
    refine va_calli (va_runV (As := [.ref (ad 6), .int 1, .int 20]) (rest := []) ⟨hx, hb, hml, hown, hts⟩ (f_X3_takeWhole l dC dI H.size a0 (ad 6) 1 20 a0g_0 a0g_4 (.ref a0_5) a0g_6 v10na0_1 v10na0_2 a0_3 a0_7 v10na0_8 v10na0_9 v10na0_10 v10na0_11 v10na0_12 v10na0_13 ka0_3 fa0_3 4 (sxc 6) ba0_7_l ba0_7_u bv10na0_8.1 bv10na0_8.2 bv10na0_9.1 bv10na0_9.2 bv10na0_10.1 bv10na0_10.2) (cwV 3 hts gX3_readHall_X3_takeWhole rfl rfl rfl zd_X3_takeWhole ⟨Nat.le_of_ble_eq_true rfl, Nat.le_of_ble_eq_true rfl⟩) ⟨ax_blind (fun _ _ _ _ hq => ⟨sxc_W_same _ _ _ _ (hq.1), va_Nw.same rfl rfl (hq.2)⟩), zr_3 hKc (zp_P2 hP) (q0 := 0) rfl, ax_preE (zp_P2 hP) hKc (zp_D2 hD) (fun U hU hW => ⟨sxc_W_to (sxc_T_w hE0 (i := 6) (by decide)) hS.2.1 (zp_F2 hD hS hA) hU hW, va_Nw.warmM hW hE1⟩)⟩ rfl rfl hl.1 rfl (lv_room (Nat.le_of_ble_eq_true rfl)) dX3_readHall_29 ⟨Nat.le_of_ble_eq_true rfl, Nat.le_of_ble_eq_true rfl⟩) hS (fun q _ h => zp_F2 hD hS hA q h) (zp_F2 hD hS hA) (fun r29 v29na0_13 t H1 locs ht hvm hw => zx_7 (fun v29na0_1 v29na0_2 v29na0_8 v29na0_9 v29na0_10 v29na0_11 v29na0_12 => zy_4 (fun bv29na0_8 bv29na0_9 bv29na0_10 hraw29_0 hB hz1 hk1 hS1 => zo2 hB ht hP hD hk1 (zp_F2 hD hS hA) hS1 (fun hP hK1 hD hS => ?_))))
    generalize H1 = H at hP hS ⊢
    obtain ⟨hw, hfr29⟩ := hw
    rw [show (1 : Int32).toInt = 1 from by decide, show (20 : Int32).toInt = 20 from by decide, show ((4 : Nat) : Int) = 4 from rfl] at hfr29 hraw29_0
    have hc29 : Ff_X3_takeWhole 1 20 v10na0_1.toInt v10na0_2.toInt a0_7.toInt v10na0_8.toInt v10na0_9.toInt v10na0_10.toInt v10na0_11.toInt v10na0_12.toInt v10na0_13.toInt (fl_A fa0_3) 4 (fl_A (sxc 6)) = (r29.toInt, v29na0_1.toInt, v29na0_2.toInt, v29na0_8.toInt, v29na0_9.toInt, v29na0_10.toInt, v29na0_11.toInt, v29na0_12.toInt, v29na0_13.toInt) := Prod.ext hfr29.symm hraw29_0
    have hF0 := hF0.trans (fl_c9_eq hc29)
    rcases hw with hw | hw
    · obtain ⟨hw, h29⟩ := hw
      subst hw
      have l29k0_v29na0_13 : (1 : Int) ≤ v29na0_13.toInt := Int.le_trans zq1 h29.1
      have u29k0_v29na0_13 : v29na0_13.toInt ≤ (20 : Int) := Int.le_trans h29.2 zq154
      have hF0 := hF0.trans (if_pos (by decide))
      refine lv_if_ne (tgt := 37) hx hb dX3_readHall_32 (by decide) (fun _ => ?_) (fun c32 => absurd c32 (by decide +kernel))
      refine lv_aload_n hx hb dX3_readHall_37 rfl (lv_at hl 1 rfl) ?_
      refine va_get (D := (dC, dI)) (ci := 3) (v := .ref a0_5) (C := RX3) (T := TX3) (N := 14) hx hb hts zi_X3_readHall_3 hown hK hP 0 rfl rfl 5 (by decide) (hts (.fieldLink RX3 22 "WaxTurns$Reade\x72" "draft" "LWaxTurns$Hall;") (zm_X3_readHall_r1 (List.mem_of_getElem? (i := 1) rfl))) (fun _ h9 => h9) rfl dX3_readHall_38 ?_
      refine lv_aload_n hx hb dX3_readHall_41 rfl (lv_at hl 1 rfl) ?_
      refine va_get (D := (dC, dI)) (ci := 3) (v := .int v29na0_13) (C := RX3) (T := TX3) (N := 14) hx hb hts zi_X3_readHall_3 hown hK hP 0 rfl rfl 13 (by decide) (hts (.fieldLink RX3 156 "WaxTurns$Reade\x72" "taken" "I") (zm_X3_readHall_r1 (List.mem_of_getElem? (i := 0) rfl))) (fun _ h9 => h9) rfl dX3_readHall_42 ?_
      refine va_put (D := (dC, dI)) (ci := 0) (v := .int v29na0_13) (ty := .int) (C := RX0) (T := TX0) (N := 15) hx hb hts zi_X3_readHall_0 tyX0 tyX0_ok nmX0 hown hK hP hD hS 2 rfl rfl 1 (by decide) (hts (.fieldLink RX3 161 "WaxTurns$Hall" "span" "I") (zm_X3_readHall_r1 (List.mem_of_getElem? (i := 2) rfl))) (fun _ h9 => h9) rfl (tyX0_ok 1 (by decide)) rfl rfl (Nat.le_of_ble_eq_true rfl) dX3_readHall_45 (fun H locs hP hD hS => ?_)
      refine zs_2 (y := (a0_5, .inr (0, [.int a0_5_0, .int v29na0_13, .int a0_5_2, .int a0_5_3, a0_5g_4, a0_5g_5, a0_5g_6, a0_5g_7, a0_5g_8, a0_5g_9, a0_5g_10, a0_5g_11, a0_5g_12, a0_5g_13, a0_5g_14]))) hP hD rfl (fun hP hD => ?_)
      refine lv_aload_n hx hb dX3_readHall_48 rfl (lv_at hl 1 rfl) ?_
      refine va_ldcS hx hb hown (sxc_R7 hE0) dX3_readHall_49 ?_
      refine lv_iconst (v := 0) hx hb dX3_readHall_51 zk_iconst_0 ?_
      refine lv_iload_n hx hb dX3_readHall_52 rfl (lv_at hl 0 rfl) ?_
      refine lv_iconst (v := 1) hx hb dX3_readHall_53 zk_iconst_1 ?_
      refine lv_isub hx hb dX3_readHall_54 ?_
      refine lv_topi (fun x54 ex54 => ?_)
      have qx54 : x54.toInt = v10na0_13.toInt - (1 : Int32).toInt := ai_sub ex54 ⟨l10k0_v10na0_13, u10k0_v10na0_13⟩ ⟨zq1, zq0⟩ (by decide) (by decide)
      have bx54 : (1 : Int) ≤ x54.toInt ∧ x54.toInt ≤ 8 := ⟨by rw [qx54]; exact Int.sub_le_sub l10k0_v10na0_13 zq0, by rw [qx54]; exact Int.sub_le_sub u10k0_v10na0_13 zq1⟩
      have wx54 : x54.toInt = v10na0_13.toInt - 1 := qx54
      have hF0 := hF0.trans (fl_lt_eq (show x54.toInt = v10na0_13.toInt - 1 from qx54))
      have hKc := hK.sub (tys' := [(ka0_3, .byte)]) [0] rfl
      refine va_calli (va_runV (As := [.ref (ad 7), .int 0, .int x54]) (rest := []) ⟨hx, hb, hml, hown, hts⟩ (f_X3_takeWhole l dC dI H.size a0 (ad 7) 0 x54 a0g_0 a0g_4 (.ref a0_5) a0g_6 v29na0_1 v29na0_2 a0_3 a0_7 v29na0_8 v29na0_9 v29na0_10 v29na0_11 v29na0_12 v29na0_13 ka0_3 fa0_3 6 (sxc 7) ba0_7_l ba0_7_u bv29na0_8.1 bv29na0_8.2 bv29na0_9.1 bv29na0_9.2 bv29na0_10.1 bv29na0_10.2) (cwV 3 hts gX3_readHall_X3_takeWhole rfl rfl rfl zd_X3_takeWhole ⟨Nat.le_of_ble_eq_true rfl, Nat.le_of_ble_eq_true rfl⟩) ⟨ax_blind (fun _ _ _ _ hq => ⟨sxc_W_same _ _ _ _ (hq.1), va_Nw.same rfl rfl (hq.2)⟩), zr_3 hKc (zp_P2 hP) (q0 := 0) rfl, ax_preE (zp_P2 hP) hKc (zp_D2 hD) (fun U hU hW => ⟨sxc_W_to (sxc_T_w hE0 (i := 7) (by decide)) hS.2.1 (zp_F2 hD hS hA) hU hW, va_Nw.warmM hW hE1⟩)⟩ rfl rfl hl.1 rfl (lv_room (Nat.le_of_ble_eq_true rfl)) dX3_readHall_55 ⟨Nat.le_of_ble_eq_true rfl, Nat.le_of_ble_eq_true rfl⟩) hS (fun q _ h => zp_F2 hD hS hA q h) (zp_F2 hD hS hA) (fun r55 v55na0_13 t H1 locs ht hvm hw => zx_7 (fun v55na0_1 v55na0_2 v55na0_8 v55na0_9 v55na0_10 v55na0_11 v55na0_12 => zy_4 (fun bv55na0_8 bv55na0_9 bv55na0_10 hraw55_0 hB hz1 hk1 hS1 => zo2 hB ht hP hD hk1 (zp_F2 hD hS hA) hS1 (fun hP hK1 hD hS => ?_))))
      generalize H1 = H at hP hS ⊢
      obtain ⟨hw, hfr55⟩ := hw
      rw [show (0 : Int32).toInt = 0 from by decide, show ((6 : Nat) : Int) = 6 from rfl] at hfr55 hraw55_0
      have hc55 : Ff_X3_takeWhole 0 x54.toInt v29na0_1.toInt v29na0_2.toInt a0_7.toInt v29na0_8.toInt v29na0_9.toInt v29na0_10.toInt v29na0_11.toInt v29na0_12.toInt v29na0_13.toInt (fl_A fa0_3) 6 (fl_A (sxc 7)) = (r55.toInt, v55na0_1.toInt, v55na0_2.toInt, v55na0_8.toInt, v55na0_9.toInt, v55na0_10.toInt, v55na0_11.toInt, v55na0_12.toInt, v55na0_13.toInt) := Prod.ext hfr55.symm hraw55_0
      have hF0 := hF0.trans (fl_c9_eq hc55)
      rcases hw with hw | hw
      · obtain ⟨hw, h55⟩ := hw
        subst hw
        have l55k0_v55na0_13 : (0 : Int) ≤ v55na0_13.toInt := Int.le_trans zq5 h55.1
        have u55k0_v55na0_13 : v55na0_13.toInt ≤ (8 : Int) := Int.le_trans h55.2 bx54.2
        have hF0 := hF0.trans (if_pos (by decide))
        refine lv_if_ne (tgt := 63) hx hb dX3_readHall_58 (by decide) (fun _ => ?_) (fun c58 => absurd c58 (by decide +kernel))
        refine lv_aload_n hx hb dX3_readHall_63 rfl (lv_at hl 1 rfl) ?_
        refine va_get (D := (dC, dI)) (ci := 3) (v := .ref a0_5) (C := RX3) (T := TX3) (N := 14) hx hb hts zi_X3_readHall_3 hown hK hP 0 rfl rfl 5 (by decide) (hts (.fieldLink RX3 22 "WaxTurns$Reade\x72" "draft" "LWaxTurns$Hall;") (zm_X3_readHall_r1 (List.mem_of_getElem? (i := 1) rfl))) (fun _ h9 => h9) rfl dX3_readHall_64 ?_
        refine lv_aload_n hx hb dX3_readHall_67 rfl (lv_at hl 1 rfl) ?_
        refine va_get (D := (dC, dI)) (ci := 3) (v := .int v55na0_13) (C := RX3) (T := TX3) (N := 14) hx hb hts zi_X3_readHall_3 hown hK hP 0 rfl rfl 13 (by decide) (hts (.fieldLink RX3 156 "WaxTurns$Reade\x72" "taken" "I") (zm_X3_readHall_r1 (List.mem_of_getElem? (i := 0) rfl))) (fun _ h9 => h9) rfl dX3_readHall_68 ?_
        refine va_put (D := (dC, dI)) (ci := 0) (v := .int v55na0_13) (ty := .int) (C := RX0) (T := TX0) (N := 15) hx hb hts zi_X3_readHall_0 tyX0 tyX0_ok nmX0 hown hK hP hD hS 2 rfl rfl 2 (by decide) (hts (.fieldLink RX3 165 "WaxTurns$Hall" "stairsPlace" "I") (zm_X3_readHall_r1 (List.mem_of_getElem? (i := 3) rfl))) (fun _ h9 => h9) rfl (tyX0_ok 2 (by decide)) rfl rfl (Nat.le_of_ble_eq_true rfl) dX3_readHall_71 (fun H locs hP hD hS => ?_)
        refine zs_2 (y := (a0_5, .inr (0, [.int a0_5_0, .int v29na0_13, .int v55na0_13, .int a0_5_3, a0_5g_4, a0_5g_5, a0_5g_6, a0_5g_7, a0_5g_8, a0_5g_9, a0_5g_10, a0_5g_11, a0_5g_12, a0_5g_13, a0_5g_14]))) hP hD rfl (fun hP hD => ?_)
        refine lv_aload_n hx hb dX3_readHall_74 rfl (lv_at hl 1 rfl) ?_
        refine va_ldcS hx hb hown (sxc_R8 hE0) dX3_readHall_75 ?_
        refine lv_iconst (v := 0) hx hb dX3_readHall_77 zk_iconst_0 ?_
        refine lv_bipush (v := 100) hx hb dX3_readHall_78 zk_bipush_100 ?_
        have hKc := hK.sub (tys' := [(ka0_3, .byte)]) [0] rfl
        refine va_calli (va_runV (As := [.ref (ad 8), .int 0, .int 100]) (rest := []) ⟨hx, hb, hml, hown, hts⟩ (f_X3_takeWhole l dC dI H.size a0 (ad 8) 0 100 a0g_0 a0g_4 (.ref a0_5) a0g_6 v55na0_1 v55na0_2 a0_3 a0_7 v55na0_8 v55na0_9 v55na0_10 v55na0_11 v55na0_12 v55na0_13 ka0_3 fa0_3 4 (sxc 8) ba0_7_l ba0_7_u bv55na0_8.1 bv55na0_8.2 bv55na0_9.1 bv55na0_9.2 bv55na0_10.1 bv55na0_10.2) (cwV 3 hts gX3_readHall_X3_takeWhole rfl rfl rfl zd_X3_takeWhole ⟨Nat.le_of_ble_eq_true rfl, Nat.le_of_ble_eq_true rfl⟩) ⟨ax_blind (fun _ _ _ _ hq => ⟨sxc_W_same _ _ _ _ (hq.1), va_Nw.same rfl rfl (hq.2)⟩), zr_3 hKc (zp_P2 hP) (q0 := 0) rfl, ax_preE (zp_P2 hP) hKc (zp_D2 hD) (fun U hU hW => ⟨sxc_W_to (sxc_T_w hE0 (i := 8) (by decide)) hS.2.1 (zp_F2 hD hS hA) hU hW, va_Nw.warmM hW hE1⟩)⟩ rfl rfl hl.1 rfl (lv_room (Nat.le_of_ble_eq_true rfl)) dX3_readHall_80 ⟨Nat.le_of_ble_eq_true rfl, Nat.le_of_ble_eq_true rfl⟩) hS (fun q _ h => zp_F2 hD hS hA q h) (zp_F2 hD hS hA) (fun r80 v80na0_13 t H1 locs ht hvm hw => zx_7 (fun v80na0_1 v80na0_2 v80na0_8 v80na0_9 v80na0_10 v80na0_11 v80na0_12 => zy_4 (fun bv80na0_8 bv80na0_9 bv80na0_10 hraw80_0 hB hz1 hk1 hS1 => zo2 hB ht hP hD hk1 (zp_F2 hD hS hA) hS1 (fun hP hK1 hD hS => ?_))))
        generalize H1 = H at hP hS ⊢
        obtain ⟨hw, hfr80⟩ := hw
        rw [show (0 : Int32).toInt = 0 from by decide, show (100 : Int32).toInt = 100 from by decide, show ((4 : Nat) : Int) = 4 from rfl] at hfr80 hraw80_0
        have hc80 : Ff_X3_takeWhole 0 100 v55na0_1.toInt v55na0_2.toInt a0_7.toInt v55na0_8.toInt v55na0_9.toInt v55na0_10.toInt v55na0_11.toInt v55na0_12.toInt v55na0_13.toInt (fl_A fa0_3) 4 (fl_A (sxc 8)) = (r80.toInt, v80na0_1.toInt, v80na0_2.toInt, v80na0_8.toInt, v80na0_9.toInt, v80na0_10.toInt, v80na0_11.toInt, v80na0_12.toInt, v80na0_13.toInt) := Prod.ext hfr80.symm hraw80_0
        have hF0 := hF0.trans (fl_c9_eq hc80)
        rcases hw with hw | hw
        · obtain ⟨hw, h80⟩ := hw
          subst hw
          have l80k0_v80na0_13 : (0 : Int) ≤ v80na0_13.toInt := Int.le_trans zq5 h80.1
          have u80k0_v80na0_13 : v80na0_13.toInt ≤ (100 : Int) := Int.le_trans h80.2 zq32
          have hF0 := hF0.trans (if_pos (by decide))
          refine lv_if_ne (tgt := 88) hx hb dX3_readHall_83 (by decide) (fun _ => ?_) (fun c83 => absurd c83 (by decide +kernel))
          refine lv_aload_n hx hb dX3_readHall_88 rfl (lv_at hl 1 rfl) ?_
          refine va_get (D := (dC, dI)) (ci := 3) (v := .ref a0_5) (C := RX3) (T := TX3) (N := 14) hx hb hts zi_X3_readHall_3 hown hK hP 0 rfl rfl 5 (by decide) (hts (.fieldLink RX3 22 "WaxTurns$Reade\x72" "draft" "LWaxTurns$Hall;") (zm_X3_readHall_r1 (List.mem_of_getElem? (i := 1) rfl))) (fun _ h9 => h9) rfl dX3_readHall_89 ?_
          refine lv_aload_n hx hb dX3_readHall_92 rfl (lv_at hl 1 rfl) ?_
          refine va_get (D := (dC, dI)) (ci := 3) (v := .int v80na0_13) (C := RX3) (T := TX3) (N := 14) hx hb hts zi_X3_readHall_3 hown hK hP 0 rfl rfl 13 (by decide) (hts (.fieldLink RX3 156 "WaxTurns$Reade\x72" "taken" "I") (zm_X3_readHall_r1 (List.mem_of_getElem? (i := 0) rfl))) (fun _ h9 => h9) rfl dX3_readHall_93 ?_
          refine va_put (D := (dC, dI)) (ci := 0) (v := .int v80na0_13) (ty := .int) (C := RX0) (T := TX0) (N := 15) hx hb hts zi_X3_readHall_0 tyX0 tyX0_ok nmX0 hown hK hP hD hS 2 rfl rfl 3 (by decide) (hts (.fieldLink RX3 170 "WaxTurns$Hall" "shut" "I") (zm_X3_readHall_r1 (List.mem_of_getElem? (i := 4) rfl))) (fun _ h9 => h9) rfl (tyX0_ok 3 (by decide)) rfl rfl (Nat.le_of_ble_eq_true rfl) dX3_readHall_96 (fun H locs hP hD hS => ?_)
          refine zs_2 (y := (a0_5, .inr (0, [.int a0_5_0, .int v29na0_13, .int v55na0_13, .int v80na0_13, a0_5g_4, a0_5g_5, a0_5g_6, a0_5g_7, a0_5g_8, a0_5g_9, a0_5g_10, a0_5g_11, a0_5g_12, a0_5g_13, a0_5g_14]))) hP hD rfl (fun hP hD => ?_)
          refine lv_aload_n hx hb dX3_readHall_99 rfl (lv_at hl 1 rfl) ?_
          refine va_get (D := (dC, dI)) (ci := 3) (v := .ref a0_5) (C := RX3) (T := TX3) (N := 14) hx hb hts zi_X3_readHall_3 hown hK hP 0 rfl rfl 5 (by decide) (hts (.fieldLink RX3 22 "WaxTurns$Reade\x72" "draft" "LWaxTurns$Hall;") (zm_X3_readHall_r1 (List.mem_of_getElem? (i := 1) rfl))) (fun _ h9 => h9) rfl dX3_readHall_100 ?_
          refine lv_iload_n hx hb dX3_readHall_103 rfl (lv_at hl 0 rfl) ?_
          refine va_put (D := (dC, dI)) (ci := 0) (v := .int v10na0_13) (ty := .int) (C := RX0) (T := TX0) (N := 15) hx hb hts zi_X3_readHall_0 tyX0 tyX0_ok nmX0 hown hK hP hD hS 2 rfl rfl 0 (by decide) (hts (.fieldLink RX3 104 "WaxTurns$Hall" "figures" "I") (zm_X3_readHall_r1 (List.mem_of_getElem? (i := 5) rfl))) (fun _ h9 => h9) rfl (tyX0_ok 0 (by decide)) rfl rfl (Nat.le_of_ble_eq_true rfl) dX3_readHall_104 (fun H locs hP hD hS => ?_)
          refine zs_2 (y := (a0_5, .inr (0, [.int v10na0_13, .int v29na0_13, .int v55na0_13, .int v80na0_13, a0_5g_4, a0_5g_5, a0_5g_6, a0_5g_7, a0_5g_8, a0_5g_9, a0_5g_10, a0_5g_11, a0_5g_12, a0_5g_13, a0_5g_14]))) hP hD rfl (fun hP hD => ?_)
          refine lv_iconst (v := 1) hx hb dX3_readHall_107 zk_iconst_1 ?_
          have hFe : FX = (1, v80na0_1.toInt, v80na0_2.toInt, v80na0_8.toInt, v80na0_9.toInt, v80na0_10.toInt, v80na0_11.toInt, v80na0_12.toInt, v80na0_13.toInt, v10na0_13.toInt, v29na0_13.toInt, v55na0_13.toInt, v80na0_13.toInt) := hF0
          exact W.zret (v := 1) hx hb hr rfl (fun t ht hW => ⟨⟨1, (), rfl, ⟨(Or.inl (rfl)), (congrArg Prod.fst hFe).symm⟩, v80na0_1, v80na0_2, v80na0_8, v80na0_9, v80na0_10, v80na0_11, v80na0_12, v80na0_13, v10na0_13, v29na0_13, v55na0_13, v80na0_13, ⟨bv80na0_8.1, bv80na0_8.2⟩, ⟨bv80na0_9.1, bv80na0_9.2⟩, ⟨bv80na0_10.1, bv80na0_10.2⟩, ⟨Int.le_trans (by decide) l10k0_v10na0_13, u10k0_v10na0_13⟩, (congrArg Prod.snd hFe), by rw [ht]; exact hP, va_K.moved hW.alike hK, hD⟩, hS.F ht⟩) hS.2.2 dX3_readHall_108
        · subst hw
          have hF0 := hF0.trans (if_neg (by decide))
          refine lv_if_ne (tgt := 88) hx hb dX3_readHall_83 (by decide) (fun c83 => absurd (by decide +kernel) c83) (fun _ => ?_)
          refine lv_iconst (v := 0) hx hb dX3_readHall_86 zk_iconst_0 ?_
          have hFe : FX = (0, v80na0_1.toInt, v80na0_2.toInt, v80na0_8.toInt, v80na0_9.toInt, v80na0_10.toInt, v80na0_11.toInt, v80na0_12.toInt, v80na0_13.toInt, a0_5_0.toInt, v29na0_13.toInt, v55na0_13.toInt, a0_5_3.toInt) := hF0
          exact W.zret (v := 0) hx hb hr rfl (fun t ht hW => ⟨⟨0, (), rfl, ⟨(Or.inr (rfl)), (congrArg Prod.fst hFe).symm⟩, v80na0_1, v80na0_2, v80na0_8, v80na0_9, v80na0_10, v80na0_11, v80na0_12, v80na0_13, a0_5_0, v29na0_13, v55na0_13, a0_5_3, ⟨bv80na0_8.1, bv80na0_8.2⟩, ⟨bv80na0_9.1, bv80na0_9.2⟩, ⟨bv80na0_10.1, bv80na0_10.2⟩, ⟨ba0_5_0_l, ba0_5_0_u⟩, (congrArg Prod.snd hFe), by rw [ht]; exact hP, va_K.moved hW.alike hK, hD⟩, hS.F ht⟩) hS.2.2 dX3_readHall_87
      · subst hw
        have hF0 := hF0.trans (if_neg (by decide))
        refine lv_if_ne (tgt := 63) hx hb dX3_readHall_58 (by decide) (fun c58 => absurd (by decide +kernel) c58) (fun _ => ?_)
        refine lv_iconst (v := 0) hx hb dX3_readHall_61 zk_iconst_0 ?_
        have hFe : FX = (0, v55na0_1.toInt, v55na0_2.toInt, v55na0_8.toInt, v55na0_9.toInt, v55na0_10.toInt, v55na0_11.toInt, v55na0_12.toInt, v55na0_13.toInt, a0_5_0.toInt, v29na0_13.toInt, a0_5_2.toInt, a0_5_3.toInt) := hF0
        exact W.zret (v := 0) hx hb hr rfl (fun t ht hW => ⟨⟨0, (), rfl, ⟨(Or.inr (rfl)), (congrArg Prod.fst hFe).symm⟩, v55na0_1, v55na0_2, v55na0_8, v55na0_9, v55na0_10, v55na0_11, v55na0_12, v55na0_13, a0_5_0, v29na0_13, a0_5_2, a0_5_3, ⟨bv55na0_8.1, bv55na0_8.2⟩, ⟨bv55na0_9.1, bv55na0_9.2⟩, ⟨bv55na0_10.1, bv55na0_10.2⟩, ⟨ba0_5_0_l, ba0_5_0_u⟩, (congrArg Prod.snd hFe), by rw [ht]; exact hP, va_K.moved hW.alike hK, hD⟩, hS.F ht⟩) hS.2.2 dX3_readHall_62
    · subst hw
      have hF0 := hF0.trans (if_neg (by decide))
      refine lv_if_ne (tgt := 37) hx hb dX3_readHall_32 (by decide) (fun c32 => absurd (by decide +kernel) c32) (fun _ => ?_)
      refine lv_iconst (v := 0) hx hb dX3_readHall_35 zk_iconst_0 ?_
      have hFe : FX = (0, v29na0_1.toInt, v29na0_2.toInt, v29na0_8.toInt, v29na0_9.toInt, v29na0_10.toInt, v29na0_11.toInt, v29na0_12.toInt, v29na0_13.toInt, a0_5_0.toInt, a0_5_1.toInt, a0_5_2.toInt, a0_5_3.toInt) := hF0
      exact W.zret (v := 0) hx hb hr rfl (fun t ht hW => ⟨⟨0, (), rfl, ⟨(Or.inr (rfl)), (congrArg Prod.fst hFe).symm⟩, v29na0_1, v29na0_2, v29na0_8, v29na0_9, v29na0_10, v29na0_11, v29na0_12, v29na0_13, a0_5_0, a0_5_1, a0_5_2, a0_5_3, ⟨bv29na0_8.1, bv29na0_8.2⟩, ⟨bv29na0_9.1, bv29na0_9.2⟩, ⟨bv29na0_10.1, bv29na0_10.2⟩, ⟨ba0_5_0_l, ba0_5_0_u⟩, (congrArg Prod.snd hFe), by rw [ht]; exact hP, va_K.moved hW.alike hK, hD⟩, hS.F ht⟩) hS.2.2 dX3_readHall_36
  · subst hw
    have hF0 := hF0.trans (if_neg (by decide))
    refine lv_if_ne (tgt := 18) hx hb dX3_readHall_13 (by decide) (fun c13 => absurd (by decide +kernel) c13) (fun _ => ?_)
    refine lv_iconst (v := 0) hx hb dX3_readHall_16 zk_iconst_0 ?_
    have hFe : FX = (0, v10na0_1.toInt, v10na0_2.toInt, v10na0_8.toInt, v10na0_9.toInt, v10na0_10.toInt, v10na0_11.toInt, v10na0_12.toInt, v10na0_13.toInt, a0_5_0.toInt, a0_5_1.toInt, a0_5_2.toInt, a0_5_3.toInt) := hF0
    exact W.zret (v := 0) hx hb hr rfl (fun t ht hW => ⟨⟨0, (), rfl, ⟨(Or.inr (rfl)), (congrArg Prod.fst hFe).symm⟩, v10na0_1, v10na0_2, v10na0_8, v10na0_9, v10na0_10, v10na0_11, v10na0_12, v10na0_13, a0_5_0, a0_5_1, a0_5_2, a0_5_3, ⟨bv10na0_8.1, bv10na0_8.2⟩, ⟨bv10na0_9.1, bv10na0_9.2⟩, ⟨bv10na0_10.1, bv10na0_10.2⟩, ⟨ba0_5_0_l, ba0_5_0_u⟩, (congrArg Prod.snd hFe), by rw [ht]; exact hP, va_K.moved hW.alike hK, hD⟩, hS.F ht⟩) hS.2.2 dX3_readHall_17

set_option maxHeartbeats 4000000 in
set_option maxRecDepth 100000 in
theorem f_X3_readLaw (l : Launch) (dC : Nat → ClassId) (dI : Nat → Nat → Nat) (sz : Nat) (a0 : Nat) (a0g_0 a0g_4 a0g_6 : Value) (a0_1 : Int32) (a0_2 : Int32) (a0_3 : Nat) (a0_5 : Nat) (a0_7 : Int32) (a0_8 : Int32) (a0_9 : Int32) (a0_10 : Int32) (a0_11 : Int64) (a0_12 : Int32) (a0_13 : Int32) (ka0_3 : ClassId) (fa0_3 : Nat → Int32) (a0_5_0 : Int32) (a0_5g_1 a0_5g_2 a0_5g_3 a0_5g_8 a0_5g_9 a0_5g_10 a0_5g_11 a0_5g_12 a0_5g_13 a0_5g_14 : Value) (a0_5_4 : Int32) (a0_5_5 : Int32) (a0_5_6 : Int32) (a0_5_7 : Int32) (ad : Nat → Nat) (ba0_7_l : (0 : Int) ≤ a0_7.toInt) (ba0_7_u : a0_7.toInt ≤ (900 : Int)) (ba0_8_l : (0 : Int) ≤ a0_8.toInt) (ba0_8_u : a0_8.toInt ≤ (900 : Int)) (ba0_9_l : (0 : Int) ≤ a0_9.toInt) (ba0_9_u : a0_9.toInt ≤ (900 : Int)) (ba0_10_l : (0 : Int) ≤ a0_10.toInt) (ba0_10_u : a0_10.toInt ≤ (4 : Int)) (ba0_5_0_l : (0 : Int) ≤ a0_5_0.toInt) (ba0_5_0_u : a0_5_0.toInt ≤ (9 : Int)) (ba0_5_4_l : (0 : Int) ≤ a0_5_4.toInt) (ba0_5_4_u : a0_5_4.toInt ≤ (1 : Int)) (ba0_5_5_l : (0 : Int) ≤ a0_5_5.toInt) (ba0_5_5_u : a0_5_5.toInt ≤ (8 : Int)) (ba0_5_6_l : (0 : Int) ≤ a0_5_6.toInt) (ba0_5_6_u : a0_5_6.toInt ≤ (8 : Int)) (ba0_5_7_l : (0 : Int) ≤ a0_5_7.toInt) (ba0_5_7_u : a0_5_7.toInt ≤ (8 : Int)) : zm l yX3_readLaw wsX3_readLaw ({ frames := 6, cells := 0, slots := 0, locals := 132 }) [.ref a0] dC dI sz [(a0, .inr (3, [a0g_0, .int a0_1, .int a0_2, .ref a0_3, a0g_4, .ref a0_5, a0g_6, .int a0_7, .int a0_8, .int a0_9, .int a0_10, .long a0_11, .int a0_12, .int a0_13])), (a0_3, .inl (ka0_3, 900, .inl (fa0_3))), (a0_5, .inr (0, [.int a0_5_0, a0_5g_1, a0_5g_2, a0_5g_3, .int a0_5_4, .int a0_5_5, .int a0_5_6, .int a0_5_7, a0_5g_8, a0_5g_9, a0_5g_10, a0_5g_11, a0_5g_12, a0_5g_13, a0_5g_14]))] [(ka0_3, .byte)] (fun A U => sxc_T ad A U ∧ va_Nw (.methodLinkNest RX3 223 yX7_within RX7) U) (fun A => va_Qi (fun (r : Int32) (_ : Unit) => ((r = 1) ∨ (r = 0)) ∧ r.toInt = (Ff_X3_readLaw a0_1.toInt a0_2.toInt a0_7.toInt a0_9.toInt a0_11.toInt a0_12.toInt a0_13.toInt (fl_A fa0_3) a0_5_0.toInt a0_5_4.toInt a0_5_5.toInt a0_5_6.toInt a0_5_7.toInt).1) (fun (_ : Unit) (t : State) => ∃ na0_1 : Int32, ∃ na0_2 : Int32, ∃ na0_8 : Int32, ∃ na0_9 : Int32, ∃ na0_10 : Int32, ∃ na0_11 : Int64, ∃ na0_12 : Int32, ∃ na0_13 : Int32, ∃ na0_5_4 : Int32, ∃ na0_5_5 : Int32, ∃ na0_5_6 : Int32, ∃ na0_5_7 : Int32, ((0 : Int) ≤ na0_8.toInt ∧ na0_8.toInt ≤ 900) ∧ ((0 : Int) ≤ na0_9.toInt ∧ na0_9.toInt ≤ 900) ∧ ((0 : Int) ≤ na0_10.toInt ∧ na0_10.toInt ≤ 4) ∧ ((0 : Int) ≤ na0_5_4.toInt ∧ na0_5_4.toInt ≤ 1) ∧ ((0 : Int) ≤ na0_5_5.toInt ∧ na0_5_5.toInt ≤ 8) ∧ ((0 : Int) ≤ na0_5_6.toInt ∧ na0_5_6.toInt ≤ 8) ∧ ((0 : Int) ≤ na0_5_7.toInt ∧ na0_5_7.toInt ≤ 8) ∧ ((Ff_X3_readLaw a0_1.toInt a0_2.toInt a0_7.toInt a0_9.toInt a0_11.toInt a0_12.toInt a0_13.toInt (fl_A fa0_3) a0_5_0.toInt a0_5_4.toInt a0_5_5.toInt a0_5_6.toInt a0_5_7.toInt).2 = (na0_1.toInt, na0_2.toInt, na0_8.toInt, na0_9.toInt, na0_10.toInt, na0_11.toInt, na0_12.toInt, na0_13.toInt, na0_5_4.toInt, na0_5_5.toInt, na0_5_6.toInt, na0_5_7.toInt)) ∧ ax_B dC dI A [(a0, .inr (3, [a0g_0, .int na0_1, .int na0_2, .ref a0_3, a0g_4, .ref a0_5, a0g_6, .int a0_7, .int na0_8, .int na0_9, .int na0_10, .long na0_11, .int na0_12, .int na0_13])), (a0_3, .inl (ka0_3, 900, .inl (fa0_3))), (a0_5, .inr (0, [.int a0_5_0, a0_5g_1, a0_5g_2, a0_5g_3, .int na0_5_4, .int na0_5_5, .int na0_5_6, .int na0_5_7, a0_5g_8, a0_5g_9, a0_5g_10, a0_5g_11, a0_5g_12, a0_5g_13, a0_5g_14]))] [(ka0_3, .byte)] t) A) := by
  refine zh (cc := cX3_readLaw) (maxL := 1) (ret := (some .boolean)) zn_RX3 rfl (Nat.le_of_ble_eq_true rfl) (fun p e s m below meth c A ls hx hb hml hr hts (hown : s.vm.findClass RX3 = some m.cls) hlocks hA hS hP hK hD hE (hl : lv_has ls 1 [(0, .ref a0)]) => ?_)
  obtain ⟨hE0, hE1⟩ := hE
  generalize hFX : Ff_X3_readLaw a0_1.toInt a0_2.toInt a0_7.toInt a0_9.toInt a0_11.toInt a0_12.toInt a0_13.toInt (fl_A fa0_3) a0_5_0.toInt a0_5_4.toInt a0_5_5.toInt a0_5_6.toInt a0_5_7.toInt = FX at ⊢
  have hF0 := hFX.symm.trans (Ff_X3_readLaw.eq_1 a0_1.toInt a0_2.toInt a0_7.toInt a0_9.toInt a0_11.toInt a0_12.toInt a0_13.toInt (fl_A fa0_3) a0_5_0.toInt a0_5_4.toInt a0_5_5.toInt a0_5_6.toInt a0_5_7.toInt)
  refine lv_aload_n hx hb dX3_readLaw_0 rfl (lv_at hl 0 rfl) ?_
  have hKc := hK.sub (tys' := [(ka0_3, .byte)]) [0] rfl
  refine va_callv (va_runV (As := []) (rest := []) ⟨hx, hb, hml, hown, hts⟩ (f_X3_advance l dC dI s.heap.size a0 a0g_0 (.int a0_1) (.int a0_2) a0g_4 (.ref a0_5) a0g_6 (.int a0_13) a0_3 a0_7 a0_8 a0_9 a0_10 a0_11 a0_12 ka0_3 fa0_3 ba0_7_l ba0_7_u ba0_8_l ba0_8_u ba0_9_l ba0_9_u ba0_10_l ba0_10_u) (cwV 0 hts gX3_readLaw_X3_advance rfl rfl rfl zd_X3_advance ⟨Nat.le_of_ble_eq_true rfl, Nat.le_of_ble_eq_true rfl⟩) ⟨ax_blind (fun _ _ _ _ _ => trivial), zr_3 hKc (zp_P2 hP) (q0 := 0) rfl, ax_pre (zp_P2 hP) hKc (zp_D2 hD) (fun _ _ => trivial)⟩ rfl rfl hl.1 rfl (lv_room (Nat.le_of_ble_eq_true rfl)) dX3_readLaw_1 ⟨Nat.le_of_ble_eq_true rfl, Nat.le_of_ble_eq_true rfl⟩) hS (fun q _ h => zp_F2 hD hS hA q h) (zp_F2 hD hS hA) (fun u t H locs ht hvm hw => zx_5 (fun v1na0_8 v1na0_9 v1na0_10 v1na0_11 v1na0_12 => zy_4 (fun bv1na0_8 bv1na0_9 bv1na0_10 hraw1_0 hB hz1 hk1 hS1 => zo2 hB ht hP hD hk1 (zp_F2 hD hS hA) hS1 (fun hP hK1 hD hS => ?_))))
  have hc1 : Ff_X3_advance a0_7.toInt a0_9.toInt a0_11.toInt a0_12.toInt (fl_A fa0_3) = (v1na0_8.toInt, v1na0_9.toInt, v1na0_10.toInt, v1na0_11.toInt, v1na0_12.toInt) := hraw1_0
  have hF0 := hF0.trans (fl_c5_eq hc1)
  refine lv_aload_n hx hb dX3_readLaw_4 rfl (lv_at hl 0 rfl) ?_
  refine va_ldcS hx hb hown (sxc_R9 hE0) dX3_readLaw_5 ?_
  refine lv_iconst (v := 0) hx hb dX3_readLaw_7 zk_iconst_0 ?_
  refine lv_aload_n hx hb dX3_readLaw_8 rfl (lv_at hl 0 rfl) ?_
  refine va_get (D := (dC, dI)) (ci := 3) (v := .ref a0_5) (C := RX3) (T := TX3) (N := 14) hx hb hts zi_X3_readLaw_3 hown hK hP 0 rfl rfl 5 (by decide) (hts (.fieldLink RX3 22 "WaxTurns$Reade\x72" "draft" "LWaxTurns$Hall;") (zm_X3_readLaw_r1 (List.mem_of_getElem? (i := 0) rfl))) (fun _ h9 => h9) rfl dX3_readLaw_9 ?_
  refine va_get (D := (dC, dI)) (ci := 0) (v := .int a0_5_0) (C := RX0) (T := TX0) (N := 15) hx hb hts zi_X3_readLaw_0 hown hK hP 2 rfl rfl 0 (by decide) (hts (.fieldLink RX3 104 "WaxTurns$Hall" "figures" "I") (zm_X3_readLaw_r1 (List.mem_of_getElem? (i := 1) rfl))) (fun _ h9 => h9) rfl dX3_readLaw_12 ?_
  refine lv_iconst (v := 1) hx hb dX3_readLaw_15 zk_iconst_1 ?_
  refine lv_isub hx hb dX3_readLaw_16 ?_
  refine lv_topi (fun x16 ex16 => ?_)
  have qx16 : x16.toInt = a0_5_0.toInt - (1 : Int32).toInt := ai_sub ex16 ⟨ba0_5_0_l, ba0_5_0_u⟩ ⟨zq1, zq0⟩ (by decide) (by decide)
  have bx16 : (-1 : Int) ≤ x16.toInt ∧ x16.toInt ≤ 8 := ⟨by rw [qx16]; exact Int.sub_le_sub ba0_5_0_l zq0, by rw [qx16]; exact Int.sub_le_sub ba0_5_0_u zq1⟩
  have wx16 : x16.toInt = a0_5_0.toInt - 1 := qx16
  have hF0 := hF0.trans (fl_lt_eq (show x16.toInt = a0_5_0.toInt - 1 from qx16))
  have hKc := hK.sub (tys' := [(ka0_3, .byte)]) [0] rfl
  refine va_calli (va_runV (As := [.ref (ad 9), .int 0, .int x16]) (rest := []) ⟨hx, hb, hml, hown, hts⟩ (f_X3_takeWhole l dC dI H.size a0 (ad 9) 0 x16 a0g_0 a0g_4 (.ref a0_5) a0g_6 a0_1 a0_2 a0_3 a0_7 v1na0_8 v1na0_9 v1na0_10 v1na0_11 v1na0_12 a0_13 ka0_3 fa0_3 5 (sxc 9) ba0_7_l ba0_7_u bv1na0_8.1 bv1na0_8.2 bv1na0_9.1 bv1na0_9.2 bv1na0_10.1 bv1na0_10.2) (cwV 3 hts gX3_readLaw_X3_takeWhole rfl rfl rfl zd_X3_takeWhole ⟨Nat.le_of_ble_eq_true rfl, Nat.le_of_ble_eq_true rfl⟩) ⟨ax_blind (fun _ _ _ _ hq => ⟨sxc_W_same _ _ _ _ (hq.1), va_Nw.same rfl rfl (hq.2)⟩), zr_3 hKc (zp_P2 hP) (q0 := 0) rfl, ax_preE (zp_P2 hP) hKc (zp_D2 hD) (fun U hU hW => ⟨sxc_W_to (sxc_T_w hE0 (i := 9) (by decide)) hS.2.1 (zp_F2 hD hS hA) hU hW, va_Nw.warmM hW hE1⟩)⟩ rfl rfl hl.1 rfl (lv_room (Nat.le_of_ble_eq_true rfl)) dX3_readLaw_17 ⟨Nat.le_of_ble_eq_true rfl, Nat.le_of_ble_eq_true rfl⟩) hS (fun q _ h => zp_F2 hD hS hA q h) (zp_F2 hD hS hA) (fun r17 v17na0_13 t H1 locs ht hvm hw => zx_7 (fun v17na0_1 v17na0_2 v17na0_8 v17na0_9 v17na0_10 v17na0_11 v17na0_12 => zy_4 (fun bv17na0_8 bv17na0_9 bv17na0_10 hraw17_0 hB hz1 hk1 hS1 => zo2 hB ht hP hD hk1 (zp_F2 hD hS hA) hS1 (fun hP hK1 hD hS => ?_))))
  generalize H1 = H at hP hS ⊢
  obtain ⟨hw, hfr17⟩ := hw
  rw [show (0 : Int32).toInt = 0 from by decide, show ((5 : Nat) : Int) = 5 from rfl] at hfr17 hraw17_0
  have hc17 : Ff_X3_takeWhole 0 x16.toInt a0_1.toInt a0_2.toInt a0_7.toInt v1na0_8.toInt v1na0_9.toInt v1na0_10.toInt v1na0_11.toInt v1na0_12.toInt a0_13.toInt (fl_A fa0_3) 5 (fl_A (sxc 9)) = (r17.toInt, v17na0_1.toInt, v17na0_2.toInt, v17na0_8.toInt, v17na0_9.toInt, v17na0_10.toInt, v17na0_11.toInt, v17na0_12.toInt, v17na0_13.toInt) := Prod.ext hfr17.symm hraw17_0
  have hF0 := hF0.trans (fl_c9_eq hc17)
  rcases hw with hw | hw
  · obtain ⟨hw, h17⟩ := hw
    subst hw
    have l17k0_v17na0_13 : (0 : Int) ≤ v17na0_13.toInt := Int.le_trans zq5 h17.1
    have u17k0_v17na0_13 : v17na0_13.toInt ≤ (8 : Int) := Int.le_trans h17.2 bx16.2
    have hF0 := hF0.trans (if_pos (by decide))
    refine lv_if_ne (tgt := 25) hx hb dX3_readLaw_20 (by decide) (fun _ => ?_) (fun c20 => absurd c20 (by decide +kernel))
    refine lv_aload_n hx hb dX3_readLaw_25 rfl (lv_at hl 0 rfl) ?_
    refine va_get (D := (dC, dI)) (ci := 3) (v := .ref a0_5) (C := RX3) (T := TX3) (N := 14) hx hb hts zi_X3_readLaw_3 hown hK hP 0 rfl rfl 5 (by decide) (hts (.fieldLink RX3 22 "WaxTurns$Reade\x72" "draft" "LWaxTurns$Hall;") (zm_X3_readLaw_r1 (List.mem_of_getElem? (i := 0) rfl))) (fun _ h9 => h9) rfl dX3_readLaw_26 ?_
    refine lv_aload_n hx hb dX3_readLaw_29 rfl (lv_at hl 0 rfl) ?_
    refine va_get (D := (dC, dI)) (ci := 3) (v := .int v17na0_13) (C := RX3) (T := TX3) (N := 14) hx hb hts zi_X3_readLaw_3 hown hK hP 0 rfl rfl 13 (by decide) (hts (.fieldLink RX3 156 "WaxTurns$Reade\x72" "taken" "I") (zm_X3_readLaw_r1 (List.mem_of_getElem? (i := 2) rfl))) (fun _ h9 => h9) rfl dX3_readLaw_30 ?_
    refine va_put (D := (dC, dI)) (ci := 0) (v := .int v17na0_13) (ty := .int) (C := RX0) (T := TX0) (N := 15) hx hb hts zi_X3_readLaw_0 tyX0 tyX0_ok nmX0 hown hK hP hD hS 2 rfl rfl 5 (by decide) (hts (.fieldLink RX3 174 "WaxTurns$Hall" "times" "I") (zm_X3_readLaw_r1 (List.mem_of_getElem? (i := 3) rfl))) (fun _ h9 => h9) rfl (tyX0_ok 5 (by decide)) rfl rfl (Nat.le_of_ble_eq_true rfl) dX3_readLaw_33 (fun H locs hP hD hS => ?_)
    refine zs_2 (y := (a0_5, .inr (0, [.int a0_5_0, a0_5g_1, a0_5g_2, a0_5g_3, .int a0_5_4, .int v17na0_13, .int a0_5_6, .int a0_5_7, a0_5g_8, a0_5g_9, a0_5g_10, a0_5g_11, a0_5g_12, a0_5g_13, a0_5g_14]))) hP hD rfl (fun hP hD => ?_)
    refine lv_aload_n hx hb dX3_readLaw_36 rfl (lv_at hl 0 rfl) ?_
    refine va_ldcS hx hb hown (sxc_R10 hE0) dX3_readLaw_37 ?_
    refine lv_iconst (v := 0) hx hb dX3_readLaw_39 zk_iconst_0 ?_
    refine lv_aload_n hx hb dX3_readLaw_40 rfl (lv_at hl 0 rfl) ?_
    refine va_get (D := (dC, dI)) (ci := 3) (v := .ref a0_5) (C := RX3) (T := TX3) (N := 14) hx hb hts zi_X3_readLaw_3 hown hK hP 0 rfl rfl 5 (by decide) (hts (.fieldLink RX3 22 "WaxTurns$Reade\x72" "draft" "LWaxTurns$Hall;") (zm_X3_readLaw_r1 (List.mem_of_getElem? (i := 0) rfl))) (fun _ h9 => h9) rfl dX3_readLaw_41 ?_
    refine va_get (D := (dC, dI)) (ci := 0) (v := .int a0_5_0) (C := RX0) (T := TX0) (N := 15) hx hb hts zi_X3_readLaw_0 hown hK hP 2 rfl rfl 0 (by decide) (hts (.fieldLink RX3 104 "WaxTurns$Hall" "figures" "I") (zm_X3_readLaw_r1 (List.mem_of_getElem? (i := 1) rfl))) (fun _ h9 => h9) rfl dX3_readLaw_44 ?_
    refine lv_iconst (v := 1) hx hb dX3_readLaw_47 zk_iconst_1 ?_
    refine lv_isub hx hb dX3_readLaw_48 ?_
    refine ax_ti x16 ex16.symm ?_
    have hKc := hK.sub (tys' := [(ka0_3, .byte)]) [0] rfl
    refine va_calli (va_runV (As := [.ref (ad 10), .int 0, .int x16]) (rest := []) ⟨hx, hb, hml, hown, hts⟩ (f_X3_takeWhole l dC dI H.size a0 (ad 10) 0 x16 a0g_0 a0g_4 (.ref a0_5) a0g_6 v17na0_1 v17na0_2 a0_3 a0_7 v17na0_8 v17na0_9 v17na0_10 v17na0_11 v17na0_12 v17na0_13 ka0_3 fa0_3 4 (sxc 10) ba0_7_l ba0_7_u bv17na0_8.1 bv17na0_8.2 bv17na0_9.1 bv17na0_9.2 bv17na0_10.1 bv17na0_10.2) (cwV 3 hts gX3_readLaw_X3_takeWhole rfl rfl rfl zd_X3_takeWhole ⟨Nat.le_of_ble_eq_true rfl, Nat.le_of_ble_eq_true rfl⟩) ⟨ax_blind (fun _ _ _ _ hq => ⟨sxc_W_same _ _ _ _ (hq.1), va_Nw.same rfl rfl (hq.2)⟩), zr_3 hKc (zp_P2 hP) (q0 := 0) rfl, ax_preE (zp_P2 hP) hKc (zp_D2 hD) (fun U hU hW => ⟨sxc_W_to (sxc_T_w hE0 (i := 10) (by decide)) hS.2.1 (zp_F2 hD hS hA) hU hW, va_Nw.warmM hW hE1⟩)⟩ rfl rfl hl.1 rfl (lv_room (Nat.le_of_ble_eq_true rfl)) dX3_readLaw_49 ⟨Nat.le_of_ble_eq_true rfl, Nat.le_of_ble_eq_true rfl⟩) hS (fun q _ h => zp_F2 hD hS hA q h) (zp_F2 hD hS hA) (fun r49 v49na0_13 t H1 locs ht hvm hw => zx_7 (fun v49na0_1 v49na0_2 v49na0_8 v49na0_9 v49na0_10 v49na0_11 v49na0_12 => zy_4 (fun bv49na0_8 bv49na0_9 bv49na0_10 hraw49_0 hB hz1 hk1 hS1 => zo2 hB ht hP hD hk1 (zp_F2 hD hS hA) hS1 (fun hP hK1 hD hS => ?_))))
    generalize H1 = H at hP hS ⊢
    obtain ⟨hw, hfr49⟩ := hw
    rw [show (0 : Int32).toInt = 0 from by decide, show ((4 : Nat) : Int) = 4 from rfl] at hfr49 hraw49_0
    have hc49 : Ff_X3_takeWhole 0 x16.toInt v17na0_1.toInt v17na0_2.toInt a0_7.toInt v17na0_8.toInt v17na0_9.toInt v17na0_10.toInt v17na0_11.toInt v17na0_12.toInt v17na0_13.toInt (fl_A fa0_3) 4 (fl_A (sxc 10)) = (r49.toInt, v49na0_1.toInt, v49na0_2.toInt, v49na0_8.toInt, v49na0_9.toInt, v49na0_10.toInt, v49na0_11.toInt, v49na0_12.toInt, v49na0_13.toInt) := Prod.ext hfr49.symm hraw49_0
    have hF0 := hF0.trans (fl_c9_eq hc49)
    rcases hw with hw | hw
    · obtain ⟨hw, h49⟩ := hw
      subst hw
      have l49k0_v49na0_13 : (0 : Int) ≤ v49na0_13.toInt := Int.le_trans zq5 h49.1
      have u49k0_v49na0_13 : v49na0_13.toInt ≤ (8 : Int) := Int.le_trans h49.2 bx16.2
      have hF0 := hF0.trans (if_pos (by decide))
      refine lv_if_ne (tgt := 57) hx hb dX3_readLaw_52 (by decide) (fun _ => ?_) (fun c52 => absurd c52 (by decide +kernel))
      refine lv_aload_n hx hb dX3_readLaw_57 rfl (lv_at hl 0 rfl) ?_
      refine va_get (D := (dC, dI)) (ci := 3) (v := .ref a0_5) (C := RX3) (T := TX3) (N := 14) hx hb hts zi_X3_readLaw_3 hown hK hP 0 rfl rfl 5 (by decide) (hts (.fieldLink RX3 22 "WaxTurns$Reade\x72" "draft" "LWaxTurns$Hall;") (zm_X3_readLaw_r1 (List.mem_of_getElem? (i := 0) rfl))) (fun _ h9 => h9) rfl dX3_readLaw_58 ?_
      refine lv_aload_n hx hb dX3_readLaw_61 rfl (lv_at hl 0 rfl) ?_
      refine va_get (D := (dC, dI)) (ci := 3) (v := .int v49na0_13) (C := RX3) (T := TX3) (N := 14) hx hb hts zi_X3_readLaw_3 hown hK hP 0 rfl rfl 13 (by decide) (hts (.fieldLink RX3 156 "WaxTurns$Reade\x72" "taken" "I") (zm_X3_readLaw_r1 (List.mem_of_getElem? (i := 2) rfl))) (fun _ h9 => h9) rfl dX3_readLaw_62 ?_
      refine va_put (D := (dC, dI)) (ci := 0) (v := .int v49na0_13) (ty := .int) (C := RX0) (T := TX0) (N := 15) hx hb hts zi_X3_readLaw_0 tyX0 tyX0_ok nmX0 hown hK hP hD hS 2 rfl rfl 6 (by decide) (hts (.fieldLink RX3 178 "WaxTurns$Hall" "plus" "I") (zm_X3_readLaw_r1 (List.mem_of_getElem? (i := 4) rfl))) (fun _ h9 => h9) rfl (tyX0_ok 6 (by decide)) rfl rfl (Nat.le_of_ble_eq_true rfl) dX3_readLaw_65 (fun H locs hP hD hS => ?_)
      refine zs_2 (y := (a0_5, .inr (0, [.int a0_5_0, a0_5g_1, a0_5g_2, a0_5g_3, .int a0_5_4, .int v17na0_13, .int v49na0_13, .int a0_5_7, a0_5g_8, a0_5g_9, a0_5g_10, a0_5g_11, a0_5g_12, a0_5g_13, a0_5g_14]))) hP hD rfl (fun hP hD => ?_)
      refine lv_aload_n hx hb dX3_readLaw_68 rfl (lv_at hl 0 rfl) ?_
      refine va_ldcS hx hb hown (sxc_R11 hE0) dX3_readLaw_69 ?_
      refine lv_iconst (v := 0) hx hb dX3_readLaw_71 zk_iconst_0 ?_
      refine lv_aload_n hx hb dX3_readLaw_72 rfl (lv_at hl 0 rfl) ?_
      refine va_get (D := (dC, dI)) (ci := 3) (v := .ref a0_5) (C := RX3) (T := TX3) (N := 14) hx hb hts zi_X3_readLaw_3 hown hK hP 0 rfl rfl 5 (by decide) (hts (.fieldLink RX3 22 "WaxTurns$Reade\x72" "draft" "LWaxTurns$Hall;") (zm_X3_readLaw_r1 (List.mem_of_getElem? (i := 0) rfl))) (fun _ h9 => h9) rfl dX3_readLaw_73 ?_
      refine va_get (D := (dC, dI)) (ci := 0) (v := .int a0_5_0) (C := RX0) (T := TX0) (N := 15) hx hb hts zi_X3_readLaw_0 hown hK hP 2 rfl rfl 0 (by decide) (hts (.fieldLink RX3 104 "WaxTurns$Hall" "figures" "I") (zm_X3_readLaw_r1 (List.mem_of_getElem? (i := 1) rfl))) (fun _ h9 => h9) rfl dX3_readLaw_76 ?_
      refine lv_iconst (v := 1) hx hb dX3_readLaw_79 zk_iconst_1 ?_
      refine lv_isub hx hb dX3_readLaw_80 ?_
      refine ax_ti x16 ex16.symm ?_
      have hKc := hK.sub (tys' := [(ka0_3, .byte)]) [0] rfl
      refine va_calli (va_runV (As := [.ref (ad 11), .int 0, .int x16]) (rest := []) ⟨hx, hb, hml, hown, hts⟩ (f_X3_takeWhole l dC dI H.size a0 (ad 11) 0 x16 a0g_0 a0g_4 (.ref a0_5) a0g_6 v49na0_1 v49na0_2 a0_3 a0_7 v49na0_8 v49na0_9 v49na0_10 v49na0_11 v49na0_12 v49na0_13 ka0_3 fa0_3 5 (sxc 11) ba0_7_l ba0_7_u bv49na0_8.1 bv49na0_8.2 bv49na0_9.1 bv49na0_9.2 bv49na0_10.1 bv49na0_10.2) (cwV 3 hts gX3_readLaw_X3_takeWhole rfl rfl rfl zd_X3_takeWhole ⟨Nat.le_of_ble_eq_true rfl, Nat.le_of_ble_eq_true rfl⟩) ⟨ax_blind (fun _ _ _ _ hq => ⟨sxc_W_same _ _ _ _ (hq.1), va_Nw.same rfl rfl (hq.2)⟩), zr_3 hKc (zp_P2 hP) (q0 := 0) rfl, ax_preE (zp_P2 hP) hKc (zp_D2 hD) (fun U hU hW => ⟨sxc_W_to (sxc_T_w hE0 (i := 11) (by decide)) hS.2.1 (zp_F2 hD hS hA) hU hW, va_Nw.warmM hW hE1⟩)⟩ rfl rfl hl.1 rfl (lv_room (Nat.le_of_ble_eq_true rfl)) dX3_readLaw_81 ⟨Nat.le_of_ble_eq_true rfl, Nat.le_of_ble_eq_true rfl⟩) hS (fun q _ h => zp_F2 hD hS hA q h) (zp_F2 hD hS hA) (fun r81 v81na0_13 t H1 locs ht hvm hw => zx_7 (fun v81na0_1 v81na0_2 v81na0_8 v81na0_9 v81na0_10 v81na0_11 v81na0_12 => zy_4 (fun bv81na0_8 bv81na0_9 bv81na0_10 hraw81_0 hB hz1 hk1 hS1 => zo2 hB ht hP hD hk1 (zp_F2 hD hS hA) hS1 (fun hP hK1 hD hS => ?_))))
      generalize H1 = H at hP hS ⊢
      obtain ⟨hw, hfr81⟩ := hw
      rw [show (0 : Int32).toInt = 0 from by decide, show ((5 : Nat) : Int) = 5 from rfl] at hfr81 hraw81_0
      have hc81 : Ff_X3_takeWhole 0 x16.toInt v49na0_1.toInt v49na0_2.toInt a0_7.toInt v49na0_8.toInt v49na0_9.toInt v49na0_10.toInt v49na0_11.toInt v49na0_12.toInt v49na0_13.toInt (fl_A fa0_3) 5 (fl_A (sxc 11)) = (r81.toInt, v81na0_1.toInt, v81na0_2.toInt, v81na0_8.toInt, v81na0_9.toInt, v81na0_10.toInt, v81na0_11.toInt, v81na0_12.toInt, v81na0_13.toInt) := Prod.ext hfr81.symm hraw81_0
      have hF0 := hF0.trans (fl_c9_eq hc81)
      rcases hw with hw | hw
      · obtain ⟨hw, h81⟩ := hw
        subst hw
        have l81k0_v81na0_13 : (0 : Int) ≤ v81na0_13.toInt := Int.le_trans zq5 h81.1
        have u81k0_v81na0_13 : v81na0_13.toInt ≤ (8 : Int) := Int.le_trans h81.2 bx16.2
        have hF0 := hF0.trans (if_pos (by decide))
        refine lv_if_ne (tgt := 89) hx hb dX3_readLaw_84 (by decide) (fun _ => ?_) (fun c84 => absurd c84 (by decide +kernel))
        refine lv_aload_n hx hb dX3_readLaw_89 rfl (lv_at hl 0 rfl) ?_
        refine va_get (D := (dC, dI)) (ci := 3) (v := .ref a0_5) (C := RX3) (T := TX3) (N := 14) hx hb hts zi_X3_readLaw_3 hown hK hP 0 rfl rfl 5 (by decide) (hts (.fieldLink RX3 22 "WaxTurns$Reade\x72" "draft" "LWaxTurns$Hall;") (zm_X3_readLaw_r1 (List.mem_of_getElem? (i := 0) rfl))) (fun _ h9 => h9) rfl dX3_readLaw_90 ?_
        refine lv_aload_n hx hb dX3_readLaw_93 rfl (lv_at hl 0 rfl) ?_
        refine va_get (D := (dC, dI)) (ci := 3) (v := .int v81na0_13) (C := RX3) (T := TX3) (N := 14) hx hb hts zi_X3_readLaw_3 hown hK hP 0 rfl rfl 13 (by decide) (hts (.fieldLink RX3 156 "WaxTurns$Reade\x72" "taken" "I") (zm_X3_readLaw_r1 (List.mem_of_getElem? (i := 2) rfl))) (fun _ h9 => h9) rfl dX3_readLaw_94 ?_
        refine va_put (D := (dC, dI)) (ci := 0) (v := .int v81na0_13) (ty := .int) (C := RX0) (T := TX0) (N := 15) hx hb hts zi_X3_readLaw_0 tyX0 tyX0_ok nmX0 hown hK hP hD hS 2 rfl rfl 7 (by decide) (hts (.fieldLink RX3 182 "WaxTurns$Hall" "first" "I") (zm_X3_readLaw_r1 (List.mem_of_getElem? (i := 5) rfl))) (fun _ h9 => h9) rfl (tyX0_ok 7 (by decide)) rfl rfl (Nat.le_of_ble_eq_true rfl) dX3_readLaw_97 (fun H locs hP hD hS => ?_)
        refine zs_2 (y := (a0_5, .inr (0, [.int a0_5_0, a0_5g_1, a0_5g_2, a0_5g_3, .int a0_5_4, .int v17na0_13, .int v49na0_13, .int v81na0_13, a0_5g_8, a0_5g_9, a0_5g_10, a0_5g_11, a0_5g_12, a0_5g_13, a0_5g_14]))) hP hD rfl (fun hP hD => ?_)
        refine lv_aload_n hx hb dX3_readLaw_100 rfl (lv_at hl 0 rfl) ?_
        refine va_get (D := (dC, dI)) (ci := 3) (v := .ref a0_5) (C := RX3) (T := TX3) (N := 14) hx hb hts zi_X3_readLaw_3 hown hK hP 0 rfl rfl 5 (by decide) (hts (.fieldLink RX3 22 "WaxTurns$Reade\x72" "draft" "LWaxTurns$Hall;") (zm_X3_readLaw_r1 (List.mem_of_getElem? (i := 0) rfl))) (fun _ h9 => h9) rfl dX3_readLaw_101 ?_
        refine lv_iconst (v := 1) hx hb dX3_readLaw_104 zk_iconst_1 ?_
        refine va_put (D := (dC, dI)) (ci := 0) (v := .int 1) (ty := .boolean) (C := RX0) (T := TX0) (N := 15) hx hb hts zi_X3_readLaw_0 tyX0 tyX0_ok nmX0 hown hK hP hD hS 2 rfl rfl 4 (by decide) (hts (.fieldLink RX3 68 "WaxTurns$Hall" "lawTold" "Z") (zm_X3_readLaw_r1 (List.mem_of_getElem? (i := 6) rfl))) (fun _ h9 => h9) rfl (tyX0_ok 4 (by decide)) rfl rfl (Nat.le_of_ble_eq_true rfl) dX3_readLaw_105 (fun H locs hP hD hS => ?_)
        refine zs_2 (y := (a0_5, .inr (0, [.int a0_5_0, a0_5g_1, a0_5g_2, a0_5g_3, .int 1, .int v17na0_13, .int v49na0_13, .int v81na0_13, a0_5g_8, a0_5g_9, a0_5g_10, a0_5g_11, a0_5g_12, a0_5g_13, a0_5g_14]))) hP hD rfl (fun hP hD => ?_)
        refine lv_iconst (v := 1) hx hb dX3_readLaw_108 zk_iconst_1 ?_
        have hFe : FX = (1, v81na0_1.toInt, v81na0_2.toInt, v81na0_8.toInt, v81na0_9.toInt, v81na0_10.toInt, v81na0_11.toInt, v81na0_12.toInt, v81na0_13.toInt, 1, v17na0_13.toInt, v49na0_13.toInt, v81na0_13.toInt) := hF0
        exact W.zret (v := 1) hx hb hr rfl (fun t ht hW => ⟨⟨1, (), rfl, ⟨(Or.inl (rfl)), (congrArg Prod.fst hFe).symm⟩, v81na0_1, v81na0_2, v81na0_8, v81na0_9, v81na0_10, v81na0_11, v81na0_12, v81na0_13, 1, v17na0_13, v49na0_13, v81na0_13, ⟨bv81na0_8.1, bv81na0_8.2⟩, ⟨bv81na0_9.1, bv81na0_9.2⟩, ⟨bv81na0_10.1, bv81na0_10.2⟩, ⟨Int.le_trans (by decide) zq1, zq0⟩, ⟨l17k0_v17na0_13, u17k0_v17na0_13⟩, ⟨l49k0_v49na0_13, u49k0_v49na0_13⟩, ⟨l81k0_v81na0_13, u81k0_v81na0_13⟩, (congrArg Prod.snd hFe), by rw [ht]; exact hP, va_K.moved hW.alike hK, hD⟩, hS.F ht⟩) hS.2.2 dX3_readLaw_109
      · subst hw
        have hF0 := hF0.trans (if_neg (by decide))
        refine lv_if_ne (tgt := 89) hx hb dX3_readLaw_84 (by decide) (fun c84 => absurd (by decide +kernel) c84) (fun _ => ?_)
        refine lv_iconst (v := 0) hx hb dX3_readLaw_87 zk_iconst_0 ?_
        have hFe : FX = (0, v81na0_1.toInt, v81na0_2.toInt, v81na0_8.toInt, v81na0_9.toInt, v81na0_10.toInt, v81na0_11.toInt, v81na0_12.toInt, v81na0_13.toInt, a0_5_4.toInt, v17na0_13.toInt, v49na0_13.toInt, a0_5_7.toInt) := hF0
        exact W.zret (v := 0) hx hb hr rfl (fun t ht hW => ⟨⟨0, (), rfl, ⟨(Or.inr (rfl)), (congrArg Prod.fst hFe).symm⟩, v81na0_1, v81na0_2, v81na0_8, v81na0_9, v81na0_10, v81na0_11, v81na0_12, v81na0_13, a0_5_4, v17na0_13, v49na0_13, a0_5_7, ⟨bv81na0_8.1, bv81na0_8.2⟩, ⟨bv81na0_9.1, bv81na0_9.2⟩, ⟨bv81na0_10.1, bv81na0_10.2⟩, ⟨ba0_5_4_l, ba0_5_4_u⟩, ⟨l17k0_v17na0_13, u17k0_v17na0_13⟩, ⟨l49k0_v49na0_13, u49k0_v49na0_13⟩, ⟨ba0_5_7_l, ba0_5_7_u⟩, (congrArg Prod.snd hFe), by rw [ht]; exact hP, va_K.moved hW.alike hK, hD⟩, hS.F ht⟩) hS.2.2 dX3_readLaw_88
    · subst hw
      have hF0 := hF0.trans (if_neg (by decide))
      refine lv_if_ne (tgt := 57) hx hb dX3_readLaw_52 (by decide) (fun c52 => absurd (by decide +kernel) c52) (fun _ => ?_)
      refine lv_iconst (v := 0) hx hb dX3_readLaw_55 zk_iconst_0 ?_
      have hFe : FX = (0, v49na0_1.toInt, v49na0_2.toInt, v49na0_8.toInt, v49na0_9.toInt, v49na0_10.toInt, v49na0_11.toInt, v49na0_12.toInt, v49na0_13.toInt, a0_5_4.toInt, v17na0_13.toInt, a0_5_6.toInt, a0_5_7.toInt) := hF0
      exact W.zret (v := 0) hx hb hr rfl (fun t ht hW => ⟨⟨0, (), rfl, ⟨(Or.inr (rfl)), (congrArg Prod.fst hFe).symm⟩, v49na0_1, v49na0_2, v49na0_8, v49na0_9, v49na0_10, v49na0_11, v49na0_12, v49na0_13, a0_5_4, v17na0_13, a0_5_6, a0_5_7, ⟨bv49na0_8.1, bv49na0_8.2⟩, ⟨bv49na0_9.1, bv49na0_9.2⟩, ⟨bv49na0_10.1, bv49na0_10.2⟩, ⟨ba0_5_4_l, ba0_5_4_u⟩, ⟨l17k0_v17na0_13, u17k0_v17na0_13⟩, ⟨ba0_5_6_l, ba0_5_6_u⟩, ⟨ba0_5_7_l, ba0_5_7_u⟩, (congrArg Prod.snd hFe), by rw [ht]; exact hP, va_K.moved hW.alike hK, hD⟩, hS.F ht⟩) hS.2.2 dX3_readLaw_56
  · subst hw
    have hF0 := hF0.trans (if_neg (by decide))
    refine lv_if_ne (tgt := 25) hx hb dX3_readLaw_20 (by decide) (fun c20 => absurd (by decide +kernel) c20) (fun _ => ?_)
    refine lv_iconst (v := 0) hx hb dX3_readLaw_23 zk_iconst_0 ?_
    have hFe : FX = (0, v17na0_1.toInt, v17na0_2.toInt, v17na0_8.toInt, v17na0_9.toInt, v17na0_10.toInt, v17na0_11.toInt, v17na0_12.toInt, v17na0_13.toInt, a0_5_4.toInt, a0_5_5.toInt, a0_5_6.toInt, a0_5_7.toInt) := hF0
    exact W.zret (v := 0) hx hb hr rfl (fun t ht hW => ⟨⟨0, (), rfl, ⟨(Or.inr (rfl)), (congrArg Prod.fst hFe).symm⟩, v17na0_1, v17na0_2, v17na0_8, v17na0_9, v17na0_10, v17na0_11, v17na0_12, v17na0_13, a0_5_4, a0_5_5, a0_5_6, a0_5_7, ⟨bv17na0_8.1, bv17na0_8.2⟩, ⟨bv17na0_9.1, bv17na0_9.2⟩, ⟨bv17na0_10.1, bv17na0_10.2⟩, ⟨ba0_5_4_l, ba0_5_4_u⟩, ⟨ba0_5_5_l, ba0_5_5_u⟩, ⟨ba0_5_6_l, ba0_5_6_u⟩, ⟨ba0_5_7_l, ba0_5_7_u⟩, (congrArg Prod.snd hFe), by rw [ht]; exact hP, va_K.moved hW.alike hK, hD⟩, hS.F ht⟩) hS.2.2 dX3_readLaw_24

set_option maxHeartbeats 4000000 in
set_option maxRecDepth 100000 in
theorem f_X3_readFigure (l : Launch) (dC : Nat → ClassId) (dI : Nat → Nat → Nat) (sz : Nat) (a0 : Nat) (a0g_0 : Value) (a0_1 : Int32) (a0_2 : Int32) (a0_3 : Nat) (a0_4 : Nat) (a0_5 : Nat) (a0_6 : Int32) (a0_7 : Int32) (a0_8 : Int32) (a0_9 : Int32) (a0_10 : Int32) (a0_11 : Int64) (a0_12 : Int32) (a0_13 : Int32) (ka0_3 : ClassId) (fa0_3 : Nat → Int32) (ka0_4 : ClassId) (fa0_4 : Nat → Int64) (a0_5_0 : Int32) (a0_5g_1 a0_5g_2 a0_5g_3 a0_5g_4 a0_5g_5 a0_5g_6 a0_5g_7 a0_5g_9 a0_5g_12 a0_5g_13 a0_5g_14 : Value) (a0_5_8 : Int32) (a0_5_10 : Nat) (a0_5_11 : Nat) (ka0_5_10 : ClassId) (fa0_5_10 : Nat → Int32) (ka0_5_11 : ClassId) (fa0_5_11 : Nat → Int32) (ad : Nat → Nat) (ba0_6_l : (0 : Int) ≤ a0_6.toInt) (ba0_6_u : a0_6.toInt ≤ (12 : Int)) (ba0_7_l : (0 : Int) ≤ a0_7.toInt) (ba0_7_u : a0_7.toInt ≤ (900 : Int)) (ba0_8_l : (0 : Int) ≤ a0_8.toInt) (ba0_8_u : a0_8.toInt ≤ (900 : Int)) (ba0_9_l : (0 : Int) ≤ a0_9.toInt) (ba0_9_u : a0_9.toInt ≤ (900 : Int)) (ba0_10_l : (0 : Int) ≤ a0_10.toInt) (ba0_10_u : a0_10.toInt ≤ (4 : Int)) (ba0_5_0_l : (0 : Int) ≤ a0_5_0.toInt) (ba0_5_0_u : a0_5_0.toInt ≤ (9 : Int)) : zm l yX3_readFigure wsX3_readFigure ({ frames := 6, cells := 0, slots := 0, locals := 132 }) [.ref a0] dC dI sz [(a0, .inr (3, [a0g_0, .int a0_1, .int a0_2, .ref a0_3, .ref a0_4, .ref a0_5, .int a0_6, .int a0_7, .int a0_8, .int a0_9, .int a0_10, .long a0_11, .int a0_12, .int a0_13])), (a0_3, .inl (ka0_3, 900, .inl (fa0_3))), (a0_4, .inl (ka0_4, 12, .inr (.inl (fa0_4)))), (a0_5, .inr (0, [.int a0_5_0, a0_5g_1, a0_5g_2, a0_5g_3, a0_5g_4, a0_5g_5, a0_5g_6, a0_5g_7, .int a0_5_8, a0_5g_9, .ref a0_5_10, .ref a0_5_11, a0_5g_12, a0_5g_13, a0_5g_14])), (a0_5_10, .inl (ka0_5_10, 9, .inl (fa0_5_10))), (a0_5_11, .inl (ka0_5_11, 9, .inl (fa0_5_11)))] [(ka0_3, .byte), (ka0_4, .long), (ka0_5_10, .int), (ka0_5_11, .int)] (fun A U => sxc_T ad A U ∧ va_Nw (.methodLinkNest RX3 223 yX7_within RX7) U ∧ va_Nw (.methodLinkNest RX3 196 yX7_hasBit RX7) U) (fun A => va_Qi (fun (r : Int32) (_ : Unit) => ((r = 1) ∨ (r = 0)) ∧ r.toInt = (Ff_X3_readFigure a0_1.toInt a0_2.toInt a0_6.toInt a0_7.toInt a0_9.toInt a0_11.toInt a0_12.toInt a0_13.toInt (fl_A fa0_3) (fl_L fa0_4) a0_5_0.toInt a0_5_8.toInt (fl_A fa0_5_10) (fl_A fa0_5_11)).1) (fun (_ : Unit) (t : State) => ∃ na0_1 : Int32, ∃ na0_2 : Int32, ∃ na0_6 : Int32, ∃ na0_8 : Int32, ∃ na0_9 : Int32, ∃ na0_10 : Int32, ∃ na0_11 : Int64, ∃ na0_12 : Int32, ∃ na0_13 : Int32, ∃ nfa0_4 : Nat → Int64, ∃ na0_5_8 : Int32, ∃ nfa0_5_10 : Nat → Int32, ∃ nfa0_5_11 : Nat → Int32, ((0 : Int) ≤ na0_6.toInt ∧ na0_6.toInt ≤ 12) ∧ ((0 : Int) ≤ na0_8.toInt ∧ na0_8.toInt ≤ 900) ∧ ((0 : Int) ≤ na0_9.toInt ∧ na0_9.toInt ≤ 900) ∧ ((0 : Int) ≤ na0_10.toInt ∧ na0_10.toInt ≤ 4) ∧ ((Ff_X3_readFigure a0_1.toInt a0_2.toInt a0_6.toInt a0_7.toInt a0_9.toInt a0_11.toInt a0_12.toInt a0_13.toInt (fl_A fa0_3) (fl_L fa0_4) a0_5_0.toInt a0_5_8.toInt (fl_A fa0_5_10) (fl_A fa0_5_11)).2 = (na0_1.toInt, na0_2.toInt, na0_6.toInt, na0_8.toInt, na0_9.toInt, na0_10.toInt, na0_11.toInt, na0_12.toInt, na0_13.toInt, (fl_L nfa0_4), na0_5_8.toInt, (fl_A nfa0_5_10), (fl_A nfa0_5_11))) ∧ ax_B dC dI A [(a0, .inr (3, [a0g_0, .int na0_1, .int na0_2, .ref a0_3, .ref a0_4, .ref a0_5, .int na0_6, .int a0_7, .int na0_8, .int na0_9, .int na0_10, .long na0_11, .int na0_12, .int na0_13])), (a0_3, .inl (ka0_3, 900, .inl (fa0_3))), (a0_4, .inl (ka0_4, 12, .inr (.inl (nfa0_4)))), (a0_5, .inr (0, [.int a0_5_0, a0_5g_1, a0_5g_2, a0_5g_3, a0_5g_4, a0_5g_5, a0_5g_6, a0_5g_7, .int na0_5_8, a0_5g_9, .ref a0_5_10, .ref a0_5_11, a0_5g_12, a0_5g_13, a0_5g_14])), (a0_5_10, .inl (ka0_5_10, 9, .inl (nfa0_5_10))), (a0_5_11, .inl (ka0_5_11, 9, .inl (nfa0_5_11)))] [(ka0_3, .byte), (ka0_4, .long), (ka0_5_10, .int), (ka0_5_11, .int)] t) A) := by
  refine zh (cc := cX3_readFigure) (maxL := 3) (ret := (some .boolean)) zn_RX3 rfl (Nat.le_of_ble_eq_true rfl) (fun p e s m below meth c A ls hx hb hml hr hts (hown : s.vm.findClass RX3 = some m.cls) hlocks hA hS hP hK hD hE (hl : lv_has ls 3 [(0, .ref a0)]) => ?_)
  obtain ⟨hE0, hE1, hE2⟩ := hE
  generalize hFX : Ff_X3_readFigure a0_1.toInt a0_2.toInt a0_6.toInt a0_7.toInt a0_9.toInt a0_11.toInt a0_12.toInt a0_13.toInt (fl_A fa0_3) (fl_L fa0_4) a0_5_0.toInt a0_5_8.toInt (fl_A fa0_5_10) (fl_A fa0_5_11) = FX at ⊢
  have hF0 := hFX.symm.trans (Ff_X3_readFigure.eq_1 a0_1.toInt a0_2.toInt a0_6.toInt a0_7.toInt a0_9.toInt a0_11.toInt a0_12.toInt a0_13.toInt (fl_A fa0_3) (fl_L fa0_4) a0_5_0.toInt a0_5_8.toInt (fl_A fa0_5_10) (fl_A fa0_5_11))
  refine lv_aload_n hx hb dX3_readFigure_0 rfl (lv_at hl 0 rfl) ?_
  have hKc := hK.sub (tys' := [(ka0_3, .byte)]) [0] rfl
  refine va_callv (va_runV (As := []) (rest := []) ⟨hx, hb, hml, hown, hts⟩ (f_X3_advance l dC dI s.heap.size a0 a0g_0 (.int a0_1) (.int a0_2) (.ref a0_4) (.ref a0_5) (.int a0_6) (.int a0_13) a0_3 a0_7 a0_8 a0_9 a0_10 a0_11 a0_12 ka0_3 fa0_3 ba0_7_l ba0_7_u ba0_8_l ba0_8_u ba0_9_l ba0_9_u ba0_10_l ba0_10_u) (cwV 0 hts gX3_readFigure_X3_advance rfl rfl rfl zd_X3_advance ⟨Nat.le_of_ble_eq_true rfl, Nat.le_of_ble_eq_true rfl⟩) ⟨ax_blind (fun _ _ _ _ _ => trivial), zr_3 hKc (zp_P2 hP) (q0 := 0) rfl, ax_pre (zp_P2 hP) hKc (zp_D2 hD) (fun _ _ => trivial)⟩ rfl rfl hl.1 rfl (lv_room (Nat.le_of_ble_eq_true rfl)) dX3_readFigure_1 ⟨Nat.le_of_ble_eq_true rfl, Nat.le_of_ble_eq_true rfl⟩) hS (fun q _ h => zp_F2 hD hS hA q h) (zp_F2 hD hS hA) (fun u t H locs ht hvm hw => zx_5 (fun v1na0_8 v1na0_9 v1na0_10 v1na0_11 v1na0_12 => zy_4 (fun bv1na0_8 bv1na0_9 bv1na0_10 hraw1_0 hB hz1 hk1 hS1 => zo2 hB ht hP hD hk1 (zp_F2 hD hS hA) hS1 (fun hP hK1 hD hS => ?_))))
  have hc1 : Ff_X3_advance a0_7.toInt a0_9.toInt a0_11.toInt a0_12.toInt (fl_A fa0_3) = (v1na0_8.toInt, v1na0_9.toInt, v1na0_10.toInt, v1na0_11.toInt, v1na0_12.toInt) := hraw1_0
  have hF0 := hF0.trans (fl_c5_eq hc1)
  refine lv_aload_n hx hb dX3_readFigure_4 rfl (lv_at hl 0 rfl) ?_
  refine zc_cutc (wc := [(a0, .inr (3, [a0g_0, .int a0_1, .int a0_2, .ref a0_3, .ref a0_4, .ref a0_5, .int a0_6, .int a0_7, .int v1na0_8, .int v1na0_9, .int v1na0_10, .long v1na0_11, .int v1na0_12, .int a0_13])), (a0_4, .inl (ka0_4, 12, .inr (.inl (fa0_4)))), (a0_3, .inl (ka0_3, 900, .inl (fa0_3)))]) hP hD hS hA [0, 2, 1] (by decide +kernel) rfl (fun hPc hDc hFc hCc => ?_)
  have hKc := hK.sub (tys' := [(ka0_4, .long), (ka0_3, .byte)]) [1, 0] rfl
  refine va_calli (va_runV (As := []) (rest := []) ⟨hx, hb, hml, hown, hts⟩ (f_X3_takeName l dC dI H.size a0 a0g_0 (.ref a0_5) (.int a0_13) a0_1 a0_2 a0_3 a0_4 a0_6 a0_7 v1na0_8 v1na0_9 v1na0_10 v1na0_11 v1na0_12 ka0_4 fa0_4 ka0_3 fa0_3 ad ba0_6_l ba0_6_u ba0_7_l ba0_7_u bv1na0_8.1 bv1na0_8.2 bv1na0_9.1 bv1na0_9.2 bv1na0_10.1 bv1na0_10.2) (cwV 0 hts gX3_readFigure_X3_takeName rfl rfl rfl zd_X3_takeName ⟨Nat.le_of_ble_eq_true rfl, Nat.le_of_ble_eq_true rfl⟩) ⟨ax_blind (fun _ _ _ _ hq => sxc_T_same _ _ _ _ (hq)), zr_3 hKc hPc (q0 := 0) rfl, ax_preE hPc hKc hDc (fun U hU hW => sxc_T_to hE0 hS.2.1 hFc hU hW)⟩ rfl rfl hl.1 rfl (lv_room (Nat.le_of_ble_eq_true rfl)) dX3_readFigure_5 ⟨Nat.le_of_ble_eq_true rfl, Nat.le_of_ble_eq_true rfl⟩) hS (fun q _ h => hFc q h) hFc (fun r5 u t H locs ht hvm hw => zx_9 (fun v5na0_1 v5na0_2 v5na0_6 v5na0_8 v5na0_9 v5na0_10 v5na0_11 v5na0_12 v5nfa0_4 => zy_5 (fun bv5na0_6 bv5na0_8 bv5na0_9 bv5na0_10 hraw5_0 hB hz1 hk1 hS1 => zo hB ht hS1 (fun hP1 hK1 hD1 hS => ?_))))
  refine zc_backc (w := [(a0, .inr (3, [a0g_0, .int v5na0_1, .int v5na0_2, .ref a0_3, .ref a0_4, .ref a0_5, .int v5na0_6, .int a0_7, .int v5na0_8, .int v5na0_9, .int v5na0_10, .long v5na0_11, .int v5na0_12, .int a0_13])), (a0_3, .inl (ka0_3, 900, .inl (fa0_3))), (a0_4, .inl (ka0_4, 12, .inr (.inl (v5nfa0_4)))), (a0_5, .inr (0, [.int a0_5_0, a0_5g_1, a0_5g_2, a0_5g_3, a0_5g_4, a0_5g_5, a0_5g_6, a0_5g_7, .int a0_5_8, a0_5g_9, .ref a0_5_10, .ref a0_5_11, a0_5g_12, a0_5g_13, a0_5g_14])), (a0_5_10, .inl (ka0_5_10, 9, .inl (fa0_5_10))), (a0_5_11, .inl (ka0_5_11, 9, .inl (fa0_5_11)))]) hP hD hCc hk1 hFc hP1 hD1 [.inr 0, .inr 2, .inr 1, .inl 3, .inl 4, .inl 5] (by decide +kernel) rfl (fun hP hD => ?_)
  obtain ⟨hw, hfr5⟩ := hw
  have hc5 : Ff_X3_takeName a0_1.toInt a0_2.toInt a0_6.toInt a0_7.toInt v1na0_8.toInt v1na0_9.toInt v1na0_10.toInt v1na0_11.toInt v1na0_12.toInt (fl_L fa0_4) (fl_A fa0_3) = (r5.toInt, v5na0_1.toInt, v5na0_2.toInt, v5na0_6.toInt, v5na0_8.toInt, v5na0_9.toInt, v5na0_10.toInt, v5na0_11.toInt, v5na0_12.toInt, (fl_L v5nfa0_4)) := Prod.ext hfr5.symm hraw5_0
  have hF0 := hF0.trans (fl_c10_eq hc5)
  rcases hw with hw | hw
  · subst hw
    have hF0 := hF0.trans (if_pos (by decide))
    refine lv_if_eq (tgt := 37) hx hb dX3_readFigure_8 (by decide) (fun c8 => absurd c8 (by decide +kernel)) (fun _ => ?_)
    refine lv_aload_n hx hb dX3_readFigure_11 rfl (lv_at hl 0 rfl) ?_
    refine va_ldcS hx hb hown (sxc_R12 hE0) dX3_readFigure_12 ?_
    have hKc := hK.sub (tys' := [(ka0_3, .byte)]) [0] rfl
    refine va_calli (va_runV (As := [.ref (ad 12)]) (rest := []) ⟨hx, hb, hml, hown, hts⟩ (f_X3_takeWord l dC dI H.size a0 (ad 12) a0g_0 (.ref a0_4) (.ref a0_5) (.int v5na0_6) (.int a0_13) v5na0_1 v5na0_2 a0_3 a0_7 v5na0_8 v5na0_9 v5na0_10 v5na0_11 v5na0_12 ka0_3 fa0_3 2 (sxc 12) ba0_7_l ba0_7_u bv5na0_8.1 bv5na0_8.2 bv5na0_9.1 bv5na0_9.2 bv5na0_10.1 bv5na0_10.2) (cwV 1 hts gX3_readFigure_X3_takeWord rfl rfl rfl zd_X3_takeWord ⟨Nat.le_of_ble_eq_true rfl, Nat.le_of_ble_eq_true rfl⟩) ⟨ax_blind (fun _ _ _ _ hq => sxc_W_same _ _ _ _ (hq)), zr_3 hKc (zp_P2 hP) (q0 := 0) rfl, ax_preE (zp_P2 hP) hKc (zp_D2 hD) (fun U hU hW => sxc_W_to (sxc_T_w hE0 (i := 12) (by decide)) hS.2.1 (zp_F2 hD hS hA) hU hW)⟩ rfl rfl hl.1 rfl (lv_room (Nat.le_of_ble_eq_true rfl)) dX3_readFigure_14 ⟨Nat.le_of_ble_eq_true rfl, Nat.le_of_ble_eq_true rfl⟩) hS (fun q _ h => zp_F2 hD hS hA q h) (zp_F2 hD hS hA) (fun r14 u t H locs ht hvm hw => zx_7 (fun v14na0_1 v14na0_2 v14na0_8 v14na0_9 v14na0_10 v14na0_11 v14na0_12 => zy_4 (fun bv14na0_8 bv14na0_9 bv14na0_10 hraw14_0 hB hz1 hk1 hS1 => zo2 hB ht hP hD hk1 (zp_F2 hD hS hA) hS1 (fun hP hK1 hD hS => ?_))))
    obtain ⟨hw, hfr14⟩ := hw
    rw [show ((2 : Nat) : Int) = 2 from rfl] at hfr14 hraw14_0
    have hc14 : Ff_X3_takeWord v5na0_1.toInt v5na0_2.toInt a0_7.toInt v5na0_8.toInt v5na0_9.toInt v5na0_10.toInt v5na0_11.toInt v5na0_12.toInt (fl_A fa0_3) 2 (fl_A (sxc 12)) = (r14.toInt, v14na0_1.toInt, v14na0_2.toInt, v14na0_8.toInt, v14na0_9.toInt, v14na0_10.toInt, v14na0_11.toInt, v14na0_12.toInt) := Prod.ext hfr14.symm hraw14_0
    have hF0 := hF0.trans (fl_c8_eq hc14)
    rcases hw with hw | hw
    · subst hw
      have hF0 := hF0.trans (if_pos (by decide))
      refine lv_if_eq (tgt := 37) hx hb dX3_readFigure_17 (by decide) (fun c17 => absurd c17 (by decide +kernel)) (fun _ => ?_)
      refine lv_aload_n hx hb dX3_readFigure_20 rfl (lv_at hl 0 rfl) ?_
      refine lv_iconst (v := 0) hx hb dX3_readFigure_21 zk_iconst_0 ?_
      refine lv_aload_n hx hb dX3_readFigure_22 rfl (lv_at hl 0 rfl) ?_
      refine va_get (D := (dC, dI)) (ci := 3) (v := .ref a0_5) (C := RX3) (T := TX3) (N := 14) hx hb hts zi_X3_readFigure_3 hown hK hP 0 rfl rfl 5 (by decide) (hts (.fieldLink RX3 22 "WaxTurns$Reade\x72" "draft" "LWaxTurns$Hall;") (zm_X3_readFigure_r1 (List.mem_of_getElem? (i := 0) rfl))) (fun _ h9 => h9) rfl dX3_readFigure_23 ?_
      refine va_get (D := (dC, dI)) (ci := 0) (v := .int a0_5_0) (C := RX0) (T := TX0) (N := 15) hx hb hts zi_X3_readFigure_0 hown hK hP 3 rfl rfl 0 (by decide) (hts (.fieldLink RX3 104 "WaxTurns$Hall" "figures" "I") (zm_X3_readFigure_r1 (List.mem_of_getElem? (i := 1) rfl))) (fun _ h9 => h9) rfl dX3_readFigure_26 ?_
      refine lv_iconst (v := 1) hx hb dX3_readFigure_29 zk_iconst_1 ?_
      refine lv_isub hx hb dX3_readFigure_30 ?_
      refine lv_topi (fun x30 ex30 => ?_)
      have qx30 : x30.toInt = a0_5_0.toInt - (1 : Int32).toInt := ai_sub ex30 ⟨ba0_5_0_l, ba0_5_0_u⟩ ⟨zq1, zq0⟩ (by decide) (by decide)
      have bx30 : (-1 : Int) ≤ x30.toInt ∧ x30.toInt ≤ 8 := ⟨by rw [qx30]; exact Int.sub_le_sub ba0_5_0_l zq0, by rw [qx30]; exact Int.sub_le_sub ba0_5_0_u zq1⟩
      have wx30 : x30.toInt = a0_5_0.toInt - 1 := qx30
      have hF0 := hF0.trans (fl_lt_eq (show x30.toInt = a0_5_0.toInt - 1 from qx30))
      refine va_calli (va_runV (As := [.int 0, .int x30]) (rest := []) ⟨hx, hb, hml, hown, hts⟩ (f_X3_isWholeWithin l dC dI H.size a0 0 x30 a0g_0 (.ref a0_3) (.ref a0_4) (.ref a0_5) (.int v5na0_6) (.int a0_7) (.int v14na0_9) (.long v14na0_11) (.int a0_13) v14na0_1 v14na0_2 v14na0_8 v14na0_10 v14na0_12 bv14na0_8.1 bv14na0_8.2 bv14na0_10.1 bv14na0_10.2) (cwV 2 hts gX3_readFigure_X3_isWholeWithin rfl rfl rfl zd_X3_isWholeWithin ⟨Nat.le_of_ble_eq_true rfl, Nat.le_of_ble_eq_true rfl⟩) ⟨ax_blind (fun _ _ _ _ hq => va_Nw.same rfl rfl (hq)), zr_3 (zp_K hK) (zp_P1 hP) (q0 := 0) rfl, ax_pre (zp_P1 hP) (zp_K hK) (zp_D1 hD) (fun _ hW => va_Nw.warmM hW hE1)⟩ rfl rfl hl.1 rfl (lv_room (Nat.le_of_ble_eq_true rfl)) dX3_readFigure_31 ⟨Nat.le_of_ble_eq_true rfl, Nat.le_of_ble_eq_true rfl⟩) hS (fun q _ h => zp_F1 hD hS hA q h) (zp_F1 hD hS hA) (fun r31 u t H locs ht hvm hw => zx_2 (fun v31na0_1 v31na0_2 => zy_1 (fun hraw31_0 hB hz1 hk1 hS1 => zo1 hB ht hP hD hk1 (zp_F1 hD hS hA) hS1 (fun hP hK1 hD hS => ?_))))
      obtain ⟨hw, hfr31⟩ := hw
      rw [show (0 : Int32).toInt = 0 from by decide] at hfr31 hraw31_0
      have hc31 : Ff_X3_isWholeWithin 0 x30.toInt v14na0_1.toInt v14na0_2.toInt v14na0_8.toInt v14na0_10.toInt v14na0_12.toInt = (r31.toInt, v31na0_1.toInt, v31na0_2.toInt) := Prod.ext hfr31.symm hraw31_0
      have hF0 := hF0.trans (fl_c3_eq hc31)
      rcases hw with hw | hw
      · obtain ⟨hw, h31⟩ := hw
        subst hw
        have l31k0_v14na0_12 : (0 : Int) ≤ v14na0_12.toInt := Int.le_trans zq5 h31.1
        have u31k0_v14na0_12 : v14na0_12.toInt ≤ (8 : Int) := Int.le_trans h31.2 bx30.2
        have hF0 := hF0.trans (if_pos (by decide))
        refine lv_if_ne (tgt := 39) hx hb dX3_readFigure_34 (by decide) (fun _ => ?_) (fun c34 => absurd c34 (by decide +kernel))
        refine lv_aload_n hx hb dX3_readFigure_39 rfl (lv_at hl 0 rfl) ?_
        refine va_get (D := (dC, dI)) (ci := 3) (v := .int v14na0_12) (C := RX3) (T := TX3) (N := 14) hx hb hts zi_X3_readFigure_3 hown hK hP 0 rfl rfl 12 (by decide) (hts (.fieldLink RX3 85 "WaxTurns$Reade\x72" "whole" "I") (zm_X3_readFigure_r1 (List.mem_of_getElem? (i := 2) rfl))) (fun _ h9 => h9) rfl dX3_readFigure_40 ?_
        refine lv_istore_n (lv' := [(1, .int v14na0_12), (0, .ref a0)]) hx hb dX3_readFigure_43 rfl hl (by decide) rfl (fun ls hl => ?_)
        refine lv_aload_n hx hb dX3_readFigure_44 rfl (lv_at hl 1 rfl) ?_
        refine va_get (D := (dC, dI)) (ci := 3) (v := .ref a0_5) (C := RX3) (T := TX3) (N := 14) hx hb hts zi_X3_readFigure_3 hown hK hP 0 rfl rfl 5 (by decide) (hts (.fieldLink RX3 22 "WaxTurns$Reade\x72" "draft" "LWaxTurns$Hall;") (zm_X3_readFigure_r1 (List.mem_of_getElem? (i := 0) rfl))) (fun _ h9 => h9) rfl dX3_readFigure_45 ?_
        refine va_get (D := (dC, dI)) (ci := 0) (v := .int a0_5_8) (C := RX0) (T := TX0) (N := 15) hx hb hts zi_X3_readFigure_0 hown hK hP 3 rfl rfl 8 (by decide) (hts (.fieldLink RX3 121 "WaxTurns$Hall" "toldBits" "I") (zm_X3_readFigure_r1 (List.mem_of_getElem? (i := 3) rfl))) (fun _ h9 => h9) rfl dX3_readFigure_48 ?_
        refine lv_iload_n hx hb dX3_readFigure_51 rfl (lv_at hl 0 rfl) ?_
        refine va_calli (va_runSN (As := [.int a0_5_8, .int v14na0_12]) (rest := []) ⟨hx, hb, hml, hown, hts⟩ (f_X7_hasBit l dC dI H.size a0_5_8 v14na0_12 ) ⟨va_cnB 2 hts gX3_readFigure_X7_hasBit_n196 rfl rfl rfl hE2 (hts (.initialized RX7) (zm_X3_readFigure_r5 (List.mem_of_getElem? (i := 2) rfl))) zd_X7_hasBit.2 ⟨Nat.le_of_ble_eq_true rfl, Nat.le_of_ble_eq_true rfl⟩, (hts (.static yX7_hasBit) (zm_X3_readFigure_r5 (List.mem_of_getElem? (i := 4) rfl))), trivial⟩ ⟨ax_blind (fun _ _ _ _ _ => trivial), ax_pre (zp_P0 hP) (zp_K hK) (zp_D0 hD) (fun _ _ => trivial)⟩ rfl rfl hl.1 rfl (lv_room (Nat.le_of_ble_eq_true rfl)) dX3_readFigure_52 ⟨Nat.le_of_ble_eq_true rfl, Nat.le_of_ble_eq_true rfl⟩) hS (fun q _ h => zp_F0 hD hS hA q h) (zp_F0 hD hS hA) (fun r52 u t H locs ht hvm hw hB hz1 hk1 hS1 => zo0 hB ht hP hD hk1 (zp_F0 hD hS hA) hS1 (fun hP hK1 hD hS => ?_))
        obtain ⟨hw, hfr52⟩ := hw
        have hc52 : Ff_X7_hasBit a0_5_8.toInt v14na0_12.toInt = r52.toInt := hfr52.symm
        have hF0 := hF0.trans (fl_lt_eq hc52.symm)
        rcases hw with hw | hw
        · subst hw
          have hF0 := hF0.trans (if_pos (by decide))
          refine lv_if_eq (tgt := 64) hx hb dX3_readFigure_55 (by decide) (fun c55 => absurd c55 (by decide +kernel)) (fun _ => ?_)
          refine lv_aload_n hx hb dX3_readFigure_58 rfl (lv_at hl 1 rfl) ?_
          refine lv_iconst (v := 3) hx hb dX3_readFigure_59 zk_iconst_3 ?_
          refine va_calli (va_runV (As := [.int 3]) (rest := []) ⟨hx, hb, hml, hown, hts⟩ (f_X3_fails l dC dI H.size a0 3 a0g_0 (.ref a0_3) (.ref a0_4) (.ref a0_5) (.int v5na0_6) (.int a0_7) (.int v14na0_9) (.int v14na0_10) (.long v14na0_11) (.int v14na0_12) (.int a0_13) v31na0_1 v31na0_2 v14na0_8 bv14na0_8.1 bv14na0_8.2) (cwV 1 hts gX3_readFigure_X3_fails rfl rfl rfl zd_X3_fails ⟨Nat.le_of_ble_eq_true rfl, Nat.le_of_ble_eq_true rfl⟩) ⟨ax_blind (fun _ _ _ _ _ => trivial), zr_3 (zp_K hK) (zp_P1 hP) (q0 := 0) rfl, ax_pre (zp_P1 hP) (zp_K hK) (zp_D1 hD) (fun _ _ => trivial)⟩ rfl rfl hl.1 rfl (lv_room (Nat.le_of_ble_eq_true rfl)) dX3_readFigure_60 ⟨Nat.le_of_ble_eq_true rfl, Nat.le_of_ble_eq_true rfl⟩) hS (fun q _ h => zp_F1 hD hS hA q h) (zp_F1 hD hS hA) (fun r60 u t H locs ht hvm hw => zx_2 (fun v60na0_1 v60na0_2 => zy_1 (fun hraw60_0 hB hz1 hk1 hS1 => zo1 hB ht hP hD hk1 (zp_F1 hD hS hA) hS1 (fun hP hK1 hD hS => ?_))))
          obtain ⟨hw, hfr60⟩ := hw
          rw [show (3 : Int32).toInt = 3 from by decide] at hfr60 hraw60_0
          have hc60 : Ff_X3_fails 3 v14na0_8.toInt = (r60.toInt, v60na0_1.toInt, v60na0_2.toInt) := Prod.ext hfr60.symm hraw60_0
          have hF0 := hF0.trans (fl_c3_eq hc60)
          have hw : r60 = 0 := hw
          have hw := hw.symm
          subst hw
          have hFe : FX = (0, v60na0_1.toInt, v60na0_2.toInt, v5na0_6.toInt, v14na0_8.toInt, v14na0_9.toInt, v14na0_10.toInt, v14na0_11.toInt, v14na0_12.toInt, a0_13.toInt, (fl_L v5nfa0_4), a0_5_8.toInt, (fl_A fa0_5_10), (fl_A fa0_5_11)) := hF0
          exact W.zret (v := 0) hx hb hr rfl (fun t ht hW => ⟨⟨0, (), rfl, ⟨(Or.inr (rfl)), (congrArg Prod.fst hFe).symm⟩, v60na0_1, v60na0_2, v5na0_6, v14na0_8, v14na0_9, v14na0_10, v14na0_11, v14na0_12, a0_13, v5nfa0_4, a0_5_8, fa0_5_10, fa0_5_11, ⟨bv5na0_6.1, bv5na0_6.2⟩, ⟨bv14na0_8.1, bv14na0_8.2⟩, ⟨bv14na0_9.1, bv14na0_9.2⟩, ⟨bv14na0_10.1, bv14na0_10.2⟩, (congrArg Prod.snd hFe), by rw [ht]; exact hP, va_K.moved hW.alike hK, hD⟩, hS.F ht⟩) hS.2.2 dX3_readFigure_63
        · subst hw
          have hF0 := hF0.trans (if_neg (by decide))
          refine lv_if_eq (tgt := 64) hx hb dX3_readFigure_55 (by decide) (fun _ => ?_) (fun c55 => absurd (by decide +kernel) c55)
          refine lv_aload_n hx hb dX3_readFigure_64 rfl (lv_at hl 1 rfl) ?_
          have hKc := hK.sub (tys' := [(ka0_3, .byte)]) [0] rfl
          refine va_callv (va_runV (As := []) (rest := []) ⟨hx, hb, hml, hown, hts⟩ (f_X3_advance l dC dI H.size a0 a0g_0 (.int v31na0_1) (.int v31na0_2) (.ref a0_4) (.ref a0_5) (.int v5na0_6) (.int a0_13) a0_3 a0_7 v14na0_8 v14na0_9 v14na0_10 v14na0_11 v14na0_12 ka0_3 fa0_3 ba0_7_l ba0_7_u bv14na0_8.1 bv14na0_8.2 bv14na0_9.1 bv14na0_9.2 bv14na0_10.1 bv14na0_10.2) (cwV 0 hts gX3_readFigure_X3_advance rfl rfl rfl zd_X3_advance ⟨Nat.le_of_ble_eq_true rfl, Nat.le_of_ble_eq_true rfl⟩) ⟨ax_blind (fun _ _ _ _ _ => trivial), zr_3 hKc (zp_P2 hP) (q0 := 0) rfl, ax_pre (zp_P2 hP) hKc (zp_D2 hD) (fun _ _ => trivial)⟩ rfl rfl hl.1 rfl (lv_room (Nat.le_of_ble_eq_true rfl)) dX3_readFigure_65 ⟨Nat.le_of_ble_eq_true rfl, Nat.le_of_ble_eq_true rfl⟩) hS (fun q _ h => zp_F2 hD hS hA q h) (zp_F2 hD hS hA) (fun u t H locs ht hvm hw => zx_5 (fun v65na0_8 v65na0_9 v65na0_10 v65na0_11 v65na0_12 => zy_4 (fun bv65na0_8 bv65na0_9 bv65na0_10 hraw65_0 hB hz1 hk1 hS1 => zo2 hB ht hP hD hk1 (zp_F2 hD hS hA) hS1 (fun hP hK1 hD hS => ?_))))
          have hc65 : Ff_X3_advance a0_7.toInt v14na0_9.toInt v14na0_11.toInt v14na0_12.toInt (fl_A fa0_3) = (v65na0_8.toInt, v65na0_9.toInt, v65na0_10.toInt, v65na0_11.toInt, v65na0_12.toInt) := hraw65_0
          have hF0 := hF0.trans (fl_c5_eq hc65)
          refine lv_aload_n hx hb dX3_readFigure_68 rfl (lv_at hl 1 rfl) ?_
          refine va_ldcS hx hb hown (sxc_R13 hE0) dX3_readFigure_69 ?_
          refine va_calli (va_runV (As := [.ref (ad 13)]) (rest := []) ⟨hx, hb, hml, hown, hts⟩ (f_X3_isWord l dC dI H.size a0 (ad 13) a0g_0 (.int v31na0_1) (.int v31na0_2) (.ref a0_3) (.ref a0_4) (.ref a0_5) (.int v5na0_6) (.int a0_7) (.int v65na0_8) (.int v65na0_9) (.int v65na0_12) (.int a0_13) v65na0_10 v65na0_11 5 (sxc 13) bv65na0_10.1 bv65na0_10.2) (cwV 1 hts gX3_readFigure_X3_isWord rfl rfl rfl zd_X3_isWord ⟨Nat.le_of_ble_eq_true rfl, Nat.le_of_ble_eq_true rfl⟩) ⟨ax_blind (fun _ _ _ _ hq => sxc_W_same _ _ _ _ (hq)), zr_3 (zp_K hK) (zp_P1 hP) (q0 := 0) rfl, ax_preE (zp_P1 hP) (zp_K hK) (zp_D1 hD) (fun U hU hW => sxc_W_to (sxc_T_w hE0 (i := 13) (by decide)) hS.2.1 (zp_F1 hD hS hA) hU hW)⟩ rfl rfl hl.1 rfl (lv_room (Nat.le_of_ble_eq_true rfl)) dX3_readFigure_71 ⟨Nat.le_of_ble_eq_true rfl, Nat.le_of_ble_eq_true rfl⟩) hS (fun q _ h => zp_F1 hD hS hA q h) (zp_F1 hD hS hA) (fun r71 u t H locs ht hvm hw hB hz1 hk1 hS1 => zo1 hB ht hP hD hk1 (zp_F1 hD hS hA) hS1 (fun hP hK1 hD hS => ?_))
          obtain ⟨hw, hfr71⟩ := hw
          rw [show ((5 : Nat) : Int) = 5 from rfl] at hfr71
          have hc71 : Ff_X3_isWord v65na0_10.toInt v65na0_11.toInt 5 (fl_A (sxc 13)) = r71.toInt := hfr71.symm
          have hF0 := hF0.trans (fl_lt_eq hc71.symm)
          rcases hw with hw | hw
          · obtain ⟨hw, h71_0, h71_1⟩ := hw
            subst hw
            have l71k0_v65na0_10 : (1 : Int) ≤ v65na0_10.toInt := h71_0
            have u71k0_v65na0_10 : v65na0_10.toInt ≤ (1 : Int) := h71_1
            have hF0 := hF0.trans (if_pos (by decide))
            refine lv_if_eq (tgt := 81) hx hb dX3_readFigure_74 (by decide) (fun c74 => absurd c74 (by decide +kernel)) (fun _ => ?_)
            refine lv_iconst (v := 1) hx hb dX3_readFigure_77 zk_iconst_1 ?_
            refine lv_goto (tgt := 82) hx hb dX3_readFigure_78 (by decide) ?_
            refine lv_istore_n (lv' := [(2, .int 1), (1, .int v14na0_12), (0, .ref a0)]) hx hb dX3_readFigure_82 rfl hl (by decide) rfl (fun ls hl => ?_)
            refine lv_aload_n hx hb dX3_readFigure_83 rfl (lv_at hl 2 rfl) ?_
            refine lv_iload_n hx hb dX3_readFigure_84 rfl (lv_at hl 0 rfl) ?_
            refine lv_iconst (v := 1) hx hb dX3_readFigure_85 zk_iconst_1 ?_
            refine lv_icmp_ne (tgt := 94) hx hb dX3_readFigure_86 (by decide) (fun c86 => absurd (by decide +kernel) c86) (fun _ => ?_)
            refine va_ldcS hx hb hown (sxc_R13 hE0) dX3_readFigure_89 ?_
            refine lv_goto (tgt := 96) hx hb dX3_readFigure_91 (by decide) ?_
            refine lv_iconst (v := 1) hx hb dX3_readFigure_96 zk_iconst_1 ?_
            refine lv_bipush (v := 20) hx hb dX3_readFigure_97 zk_bipush_20 ?_
            have hKc := hK.sub (tys' := [(ka0_3, .byte)]) [0] rfl
            refine va_calli (va_runV (As := [.ref (ad 13), .int 1, .int 20]) (rest := []) ⟨hx, hb, hml, hown, hts⟩ (f_X3_takeWhole l dC dI H.size a0 (ad 13) 1 20 a0g_0 (.ref a0_4) (.ref a0_5) (.int v5na0_6) v31na0_1 v31na0_2 a0_3 a0_7 v65na0_8 v65na0_9 v65na0_10 v65na0_11 v65na0_12 a0_13 ka0_3 fa0_3 5 (sxc 13) ba0_7_l ba0_7_u bv65na0_8.1 bv65na0_8.2 bv65na0_9.1 bv65na0_9.2 (Int.le_trans zq4 l71k0_v65na0_10) (Int.le_trans u71k0_v65na0_10 zq135)) (cwV 3 hts gX3_readFigure_X3_takeWhole rfl rfl rfl zd_X3_takeWhole ⟨Nat.le_of_ble_eq_true rfl, Nat.le_of_ble_eq_true rfl⟩) ⟨ax_blind (fun _ _ _ _ hq => ⟨sxc_W_same _ _ _ _ (hq.1), va_Nw.same rfl rfl (hq.2)⟩), zr_3 hKc (zp_P2 hP) (q0 := 0) rfl, ax_preE (zp_P2 hP) hKc (zp_D2 hD) (fun U hU hW => ⟨sxc_W_to (sxc_T_w hE0 (i := 13) (by decide)) hS.2.1 (zp_F2 hD hS hA) hU hW, va_Nw.warmM hW hE1⟩)⟩ rfl rfl hl.1 rfl (lv_room (Nat.le_of_ble_eq_true rfl)) dX3_readFigure_99 ⟨Nat.le_of_ble_eq_true rfl, Nat.le_of_ble_eq_true rfl⟩) hS (fun q _ h => zp_F2 hD hS hA q h) (zp_F2 hD hS hA) (fun r99 v99na0_13 t H1 locs ht hvm hw => zx_7 (fun v99na0_1 v99na0_2 v99na0_8 v99na0_9 v99na0_10 v99na0_11 v99na0_12 => zy_4 (fun bv99na0_8 bv99na0_9 bv99na0_10 hraw99_0 hB hz1 hk1 hS1 => zo2 hB ht hP hD hk1 (zp_F2 hD hS hA) hS1 (fun hP hK1 hD hS => ?_))))
            generalize H1 = H at hP hS ⊢
            obtain ⟨hw, hfr99⟩ := hw
            rw [show (1 : Int32).toInt = 1 from by decide, show (20 : Int32).toInt = 20 from by decide, show ((5 : Nat) : Int) = 5 from rfl] at hfr99 hraw99_0
            have hc99 : Ff_X3_takeWhole 1 20 v31na0_1.toInt v31na0_2.toInt a0_7.toInt v65na0_8.toInt v65na0_9.toInt v65na0_10.toInt v65na0_11.toInt v65na0_12.toInt a0_13.toInt (fl_A fa0_3) 5 (fl_A (sxc 13)) = (r99.toInt, v99na0_1.toInt, v99na0_2.toInt, v99na0_8.toInt, v99na0_9.toInt, v99na0_10.toInt, v99na0_11.toInt, v99na0_12.toInt, v99na0_13.toInt) := Prod.ext hfr99.symm hraw99_0
            have hF0 := hF0.trans (fl_c9_eq hc99)
            rcases hw with hw | hw
            · obtain ⟨hw, h99⟩ := hw
              subst hw
              have l99k0_v99na0_13 : (1 : Int) ≤ v99na0_13.toInt := Int.le_trans zq1 h99.1
              have u99k0_v99na0_13 : v99na0_13.toInt ≤ (20 : Int) := Int.le_trans h99.2 zq154
              have hF0 := hF0.trans (if_pos (by decide))
              refine lv_if_ne (tgt := 107) hx hb dX3_readFigure_102 (by decide) (fun _ => ?_) (fun c102 => absurd c102 (by decide +kernel))
              refine lv_aload_n hx hb dX3_readFigure_107 rfl (lv_at hl 2 rfl) ?_
              refine va_get (D := (dC, dI)) (ci := 3) (v := .ref a0_5) (C := RX3) (T := TX3) (N := 14) hx hb hts zi_X3_readFigure_3 hown hK hP 0 rfl rfl 5 (by decide) (hts (.fieldLink RX3 22 "WaxTurns$Reade\x72" "draft" "LWaxTurns$Hall;") (zm_X3_readFigure_r1 (List.mem_of_getElem? (i := 0) rfl))) (fun _ h9 => h9) rfl dX3_readFigure_108 ?_
              refine lv_iload_n hx hb dX3_readFigure_111 rfl (lv_at hl 1 rfl) ?_
              refine lv_iload_n hx hb dX3_readFigure_112 rfl (lv_at hl 0 rfl) ?_
              refine lv_aload_n hx hb dX3_readFigure_113 rfl (lv_at hl 2 rfl) ?_
              refine va_get (D := (dC, dI)) (ci := 3) (v := .int v99na0_13) (C := RX3) (T := TX3) (N := 14) hx hb hts zi_X3_readFigure_3 hown hK hP 0 rfl rfl 13 (by decide) (hts (.fieldLink RX3 156 "WaxTurns$Reade\x72" "taken" "I") (zm_X3_readFigure_r1 (List.mem_of_getElem? (i := 4) rfl))) (fun _ h9 => h9) rfl dX3_readFigure_114 ?_
              refine zc_cutc (wc := [(a0_5, .inr (0, [.int a0_5_0, a0_5g_1, a0_5g_2, a0_5g_3, a0_5g_4, a0_5g_5, a0_5g_6, a0_5g_7, .int a0_5_8, a0_5g_9, .ref a0_5_10, .ref a0_5_11, a0_5g_12, a0_5g_13, a0_5g_14])), (a0_5_10, .inl (ka0_5_10, 9, .inl (fa0_5_10))), (a0_5_11, .inl (ka0_5_11, 9, .inl (fa0_5_11)))]) hP hD hS hA [3, 4, 5] (by decide +kernel) rfl (fun hPc hDc hFc hCc => ?_)
              have hKc := hK.sub (tys' := [(ka0_5_10, .int), (ka0_5_11, .int)]) [2, 3] rfl
              refine va_callv (va_runV (As := [.int v14na0_12, .int 1, .int v99na0_13]) (rest := []) ⟨hx, hb, hml, hown, hts⟩ (f_X0_addFigure l dC dI H.size a0_5 v14na0_12 1 v99na0_13 (.int a0_5_0) a0_5g_1 a0_5g_2 a0_5g_3 a0_5g_4 a0_5g_5 a0_5g_6 a0_5g_7 a0_5g_9 a0_5g_12 a0_5g_13 a0_5g_14 a0_5_8 a0_5_10 a0_5_11 ka0_5_10 fa0_5_10 ka0_5_11 fa0_5_11 ) (cwV 3 hts gX3_readFigure_X0_addFigure rfl rfl rfl zd_X0_addFigure ⟨Nat.le_of_ble_eq_true rfl, Nat.le_of_ble_eq_true rfl⟩) ⟨ax_blind (fun _ _ _ _ _ => trivial), zr_0 hKc hPc (q0 := 0) rfl, ax_pre hPc hKc hDc (fun _ _ => trivial)⟩ rfl rfl hl.1 rfl (lv_room (Nat.le_of_ble_eq_true rfl)) dX3_readFigure_117 ⟨Nat.le_of_ble_eq_true rfl, Nat.le_of_ble_eq_true rfl⟩) hS (fun q _ h => hFc q h) hFc (fun u t H locs ht hvm hw => zx_3 (fun v117na0_8 v117nfa0_10 v117nfa0_11 => zy_1 (fun hraw117_0 hB hz1 hk1 hS1 => zo hB ht hS1 (fun hP1 hK1 hD1 hS => ?_))))
              refine zc_backc (w := [(a0, .inr (3, [a0g_0, .int v99na0_1, .int v99na0_2, .ref a0_3, .ref a0_4, .ref a0_5, .int v5na0_6, .int a0_7, .int v99na0_8, .int v99na0_9, .int v99na0_10, .long v99na0_11, .int v99na0_12, .int v99na0_13])), (a0_3, .inl (ka0_3, 900, .inl (fa0_3))), (a0_4, .inl (ka0_4, 12, .inr (.inl (v5nfa0_4)))), (a0_5, .inr (0, [.int a0_5_0, a0_5g_1, a0_5g_2, a0_5g_3, a0_5g_4, a0_5g_5, a0_5g_6, a0_5g_7, .int v117na0_8, a0_5g_9, .ref a0_5_10, .ref a0_5_11, a0_5g_12, a0_5g_13, a0_5g_14])), (a0_5_10, .inl (ka0_5_10, 9, .inl (v117nfa0_10))), (a0_5_11, .inl (ka0_5_11, 9, .inl (v117nfa0_11)))]) hP hD hCc hk1 hFc hP1 hD1 [.inl 0, .inl 1, .inl 2, .inr 0, .inr 1, .inr 2] (by decide +kernel) rfl (fun hP hD => ?_)
              rw [show (1 : Int32).toInt = 1 from by decide] at hraw117_0
              have hc117 : Ff_X0_addFigure v14na0_12.toInt 1 v99na0_13.toInt a0_5_8.toInt (fl_A fa0_5_10) (fl_A fa0_5_11) = (v117na0_8.toInt, (fl_A v117nfa0_10), (fl_A v117nfa0_11)) := hraw117_0
              have hF0 := hF0.trans (fl_c3_eq hc117)
              refine lv_iconst (v := 1) hx hb dX3_readFigure_120 zk_iconst_1 ?_
              have hFe : FX = (1, v99na0_1.toInt, v99na0_2.toInt, v5na0_6.toInt, v99na0_8.toInt, v99na0_9.toInt, v99na0_10.toInt, v99na0_11.toInt, v99na0_12.toInt, v99na0_13.toInt, (fl_L v5nfa0_4), v117na0_8.toInt, (fl_A v117nfa0_10), (fl_A v117nfa0_11)) := hF0
              exact W.zret (v := 1) hx hb hr rfl (fun t ht hW => ⟨⟨1, (), rfl, ⟨(Or.inl (rfl)), (congrArg Prod.fst hFe).symm⟩, v99na0_1, v99na0_2, v5na0_6, v99na0_8, v99na0_9, v99na0_10, v99na0_11, v99na0_12, v99na0_13, v5nfa0_4, v117na0_8, v117nfa0_10, v117nfa0_11, ⟨bv5na0_6.1, bv5na0_6.2⟩, ⟨bv99na0_8.1, bv99na0_8.2⟩, ⟨bv99na0_9.1, bv99na0_9.2⟩, ⟨bv99na0_10.1, bv99na0_10.2⟩, (congrArg Prod.snd hFe), by rw [ht]; exact hP, va_K.moved hW.alike hK, hD⟩, hS.F ht⟩) hS.2.2 dX3_readFigure_121
            · subst hw
              have hF0 := hF0.trans (if_neg (by decide))
              refine lv_if_ne (tgt := 107) hx hb dX3_readFigure_102 (by decide) (fun c102 => absurd (by decide +kernel) c102) (fun _ => ?_)
              refine lv_iconst (v := 0) hx hb dX3_readFigure_105 zk_iconst_0 ?_
              have hFe : FX = (0, v99na0_1.toInt, v99na0_2.toInt, v5na0_6.toInt, v99na0_8.toInt, v99na0_9.toInt, v99na0_10.toInt, v99na0_11.toInt, v99na0_12.toInt, v99na0_13.toInt, (fl_L v5nfa0_4), a0_5_8.toInt, (fl_A fa0_5_10), (fl_A fa0_5_11)) := hF0
              exact W.zret (v := 0) hx hb hr rfl (fun t ht hW => ⟨⟨0, (), rfl, ⟨(Or.inr (rfl)), (congrArg Prod.fst hFe).symm⟩, v99na0_1, v99na0_2, v5na0_6, v99na0_8, v99na0_9, v99na0_10, v99na0_11, v99na0_12, v99na0_13, v5nfa0_4, a0_5_8, fa0_5_10, fa0_5_11, ⟨bv5na0_6.1, bv5na0_6.2⟩, ⟨bv99na0_8.1, bv99na0_8.2⟩, ⟨bv99na0_9.1, bv99na0_9.2⟩, ⟨bv99na0_10.1, bv99na0_10.2⟩, (congrArg Prod.snd hFe), by rw [ht]; exact hP, va_K.moved hW.alike hK, hD⟩, hS.F ht⟩) hS.2.2 dX3_readFigure_106
          · subst hw
            have hF0 := hF0.trans (if_neg (by decide))
            refine lv_if_eq (tgt := 81) hx hb dX3_readFigure_74 (by decide) (fun _ => ?_) (fun c74 => absurd (by decide +kernel) c74)
            refine lv_iconst (v := 2) hx hb dX3_readFigure_81 zk_iconst_2 ?_
            refine lv_istore_n (lv' := [(2, .int 2), (1, .int v14na0_12), (0, .ref a0)]) hx hb dX3_readFigure_82 rfl hl (by decide) rfl (fun ls hl => ?_)
            refine lv_aload_n hx hb dX3_readFigure_83 rfl (lv_at hl 2 rfl) ?_
            refine lv_iload_n hx hb dX3_readFigure_84 rfl (lv_at hl 0 rfl) ?_
            refine lv_iconst (v := 1) hx hb dX3_readFigure_85 zk_iconst_1 ?_
            refine lv_icmp_ne (tgt := 94) hx hb dX3_readFigure_86 (by decide) (fun _ => ?_) (fun c86 => absurd c86 (by decide +kernel))
            refine va_ldcS hx hb hown (sxc_R14 hE0) dX3_readFigure_94 ?_
            refine lv_iconst (v := 1) hx hb dX3_readFigure_96 zk_iconst_1 ?_
            refine lv_bipush (v := 20) hx hb dX3_readFigure_97 zk_bipush_20 ?_
            have hKc := hK.sub (tys' := [(ka0_3, .byte)]) [0] rfl
            refine va_calli (va_runV (As := [.ref (ad 14), .int 1, .int 20]) (rest := []) ⟨hx, hb, hml, hown, hts⟩ (f_X3_takeWhole l dC dI H.size a0 (ad 14) 1 20 a0g_0 (.ref a0_4) (.ref a0_5) (.int v5na0_6) v31na0_1 v31na0_2 a0_3 a0_7 v65na0_8 v65na0_9 v65na0_10 v65na0_11 v65na0_12 a0_13 ka0_3 fa0_3 6 (sxc 14) ba0_7_l ba0_7_u bv65na0_8.1 bv65na0_8.2 bv65na0_9.1 bv65na0_9.2 bv65na0_10.1 bv65na0_10.2) (cwV 3 hts gX3_readFigure_X3_takeWhole rfl rfl rfl zd_X3_takeWhole ⟨Nat.le_of_ble_eq_true rfl, Nat.le_of_ble_eq_true rfl⟩) ⟨ax_blind (fun _ _ _ _ hq => ⟨sxc_W_same _ _ _ _ (hq.1), va_Nw.same rfl rfl (hq.2)⟩), zr_3 hKc (zp_P2 hP) (q0 := 0) rfl, ax_preE (zp_P2 hP) hKc (zp_D2 hD) (fun U hU hW => ⟨sxc_W_to (sxc_T_w hE0 (i := 14) (by decide)) hS.2.1 (zp_F2 hD hS hA) hU hW, va_Nw.warmM hW hE1⟩)⟩ rfl rfl hl.1 rfl (lv_room (Nat.le_of_ble_eq_true rfl)) dX3_readFigure_99 ⟨Nat.le_of_ble_eq_true rfl, Nat.le_of_ble_eq_true rfl⟩) hS (fun q _ h => zp_F2 hD hS hA q h) (zp_F2 hD hS hA) (fun r99 v99na0_13 t H1 locs ht hvm hw => zx_7 (fun v99na0_1 v99na0_2 v99na0_8 v99na0_9 v99na0_10 v99na0_11 v99na0_12 => zy_4 (fun bv99na0_8 bv99na0_9 bv99na0_10 hraw99_0 hB hz1 hk1 hS1 => zo2 hB ht hP hD hk1 (zp_F2 hD hS hA) hS1 (fun hP hK1 hD hS => ?_))))
            generalize H1 = H at hP hS ⊢
            obtain ⟨hw, hfr99⟩ := hw
            rw [show (1 : Int32).toInt = 1 from by decide, show (20 : Int32).toInt = 20 from by decide, show ((6 : Nat) : Int) = 6 from rfl] at hfr99 hraw99_0
            have hc99 : Ff_X3_takeWhole 1 20 v31na0_1.toInt v31na0_2.toInt a0_7.toInt v65na0_8.toInt v65na0_9.toInt v65na0_10.toInt v65na0_11.toInt v65na0_12.toInt a0_13.toInt (fl_A fa0_3) 6 (fl_A (sxc 14)) = (r99.toInt, v99na0_1.toInt, v99na0_2.toInt, v99na0_8.toInt, v99na0_9.toInt, v99na0_10.toInt, v99na0_11.toInt, v99na0_12.toInt, v99na0_13.toInt) := Prod.ext hfr99.symm hraw99_0
            have hF0 := hF0.trans (fl_c9_eq hc99)
            rcases hw with hw | hw
            · obtain ⟨hw, h99⟩ := hw
              subst hw
              have l99k0_v99na0_13 : (1 : Int) ≤ v99na0_13.toInt := Int.le_trans zq1 h99.1
              have u99k0_v99na0_13 : v99na0_13.toInt ≤ (20 : Int) := Int.le_trans h99.2 zq154
              have hF0 := hF0.trans (if_pos (by decide))
              refine lv_if_ne (tgt := 107) hx hb dX3_readFigure_102 (by decide) (fun _ => ?_) (fun c102 => absurd c102 (by decide +kernel))
              refine lv_aload_n hx hb dX3_readFigure_107 rfl (lv_at hl 2 rfl) ?_
              refine va_get (D := (dC, dI)) (ci := 3) (v := .ref a0_5) (C := RX3) (T := TX3) (N := 14) hx hb hts zi_X3_readFigure_3 hown hK hP 0 rfl rfl 5 (by decide) (hts (.fieldLink RX3 22 "WaxTurns$Reade\x72" "draft" "LWaxTurns$Hall;") (zm_X3_readFigure_r1 (List.mem_of_getElem? (i := 0) rfl))) (fun _ h9 => h9) rfl dX3_readFigure_108 ?_
              refine lv_iload_n hx hb dX3_readFigure_111 rfl (lv_at hl 1 rfl) ?_
              refine lv_iload_n hx hb dX3_readFigure_112 rfl (lv_at hl 0 rfl) ?_
              refine lv_aload_n hx hb dX3_readFigure_113 rfl (lv_at hl 2 rfl) ?_
              refine va_get (D := (dC, dI)) (ci := 3) (v := .int v99na0_13) (C := RX3) (T := TX3) (N := 14) hx hb hts zi_X3_readFigure_3 hown hK hP 0 rfl rfl 13 (by decide) (hts (.fieldLink RX3 156 "WaxTurns$Reade\x72" "taken" "I") (zm_X3_readFigure_r1 (List.mem_of_getElem? (i := 4) rfl))) (fun _ h9 => h9) rfl dX3_readFigure_114 ?_
              refine zc_cutc (wc := [(a0_5, .inr (0, [.int a0_5_0, a0_5g_1, a0_5g_2, a0_5g_3, a0_5g_4, a0_5g_5, a0_5g_6, a0_5g_7, .int a0_5_8, a0_5g_9, .ref a0_5_10, .ref a0_5_11, a0_5g_12, a0_5g_13, a0_5g_14])), (a0_5_10, .inl (ka0_5_10, 9, .inl (fa0_5_10))), (a0_5_11, .inl (ka0_5_11, 9, .inl (fa0_5_11)))]) hP hD hS hA [3, 4, 5] (by decide +kernel) rfl (fun hPc hDc hFc hCc => ?_)
              have hKc := hK.sub (tys' := [(ka0_5_10, .int), (ka0_5_11, .int)]) [2, 3] rfl
              refine va_callv (va_runV (As := [.int v14na0_12, .int 2, .int v99na0_13]) (rest := []) ⟨hx, hb, hml, hown, hts⟩ (f_X0_addFigure l dC dI H.size a0_5 v14na0_12 2 v99na0_13 (.int a0_5_0) a0_5g_1 a0_5g_2 a0_5g_3 a0_5g_4 a0_5g_5 a0_5g_6 a0_5g_7 a0_5g_9 a0_5g_12 a0_5g_13 a0_5g_14 a0_5_8 a0_5_10 a0_5_11 ka0_5_10 fa0_5_10 ka0_5_11 fa0_5_11 ) (cwV 3 hts gX3_readFigure_X0_addFigure rfl rfl rfl zd_X0_addFigure ⟨Nat.le_of_ble_eq_true rfl, Nat.le_of_ble_eq_true rfl⟩) ⟨ax_blind (fun _ _ _ _ _ => trivial), zr_0 hKc hPc (q0 := 0) rfl, ax_pre hPc hKc hDc (fun _ _ => trivial)⟩ rfl rfl hl.1 rfl (lv_room (Nat.le_of_ble_eq_true rfl)) dX3_readFigure_117 ⟨Nat.le_of_ble_eq_true rfl, Nat.le_of_ble_eq_true rfl⟩) hS (fun q _ h => hFc q h) hFc (fun u t H locs ht hvm hw => zx_3 (fun v117na0_8 v117nfa0_10 v117nfa0_11 => zy_1 (fun hraw117_0 hB hz1 hk1 hS1 => zo hB ht hS1 (fun hP1 hK1 hD1 hS => ?_))))
              refine zc_backc (w := [(a0, .inr (3, [a0g_0, .int v99na0_1, .int v99na0_2, .ref a0_3, .ref a0_4, .ref a0_5, .int v5na0_6, .int a0_7, .int v99na0_8, .int v99na0_9, .int v99na0_10, .long v99na0_11, .int v99na0_12, .int v99na0_13])), (a0_3, .inl (ka0_3, 900, .inl (fa0_3))), (a0_4, .inl (ka0_4, 12, .inr (.inl (v5nfa0_4)))), (a0_5, .inr (0, [.int a0_5_0, a0_5g_1, a0_5g_2, a0_5g_3, a0_5g_4, a0_5g_5, a0_5g_6, a0_5g_7, .int v117na0_8, a0_5g_9, .ref a0_5_10, .ref a0_5_11, a0_5g_12, a0_5g_13, a0_5g_14])), (a0_5_10, .inl (ka0_5_10, 9, .inl (v117nfa0_10))), (a0_5_11, .inl (ka0_5_11, 9, .inl (v117nfa0_11)))]) hP hD hCc hk1 hFc hP1 hD1 [.inl 0, .inl 1, .inl 2, .inr 0, .inr 1, .inr 2] (by decide +kernel) rfl (fun hP hD => ?_)
              rw [show (2 : Int32).toInt = 2 from by decide] at hraw117_0
              have hc117 : Ff_X0_addFigure v14na0_12.toInt 2 v99na0_13.toInt a0_5_8.toInt (fl_A fa0_5_10) (fl_A fa0_5_11) = (v117na0_8.toInt, (fl_A v117nfa0_10), (fl_A v117nfa0_11)) := hraw117_0
              have hF0 := hF0.trans (fl_c3_eq hc117)
              refine lv_iconst (v := 1) hx hb dX3_readFigure_120 zk_iconst_1 ?_
              have hFe : FX = (1, v99na0_1.toInt, v99na0_2.toInt, v5na0_6.toInt, v99na0_8.toInt, v99na0_9.toInt, v99na0_10.toInt, v99na0_11.toInt, v99na0_12.toInt, v99na0_13.toInt, (fl_L v5nfa0_4), v117na0_8.toInt, (fl_A v117nfa0_10), (fl_A v117nfa0_11)) := hF0
              exact W.zret (v := 1) hx hb hr rfl (fun t ht hW => ⟨⟨1, (), rfl, ⟨(Or.inl (rfl)), (congrArg Prod.fst hFe).symm⟩, v99na0_1, v99na0_2, v5na0_6, v99na0_8, v99na0_9, v99na0_10, v99na0_11, v99na0_12, v99na0_13, v5nfa0_4, v117na0_8, v117nfa0_10, v117nfa0_11, ⟨bv5na0_6.1, bv5na0_6.2⟩, ⟨bv99na0_8.1, bv99na0_8.2⟩, ⟨bv99na0_9.1, bv99na0_9.2⟩, ⟨bv99na0_10.1, bv99na0_10.2⟩, (congrArg Prod.snd hFe), by rw [ht]; exact hP, va_K.moved hW.alike hK, hD⟩, hS.F ht⟩) hS.2.2 dX3_readFigure_121
            · subst hw
              have hF0 := hF0.trans (if_neg (by decide))
              refine lv_if_ne (tgt := 107) hx hb dX3_readFigure_102 (by decide) (fun c102 => absurd (by decide +kernel) c102) (fun _ => ?_)
              refine lv_iconst (v := 0) hx hb dX3_readFigure_105 zk_iconst_0 ?_
              have hFe : FX = (0, v99na0_1.toInt, v99na0_2.toInt, v5na0_6.toInt, v99na0_8.toInt, v99na0_9.toInt, v99na0_10.toInt, v99na0_11.toInt, v99na0_12.toInt, v99na0_13.toInt, (fl_L v5nfa0_4), a0_5_8.toInt, (fl_A fa0_5_10), (fl_A fa0_5_11)) := hF0
              exact W.zret (v := 0) hx hb hr rfl (fun t ht hW => ⟨⟨0, (), rfl, ⟨(Or.inr (rfl)), (congrArg Prod.fst hFe).symm⟩, v99na0_1, v99na0_2, v5na0_6, v99na0_8, v99na0_9, v99na0_10, v99na0_11, v99na0_12, v99na0_13, v5nfa0_4, a0_5_8, fa0_5_10, fa0_5_11, ⟨bv5na0_6.1, bv5na0_6.2⟩, ⟨bv99na0_8.1, bv99na0_8.2⟩, ⟨bv99na0_9.1, bv99na0_9.2⟩, ⟨bv99na0_10.1, bv99na0_10.2⟩, (congrArg Prod.snd hFe), by rw [ht]; exact hP, va_K.moved hW.alike hK, hD⟩, hS.F ht⟩) hS.2.2 dX3_readFigure_106
      · subst hw
        have hF0 := hF0.trans (if_neg (by decide))
        refine lv_if_ne (tgt := 39) hx hb dX3_readFigure_34 (by decide) (fun c34 => absurd (by decide +kernel) c34) (fun _ => ?_)
        refine lv_iconst (v := 0) hx hb dX3_readFigure_37 zk_iconst_0 ?_
        have hFe : FX = (0, v31na0_1.toInt, v31na0_2.toInt, v5na0_6.toInt, v14na0_8.toInt, v14na0_9.toInt, v14na0_10.toInt, v14na0_11.toInt, v14na0_12.toInt, a0_13.toInt, (fl_L v5nfa0_4), a0_5_8.toInt, (fl_A fa0_5_10), (fl_A fa0_5_11)) := hF0
        exact W.zret (v := 0) hx hb hr rfl (fun t ht hW => ⟨⟨0, (), rfl, ⟨(Or.inr (rfl)), (congrArg Prod.fst hFe).symm⟩, v31na0_1, v31na0_2, v5na0_6, v14na0_8, v14na0_9, v14na0_10, v14na0_11, v14na0_12, a0_13, v5nfa0_4, a0_5_8, fa0_5_10, fa0_5_11, ⟨bv5na0_6.1, bv5na0_6.2⟩, ⟨bv14na0_8.1, bv14na0_8.2⟩, ⟨bv14na0_9.1, bv14na0_9.2⟩, ⟨bv14na0_10.1, bv14na0_10.2⟩, (congrArg Prod.snd hFe), by rw [ht]; exact hP, va_K.moved hW.alike hK, hD⟩, hS.F ht⟩) hS.2.2 dX3_readFigure_38
    · subst hw
      have hF0 := hF0.trans (if_neg (by decide))
      refine lv_if_eq (tgt := 37) hx hb dX3_readFigure_17 (by decide) (fun _ => ?_) (fun c17 => absurd (by decide +kernel) c17)
      refine lv_iconst (v := 0) hx hb dX3_readFigure_37 zk_iconst_0 ?_
      have hFe : FX = (0, v14na0_1.toInt, v14na0_2.toInt, v5na0_6.toInt, v14na0_8.toInt, v14na0_9.toInt, v14na0_10.toInt, v14na0_11.toInt, v14na0_12.toInt, a0_13.toInt, (fl_L v5nfa0_4), a0_5_8.toInt, (fl_A fa0_5_10), (fl_A fa0_5_11)) := hF0
      exact W.zret (v := 0) hx hb hr rfl (fun t ht hW => ⟨⟨0, (), rfl, ⟨(Or.inr (rfl)), (congrArg Prod.fst hFe).symm⟩, v14na0_1, v14na0_2, v5na0_6, v14na0_8, v14na0_9, v14na0_10, v14na0_11, v14na0_12, a0_13, v5nfa0_4, a0_5_8, fa0_5_10, fa0_5_11, ⟨bv5na0_6.1, bv5na0_6.2⟩, ⟨bv14na0_8.1, bv14na0_8.2⟩, ⟨bv14na0_9.1, bv14na0_9.2⟩, ⟨bv14na0_10.1, bv14na0_10.2⟩, (congrArg Prod.snd hFe), by rw [ht]; exact hP, va_K.moved hW.alike hK, hD⟩, hS.F ht⟩) hS.2.2 dX3_readFigure_38
  · subst hw
    have hF0 := hF0.trans (if_neg (by decide))
    refine lv_if_eq (tgt := 37) hx hb dX3_readFigure_8 (by decide) (fun _ => ?_) (fun c8 => absurd (by decide +kernel) c8)
    refine lv_iconst (v := 0) hx hb dX3_readFigure_37 zk_iconst_0 ?_
    have hFe : FX = (0, v5na0_1.toInt, v5na0_2.toInt, v5na0_6.toInt, v5na0_8.toInt, v5na0_9.toInt, v5na0_10.toInt, v5na0_11.toInt, v5na0_12.toInt, a0_13.toInt, (fl_L v5nfa0_4), a0_5_8.toInt, (fl_A fa0_5_10), (fl_A fa0_5_11)) := hF0
    exact W.zret (v := 0) hx hb hr rfl (fun t ht hW => ⟨⟨0, (), rfl, ⟨(Or.inr (rfl)), (congrArg Prod.fst hFe).symm⟩, v5na0_1, v5na0_2, v5na0_6, v5na0_8, v5na0_9, v5na0_10, v5na0_11, v5na0_12, a0_13, v5nfa0_4, a0_5_8, fa0_5_10, fa0_5_11, ⟨bv5na0_6.1, bv5na0_6.2⟩, ⟨bv5na0_8.1, bv5na0_8.2⟩, ⟨bv5na0_9.1, bv5na0_9.2⟩, ⟨bv5na0_10.1, bv5na0_10.2⟩, (congrArg Prod.snd hFe), by rw [ht]; exact hP, va_K.moved hW.alike hK, hD⟩, hS.F ht⟩) hS.2.2 dX3_readFigure_38
end P311_02_f
section P311_03_f
set_option maxHeartbeats 4000000 in
set_option maxRecDepth 100000 in
theorem f_X3_readWatcher (l : Launch) (dC : Nat → ClassId) (dI : Nat → Nat → Nat) (sz : Nat) (a0 : Nat) (a0g_0 : Value) (a0_1 : Int32) (a0_2 : Int32) (a0_3 : Nat) (a0_4 : Nat) (a0_5 : Nat) (a0_6 : Int32) (a0_7 : Int32) (a0_8 : Int32) (a0_9 : Int32) (a0_10 : Int32) (a0_11 : Int64) (a0_12 : Int32) (a0_13 : Int32) (ka0_3 : ClassId) (fa0_3 : Nat → Int32) (ka0_4 : ClassId) (fa0_4 : Nat → Int64) (a0_5_0 : Int32) (a0_5g_1 a0_5g_2 a0_5g_3 a0_5g_4 a0_5g_5 a0_5g_6 a0_5g_7 a0_5g_8 a0_5g_9 a0_5g_10 a0_5g_11 a0_5g_12 a0_5g_13 : Value) (a0_5_14 : Nat) (a0_5_14_0 : Int32) (a0_5_14g_1 : Value) (a0_5_14_2 : Nat) (a0_5_14_3 : Nat) (ka0_5_14_2 : ClassId) (fa0_5_14_2 : Nat → Int32) (ka0_5_14_3 : ClassId) (fa0_5_14_3 : Nat → Int32) (ad : Nat → Nat) (ba0_6_l : (0 : Int) ≤ a0_6.toInt) (ba0_6_u : a0_6.toInt ≤ (12 : Int)) (ba0_7_l : (0 : Int) ≤ a0_7.toInt) (ba0_7_u : a0_7.toInt ≤ (900 : Int)) (ba0_8_l : (0 : Int) ≤ a0_8.toInt) (ba0_8_u : a0_8.toInt ≤ (900 : Int)) (ba0_9_l : (0 : Int) ≤ a0_9.toInt) (ba0_9_u : a0_9.toInt ≤ (900 : Int)) (ba0_10_l : (0 : Int) ≤ a0_10.toInt) (ba0_10_u : a0_10.toInt ≤ (4 : Int)) (ba0_5_0_l : (0 : Int) ≤ a0_5_0.toInt) (ba0_5_0_u : a0_5_0.toInt ≤ (9 : Int)) (ba0_5_14_0_l : (0 : Int) ≤ a0_5_14_0.toInt) (ba0_5_14_0_u : a0_5_14_0.toInt ≤ (3 : Int)) (bfa0_5_14_2 : (∀ k, (0 : Int) ≤ (fa0_5_14_2 k).toInt ∧ (fa0_5_14_2 k).toInt ≤ 80)) (bfa0_5_14_3 : (∀ k, (0 : Int) ≤ (fa0_5_14_3 k).toInt ∧ (fa0_5_14_3 k).toInt ≤ 80)) : zm l yX3_readWatcher wsX3_readWatcher ({ frames := 6, cells := 0, slots := 0, locals := 132 }) [.ref a0] dC dI sz [(a0, .inr (3, [a0g_0, .int a0_1, .int a0_2, .ref a0_3, .ref a0_4, .ref a0_5, .int a0_6, .int a0_7, .int a0_8, .int a0_9, .int a0_10, .long a0_11, .int a0_12, .int a0_13])), (a0_3, .inl (ka0_3, 900, .inl (fa0_3))), (a0_4, .inl (ka0_4, 12, .inr (.inl (fa0_4)))), (a0_5, .inr (0, [.int a0_5_0, a0_5g_1, a0_5g_2, a0_5g_3, a0_5g_4, a0_5g_5, a0_5g_6, a0_5g_7, a0_5g_8, a0_5g_9, a0_5g_10, a0_5g_11, a0_5g_12, a0_5g_13, .ref a0_5_14])), (a0_5_14, .inr (6, [.int a0_5_14_0, a0_5_14g_1, .ref a0_5_14_2, .ref a0_5_14_3])), (a0_5_14_2, .inl (ka0_5_14_2, 3, .inl (fa0_5_14_2))), (a0_5_14_3, .inl (ka0_5_14_3, 3, .inl (fa0_5_14_3)))] [(ka0_3, .byte), (ka0_4, .long), (ka0_5_14_2, .int), (ka0_5_14_3, .int)] (fun A U => sxc_T ad A U ∧ va_Nw (.methodLinkNest RX3 223 yX7_within RX7) U) (fun A => va_Qi (fun (r : Int32) (_ : Unit) => ((r = 1) ∨ (r = 0)) ∧ r.toInt = (Ff_X3_readWatcher a0_1.toInt a0_2.toInt a0_6.toInt a0_7.toInt a0_9.toInt a0_11.toInt a0_12.toInt a0_13.toInt (fl_A fa0_3) (fl_L fa0_4) a0_5_0.toInt a0_5_14_0.toInt (fl_A fa0_5_14_2) (fl_A fa0_5_14_3)).1) (fun (_ : Unit) (t : State) => ∃ na0_1 : Int32, ∃ na0_2 : Int32, ∃ na0_6 : Int32, ∃ na0_8 : Int32, ∃ na0_9 : Int32, ∃ na0_10 : Int32, ∃ na0_11 : Int64, ∃ na0_12 : Int32, ∃ na0_13 : Int32, ∃ nfa0_4 : Nat → Int64, ∃ na0_5_14_0 : Int32, ∃ nfa0_5_14_2 : Nat → Int32, ∃ nfa0_5_14_3 : Nat → Int32, ((0 : Int) ≤ na0_6.toInt ∧ na0_6.toInt ≤ 12) ∧ ((0 : Int) ≤ na0_8.toInt ∧ na0_8.toInt ≤ 900) ∧ ((0 : Int) ≤ na0_9.toInt ∧ na0_9.toInt ≤ 900) ∧ ((0 : Int) ≤ na0_10.toInt ∧ na0_10.toInt ≤ 4) ∧ ((0 : Int) ≤ na0_5_14_0.toInt ∧ na0_5_14_0.toInt ≤ 3) ∧ (∀ k, (0 : Int) ≤ (nfa0_5_14_2 k).toInt ∧ (nfa0_5_14_2 k).toInt ≤ 80) ∧ (∀ k, (0 : Int) ≤ (nfa0_5_14_3 k).toInt ∧ (nfa0_5_14_3 k).toInt ≤ 80) ∧ ((Ff_X3_readWatcher a0_1.toInt a0_2.toInt a0_6.toInt a0_7.toInt a0_9.toInt a0_11.toInt a0_12.toInt a0_13.toInt (fl_A fa0_3) (fl_L fa0_4) a0_5_0.toInt a0_5_14_0.toInt (fl_A fa0_5_14_2) (fl_A fa0_5_14_3)).2 = (na0_1.toInt, na0_2.toInt, na0_6.toInt, na0_8.toInt, na0_9.toInt, na0_10.toInt, na0_11.toInt, na0_12.toInt, na0_13.toInt, (fl_L nfa0_4), na0_5_14_0.toInt, (fl_A nfa0_5_14_2), (fl_A nfa0_5_14_3))) ∧ ax_B dC dI A [(a0, .inr (3, [a0g_0, .int na0_1, .int na0_2, .ref a0_3, .ref a0_4, .ref a0_5, .int na0_6, .int a0_7, .int na0_8, .int na0_9, .int na0_10, .long na0_11, .int na0_12, .int na0_13])), (a0_3, .inl (ka0_3, 900, .inl (fa0_3))), (a0_4, .inl (ka0_4, 12, .inr (.inl (nfa0_4)))), (a0_5, .inr (0, [.int a0_5_0, a0_5g_1, a0_5g_2, a0_5g_3, a0_5g_4, a0_5g_5, a0_5g_6, a0_5g_7, a0_5g_8, a0_5g_9, a0_5g_10, a0_5g_11, a0_5g_12, a0_5g_13, .ref a0_5_14])), (a0_5_14, .inr (6, [.int na0_5_14_0, a0_5_14g_1, .ref a0_5_14_2, .ref a0_5_14_3])), (a0_5_14_2, .inl (ka0_5_14_2, 3, .inl (nfa0_5_14_2))), (a0_5_14_3, .inl (ka0_5_14_3, 3, .inl (nfa0_5_14_3)))] [(ka0_3, .byte), (ka0_4, .long), (ka0_5_14_2, .int), (ka0_5_14_3, .int)] t) A) := by
  refine zh (cc := cX3_readWatcher) (maxL := 2) (ret := (some .boolean)) zn_RX3 rfl (Nat.le_of_ble_eq_true rfl) (fun p e s m below meth c A ls hx hb hml hr hts (hown : s.vm.findClass RX3 = some m.cls) hlocks hA hS hP hK hD hE (hl : lv_has ls 2 [(0, .ref a0)]) => ?_)
  obtain ⟨hE0, hE1⟩ := hE
  generalize hFX : Ff_X3_readWatcher a0_1.toInt a0_2.toInt a0_6.toInt a0_7.toInt a0_9.toInt a0_11.toInt a0_12.toInt a0_13.toInt (fl_A fa0_3) (fl_L fa0_4) a0_5_0.toInt a0_5_14_0.toInt (fl_A fa0_5_14_2) (fl_A fa0_5_14_3) = FX at ⊢
  have hF0 := hFX.symm.trans (Ff_X3_readWatcher.eq_1 a0_1.toInt a0_2.toInt a0_6.toInt a0_7.toInt a0_9.toInt a0_11.toInt a0_12.toInt a0_13.toInt (fl_A fa0_3) (fl_L fa0_4) a0_5_0.toInt a0_5_14_0.toInt (fl_A fa0_5_14_2) (fl_A fa0_5_14_3))
  refine lv_aload_n hx hb dX3_readWatcher_0 rfl (lv_at hl 0 rfl) ?_
  have hKc := hK.sub (tys' := [(ka0_3, .byte)]) [0] rfl
  refine va_callv (va_runV (As := []) (rest := []) ⟨hx, hb, hml, hown, hts⟩ (f_X3_advance l dC dI s.heap.size a0 a0g_0 (.int a0_1) (.int a0_2) (.ref a0_4) (.ref a0_5) (.int a0_6) (.int a0_13) a0_3 a0_7 a0_8 a0_9 a0_10 a0_11 a0_12 ka0_3 fa0_3 ba0_7_l ba0_7_u ba0_8_l ba0_8_u ba0_9_l ba0_9_u ba0_10_l ba0_10_u) (cwV 0 hts gX3_readWatcher_X3_advance rfl rfl rfl zd_X3_advance ⟨Nat.le_of_ble_eq_true rfl, Nat.le_of_ble_eq_true rfl⟩) ⟨ax_blind (fun _ _ _ _ _ => trivial), zr_3 hKc (zp_P2 hP) (q0 := 0) rfl, ax_pre (zp_P2 hP) hKc (zp_D2 hD) (fun _ _ => trivial)⟩ rfl rfl hl.1 rfl (lv_room (Nat.le_of_ble_eq_true rfl)) dX3_readWatcher_1 ⟨Nat.le_of_ble_eq_true rfl, Nat.le_of_ble_eq_true rfl⟩) hS (fun q _ h => zp_F2 hD hS hA q h) (zp_F2 hD hS hA) (fun u t H locs ht hvm hw => zx_5 (fun v1na0_8 v1na0_9 v1na0_10 v1na0_11 v1na0_12 => zy_4 (fun bv1na0_8 bv1na0_9 bv1na0_10 hraw1_0 hB hz1 hk1 hS1 => zo2 hB ht hP hD hk1 (zp_F2 hD hS hA) hS1 (fun hP hK1 hD hS => ?_))))
  have hc1 : Ff_X3_advance a0_7.toInt a0_9.toInt a0_11.toInt a0_12.toInt (fl_A fa0_3) = (v1na0_8.toInt, v1na0_9.toInt, v1na0_10.toInt, v1na0_11.toInt, v1na0_12.toInt) := hraw1_0
  have hF0 := hF0.trans (fl_c5_eq hc1)
  refine lv_aload_n hx hb dX3_readWatcher_4 rfl (lv_at hl 0 rfl) ?_
  refine zc_cutc (wc := [(a0, .inr (3, [a0g_0, .int a0_1, .int a0_2, .ref a0_3, .ref a0_4, .ref a0_5, .int a0_6, .int a0_7, .int v1na0_8, .int v1na0_9, .int v1na0_10, .long v1na0_11, .int v1na0_12, .int a0_13])), (a0_4, .inl (ka0_4, 12, .inr (.inl (fa0_4)))), (a0_3, .inl (ka0_3, 900, .inl (fa0_3)))]) hP hD hS hA [0, 2, 1] (by decide +kernel) rfl (fun hPc hDc hFc hCc => ?_)
  have hKc := hK.sub (tys' := [(ka0_4, .long), (ka0_3, .byte)]) [1, 0] rfl
  refine va_calli (va_runV (As := []) (rest := []) ⟨hx, hb, hml, hown, hts⟩ (f_X3_takeName l dC dI H.size a0 a0g_0 (.ref a0_5) (.int a0_13) a0_1 a0_2 a0_3 a0_4 a0_6 a0_7 v1na0_8 v1na0_9 v1na0_10 v1na0_11 v1na0_12 ka0_4 fa0_4 ka0_3 fa0_3 ad ba0_6_l ba0_6_u ba0_7_l ba0_7_u bv1na0_8.1 bv1na0_8.2 bv1na0_9.1 bv1na0_9.2 bv1na0_10.1 bv1na0_10.2) (cwV 0 hts gX3_readWatcher_X3_takeName rfl rfl rfl zd_X3_takeName ⟨Nat.le_of_ble_eq_true rfl, Nat.le_of_ble_eq_true rfl⟩) ⟨ax_blind (fun _ _ _ _ hq => sxc_T_same _ _ _ _ (hq)), zr_3 hKc hPc (q0 := 0) rfl, ax_preE hPc hKc hDc (fun U hU hW => sxc_T_to hE0 hS.2.1 hFc hU hW)⟩ rfl rfl hl.1 rfl (lv_room (Nat.le_of_ble_eq_true rfl)) dX3_readWatcher_5 ⟨Nat.le_of_ble_eq_true rfl, Nat.le_of_ble_eq_true rfl⟩) hS (fun q _ h => hFc q h) hFc (fun r5 u t H locs ht hvm hw => zx_9 (fun v5na0_1 v5na0_2 v5na0_6 v5na0_8 v5na0_9 v5na0_10 v5na0_11 v5na0_12 v5nfa0_4 => zy_5 (fun bv5na0_6 bv5na0_8 bv5na0_9 bv5na0_10 hraw5_0 hB hz1 hk1 hS1 => zo hB ht hS1 (fun hP1 hK1 hD1 hS => ?_))))
  refine zc_backc (w := [(a0, .inr (3, [a0g_0, .int v5na0_1, .int v5na0_2, .ref a0_3, .ref a0_4, .ref a0_5, .int v5na0_6, .int a0_7, .int v5na0_8, .int v5na0_9, .int v5na0_10, .long v5na0_11, .int v5na0_12, .int a0_13])), (a0_3, .inl (ka0_3, 900, .inl (fa0_3))), (a0_4, .inl (ka0_4, 12, .inr (.inl (v5nfa0_4)))), (a0_5, .inr (0, [.int a0_5_0, a0_5g_1, a0_5g_2, a0_5g_3, a0_5g_4, a0_5g_5, a0_5g_6, a0_5g_7, a0_5g_8, a0_5g_9, a0_5g_10, a0_5g_11, a0_5g_12, a0_5g_13, .ref a0_5_14])), (a0_5_14, .inr (6, [.int a0_5_14_0, a0_5_14g_1, .ref a0_5_14_2, .ref a0_5_14_3])), (a0_5_14_2, .inl (ka0_5_14_2, 3, .inl (fa0_5_14_2))), (a0_5_14_3, .inl (ka0_5_14_3, 3, .inl (fa0_5_14_3)))]) hP hD hCc hk1 hFc hP1 hD1 [.inr 0, .inr 2, .inr 1, .inl 3, .inl 4, .inl 5, .inl 6] (by decide +kernel) rfl (fun hP hD => ?_)
  obtain ⟨hw, hfr5⟩ := hw
  have hc5 : Ff_X3_takeName a0_1.toInt a0_2.toInt a0_6.toInt a0_7.toInt v1na0_8.toInt v1na0_9.toInt v1na0_10.toInt v1na0_11.toInt v1na0_12.toInt (fl_L fa0_4) (fl_A fa0_3) = (r5.toInt, v5na0_1.toInt, v5na0_2.toInt, v5na0_6.toInt, v5na0_8.toInt, v5na0_9.toInt, v5na0_10.toInt, v5na0_11.toInt, v5na0_12.toInt, (fl_L v5nfa0_4)) := Prod.ext hfr5.symm hraw5_0
  have hF0 := hF0.trans (fl_c10_eq hc5)
  rcases hw with hw | hw
  · subst hw
    have hF0 := hF0.trans (if_pos (by decide))
    refine lv_if_eq (tgt := 30) hx hb dX3_readWatcher_8 (by decide) (fun c8 => absurd c8 (by decide +kernel)) (fun _ => ?_)
    refine lv_aload_n hx hb dX3_readWatcher_11 rfl (lv_at hl 0 rfl) ?_
    refine va_ldcS hx hb hown (sxc_R15 hE0) dX3_readWatcher_12 ?_
    refine lv_iconst (v := 0) hx hb dX3_readWatcher_14 zk_iconst_0 ?_
    refine lv_aload_n hx hb dX3_readWatcher_15 rfl (lv_at hl 0 rfl) ?_
    refine va_get (D := (dC, dI)) (ci := 3) (v := .ref a0_5) (C := RX3) (T := TX3) (N := 14) hx hb hts zi_X3_readWatcher_3 hown hK hP 0 rfl rfl 5 (by decide) (hts (.fieldLink RX3 22 "WaxTurns$Reade\x72" "draft" "LWaxTurns$Hall;") (zm_X3_readWatcher_r1 (List.mem_of_getElem? (i := 0) rfl))) (fun _ h9 => h9) rfl dX3_readWatcher_16 ?_
    refine va_get (D := (dC, dI)) (ci := 0) (v := .int a0_5_0) (C := RX0) (T := TX0) (N := 15) hx hb hts zi_X3_readWatcher_0 hown hK hP 3 rfl rfl 0 (by decide) (hts (.fieldLink RX3 104 "WaxTurns$Hall" "figures" "I") (zm_X3_readWatcher_r1 (List.mem_of_getElem? (i := 1) rfl))) (fun _ h9 => h9) rfl dX3_readWatcher_19 ?_
    refine lv_iconst (v := 1) hx hb dX3_readWatcher_22 zk_iconst_1 ?_
    refine lv_isub hx hb dX3_readWatcher_23 ?_
    refine lv_topi (fun x23 ex23 => ?_)
    have qx23 : x23.toInt = a0_5_0.toInt - (1 : Int32).toInt := ai_sub ex23 ⟨ba0_5_0_l, ba0_5_0_u⟩ ⟨zq1, zq0⟩ (by decide) (by decide)
    have bx23 : (-1 : Int) ≤ x23.toInt ∧ x23.toInt ≤ 8 := ⟨by rw [qx23]; exact Int.sub_le_sub ba0_5_0_l zq0, by rw [qx23]; exact Int.sub_le_sub ba0_5_0_u zq1⟩
    have wx23 : x23.toInt = a0_5_0.toInt - 1 := qx23
    have hF0 := hF0.trans (fl_lt_eq (show x23.toInt = a0_5_0.toInt - 1 from qx23))
    have hKc := hK.sub (tys' := [(ka0_3, .byte)]) [0] rfl
    refine va_calli (va_runV (As := [.ref (ad 15), .int 0, .int x23]) (rest := []) ⟨hx, hb, hml, hown, hts⟩ (f_X3_takeWhole l dC dI H.size a0 (ad 15) 0 x23 a0g_0 (.ref a0_4) (.ref a0_5) (.int v5na0_6) v5na0_1 v5na0_2 a0_3 a0_7 v5na0_8 v5na0_9 v5na0_10 v5na0_11 v5na0_12 a0_13 ka0_3 fa0_3 4 (sxc 15) ba0_7_l ba0_7_u bv5na0_8.1 bv5na0_8.2 bv5na0_9.1 bv5na0_9.2 bv5na0_10.1 bv5na0_10.2) (cwV 3 hts gX3_readWatcher_X3_takeWhole rfl rfl rfl zd_X3_takeWhole ⟨Nat.le_of_ble_eq_true rfl, Nat.le_of_ble_eq_true rfl⟩) ⟨ax_blind (fun _ _ _ _ hq => ⟨sxc_W_same _ _ _ _ (hq.1), va_Nw.same rfl rfl (hq.2)⟩), zr_3 hKc (zp_P2 hP) (q0 := 0) rfl, ax_preE (zp_P2 hP) hKc (zp_D2 hD) (fun U hU hW => ⟨sxc_W_to (sxc_T_w hE0 (i := 15) (by decide)) hS.2.1 (zp_F2 hD hS hA) hU hW, va_Nw.warmM hW hE1⟩)⟩ rfl rfl hl.1 rfl (lv_room (Nat.le_of_ble_eq_true rfl)) dX3_readWatcher_24 ⟨Nat.le_of_ble_eq_true rfl, Nat.le_of_ble_eq_true rfl⟩) hS (fun q _ h => zp_F2 hD hS hA q h) (zp_F2 hD hS hA) (fun r24 v24na0_13 t H1 locs ht hvm hw => zx_7 (fun v24na0_1 v24na0_2 v24na0_8 v24na0_9 v24na0_10 v24na0_11 v24na0_12 => zy_4 (fun bv24na0_8 bv24na0_9 bv24na0_10 hraw24_0 hB hz1 hk1 hS1 => zo2 hB ht hP hD hk1 (zp_F2 hD hS hA) hS1 (fun hP hK1 hD hS => ?_))))
    generalize H1 = H at hP hS ⊢
    obtain ⟨hw, hfr24⟩ := hw
    rw [show (0 : Int32).toInt = 0 from by decide, show ((4 : Nat) : Int) = 4 from rfl] at hfr24 hraw24_0
    have hc24 : Ff_X3_takeWhole 0 x23.toInt v5na0_1.toInt v5na0_2.toInt a0_7.toInt v5na0_8.toInt v5na0_9.toInt v5na0_10.toInt v5na0_11.toInt v5na0_12.toInt a0_13.toInt (fl_A fa0_3) 4 (fl_A (sxc 15)) = (r24.toInt, v24na0_1.toInt, v24na0_2.toInt, v24na0_8.toInt, v24na0_9.toInt, v24na0_10.toInt, v24na0_11.toInt, v24na0_12.toInt, v24na0_13.toInt) := Prod.ext hfr24.symm hraw24_0
    have hF0 := hF0.trans (fl_c9_eq hc24)
    rcases hw with hw | hw
    · obtain ⟨hw, h24⟩ := hw
      subst hw
      have l24k0_v24na0_13 : (0 : Int) ≤ v24na0_13.toInt := Int.le_trans zq5 h24.1
      have u24k0_v24na0_13 : v24na0_13.toInt ≤ (8 : Int) := Int.le_trans h24.2 bx23.2
      have hF0 := hF0.trans (if_pos (by decide))
      refine lv_if_ne (tgt := 32) hx hb dX3_readWatcher_27 (by decide) (fun _ => ?_) (fun c27 => absurd c27 (by decide +kernel))
      refine lv_aload_n hx hb dX3_readWatcher_32 rfl (lv_at hl 0 rfl) ?_
      refine va_get (D := (dC, dI)) (ci := 3) (v := .int v24na0_13) (C := RX3) (T := TX3) (N := 14) hx hb hts zi_X3_readWatcher_3 hown hK hP 0 rfl rfl 13 (by decide) (hts (.fieldLink RX3 156 "WaxTurns$Reade\x72" "taken" "I") (zm_X3_readWatcher_r1 (List.mem_of_getElem? (i := 2) rfl))) (fun _ h9 => h9) rfl dX3_readWatcher_33 ?_
      refine lv_istore_n (lv' := [(1, .int v24na0_13), (0, .ref a0)]) hx hb dX3_readWatcher_36 rfl hl (by decide) rfl (fun ls hl => ?_)
      refine lv_aload_n hx hb dX3_readWatcher_37 rfl (lv_at hl 1 rfl) ?_
      refine va_ldcS hx hb hown (sxc_R16 hE0) dX3_readWatcher_38 ?_
      refine lv_iconst (v := 0) hx hb dX3_readWatcher_40 zk_iconst_0 ?_
      refine lv_aload_n hx hb dX3_readWatcher_41 rfl (lv_at hl 1 rfl) ?_
      refine va_get (D := (dC, dI)) (ci := 3) (v := .ref a0_5) (C := RX3) (T := TX3) (N := 14) hx hb hts zi_X3_readWatcher_3 hown hK hP 0 rfl rfl 5 (by decide) (hts (.fieldLink RX3 22 "WaxTurns$Reade\x72" "draft" "LWaxTurns$Hall;") (zm_X3_readWatcher_r1 (List.mem_of_getElem? (i := 0) rfl))) (fun _ h9 => h9) rfl dX3_readWatcher_42 ?_
      refine va_get (D := (dC, dI)) (ci := 0) (v := .int a0_5_0) (C := RX0) (T := TX0) (N := 15) hx hb hts zi_X3_readWatcher_0 hown hK hP 3 rfl rfl 0 (by decide) (hts (.fieldLink RX3 104 "WaxTurns$Hall" "figures" "I") (zm_X3_readWatcher_r1 (List.mem_of_getElem? (i := 1) rfl))) (fun _ h9 => h9) rfl dX3_readWatcher_45 ?_
      refine lv_iconst (v := 1) hx hb dX3_readWatcher_48 zk_iconst_1 ?_
      refine lv_isub hx hb dX3_readWatcher_49 ?_
      refine ax_ti x23 ex23.symm ?_
      have hKc := hK.sub (tys' := [(ka0_3, .byte)]) [0] rfl
      refine va_calli (va_runV (As := [.ref (ad 16), .int 0, .int x23]) (rest := []) ⟨hx, hb, hml, hown, hts⟩ (f_X3_takeWhole l dC dI H.size a0 (ad 16) 0 x23 a0g_0 (.ref a0_4) (.ref a0_5) (.int v5na0_6) v24na0_1 v24na0_2 a0_3 a0_7 v24na0_8 v24na0_9 v24na0_10 v24na0_11 v24na0_12 v24na0_13 ka0_3 fa0_3 2 (sxc 16) ba0_7_l ba0_7_u bv24na0_8.1 bv24na0_8.2 bv24na0_9.1 bv24na0_9.2 bv24na0_10.1 bv24na0_10.2) (cwV 3 hts gX3_readWatcher_X3_takeWhole rfl rfl rfl zd_X3_takeWhole ⟨Nat.le_of_ble_eq_true rfl, Nat.le_of_ble_eq_true rfl⟩) ⟨ax_blind (fun _ _ _ _ hq => ⟨sxc_W_same _ _ _ _ (hq.1), va_Nw.same rfl rfl (hq.2)⟩), zr_3 hKc (zp_P2 hP) (q0 := 0) rfl, ax_preE (zp_P2 hP) hKc (zp_D2 hD) (fun U hU hW => ⟨sxc_W_to (sxc_T_w hE0 (i := 16) (by decide)) hS.2.1 (zp_F2 hD hS hA) hU hW, va_Nw.warmM hW hE1⟩)⟩ rfl rfl hl.1 rfl (lv_room (Nat.le_of_ble_eq_true rfl)) dX3_readWatcher_50 ⟨Nat.le_of_ble_eq_true rfl, Nat.le_of_ble_eq_true rfl⟩) hS (fun q _ h => zp_F2 hD hS hA q h) (zp_F2 hD hS hA) (fun r50 v50na0_13 t H1 locs ht hvm hw => zx_7 (fun v50na0_1 v50na0_2 v50na0_8 v50na0_9 v50na0_10 v50na0_11 v50na0_12 => zy_4 (fun bv50na0_8 bv50na0_9 bv50na0_10 hraw50_0 hB hz1 hk1 hS1 => zo2 hB ht hP hD hk1 (zp_F2 hD hS hA) hS1 (fun hP hK1 hD hS => ?_))))
      generalize H1 = H at hP hS ⊢
      obtain ⟨hw, hfr50⟩ := hw
      rw [show (0 : Int32).toInt = 0 from by decide, show ((2 : Nat) : Int) = 2 from rfl] at hfr50 hraw50_0
      have hc50 : Ff_X3_takeWhole 0 x23.toInt v24na0_1.toInt v24na0_2.toInt a0_7.toInt v24na0_8.toInt v24na0_9.toInt v24na0_10.toInt v24na0_11.toInt v24na0_12.toInt v24na0_13.toInt (fl_A fa0_3) 2 (fl_A (sxc 16)) = (r50.toInt, v50na0_1.toInt, v50na0_2.toInt, v50na0_8.toInt, v50na0_9.toInt, v50na0_10.toInt, v50na0_11.toInt, v50na0_12.toInt, v50na0_13.toInt) := Prod.ext hfr50.symm hraw50_0
      have hF0 := hF0.trans (fl_c9_eq hc50)
      rcases hw with hw | hw
      · obtain ⟨hw, h50⟩ := hw
        subst hw
        have l50k0_v50na0_13 : (0 : Int) ≤ v50na0_13.toInt := Int.le_trans zq5 h50.1
        have u50k0_v50na0_13 : v50na0_13.toInt ≤ (8 : Int) := Int.le_trans h50.2 bx23.2
        have hF0 := hF0.trans (if_pos (by decide))
        refine lv_if_ne (tgt := 58) hx hb dX3_readWatcher_53 (by decide) (fun _ => ?_) (fun c53 => absurd c53 (by decide +kernel))
        refine lv_aload_n hx hb dX3_readWatcher_58 rfl (lv_at hl 1 rfl) ?_
        refine va_get (D := (dC, dI)) (ci := 3) (v := .ref a0_5) (C := RX3) (T := TX3) (N := 14) hx hb hts zi_X3_readWatcher_3 hown hK hP 0 rfl rfl 5 (by decide) (hts (.fieldLink RX3 22 "WaxTurns$Reade\x72" "draft" "LWaxTurns$Hall;") (zm_X3_readWatcher_r1 (List.mem_of_getElem? (i := 0) rfl))) (fun _ h9 => h9) rfl dX3_readWatcher_59 ?_
        refine va_get (D := (dC, dI)) (ci := 0) (v := .ref a0_5_14) (C := RX0) (T := TX0) (N := 15) hx hb hts zi_X3_readWatcher_0 hown hK hP 3 rfl rfl 14 (by decide) (hts (.fieldLink RX3 133 "WaxTurns$Hall" "watchers" "LWaxTurns$Watchers;") (zm_X3_readWatcher_r1 (List.mem_of_getElem? (i := 3) rfl))) (fun _ h9 => h9) rfl dX3_readWatcher_62 ?_
        refine lv_iload_n hx hb dX3_readWatcher_65 rfl (lv_at hl 0 rfl) ?_
        refine lv_aload_n hx hb dX3_readWatcher_66 rfl (lv_at hl 1 rfl) ?_
        refine va_get (D := (dC, dI)) (ci := 3) (v := .int v50na0_13) (C := RX3) (T := TX3) (N := 14) hx hb hts zi_X3_readWatcher_3 hown hK hP 0 rfl rfl 13 (by decide) (hts (.fieldLink RX3 156 "WaxTurns$Reade\x72" "taken" "I") (zm_X3_readWatcher_r1 (List.mem_of_getElem? (i := 2) rfl))) (fun _ h9 => h9) rfl dX3_readWatcher_67 ?_
        refine zc_cutc (wc := [(a0_5_14, .inr (6, [.int a0_5_14_0, a0_5_14g_1, .ref a0_5_14_2, .ref a0_5_14_3])), (a0_5_14_2, .inl (ka0_5_14_2, 3, .inl (fa0_5_14_2))), (a0_5_14_3, .inl (ka0_5_14_3, 3, .inl (fa0_5_14_3)))]) hP hD hS hA [4, 5, 6] (by decide +kernel) rfl (fun hPc hDc hFc hCc => ?_)
        have hKc := hK.sub (tys' := [(ka0_5_14_2, .int), (ka0_5_14_3, .int)]) [2, 3] rfl
        refine va_callv (va_runV (As := [.int v24na0_13, .int v50na0_13]) (rest := []) ⟨hx, hb, hml, hown, hts⟩ (f_X6_add l dC dI H.size a0_5_14 v24na0_13 v50na0_13 a0_5_14_0 a0_5_14g_1 a0_5_14_2 a0_5_14_3 ka0_5_14_2 fa0_5_14_2 ka0_5_14_3 fa0_5_14_3 l24k0_v24na0_13 u24k0_v24na0_13 l50k0_v50na0_13 u50k0_v50na0_13 ba0_5_14_0_l ba0_5_14_0_u bfa0_5_14_2 bfa0_5_14_3) (cwV 2 hts gX3_readWatcher_X6_add rfl rfl rfl zd_X6_add ⟨Nat.le_of_ble_eq_true rfl, Nat.le_of_ble_eq_true rfl⟩) ⟨ax_blind (fun _ _ _ _ _ => trivial), zr_6 hKc hPc (q0 := 0) rfl, ax_pre hPc hKc hDc (fun _ _ => trivial)⟩ rfl rfl hl.1 rfl (lv_room (Nat.le_of_ble_eq_true rfl)) dX3_readWatcher_70 ⟨Nat.le_of_ble_eq_true rfl, Nat.le_of_ble_eq_true rfl⟩) hS (fun q _ h => hFc q h) hFc (fun u t H locs ht hvm hw => zx_3 (fun v70na0_0 v70nfa0_2 v70nfa0_3 => zy_4 (fun bv70na0_0 bv70nfa0_2 bv70nfa0_3 hraw70_0 hB hz1 hk1 hS1 => zo hB ht hS1 (fun hP1 hK1 hD1 hS => ?_))))
        refine zc_backc (w := [(a0, .inr (3, [a0g_0, .int v50na0_1, .int v50na0_2, .ref a0_3, .ref a0_4, .ref a0_5, .int v5na0_6, .int a0_7, .int v50na0_8, .int v50na0_9, .int v50na0_10, .long v50na0_11, .int v50na0_12, .int v50na0_13])), (a0_3, .inl (ka0_3, 900, .inl (fa0_3))), (a0_4, .inl (ka0_4, 12, .inr (.inl (v5nfa0_4)))), (a0_5, .inr (0, [.int a0_5_0, a0_5g_1, a0_5g_2, a0_5g_3, a0_5g_4, a0_5g_5, a0_5g_6, a0_5g_7, a0_5g_8, a0_5g_9, a0_5g_10, a0_5g_11, a0_5g_12, a0_5g_13, .ref a0_5_14])), (a0_5_14, .inr (6, [.int v70na0_0, a0_5_14g_1, .ref a0_5_14_2, .ref a0_5_14_3])), (a0_5_14_2, .inl (ka0_5_14_2, 3, .inl (v70nfa0_2))), (a0_5_14_3, .inl (ka0_5_14_3, 3, .inl (v70nfa0_3)))]) hP hD hCc hk1 hFc hP1 hD1 [.inl 0, .inl 1, .inl 2, .inl 3, .inr 0, .inr 1, .inr 2] (by decide +kernel) rfl (fun hP hD => ?_)
        have hc70 : Ff_X6_add v24na0_13.toInt v50na0_13.toInt a0_5_14_0.toInt (fl_A fa0_5_14_2) (fl_A fa0_5_14_3) = (v70na0_0.toInt, (fl_A v70nfa0_2), (fl_A v70nfa0_3)) := hraw70_0
        have hF0 := hF0.trans (fl_c3_eq hc70)
        refine lv_iconst (v := 1) hx hb dX3_readWatcher_73 zk_iconst_1 ?_
        have hFe : FX = (1, v50na0_1.toInt, v50na0_2.toInt, v5na0_6.toInt, v50na0_8.toInt, v50na0_9.toInt, v50na0_10.toInt, v50na0_11.toInt, v50na0_12.toInt, v50na0_13.toInt, (fl_L v5nfa0_4), v70na0_0.toInt, (fl_A v70nfa0_2), (fl_A v70nfa0_3)) := hF0
        exact W.zret (v := 1) hx hb hr rfl (fun t ht hW => ⟨⟨1, (), rfl, ⟨(Or.inl (rfl)), (congrArg Prod.fst hFe).symm⟩, v50na0_1, v50na0_2, v5na0_6, v50na0_8, v50na0_9, v50na0_10, v50na0_11, v50na0_12, v50na0_13, v5nfa0_4, v70na0_0, v70nfa0_2, v70nfa0_3, ⟨bv5na0_6.1, bv5na0_6.2⟩, ⟨bv50na0_8.1, bv50na0_8.2⟩, ⟨bv50na0_9.1, bv50na0_9.2⟩, ⟨bv50na0_10.1, bv50na0_10.2⟩, ⟨bv70na0_0.1, bv70na0_0.2⟩, bv70nfa0_2, bv70nfa0_3, (congrArg Prod.snd hFe), by rw [ht]; exact hP, va_K.moved hW.alike hK, hD⟩, hS.F ht⟩) hS.2.2 dX3_readWatcher_74
      · subst hw
        have hF0 := hF0.trans (if_neg (by decide))
        refine lv_if_ne (tgt := 58) hx hb dX3_readWatcher_53 (by decide) (fun c53 => absurd (by decide +kernel) c53) (fun _ => ?_)
        refine lv_iconst (v := 0) hx hb dX3_readWatcher_56 zk_iconst_0 ?_
        have hFe : FX = (0, v50na0_1.toInt, v50na0_2.toInt, v5na0_6.toInt, v50na0_8.toInt, v50na0_9.toInt, v50na0_10.toInt, v50na0_11.toInt, v50na0_12.toInt, v50na0_13.toInt, (fl_L v5nfa0_4), a0_5_14_0.toInt, (fl_A fa0_5_14_2), (fl_A fa0_5_14_3)) := hF0
        exact W.zret (v := 0) hx hb hr rfl (fun t ht hW => ⟨⟨0, (), rfl, ⟨(Or.inr (rfl)), (congrArg Prod.fst hFe).symm⟩, v50na0_1, v50na0_2, v5na0_6, v50na0_8, v50na0_9, v50na0_10, v50na0_11, v50na0_12, v50na0_13, v5nfa0_4, a0_5_14_0, fa0_5_14_2, fa0_5_14_3, ⟨bv5na0_6.1, bv5na0_6.2⟩, ⟨bv50na0_8.1, bv50na0_8.2⟩, ⟨bv50na0_9.1, bv50na0_9.2⟩, ⟨bv50na0_10.1, bv50na0_10.2⟩, ⟨ba0_5_14_0_l, ba0_5_14_0_u⟩, bfa0_5_14_2, bfa0_5_14_3, (congrArg Prod.snd hFe), by rw [ht]; exact hP, va_K.moved hW.alike hK, hD⟩, hS.F ht⟩) hS.2.2 dX3_readWatcher_57
    · subst hw
      have hF0 := hF0.trans (if_neg (by decide))
      refine lv_if_ne (tgt := 32) hx hb dX3_readWatcher_27 (by decide) (fun c27 => absurd (by decide +kernel) c27) (fun _ => ?_)
      refine lv_iconst (v := 0) hx hb dX3_readWatcher_30 zk_iconst_0 ?_
      have hFe : FX = (0, v24na0_1.toInt, v24na0_2.toInt, v5na0_6.toInt, v24na0_8.toInt, v24na0_9.toInt, v24na0_10.toInt, v24na0_11.toInt, v24na0_12.toInt, v24na0_13.toInt, (fl_L v5nfa0_4), a0_5_14_0.toInt, (fl_A fa0_5_14_2), (fl_A fa0_5_14_3)) := hF0
      exact W.zret (v := 0) hx hb hr rfl (fun t ht hW => ⟨⟨0, (), rfl, ⟨(Or.inr (rfl)), (congrArg Prod.fst hFe).symm⟩, v24na0_1, v24na0_2, v5na0_6, v24na0_8, v24na0_9, v24na0_10, v24na0_11, v24na0_12, v24na0_13, v5nfa0_4, a0_5_14_0, fa0_5_14_2, fa0_5_14_3, ⟨bv5na0_6.1, bv5na0_6.2⟩, ⟨bv24na0_8.1, bv24na0_8.2⟩, ⟨bv24na0_9.1, bv24na0_9.2⟩, ⟨bv24na0_10.1, bv24na0_10.2⟩, ⟨ba0_5_14_0_l, ba0_5_14_0_u⟩, bfa0_5_14_2, bfa0_5_14_3, (congrArg Prod.snd hFe), by rw [ht]; exact hP, va_K.moved hW.alike hK, hD⟩, hS.F ht⟩) hS.2.2 dX3_readWatcher_31
  · subst hw
    have hF0 := hF0.trans (if_neg (by decide))
    refine lv_if_eq (tgt := 30) hx hb dX3_readWatcher_8 (by decide) (fun _ => ?_) (fun c8 => absurd (by decide +kernel) c8)
    refine lv_iconst (v := 0) hx hb dX3_readWatcher_30 zk_iconst_0 ?_
    have hFe : FX = (0, v5na0_1.toInt, v5na0_2.toInt, v5na0_6.toInt, v5na0_8.toInt, v5na0_9.toInt, v5na0_10.toInt, v5na0_11.toInt, v5na0_12.toInt, a0_13.toInt, (fl_L v5nfa0_4), a0_5_14_0.toInt, (fl_A fa0_5_14_2), (fl_A fa0_5_14_3)) := hF0
    exact W.zret (v := 0) hx hb hr rfl (fun t ht hW => ⟨⟨0, (), rfl, ⟨(Or.inr (rfl)), (congrArg Prod.fst hFe).symm⟩, v5na0_1, v5na0_2, v5na0_6, v5na0_8, v5na0_9, v5na0_10, v5na0_11, v5na0_12, a0_13, v5nfa0_4, a0_5_14_0, fa0_5_14_2, fa0_5_14_3, ⟨bv5na0_6.1, bv5na0_6.2⟩, ⟨bv5na0_8.1, bv5na0_8.2⟩, ⟨bv5na0_9.1, bv5na0_9.2⟩, ⟨bv5na0_10.1, bv5na0_10.2⟩, ⟨ba0_5_14_0_l, ba0_5_14_0_u⟩, bfa0_5_14_2, bfa0_5_14_3, (congrArg Prod.snd hFe), by rw [ht]; exact hP, va_K.moved hW.alike hK, hD⟩, hS.F ht⟩) hS.2.2 dX3_readWatcher_31

set_option maxHeartbeats 4000000 in
set_option maxRecDepth 100000 in
theorem f_X3_readSeen (l : Launch) (dC : Nat → ClassId) (dI : Nat → Nat → Nat) (sz : Nat) (a0 : Nat) (a0g_0 a0g_4 a0g_6 : Value) (a0_1 : Int32) (a0_2 : Int32) (a0_3 : Nat) (a0_5 : Nat) (a0_7 : Int32) (a0_8 : Int32) (a0_9 : Int32) (a0_10 : Int32) (a0_11 : Int64) (a0_12 : Int32) (a0_13 : Int32) (a0_5_0 : Int32) (a0_5g_1 a0_5g_2 a0_5g_3 a0_5g_4 a0_5g_5 a0_5g_6 a0_5g_7 a0_5g_8 a0_5g_10 a0_5g_11 a0_5g_14 : Value) (a0_5_9 : Int32) (a0_5_12 : Nat) (a0_5_13 : Nat) (ka0_3 : ClassId) (fa0_3 : Nat → Int32) (ka0_5_13 : ClassId) (fa0_5_13 : Nat → Int32) (ka0_5_12 : ClassId) (fa0_5_12 : Nat → Int32) (ad : Nat → Nat) (ba0_7_l : (0 : Int) ≤ a0_7.toInt) (ba0_7_u : a0_7.toInt ≤ (900 : Int)) (ba0_8_l : (0 : Int) ≤ a0_8.toInt) (ba0_8_u : a0_8.toInt ≤ (900 : Int)) (ba0_9_l : (0 : Int) ≤ a0_9.toInt) (ba0_9_u : a0_9.toInt ≤ (900 : Int)) (ba0_10_l : (0 : Int) ≤ a0_10.toInt) (ba0_10_u : a0_10.toInt ≤ (4 : Int)) (ba0_5_0_l : (0 : Int) ≤ a0_5_0.toInt) (ba0_5_0_u : a0_5_0.toInt ≤ (9 : Int)) (ba0_5_9_l : (0 : Int) ≤ a0_5_9.toInt) (ba0_5_9_u : a0_5_9.toInt ≤ (6 : Int)) (bfa0_5_13 : (∀ k, (0 : Int) ≤ (fa0_5_13 k).toInt ∧ (fa0_5_13 k).toInt ≤ 999)) : zm l yX3_readSeen wsX3_readSeen ({ frames := 6, cells := 0, slots := 0, locals := 132 }) [.ref a0] dC dI sz [(a0, .inr (3, [a0g_0, .int a0_1, .int a0_2, .ref a0_3, a0g_4, .ref a0_5, a0g_6, .int a0_7, .int a0_8, .int a0_9, .int a0_10, .long a0_11, .int a0_12, .int a0_13])), (a0_5, .inr (0, [.int a0_5_0, a0_5g_1, a0_5g_2, a0_5g_3, a0_5g_4, a0_5g_5, a0_5g_6, a0_5g_7, a0_5g_8, .int a0_5_9, a0_5g_10, a0_5g_11, .ref a0_5_12, .ref a0_5_13, a0_5g_14])), (a0_3, .inl (ka0_3, 900, .inl (fa0_3))), (a0_5_13, .inl (ka0_5_13, 6, .inl (fa0_5_13))), (a0_5_12, .inl (ka0_5_12, 6, .inl (fa0_5_12)))] [(ka0_3, .byte), (ka0_5_13, .int), (ka0_5_12, .int)] (fun A U => sxc_T ad A U ∧ va_Nw (.methodLinkNest RX3 223 yX7_within RX7) U) (fun A => va_Qi (fun (r : Int32) (_ : Unit) => ((r = 1) ∨ (r = 0)) ∧ r.toInt = (Ff_X3_readSeen a0_1.toInt a0_2.toInt a0_7.toInt a0_8.toInt a0_9.toInt a0_10.toInt a0_11.toInt a0_12.toInt a0_13.toInt a0_5_0.toInt a0_5_9.toInt (fl_A fa0_3) (fl_A fa0_5_13) (fl_A fa0_5_12)).1) (fun (_ : Unit) (t : State) => ∃ na0_1 : Int32, ∃ na0_2 : Int32, ∃ na0_8 : Int32, ∃ na0_9 : Int32, ∃ na0_10 : Int32, ∃ na0_11 : Int64, ∃ na0_12 : Int32, ∃ na0_13 : Int32, ∃ na0_5_9 : Int32, ∃ nfa0_5_13 : Nat → Int32, ∃ nfa0_5_12 : Nat → Int32, ((0 : Int) ≤ na0_8.toInt ∧ na0_8.toInt ≤ 900) ∧ ((0 : Int) ≤ na0_9.toInt ∧ na0_9.toInt ≤ 900) ∧ ((0 : Int) ≤ na0_10.toInt ∧ na0_10.toInt ≤ 4) ∧ ((0 : Int) ≤ na0_5_9.toInt ∧ na0_5_9.toInt ≤ 6) ∧ (∀ k, (0 : Int) ≤ (nfa0_5_13 k).toInt ∧ (nfa0_5_13 k).toInt ≤ 999) ∧ ((Ff_X3_readSeen a0_1.toInt a0_2.toInt a0_7.toInt a0_8.toInt a0_9.toInt a0_10.toInt a0_11.toInt a0_12.toInt a0_13.toInt a0_5_0.toInt a0_5_9.toInt (fl_A fa0_3) (fl_A fa0_5_13) (fl_A fa0_5_12)).2 = (na0_1.toInt, na0_2.toInt, na0_8.toInt, na0_9.toInt, na0_10.toInt, na0_11.toInt, na0_12.toInt, na0_13.toInt, na0_5_9.toInt, (fl_A nfa0_5_13), (fl_A nfa0_5_12))) ∧ ax_B dC dI A [(a0, .inr (3, [a0g_0, .int na0_1, .int na0_2, .ref a0_3, a0g_4, .ref a0_5, a0g_6, .int a0_7, .int na0_8, .int na0_9, .int na0_10, .long na0_11, .int na0_12, .int na0_13])), (a0_5, .inr (0, [.int a0_5_0, a0_5g_1, a0_5g_2, a0_5g_3, a0_5g_4, a0_5g_5, a0_5g_6, a0_5g_7, a0_5g_8, .int na0_5_9, a0_5g_10, a0_5g_11, .ref a0_5_12, .ref a0_5_13, a0_5g_14])), (a0_3, .inl (ka0_3, 900, .inl (fa0_3))), (a0_5_13, .inl (ka0_5_13, 6, .inl (nfa0_5_13))), (a0_5_12, .inl (ka0_5_12, 6, .inl (nfa0_5_12)))] [(ka0_3, .byte), (ka0_5_13, .int), (ka0_5_12, .int)] t) A) := by
  refine zh (cc := cX3_readSeen) (maxL := 2) (ret := (some .boolean)) zn_RX3 rfl (Nat.le_of_ble_eq_true rfl) (fun p e s m below meth c A ls hx hb hml hr hts (hown : s.vm.findClass RX3 = some m.cls) hlocks hA hS hP hK hD hE (hl : lv_has ls 2 [(0, .ref a0)]) => ?_)
  obtain ⟨hE0, hE1⟩ := hE
  generalize hFX : Ff_X3_readSeen a0_1.toInt a0_2.toInt a0_7.toInt a0_8.toInt a0_9.toInt a0_10.toInt a0_11.toInt a0_12.toInt a0_13.toInt a0_5_0.toInt a0_5_9.toInt (fl_A fa0_3) (fl_A fa0_5_13) (fl_A fa0_5_12) = FX at ⊢
  have hF0 := hFX.symm.trans (Ff_X3_readSeen.eq_1 a0_1.toInt a0_2.toInt a0_7.toInt a0_8.toInt a0_9.toInt a0_10.toInt a0_11.toInt a0_12.toInt a0_13.toInt a0_5_0.toInt a0_5_9.toInt (fl_A fa0_3) (fl_A fa0_5_13) (fl_A fa0_5_12))
  refine lv_aload_n hx hb dX3_readSeen_0 rfl (lv_at hl 0 rfl) ?_
  refine va_ldcS hx hb hown (sxc_R4 hE0) dX3_readSeen_1 ?_
  refine lv_iconst (v := 0) hx hb dX3_readSeen_3 zk_iconst_0 ?_
  refine lv_aload_n hx hb dX3_readSeen_4 rfl (lv_at hl 0 rfl) ?_
  refine va_get (D := (dC, dI)) (ci := 3) (v := .ref a0_5) (C := RX3) (T := TX3) (N := 14) hx hb hts zi_X3_readSeen_3 hown hK hP 0 rfl rfl 5 (by decide) (hts (.fieldLink RX3 22 "WaxTurns$Reade\x72" "draft" "LWaxTurns$Hall;") (zm_X3_readSeen_r1 (List.mem_of_getElem? (i := 0) rfl))) (fun _ h9 => h9) rfl dX3_readSeen_5 ?_
  refine va_get (D := (dC, dI)) (ci := 0) (v := .int a0_5_0) (C := RX0) (T := TX0) (N := 15) hx hb hts zi_X3_readSeen_0 hown hK hP 1 rfl rfl 0 (by decide) (hts (.fieldLink RX3 104 "WaxTurns$Hall" "figures" "I") (zm_X3_readSeen_r1 (List.mem_of_getElem? (i := 1) rfl))) (fun _ h9 => h9) rfl dX3_readSeen_8 ?_
  refine lv_iconst (v := 1) hx hb dX3_readSeen_11 zk_iconst_1 ?_
  refine lv_isub hx hb dX3_readSeen_12 ?_
  refine lv_topi (fun x12 ex12 => ?_)
  have qx12 : x12.toInt = a0_5_0.toInt - (1 : Int32).toInt := ai_sub ex12 ⟨ba0_5_0_l, ba0_5_0_u⟩ ⟨zq1, zq0⟩ (by decide) (by decide)
  have bx12 : (-1 : Int) ≤ x12.toInt ∧ x12.toInt ≤ 8 := ⟨by rw [qx12]; exact Int.sub_le_sub ba0_5_0_l zq0, by rw [qx12]; exact Int.sub_le_sub ba0_5_0_u zq1⟩
  have wx12 : x12.toInt = a0_5_0.toInt - 1 := qx12
  have hF0 := hF0.trans (fl_lt_eq (show x12.toInt = a0_5_0.toInt - 1 from qx12))
  refine zc_cutc (wc := [(a0, .inr (3, [a0g_0, .int a0_1, .int a0_2, .ref a0_3, a0g_4, .ref a0_5, a0g_6, .int a0_7, .int a0_8, .int a0_9, .int a0_10, .long a0_11, .int a0_12, .int a0_13])), (a0_3, .inl (ka0_3, 900, .inl (fa0_3)))]) hP hD hS hA [0, 2] (by decide +kernel) rfl (fun hPc hDc hFc hCc => ?_)
  have hKc := hK.sub (tys' := [(ka0_3, .byte)]) [0] rfl
  refine va_calli (va_runV (As := [.ref (ad 4), .int 0, .int x12]) (rest := []) ⟨hx, hb, hml, hown, hts⟩ (f_X3_takeWhole l dC dI s.heap.size a0 (ad 4) 0 x12 a0g_0 a0g_4 (.ref a0_5) a0g_6 a0_1 a0_2 a0_3 a0_7 a0_8 a0_9 a0_10 a0_11 a0_12 a0_13 ka0_3 fa0_3 4 (sxc 4) ba0_7_l ba0_7_u ba0_8_l ba0_8_u ba0_9_l ba0_9_u ba0_10_l ba0_10_u) (cwV 3 hts gX3_readSeen_X3_takeWhole rfl rfl rfl zd_X3_takeWhole ⟨Nat.le_of_ble_eq_true rfl, Nat.le_of_ble_eq_true rfl⟩) ⟨ax_blind (fun _ _ _ _ hq => ⟨sxc_W_same _ _ _ _ (hq.1), va_Nw.same rfl rfl (hq.2)⟩), zr_3 hKc hPc (q0 := 0) rfl, ax_preE hPc hKc hDc (fun U hU hW => ⟨sxc_W_to (sxc_T_w hE0 (i := 4) (by decide)) hS.2.1 hFc hU hW, va_Nw.warmM hW hE1⟩)⟩ rfl rfl hl.1 rfl (lv_room (Nat.le_of_ble_eq_true rfl)) dX3_readSeen_13 ⟨Nat.le_of_ble_eq_true rfl, Nat.le_of_ble_eq_true rfl⟩) hS (fun q _ h => hFc q h) hFc (fun r13 v13na0_13 t H1 locs ht hvm hw => zx_7 (fun v13na0_1 v13na0_2 v13na0_8 v13na0_9 v13na0_10 v13na0_11 v13na0_12 => zy_4 (fun bv13na0_8 bv13na0_9 bv13na0_10 hraw13_0 hB hz1 hk1 hS1 => zo hB ht hS1 (fun hP1 hK1 hD1 hS => ?_))))
  refine zc_backc (w := [(a0, .inr (3, [a0g_0, .int v13na0_1, .int v13na0_2, .ref a0_3, a0g_4, .ref a0_5, a0g_6, .int a0_7, .int v13na0_8, .int v13na0_9, .int v13na0_10, .long v13na0_11, .int v13na0_12, .int v13na0_13])), (a0_5, .inr (0, [.int a0_5_0, a0_5g_1, a0_5g_2, a0_5g_3, a0_5g_4, a0_5g_5, a0_5g_6, a0_5g_7, a0_5g_8, .int a0_5_9, a0_5g_10, a0_5g_11, .ref a0_5_12, .ref a0_5_13, a0_5g_14])), (a0_3, .inl (ka0_3, 900, .inl (fa0_3))), (a0_5_13, .inl (ka0_5_13, 6, .inl (fa0_5_13))), (a0_5_12, .inl (ka0_5_12, 6, .inl (fa0_5_12)))]) hP hD hCc hk1 hFc hP1 hD1 [.inr 0, .inl 1, .inr 1, .inl 3, .inl 4] (by decide +kernel) rfl (fun hP hD => ?_)
  generalize H1 = H at hP hS ⊢
  obtain ⟨hw, hfr13⟩ := hw
  rw [show (0 : Int32).toInt = 0 from by decide, show ((4 : Nat) : Int) = 4 from rfl] at hfr13 hraw13_0
  have hc13 : Ff_X3_takeWhole 0 x12.toInt a0_1.toInt a0_2.toInt a0_7.toInt a0_8.toInt a0_9.toInt a0_10.toInt a0_11.toInt a0_12.toInt a0_13.toInt (fl_A fa0_3) 4 (fl_A (sxc 4)) = (r13.toInt, v13na0_1.toInt, v13na0_2.toInt, v13na0_8.toInt, v13na0_9.toInt, v13na0_10.toInt, v13na0_11.toInt, v13na0_12.toInt, v13na0_13.toInt) := Prod.ext hfr13.symm hraw13_0
  have hF0 := hF0.trans (fl_c9_eq hc13)
  rcases hw with hw | hw
  · obtain ⟨hw, h13⟩ := hw
    subst hw
    have l13k0_v13na0_13 : (0 : Int) ≤ v13na0_13.toInt := Int.le_trans zq5 h13.1
    have u13k0_v13na0_13 : v13na0_13.toInt ≤ (8 : Int) := Int.le_trans h13.2 bx12.2
    have hF0 := hF0.trans (if_pos (by decide))
    refine lv_if_ne (tgt := 21) hx hb dX3_readSeen_16 (by decide) (fun _ => ?_) (fun c16 => absurd c16 (by decide +kernel))
    refine lv_aload_n hx hb dX3_readSeen_21 rfl (lv_at hl 0 rfl) ?_
    refine va_get (D := (dC, dI)) (ci := 3) (v := .int v13na0_13) (C := RX3) (T := TX3) (N := 14) hx hb hts zi_X3_readSeen_3 hown hK hP 0 rfl rfl 13 (by decide) (hts (.fieldLink RX3 156 "WaxTurns$Reade\x72" "taken" "I") (zm_X3_readSeen_r1 (List.mem_of_getElem? (i := 2) rfl))) (fun _ h9 => h9) rfl dX3_readSeen_22 ?_
    refine lv_istore_n (lv' := [(1, .int v13na0_13), (0, .ref a0)]) hx hb dX3_readSeen_25 rfl hl (by decide) rfl (fun ls hl => ?_)
    refine lv_aload_n hx hb dX3_readSeen_26 rfl (lv_at hl 1 rfl) ?_
    refine va_ldcS hx hb hown (sxc_R17 hE0) dX3_readSeen_27 ?_
    refine zc_cutc (wc := [(a0, .inr (3, [a0g_0, .int v13na0_1, .int v13na0_2, .ref a0_3, a0g_4, .ref a0_5, a0g_6, .int a0_7, .int v13na0_8, .int v13na0_9, .int v13na0_10, .long v13na0_11, .int v13na0_12, .int v13na0_13])), (a0_3, .inl (ka0_3, 900, .inl (fa0_3)))]) hP hD hS hA [0, 2] (by decide +kernel) rfl (fun hPc hDc hFc hCc => ?_)
    have hKc := hK.sub (tys' := [(ka0_3, .byte)]) [0] rfl
    refine va_calli (va_runV (As := [.ref (ad 17)]) (rest := []) ⟨hx, hb, hml, hown, hts⟩ (f_X3_takeWord l dC dI H.size a0 (ad 17) a0g_0 a0g_4 (.ref a0_5) a0g_6 (.int v13na0_13) v13na0_1 v13na0_2 a0_3 a0_7 v13na0_8 v13na0_9 v13na0_10 v13na0_11 v13na0_12 ka0_3 fa0_3 2 (sxc 17) ba0_7_l ba0_7_u bv13na0_8.1 bv13na0_8.2 bv13na0_9.1 bv13na0_9.2 bv13na0_10.1 bv13na0_10.2) (cwV 1 hts gX3_readSeen_X3_takeWord rfl rfl rfl zd_X3_takeWord ⟨Nat.le_of_ble_eq_true rfl, Nat.le_of_ble_eq_true rfl⟩) ⟨ax_blind (fun _ _ _ _ hq => sxc_W_same _ _ _ _ (hq)), zr_3 hKc hPc (q0 := 0) rfl, ax_preE hPc hKc hDc (fun U hU hW => sxc_W_to (sxc_T_w hE0 (i := 17) (by decide)) hS.2.1 hFc hU hW)⟩ rfl rfl hl.1 rfl (lv_room (Nat.le_of_ble_eq_true rfl)) dX3_readSeen_29 ⟨Nat.le_of_ble_eq_true rfl, Nat.le_of_ble_eq_true rfl⟩) hS (fun q _ h => hFc q h) hFc (fun r29 u t H locs ht hvm hw => zx_7 (fun v29na0_1 v29na0_2 v29na0_8 v29na0_9 v29na0_10 v29na0_11 v29na0_12 => zy_4 (fun bv29na0_8 bv29na0_9 bv29na0_10 hraw29_0 hB hz1 hk1 hS1 => zo hB ht hS1 (fun hP1 hK1 hD1 hS => ?_))))
    refine zc_backc (w := [(a0, .inr (3, [a0g_0, .int v29na0_1, .int v29na0_2, .ref a0_3, a0g_4, .ref a0_5, a0g_6, .int a0_7, .int v29na0_8, .int v29na0_9, .int v29na0_10, .long v29na0_11, .int v29na0_12, .int v13na0_13])), (a0_5, .inr (0, [.int a0_5_0, a0_5g_1, a0_5g_2, a0_5g_3, a0_5g_4, a0_5g_5, a0_5g_6, a0_5g_7, a0_5g_8, .int a0_5_9, a0_5g_10, a0_5g_11, .ref a0_5_12, .ref a0_5_13, a0_5g_14])), (a0_3, .inl (ka0_3, 900, .inl (fa0_3))), (a0_5_13, .inl (ka0_5_13, 6, .inl (fa0_5_13))), (a0_5_12, .inl (ka0_5_12, 6, .inl (fa0_5_12)))]) hP hD hCc hk1 hFc hP1 hD1 [.inr 0, .inl 1, .inr 1, .inl 3, .inl 4] (by decide +kernel) rfl (fun hP hD => ?_)
    obtain ⟨hw, hfr29⟩ := hw
    rw [show ((2 : Nat) : Int) = 2 from rfl] at hfr29 hraw29_0
    have hc29 : Ff_X3_takeWord v13na0_1.toInt v13na0_2.toInt a0_7.toInt v13na0_8.toInt v13na0_9.toInt v13na0_10.toInt v13na0_11.toInt v13na0_12.toInt (fl_A fa0_3) 2 (fl_A (sxc 17)) = (r29.toInt, v29na0_1.toInt, v29na0_2.toInt, v29na0_8.toInt, v29na0_9.toInt, v29na0_10.toInt, v29na0_11.toInt, v29na0_12.toInt) := Prod.ext hfr29.symm hraw29_0
    have hF0 := hF0.trans (fl_c8_eq hc29)
    rcases hw with hw | hw
    · subst hw
      have hF0 := hF0.trans (if_pos (by decide))
      refine lv_if_eq (tgt := 46) hx hb dX3_readSeen_32 (by decide) (fun c32 => absurd c32 (by decide +kernel)) (fun _ => ?_)
      refine lv_aload_n hx hb dX3_readSeen_35 rfl (lv_at hl 1 rfl) ?_
      refine lv_iconst (v := 0) hx hb dX3_readSeen_36 zk_iconst_0 ?_
      refine lv_sipush (v := 999) hx hb dX3_readSeen_37 zk_sipush_999 ?_
      refine va_calli (va_runV (As := [.int 0, .int 999]) (rest := []) ⟨hx, hb, hml, hown, hts⟩ (f_X3_isWholeWithin l dC dI H.size a0 0 999 a0g_0 (.ref a0_3) a0g_4 (.ref a0_5) a0g_6 (.int a0_7) (.int v29na0_9) (.long v29na0_11) (.int v13na0_13) v29na0_1 v29na0_2 v29na0_8 v29na0_10 v29na0_12 bv29na0_8.1 bv29na0_8.2 bv29na0_10.1 bv29na0_10.2) (cwV 2 hts gX3_readSeen_X3_isWholeWithin rfl rfl rfl zd_X3_isWholeWithin ⟨Nat.le_of_ble_eq_true rfl, Nat.le_of_ble_eq_true rfl⟩) ⟨ax_blind (fun _ _ _ _ hq => va_Nw.same rfl rfl (hq)), zr_3 (zp_K hK) (zp_P1 hP) (q0 := 0) rfl, ax_pre (zp_P1 hP) (zp_K hK) (zp_D1 hD) (fun _ hW => va_Nw.warmM hW hE1)⟩ rfl rfl hl.1 rfl (lv_room (Nat.le_of_ble_eq_true rfl)) dX3_readSeen_40 ⟨Nat.le_of_ble_eq_true rfl, Nat.le_of_ble_eq_true rfl⟩) hS (fun q _ h => zp_F1 hD hS hA q h) (zp_F1 hD hS hA) (fun r40 u t H locs ht hvm hw => zx_2 (fun v40na0_1 v40na0_2 => zy_1 (fun hraw40_0 hB hz1 hk1 hS1 => zo1 hB ht hP hD hk1 (zp_F1 hD hS hA) hS1 (fun hP hK1 hD hS => ?_))))
      obtain ⟨hw, hfr40⟩ := hw
      rw [show (0 : Int32).toInt = 0 from by decide, show (999 : Int32).toInt = 999 from by decide] at hfr40 hraw40_0
      have hc40 : Ff_X3_isWholeWithin 0 999 v29na0_1.toInt v29na0_2.toInt v29na0_8.toInt v29na0_10.toInt v29na0_12.toInt = (r40.toInt, v40na0_1.toInt, v40na0_2.toInt) := Prod.ext hfr40.symm hraw40_0
      have hF0 := hF0.trans (fl_c3_eq hc40)
      rcases hw with hw | hw
      · obtain ⟨hw, h40⟩ := hw
        subst hw
        have l40k0_v29na0_12 : (0 : Int) ≤ v29na0_12.toInt := Int.le_trans zq5 h40.1
        have u40k0_v29na0_12 : v29na0_12.toInt ≤ (999 : Int) := Int.le_trans h40.2 zq79
        have hF0 := hF0.trans (if_pos (by decide))
        refine lv_if_ne (tgt := 48) hx hb dX3_readSeen_43 (by decide) (fun _ => ?_) (fun c43 => absurd c43 (by decide +kernel))
        refine lv_aload_n hx hb dX3_readSeen_48 rfl (lv_at hl 1 rfl) ?_
        refine va_get (D := (dC, dI)) (ci := 3) (v := .ref a0_5) (C := RX3) (T := TX3) (N := 14) hx hb hts zi_X3_readSeen_3 hown hK hP 0 rfl rfl 5 (by decide) (hts (.fieldLink RX3 22 "WaxTurns$Reade\x72" "draft" "LWaxTurns$Hall;") (zm_X3_readSeen_r1 (List.mem_of_getElem? (i := 0) rfl))) (fun _ h9 => h9) rfl dX3_readSeen_49 ?_
        refine lv_aload_n hx hb dX3_readSeen_52 rfl (lv_at hl 1 rfl) ?_
        refine va_get (D := (dC, dI)) (ci := 3) (v := .int v29na0_12) (C := RX3) (T := TX3) (N := 14) hx hb hts zi_X3_readSeen_3 hown hK hP 0 rfl rfl 12 (by decide) (hts (.fieldLink RX3 85 "WaxTurns$Reade\x72" "whole" "I") (zm_X3_readSeen_r1 (List.mem_of_getElem? (i := 3) rfl))) (fun _ h9 => h9) rfl dX3_readSeen_53 ?_
        refine zc_cutc (wc := [(a0_5, .inr (0, [.int a0_5_0, a0_5g_1, a0_5g_2, a0_5g_3, a0_5g_4, a0_5g_5, a0_5g_6, a0_5g_7, a0_5g_8, .int a0_5_9, a0_5g_10, a0_5g_11, .ref a0_5_12, .ref a0_5_13, a0_5g_14])), (a0_5_13, .inl (ka0_5_13, 6, .inl (fa0_5_13)))]) hP hD hS hA [1, 3] (by decide +kernel) rfl (fun hPc hDc hFc hCc => ?_)
        have hKc := hK.sub (tys' := [(ka0_5_13, .int)]) [1] rfl
        refine va_calli (va_runV (As := [.int v29na0_12]) (rest := []) ⟨hx, hb, hml, hown, hts⟩ (f_X0_isSeenMinute l dC dI H.size a0_5 v29na0_12 (.int a0_5_0) a0_5g_1 a0_5g_2 a0_5g_3 a0_5g_4 a0_5g_5 a0_5g_6 a0_5g_7 a0_5g_8 a0_5g_10 a0_5g_11 (.ref a0_5_12) a0_5g_14 a0_5_9 a0_5_13 ka0_5_13 fa0_5_13 ba0_5_9_l ba0_5_9_u bfa0_5_13) (cwV 1 hts gX3_readSeen_X0_isSeenMinute rfl rfl rfl zd_X0_isSeenMinute ⟨Nat.le_of_ble_eq_true rfl, Nat.le_of_ble_eq_true rfl⟩) ⟨ax_blind (fun _ _ _ _ _ => trivial), zr_0 hKc hPc (q0 := 0) rfl, ax_pre hPc hKc hDc (fun _ _ => trivial)⟩ rfl rfl hl.1 rfl (lv_room (Nat.le_of_ble_eq_true rfl)) dX3_readSeen_56 ⟨Nat.le_of_ble_eq_true rfl, Nat.le_of_ble_eq_true rfl⟩) hS (fun q _ h => hFc q h) hFc (fun r56 u t H locs ht hvm hw hB hz1 hk1 hS1 => zo hB ht hS1 (fun hP1 hK1 hD1 hS => ?_))
        refine zc_backc (w := [(a0, .inr (3, [a0g_0, .int v40na0_1, .int v40na0_2, .ref a0_3, a0g_4, .ref a0_5, a0g_6, .int a0_7, .int v29na0_8, .int v29na0_9, .int v29na0_10, .long v29na0_11, .int v29na0_12, .int v13na0_13])), (a0_5, .inr (0, [.int a0_5_0, a0_5g_1, a0_5g_2, a0_5g_3, a0_5g_4, a0_5g_5, a0_5g_6, a0_5g_7, a0_5g_8, .int a0_5_9, a0_5g_10, a0_5g_11, .ref a0_5_12, .ref a0_5_13, a0_5g_14])), (a0_3, .inl (ka0_3, 900, .inl (fa0_3))), (a0_5_13, .inl (ka0_5_13, 6, .inl (fa0_5_13))), (a0_5_12, .inl (ka0_5_12, 6, .inl (fa0_5_12)))]) hP hD hCc hk1 hFc hP1 hD1 [.inl 0, .inr 0, .inl 2, .inr 1, .inl 4] (by decide +kernel) rfl (fun hP hD => ?_)
        obtain ⟨hw, hfr56⟩ := hw
        have hc56 : Ff_X0_isSeenMinute v29na0_12.toInt a0_5_9.toInt (fl_A fa0_5_13) = r56.toInt := hfr56.symm
        have hF0 := hF0.trans (fl_lt_eq hc56.symm)
        rcases hw with hw | hw
        · obtain ⟨hw, h56_0, h56_1, h56_2, h56_3⟩ := hw
          subst hw
          have l56k0_v29na0_12 : (0 : Int) ≤ v29na0_12.toInt := l40k0_v29na0_12
          have u56k0_v29na0_12 : v29na0_12.toInt ≤ (999 : Int) := u40k0_v29na0_12
          have l56k0_a0_5_9 : (1 : Int) ≤ a0_5_9.toInt := h56_2
          have u56k0_a0_5_9 : a0_5_9.toInt ≤ (6 : Int) := ba0_5_9_u
          have hF0 := hF0.trans (if_pos (by decide))
          refine lv_if_eq (tgt := 68) hx hb dX3_readSeen_59 (by decide) (fun c59 => absurd c59 (by decide +kernel)) (fun _ => ?_)
          refine lv_aload_n hx hb dX3_readSeen_62 rfl (lv_at hl 1 rfl) ?_
          refine lv_iconst (v := 3) hx hb dX3_readSeen_63 zk_iconst_3 ?_
          refine va_calli (va_runV (As := [.int 3]) (rest := []) ⟨hx, hb, hml, hown, hts⟩ (f_X3_fails l dC dI H.size a0 3 a0g_0 (.ref a0_3) a0g_4 (.ref a0_5) a0g_6 (.int a0_7) (.int v29na0_9) (.int v29na0_10) (.long v29na0_11) (.int v29na0_12) (.int v13na0_13) v40na0_1 v40na0_2 v29na0_8 bv29na0_8.1 bv29na0_8.2) (cwV 1 hts gX3_readSeen_X3_fails rfl rfl rfl zd_X3_fails ⟨Nat.le_of_ble_eq_true rfl, Nat.le_of_ble_eq_true rfl⟩) ⟨ax_blind (fun _ _ _ _ _ => trivial), zr_3 (zp_K hK) (zp_P1 hP) (q0 := 0) rfl, ax_pre (zp_P1 hP) (zp_K hK) (zp_D1 hD) (fun _ _ => trivial)⟩ rfl rfl hl.1 rfl (lv_room (Nat.le_of_ble_eq_true rfl)) dX3_readSeen_64 ⟨Nat.le_of_ble_eq_true rfl, Nat.le_of_ble_eq_true rfl⟩) hS (fun q _ h => zp_F1 hD hS hA q h) (zp_F1 hD hS hA) (fun r64 u t H locs ht hvm hw => zx_2 (fun v64na0_1 v64na0_2 => zy_1 (fun hraw64_0 hB hz1 hk1 hS1 => zo1 hB ht hP hD hk1 (zp_F1 hD hS hA) hS1 (fun hP hK1 hD hS => ?_))))
          obtain ⟨hw, hfr64⟩ := hw
          rw [show (3 : Int32).toInt = 3 from by decide] at hfr64 hraw64_0
          have hc64 : Ff_X3_fails 3 v29na0_8.toInt = (r64.toInt, v64na0_1.toInt, v64na0_2.toInt) := Prod.ext hfr64.symm hraw64_0
          have hF0 := hF0.trans (fl_c3_eq hc64)
          have hw : r64 = 0 := hw
          have hw := hw.symm
          subst hw
          have hFe : FX = (0, v64na0_1.toInt, v64na0_2.toInt, v29na0_8.toInt, v29na0_9.toInt, v29na0_10.toInt, v29na0_11.toInt, v29na0_12.toInt, v13na0_13.toInt, a0_5_9.toInt, (fl_A fa0_5_13), (fl_A fa0_5_12)) := hF0
          exact W.zret (v := 0) hx hb hr rfl (fun t ht hW => ⟨⟨0, (), rfl, ⟨(Or.inr (rfl)), (congrArg Prod.fst hFe).symm⟩, v64na0_1, v64na0_2, v29na0_8, v29na0_9, v29na0_10, v29na0_11, v29na0_12, v13na0_13, a0_5_9, fa0_5_13, fa0_5_12, ⟨bv29na0_8.1, bv29na0_8.2⟩, ⟨bv29na0_9.1, bv29na0_9.2⟩, ⟨bv29na0_10.1, bv29na0_10.2⟩, ⟨Int.le_trans (by decide) l56k0_a0_5_9, u56k0_a0_5_9⟩, bfa0_5_13, (congrArg Prod.snd hFe), by rw [ht]; exact hP, va_K.moved hW.alike hK, hD⟩, hS.F ht⟩) hS.2.2 dX3_readSeen_67
        · subst hw
          have hF0 := hF0.trans (if_neg (by decide))
          refine lv_if_eq (tgt := 68) hx hb dX3_readSeen_59 (by decide) (fun _ => ?_) (fun c59 => absurd (by decide +kernel) c59)
          refine lv_aload_n hx hb dX3_readSeen_68 rfl (lv_at hl 1 rfl) ?_
          refine va_get (D := (dC, dI)) (ci := 3) (v := .ref a0_5) (C := RX3) (T := TX3) (N := 14) hx hb hts zi_X3_readSeen_3 hown hK hP 0 rfl rfl 5 (by decide) (hts (.fieldLink RX3 22 "WaxTurns$Reade\x72" "draft" "LWaxTurns$Hall;") (zm_X3_readSeen_r1 (List.mem_of_getElem? (i := 0) rfl))) (fun _ h9 => h9) rfl dX3_readSeen_69 ?_
          refine lv_iload_n hx hb dX3_readSeen_72 rfl (lv_at hl 0 rfl) ?_
          refine lv_aload_n hx hb dX3_readSeen_73 rfl (lv_at hl 1 rfl) ?_
          refine va_get (D := (dC, dI)) (ci := 3) (v := .int v29na0_12) (C := RX3) (T := TX3) (N := 14) hx hb hts zi_X3_readSeen_3 hown hK hP 0 rfl rfl 12 (by decide) (hts (.fieldLink RX3 85 "WaxTurns$Reade\x72" "whole" "I") (zm_X3_readSeen_r1 (List.mem_of_getElem? (i := 3) rfl))) (fun _ h9 => h9) rfl dX3_readSeen_74 ?_
          refine zc_cutc (wc := [(a0_5, .inr (0, [.int a0_5_0, a0_5g_1, a0_5g_2, a0_5g_3, a0_5g_4, a0_5g_5, a0_5g_6, a0_5g_7, a0_5g_8, .int a0_5_9, a0_5g_10, a0_5g_11, .ref a0_5_12, .ref a0_5_13, a0_5g_14])), (a0_5_12, .inl (ka0_5_12, 6, .inl (fa0_5_12))), (a0_5_13, .inl (ka0_5_13, 6, .inl (fa0_5_13)))]) hP hD hS hA [1, 4, 3] (by decide +kernel) rfl (fun hPc hDc hFc hCc => ?_)
          have hKc := hK.sub (tys' := [(ka0_5_12, .int), (ka0_5_13, .int)]) [2, 1] rfl
          refine va_callv (va_runV (As := [.int v13na0_13, .int v29na0_12]) (rest := []) ⟨hx, hb, hml, hown, hts⟩ (f_X0_addSeen l dC dI H.size a0_5 v13na0_13 v29na0_12 (.int a0_5_0) a0_5g_1 a0_5g_2 a0_5g_3 a0_5g_4 a0_5g_5 a0_5g_6 a0_5g_7 a0_5g_8 a0_5g_10 a0_5g_11 a0_5g_14 a0_5_9 a0_5_12 a0_5_13 ka0_5_12 fa0_5_12 ka0_5_13 fa0_5_13 l40k0_v29na0_12 u40k0_v29na0_12 ba0_5_9_l ba0_5_9_u bfa0_5_13) (cwV 2 hts gX3_readSeen_X0_addSeen rfl rfl rfl zd_X0_addSeen ⟨Nat.le_of_ble_eq_true rfl, Nat.le_of_ble_eq_true rfl⟩) ⟨ax_blind (fun _ _ _ _ _ => trivial), zr_0 hKc hPc (q0 := 0) rfl, ax_pre hPc hKc hDc (fun _ _ => trivial)⟩ rfl rfl hl.1 rfl (lv_room (Nat.le_of_ble_eq_true rfl)) dX3_readSeen_77 ⟨Nat.le_of_ble_eq_true rfl, Nat.le_of_ble_eq_true rfl⟩) hS (fun q _ h => hFc q h) hFc (fun u t H locs ht hvm hw => zx_3 (fun v77na0_9 v77nfa0_12 v77nfa0_13 => zy_3 (fun bv77na0_9 bv77nfa0_13 hraw77_0 hB hz1 hk1 hS1 => zo hB ht hS1 (fun hP1 hK1 hD1 hS => ?_))))
          refine zc_backc (w := [(a0, .inr (3, [a0g_0, .int v40na0_1, .int v40na0_2, .ref a0_3, a0g_4, .ref a0_5, a0g_6, .int a0_7, .int v29na0_8, .int v29na0_9, .int v29na0_10, .long v29na0_11, .int v29na0_12, .int v13na0_13])), (a0_5, .inr (0, [.int a0_5_0, a0_5g_1, a0_5g_2, a0_5g_3, a0_5g_4, a0_5g_5, a0_5g_6, a0_5g_7, a0_5g_8, .int v77na0_9, a0_5g_10, a0_5g_11, .ref a0_5_12, .ref a0_5_13, a0_5g_14])), (a0_3, .inl (ka0_3, 900, .inl (fa0_3))), (a0_5_13, .inl (ka0_5_13, 6, .inl (v77nfa0_13))), (a0_5_12, .inl (ka0_5_12, 6, .inl (v77nfa0_12)))]) hP hD hCc hk1 hFc hP1 hD1 [.inl 0, .inr 0, .inl 2, .inr 2, .inr 1] (by decide +kernel) rfl (fun hP hD => ?_)
          have hc77 : Ff_X0_addSeen v13na0_13.toInt v29na0_12.toInt a0_5_9.toInt (fl_A fa0_5_12) (fl_A fa0_5_13) = (v77na0_9.toInt, (fl_A v77nfa0_12), (fl_A v77nfa0_13)) := hraw77_0
          have hF0 := hF0.trans (fl_c3_eq hc77)
          refine lv_aload_n hx hb dX3_readSeen_80 rfl (lv_at hl 1 rfl) ?_
          refine zc_cutc (wc := [(a0, .inr (3, [a0g_0, .int v40na0_1, .int v40na0_2, .ref a0_3, a0g_4, .ref a0_5, a0g_6, .int a0_7, .int v29na0_8, .int v29na0_9, .int v29na0_10, .long v29na0_11, .int v29na0_12, .int v13na0_13])), (a0_3, .inl (ka0_3, 900, .inl (fa0_3)))]) hP hD hS hA [0, 2] (by decide +kernel) rfl (fun hPc hDc hFc hCc => ?_)
          have hKc := hK.sub (tys' := [(ka0_3, .byte)]) [0] rfl
          refine va_callv (va_runV (As := []) (rest := []) ⟨hx, hb, hml, hown, hts⟩ (f_X3_advance l dC dI H.size a0 a0g_0 (.int v40na0_1) (.int v40na0_2) a0g_4 (.ref a0_5) a0g_6 (.int v13na0_13) a0_3 a0_7 v29na0_8 v29na0_9 v29na0_10 v29na0_11 v29na0_12 ka0_3 fa0_3 ba0_7_l ba0_7_u bv29na0_8.1 bv29na0_8.2 bv29na0_9.1 bv29na0_9.2 bv29na0_10.1 bv29na0_10.2) (cwV 0 hts gX3_readSeen_X3_advance rfl rfl rfl zd_X3_advance ⟨Nat.le_of_ble_eq_true rfl, Nat.le_of_ble_eq_true rfl⟩) ⟨ax_blind (fun _ _ _ _ _ => trivial), zr_3 hKc hPc (q0 := 0) rfl, ax_pre hPc hKc hDc (fun _ _ => trivial)⟩ rfl rfl hl.1 rfl (lv_room (Nat.le_of_ble_eq_true rfl)) dX3_readSeen_81 ⟨Nat.le_of_ble_eq_true rfl, Nat.le_of_ble_eq_true rfl⟩) hS (fun q _ h => hFc q h) hFc (fun u t H locs ht hvm hw => zx_5 (fun v81na0_8 v81na0_9 v81na0_10 v81na0_11 v81na0_12 => zy_4 (fun bv81na0_8 bv81na0_9 bv81na0_10 hraw81_0 hB hz1 hk1 hS1 => zo hB ht hS1 (fun hP1 hK1 hD1 hS => ?_))))
          refine zc_backc (w := [(a0, .inr (3, [a0g_0, .int v40na0_1, .int v40na0_2, .ref a0_3, a0g_4, .ref a0_5, a0g_6, .int a0_7, .int v81na0_8, .int v81na0_9, .int v81na0_10, .long v81na0_11, .int v81na0_12, .int v13na0_13])), (a0_5, .inr (0, [.int a0_5_0, a0_5g_1, a0_5g_2, a0_5g_3, a0_5g_4, a0_5g_5, a0_5g_6, a0_5g_7, a0_5g_8, .int v77na0_9, a0_5g_10, a0_5g_11, .ref a0_5_12, .ref a0_5_13, a0_5g_14])), (a0_3, .inl (ka0_3, 900, .inl (fa0_3))), (a0_5_13, .inl (ka0_5_13, 6, .inl (v77nfa0_13))), (a0_5_12, .inl (ka0_5_12, 6, .inl (v77nfa0_12)))]) hP hD hCc hk1 hFc hP1 hD1 [.inr 0, .inl 1, .inr 1, .inl 3, .inl 4] (by decide +kernel) rfl (fun hP hD => ?_)
          have hc81 : Ff_X3_advance a0_7.toInt v29na0_9.toInt v29na0_11.toInt v29na0_12.toInt (fl_A fa0_3) = (v81na0_8.toInt, v81na0_9.toInt, v81na0_10.toInt, v81na0_11.toInt, v81na0_12.toInt) := hraw81_0
          have hF0 := hF0.trans (fl_c5_eq hc81)
          refine lv_iconst (v := 1) hx hb dX3_readSeen_84 zk_iconst_1 ?_
          have hFe : FX = (1, v40na0_1.toInt, v40na0_2.toInt, v81na0_8.toInt, v81na0_9.toInt, v81na0_10.toInt, v81na0_11.toInt, v81na0_12.toInt, v13na0_13.toInt, v77na0_9.toInt, (fl_A v77nfa0_13), (fl_A v77nfa0_12)) := hF0
          exact W.zret (v := 1) hx hb hr rfl (fun t ht hW => ⟨⟨1, (), rfl, ⟨(Or.inl (rfl)), (congrArg Prod.fst hFe).symm⟩, v40na0_1, v40na0_2, v81na0_8, v81na0_9, v81na0_10, v81na0_11, v81na0_12, v13na0_13, v77na0_9, v77nfa0_13, v77nfa0_12, ⟨bv81na0_8.1, bv81na0_8.2⟩, ⟨bv81na0_9.1, bv81na0_9.2⟩, ⟨bv81na0_10.1, bv81na0_10.2⟩, ⟨bv77na0_9.1, bv77na0_9.2⟩, bv77nfa0_13, (congrArg Prod.snd hFe), by rw [ht]; exact hP, va_K.moved hW.alike hK, hD⟩, hS.F ht⟩) hS.2.2 dX3_readSeen_85
      · subst hw
        have hF0 := hF0.trans (if_neg (by decide))
        refine lv_if_ne (tgt := 48) hx hb dX3_readSeen_43 (by decide) (fun c43 => absurd (by decide +kernel) c43) (fun _ => ?_)
        refine lv_iconst (v := 0) hx hb dX3_readSeen_46 zk_iconst_0 ?_
        have hFe : FX = (0, v40na0_1.toInt, v40na0_2.toInt, v29na0_8.toInt, v29na0_9.toInt, v29na0_10.toInt, v29na0_11.toInt, v29na0_12.toInt, v13na0_13.toInt, a0_5_9.toInt, (fl_A fa0_5_13), (fl_A fa0_5_12)) := hF0
        exact W.zret (v := 0) hx hb hr rfl (fun t ht hW => ⟨⟨0, (), rfl, ⟨(Or.inr (rfl)), (congrArg Prod.fst hFe).symm⟩, v40na0_1, v40na0_2, v29na0_8, v29na0_9, v29na0_10, v29na0_11, v29na0_12, v13na0_13, a0_5_9, fa0_5_13, fa0_5_12, ⟨bv29na0_8.1, bv29na0_8.2⟩, ⟨bv29na0_9.1, bv29na0_9.2⟩, ⟨bv29na0_10.1, bv29na0_10.2⟩, ⟨ba0_5_9_l, ba0_5_9_u⟩, bfa0_5_13, (congrArg Prod.snd hFe), by rw [ht]; exact hP, va_K.moved hW.alike hK, hD⟩, hS.F ht⟩) hS.2.2 dX3_readSeen_47
    · subst hw
      have hF0 := hF0.trans (if_neg (by decide))
      refine lv_if_eq (tgt := 46) hx hb dX3_readSeen_32 (by decide) (fun _ => ?_) (fun c32 => absurd (by decide +kernel) c32)
      refine lv_iconst (v := 0) hx hb dX3_readSeen_46 zk_iconst_0 ?_
      have hFe : FX = (0, v29na0_1.toInt, v29na0_2.toInt, v29na0_8.toInt, v29na0_9.toInt, v29na0_10.toInt, v29na0_11.toInt, v29na0_12.toInt, v13na0_13.toInt, a0_5_9.toInt, (fl_A fa0_5_13), (fl_A fa0_5_12)) := hF0
      exact W.zret (v := 0) hx hb hr rfl (fun t ht hW => ⟨⟨0, (), rfl, ⟨(Or.inr (rfl)), (congrArg Prod.fst hFe).symm⟩, v29na0_1, v29na0_2, v29na0_8, v29na0_9, v29na0_10, v29na0_11, v29na0_12, v13na0_13, a0_5_9, fa0_5_13, fa0_5_12, ⟨bv29na0_8.1, bv29na0_8.2⟩, ⟨bv29na0_9.1, bv29na0_9.2⟩, ⟨bv29na0_10.1, bv29na0_10.2⟩, ⟨ba0_5_9_l, ba0_5_9_u⟩, bfa0_5_13, (congrArg Prod.snd hFe), by rw [ht]; exact hP, va_K.moved hW.alike hK, hD⟩, hS.F ht⟩) hS.2.2 dX3_readSeen_47
  · subst hw
    have hF0 := hF0.trans (if_neg (by decide))
    refine lv_if_ne (tgt := 21) hx hb dX3_readSeen_16 (by decide) (fun c16 => absurd (by decide +kernel) c16) (fun _ => ?_)
    refine lv_iconst (v := 0) hx hb dX3_readSeen_19 zk_iconst_0 ?_
    have hFe : FX = (0, v13na0_1.toInt, v13na0_2.toInt, v13na0_8.toInt, v13na0_9.toInt, v13na0_10.toInt, v13na0_11.toInt, v13na0_12.toInt, v13na0_13.toInt, a0_5_9.toInt, (fl_A fa0_5_13), (fl_A fa0_5_12)) := hF0
    exact W.zret (v := 0) hx hb hr rfl (fun t ht hW => ⟨⟨0, (), rfl, ⟨(Or.inr (rfl)), (congrArg Prod.fst hFe).symm⟩, v13na0_1, v13na0_2, v13na0_8, v13na0_9, v13na0_10, v13na0_11, v13na0_12, v13na0_13, a0_5_9, fa0_5_13, fa0_5_12, ⟨bv13na0_8.1, bv13na0_8.2⟩, ⟨bv13na0_9.1, bv13na0_9.2⟩, ⟨bv13na0_10.1, bv13na0_10.2⟩, ⟨ba0_5_9_l, ba0_5_9_u⟩, bfa0_5_13, (congrArg Prod.snd hFe), by rw [ht]; exact hP, va_K.moved hW.alike hK, hD⟩, hS.F ht⟩) hS.2.2 dX3_readSeen_20

set_option maxHeartbeats 4000000 in
set_option maxRecDepth 100000 in
theorem f_X3_readLine (l : Launch) (dC : Nat → ClassId) (dI : Nat → Nat → Nat) (sz : Nat) (a0 : Nat) (a0g_0 : Value) (a0_1 : Int32) (a0_2 : Int32) (a0_3 : Nat) (a0_4 : Nat) (a0_5 : Nat) (a0_6 : Int32) (a0_7 : Int32) (a0_8 : Int32) (a0_9 : Int32) (a0_10 : Int32) (a0_11 : Int64) (a0_12 : Int32) (a0_13 : Int32) (a0_5_0 : Int32) (a0_5_1 : Int32) (a0_5_2 : Int32) (a0_5_3 : Int32) (a0_5_4 : Int32) (a0_5_5 : Int32) (a0_5_6 : Int32) (a0_5_7 : Int32) (a0_5_8 : Int32) (a0_5_9 : Int32) (a0_5_10 : Nat) (a0_5_11 : Nat) (a0_5_12 : Nat) (a0_5_13 : Nat) (a0_5_14 : Nat) (ka0_3 : ClassId) (fa0_3 : Nat → Int32) (ka0_4 : ClassId) (fa0_4 : Nat → Int64) (ka0_5_10 : ClassId) (fa0_5_10 : Nat → Int32) (ka0_5_11 : ClassId) (fa0_5_11 : Nat → Int32) (a0_5_14_0 : Int32) (a0_5_14g_1 : Value) (a0_5_14_2 : Nat) (a0_5_14_3 : Nat) (ka0_5_14_2 : ClassId) (fa0_5_14_2 : Nat → Int32) (ka0_5_14_3 : ClassId) (fa0_5_14_3 : Nat → Int32) (ka0_5_13 : ClassId) (fa0_5_13 : Nat → Int32) (ka0_5_12 : ClassId) (fa0_5_12 : Nat → Int32) (ad : Nat → Nat) (ba0_6_l : (0 : Int) ≤ a0_6.toInt) (ba0_6_u : a0_6.toInt ≤ (12 : Int)) (ba0_7_l : (0 : Int) ≤ a0_7.toInt) (ba0_7_u : a0_7.toInt ≤ (900 : Int)) (ba0_8_l : (0 : Int) ≤ a0_8.toInt) (ba0_8_u : a0_8.toInt ≤ (900 : Int)) (ba0_9_l : (0 : Int) ≤ a0_9.toInt) (ba0_9_u : a0_9.toInt ≤ (900 : Int)) (ba0_10_l : (0 : Int) ≤ a0_10.toInt) (ba0_10_u : a0_10.toInt ≤ (4 : Int)) (ba0_5_0_l : (0 : Int) ≤ a0_5_0.toInt) (ba0_5_0_u : a0_5_0.toInt ≤ (9 : Int)) (ba0_5_4_l : (0 : Int) ≤ a0_5_4.toInt) (ba0_5_4_u : a0_5_4.toInt ≤ (1 : Int)) (ba0_5_5_l : (0 : Int) ≤ a0_5_5.toInt) (ba0_5_5_u : a0_5_5.toInt ≤ (8 : Int)) (ba0_5_6_l : (0 : Int) ≤ a0_5_6.toInt) (ba0_5_6_u : a0_5_6.toInt ≤ (8 : Int)) (ba0_5_7_l : (0 : Int) ≤ a0_5_7.toInt) (ba0_5_7_u : a0_5_7.toInt ≤ (8 : Int)) (ba0_5_9_l : (0 : Int) ≤ a0_5_9.toInt) (ba0_5_9_u : a0_5_9.toInt ≤ (6 : Int)) (ba0_5_14_0_l : (0 : Int) ≤ a0_5_14_0.toInt) (ba0_5_14_0_u : a0_5_14_0.toInt ≤ (3 : Int)) (bfa0_5_14_2 : (∀ k, (0 : Int) ≤ (fa0_5_14_2 k).toInt ∧ (fa0_5_14_2 k).toInt ≤ 80)) (bfa0_5_14_3 : (∀ k, (0 : Int) ≤ (fa0_5_14_3 k).toInt ∧ (fa0_5_14_3 k).toInt ≤ 80)) (bfa0_5_13 : (∀ k, (0 : Int) ≤ (fa0_5_13 k).toInt ∧ (fa0_5_13 k).toInt ≤ 999)) : zm l yX3_readLine wsX3_readLine ({ frames := 7, cells := 0, slots := 0, locals := 154 }) [.ref a0] dC dI sz [(a0, .inr (3, [a0g_0, .int a0_1, .int a0_2, .ref a0_3, .ref a0_4, .ref a0_5, .int a0_6, .int a0_7, .int a0_8, .int a0_9, .int a0_10, .long a0_11, .int a0_12, .int a0_13])), (a0_5, .inr (0, [.int a0_5_0, .int a0_5_1, .int a0_5_2, .int a0_5_3, .int a0_5_4, .int a0_5_5, .int a0_5_6, .int a0_5_7, .int a0_5_8, .int a0_5_9, .ref a0_5_10, .ref a0_5_11, .ref a0_5_12, .ref a0_5_13, .ref a0_5_14])), (a0_3, .inl (ka0_3, 900, .inl (fa0_3))), (a0_4, .inl (ka0_4, 12, .inr (.inl (fa0_4)))), (a0_5_10, .inl (ka0_5_10, 9, .inl (fa0_5_10))), (a0_5_11, .inl (ka0_5_11, 9, .inl (fa0_5_11))), (a0_5_14, .inr (6, [.int a0_5_14_0, a0_5_14g_1, .ref a0_5_14_2, .ref a0_5_14_3])), (a0_5_14_2, .inl (ka0_5_14_2, 3, .inl (fa0_5_14_2))), (a0_5_14_3, .inl (ka0_5_14_3, 3, .inl (fa0_5_14_3))), (a0_5_13, .inl (ka0_5_13, 6, .inl (fa0_5_13))), (a0_5_12, .inl (ka0_5_12, 6, .inl (fa0_5_12)))] [(ka0_3, .byte), (ka0_4, .long), (ka0_5_10, .int), (ka0_5_11, .int), (ka0_5_14_2, .int), (ka0_5_14_3, .int), (ka0_5_13, .int), (ka0_5_12, .int)] (fun A U => sxc_T ad A U ∧ va_Nw (.methodLinkNest RX3 223 yX7_within RX7) U ∧ va_Nw (.methodLinkNest RX3 196 yX7_hasBit RX7) U) (fun A => va_Qi (fun (r : Int32) (_ : Unit) => ((r = 1) ∨ (r = 0)) ∧ r.toInt = (Ff_X3_readLine a0_1.toInt a0_2.toInt a0_6.toInt a0_7.toInt a0_8.toInt a0_9.toInt a0_10.toInt a0_11.toInt a0_12.toInt a0_13.toInt a0_5_0.toInt a0_5_1.toInt a0_5_2.toInt a0_5_3.toInt a0_5_4.toInt a0_5_5.toInt a0_5_6.toInt a0_5_7.toInt a0_5_8.toInt a0_5_9.toInt (fl_A fa0_3) (fl_L fa0_4) (fl_A fa0_5_10) (fl_A fa0_5_11) a0_5_14_0.toInt (fl_A fa0_5_14_2) (fl_A fa0_5_14_3) (fl_A fa0_5_13) (fl_A fa0_5_12)).1) (fun (_ : Unit) (t : State) => ∃ na0_1 : Int32, ∃ na0_2 : Int32, ∃ na0_6 : Int32, ∃ na0_8 : Int32, ∃ na0_9 : Int32, ∃ na0_10 : Int32, ∃ na0_11 : Int64, ∃ na0_12 : Int32, ∃ na0_13 : Int32, ∃ na0_5_0 : Int32, ∃ na0_5_1 : Int32, ∃ na0_5_2 : Int32, ∃ na0_5_3 : Int32, ∃ na0_5_4 : Int32, ∃ na0_5_5 : Int32, ∃ na0_5_6 : Int32, ∃ na0_5_7 : Int32, ∃ na0_5_8 : Int32, ∃ na0_5_9 : Int32, ∃ nfa0_4 : Nat → Int64, ∃ nfa0_5_10 : Nat → Int32, ∃ nfa0_5_11 : Nat → Int32, ∃ na0_5_14_0 : Int32, ∃ nfa0_5_14_2 : Nat → Int32, ∃ nfa0_5_14_3 : Nat → Int32, ∃ nfa0_5_13 : Nat → Int32, ∃ nfa0_5_12 : Nat → Int32, ((0 : Int) ≤ na0_6.toInt ∧ na0_6.toInt ≤ 12) ∧ ((0 : Int) ≤ na0_8.toInt ∧ na0_8.toInt ≤ 900) ∧ ((0 : Int) ≤ na0_9.toInt ∧ na0_9.toInt ≤ 900) ∧ ((0 : Int) ≤ na0_10.toInt ∧ na0_10.toInt ≤ 4) ∧ ((0 : Int) ≤ na0_5_0.toInt ∧ na0_5_0.toInt ≤ 9) ∧ ((0 : Int) ≤ na0_5_4.toInt ∧ na0_5_4.toInt ≤ 1) ∧ ((0 : Int) ≤ na0_5_5.toInt ∧ na0_5_5.toInt ≤ 8) ∧ ((0 : Int) ≤ na0_5_6.toInt ∧ na0_5_6.toInt ≤ 8) ∧ ((0 : Int) ≤ na0_5_7.toInt ∧ na0_5_7.toInt ≤ 8) ∧ ((0 : Int) ≤ na0_5_9.toInt ∧ na0_5_9.toInt ≤ 6) ∧ ((0 : Int) ≤ na0_5_14_0.toInt ∧ na0_5_14_0.toInt ≤ 3) ∧ (∀ k, (0 : Int) ≤ (nfa0_5_14_2 k).toInt ∧ (nfa0_5_14_2 k).toInt ≤ 80) ∧ (∀ k, (0 : Int) ≤ (nfa0_5_14_3 k).toInt ∧ (nfa0_5_14_3 k).toInt ≤ 80) ∧ (∀ k, (0 : Int) ≤ (nfa0_5_13 k).toInt ∧ (nfa0_5_13 k).toInt ≤ 999) ∧ ((Ff_X3_readLine a0_1.toInt a0_2.toInt a0_6.toInt a0_7.toInt a0_8.toInt a0_9.toInt a0_10.toInt a0_11.toInt a0_12.toInt a0_13.toInt a0_5_0.toInt a0_5_1.toInt a0_5_2.toInt a0_5_3.toInt a0_5_4.toInt a0_5_5.toInt a0_5_6.toInt a0_5_7.toInt a0_5_8.toInt a0_5_9.toInt (fl_A fa0_3) (fl_L fa0_4) (fl_A fa0_5_10) (fl_A fa0_5_11) a0_5_14_0.toInt (fl_A fa0_5_14_2) (fl_A fa0_5_14_3) (fl_A fa0_5_13) (fl_A fa0_5_12)).2 = (na0_1.toInt, na0_2.toInt, na0_6.toInt, na0_8.toInt, na0_9.toInt, na0_10.toInt, na0_11.toInt, na0_12.toInt, na0_13.toInt, na0_5_0.toInt, na0_5_1.toInt, na0_5_2.toInt, na0_5_3.toInt, na0_5_4.toInt, na0_5_5.toInt, na0_5_6.toInt, na0_5_7.toInt, na0_5_8.toInt, na0_5_9.toInt, (fl_L nfa0_4), (fl_A nfa0_5_10), (fl_A nfa0_5_11), na0_5_14_0.toInt, (fl_A nfa0_5_14_2), (fl_A nfa0_5_14_3), (fl_A nfa0_5_13), (fl_A nfa0_5_12))) ∧ ax_B dC dI A [(a0, .inr (3, [a0g_0, .int na0_1, .int na0_2, .ref a0_3, .ref a0_4, .ref a0_5, .int na0_6, .int a0_7, .int na0_8, .int na0_9, .int na0_10, .long na0_11, .int na0_12, .int na0_13])), (a0_5, .inr (0, [.int na0_5_0, .int na0_5_1, .int na0_5_2, .int na0_5_3, .int na0_5_4, .int na0_5_5, .int na0_5_6, .int na0_5_7, .int na0_5_8, .int na0_5_9, .ref a0_5_10, .ref a0_5_11, .ref a0_5_12, .ref a0_5_13, .ref a0_5_14])), (a0_3, .inl (ka0_3, 900, .inl (fa0_3))), (a0_4, .inl (ka0_4, 12, .inr (.inl (nfa0_4)))), (a0_5_10, .inl (ka0_5_10, 9, .inl (nfa0_5_10))), (a0_5_11, .inl (ka0_5_11, 9, .inl (nfa0_5_11))), (a0_5_14, .inr (6, [.int na0_5_14_0, a0_5_14g_1, .ref a0_5_14_2, .ref a0_5_14_3])), (a0_5_14_2, .inl (ka0_5_14_2, 3, .inl (nfa0_5_14_2))), (a0_5_14_3, .inl (ka0_5_14_3, 3, .inl (nfa0_5_14_3))), (a0_5_13, .inl (ka0_5_13, 6, .inl (nfa0_5_13))), (a0_5_12, .inl (ka0_5_12, 6, .inl (nfa0_5_12)))] [(ka0_3, .byte), (ka0_4, .long), (ka0_5_10, .int), (ka0_5_11, .int), (ka0_5_14_2, .int), (ka0_5_14_3, .int), (ka0_5_13, .int), (ka0_5_12, .int)] t) A) := by
  refine zh (cc := cX3_readLine) (maxL := 1) (ret := (some .boolean)) zn_RX3 rfl (Nat.le_of_ble_eq_true rfl) (fun p e s m below meth c A ls hx hb hml hr hts (hown : s.vm.findClass RX3 = some m.cls) hlocks hA hS hP hK hD hE (hl : lv_has ls 1 [(0, .ref a0)]) => ?_)
  obtain ⟨hE0, hE1, hE2⟩ := hE
  generalize hFX : Ff_X3_readLine a0_1.toInt a0_2.toInt a0_6.toInt a0_7.toInt a0_8.toInt a0_9.toInt a0_10.toInt a0_11.toInt a0_12.toInt a0_13.toInt a0_5_0.toInt a0_5_1.toInt a0_5_2.toInt a0_5_3.toInt a0_5_4.toInt a0_5_5.toInt a0_5_6.toInt a0_5_7.toInt a0_5_8.toInt a0_5_9.toInt (fl_A fa0_3) (fl_L fa0_4) (fl_A fa0_5_10) (fl_A fa0_5_11) a0_5_14_0.toInt (fl_A fa0_5_14_2) (fl_A fa0_5_14_3) (fl_A fa0_5_13) (fl_A fa0_5_12) = FX at ⊢
  have hF0 := hFX.symm.trans (Ff_X3_readLine.eq_1 a0_1.toInt a0_2.toInt a0_6.toInt a0_7.toInt a0_8.toInt a0_9.toInt a0_10.toInt a0_11.toInt a0_12.toInt a0_13.toInt a0_5_0.toInt a0_5_1.toInt a0_5_2.toInt a0_5_3.toInt a0_5_4.toInt a0_5_5.toInt a0_5_6.toInt a0_5_7.toInt a0_5_8.toInt a0_5_9.toInt (fl_A fa0_3) (fl_L fa0_4) (fl_A fa0_5_10) (fl_A fa0_5_11) a0_5_14_0.toInt (fl_A fa0_5_14_2) (fl_A fa0_5_14_3) (fl_A fa0_5_13) (fl_A fa0_5_12))
  refine ai_open (fun K hK0 => ?_)
  refine (hK0 _ _ _).mpr ?_
  refine lv_aload_n hx hb dX3_readLine_0 rfl (lv_at hl 0 rfl) ?_
  refine va_ldcS hx hb hown (sxc_R0 hE0) dX3_readLine_1 ?_
  refine va_calli (va_runV (As := [.ref (ad 0)]) (rest := []) ⟨hx, hb, hml, hown, hts⟩ (f_X3_isWord l dC dI s.heap.size a0 (ad 0) a0g_0 (.int a0_1) (.int a0_2) (.ref a0_3) (.ref a0_4) (.ref a0_5) (.int a0_6) (.int a0_7) (.int a0_8) (.int a0_9) (.int a0_12) (.int a0_13) a0_10 a0_11 7 (sxc 0) ba0_10_l ba0_10_u) (cwV 1 hts gX3_readLine_X3_isWord rfl rfl rfl zd_X3_isWord ⟨Nat.le_of_ble_eq_true rfl, Nat.le_of_ble_eq_true rfl⟩) ⟨ax_blind (fun _ _ _ _ hq => sxc_W_same _ _ _ _ (hq)), zr_3 (zp_K hK) (zp_P1 hP) (q0 := 0) rfl, ax_preE (zp_P1 hP) (zp_K hK) (zp_D1 hD) (fun U hU hW => sxc_W_to (sxc_T_w hE0 (i := 0) (by decide)) hS.2.1 (zp_F1 hD hS hA) hU hW)⟩ rfl rfl hl.1 rfl (lv_room (Nat.le_of_ble_eq_true rfl)) dX3_readLine_3 ⟨Nat.le_of_ble_eq_true rfl, Nat.le_of_ble_eq_true rfl⟩) hS (fun q _ h => zp_F1 hD hS hA q h) (zp_F1 hD hS hA) (fun r3 u t H locs ht hvm hw hB hz1 hk1 hS1 => zo1 hB ht hP hD hk1 (zp_F1 hD hS hA) hS1 (fun hP hK1 hD hS => ?_))
  obtain ⟨hw, hfr3⟩ := hw
  rw [show ((7 : Nat) : Int) = 7 from rfl] at hfr3
  have hc3 : Ff_X3_isWord a0_10.toInt a0_11.toInt 7 (fl_A (sxc 0)) = r3.toInt := hfr3.symm
  have hF0 := hF0.trans (fl_lt_eq hc3.symm)
  rcases hw with hw | hw
  · obtain ⟨hw, h3_0, h3_1⟩ := hw
    subst hw
    have l3k0_a0_10 : (1 : Int) ≤ a0_10.toInt := h3_0
    have u3k0_a0_10 : a0_10.toInt ≤ (1 : Int) := h3_1
    have hF0 := hF0.trans (if_pos (by decide))
    refine lv_if_eq (tgt := 32) hx hb dX3_readLine_6 (by decide) (fun c6 => absurd c6 (by decide +kernel)) (fun _ => ?_)
    refine lv_aload_n hx hb dX3_readLine_9 rfl (lv_at hl 0 rfl) ?_
    refine va_get (D := (dC, dI)) (ci := 3) (v := .ref a0_5) (C := RX3) (T := TX3) (N := 14) hx hb hts zi_X3_readLine_3 hown hK hP 0 rfl rfl 5 (by decide) (hts (.fieldLink RX3 22 "WaxTurns$Reade\x72" "draft" "LWaxTurns$Hall;") (zm_X3_readLine_r1 (List.mem_of_getElem? (i := 0) rfl))) (fun _ h9 => h9) rfl dX3_readLine_10 ?_
    refine va_get (D := (dC, dI)) (ci := 0) (v := .int a0_5_0) (C := RX0) (T := TX0) (N := 15) hx hb hts zi_X3_readLine_0 hown hK hP 1 rfl rfl 0 (by decide) (hts (.fieldLink RX3 104 "WaxTurns$Hall" "figures" "I") (zm_X3_readLine_r1 (List.mem_of_getElem? (i := 1) rfl))) (fun _ h9 => h9) rfl dX3_readLine_13 ?_
    refine lv_if_le (tgt := 27) hx hb dX3_readLine_16 (by decide) (fun c16 => ?_) (fun c16 => ?_)
    · have gc16 := ai_le c16
      have u16t_a0_5_0 : a0_5_0.toInt ≤ (0 : Int) := Int.le_trans gc16 zq6
      have hF0 := hF0.trans (if_pos (show a0_5_0.toInt ≤ 0 from gc16))
      refine lv_aload_n hx hb dX3_readLine_27 rfl (lv_at hl 0 rfl) ?_
      refine zc_cutc (wc := [(a0, .inr (3, [a0g_0, .int a0_1, .int a0_2, .ref a0_3, .ref a0_4, .ref a0_5, .int a0_6, .int a0_7, .int a0_8, .int a0_9, .int a0_10, .long a0_11, .int a0_12, .int a0_13])), (a0_3, .inl (ka0_3, 900, .inl (fa0_3))), (a0_5, .inr (0, [.int a0_5_0, .int a0_5_1, .int a0_5_2, .int a0_5_3, .int a0_5_4, .int a0_5_5, .int a0_5_6, .int a0_5_7, .int a0_5_8, .int a0_5_9, .ref a0_5_10, .ref a0_5_11, .ref a0_5_12, .ref a0_5_13, .ref a0_5_14]))]) hP hD hS hA [0, 2, 1] (by decide +kernel) rfl (fun hPc hDc hFc hCc => ?_)
      have hKc := hK.sub (tys' := [(ka0_3, .byte)]) [0] rfl
      refine va_calli (va_runV (As := []) (rest := []) ⟨hx, hb, hml, hown, hts⟩ (f_X3_readHall l dC dI H.size a0 a0g_0 (.ref a0_4) (.int a0_6) a0_1 a0_2 a0_3 a0_5 a0_7 a0_8 a0_9 a0_10 a0_11 a0_12 a0_13 ka0_3 fa0_3 a0_5_0 a0_5_1 a0_5_2 a0_5_3 (.int a0_5_4) (.int a0_5_5) (.int a0_5_6) (.int a0_5_7) (.int a0_5_8) (.int a0_5_9) (.ref a0_5_10) (.ref a0_5_11) (.ref a0_5_12) (.ref a0_5_13) (.ref a0_5_14) ad ba0_7_l ba0_7_u ba0_8_l ba0_8_u ba0_9_l ba0_9_u (Int.le_trans zq4 l3k0_a0_10) (Int.le_trans u3k0_a0_10 zq135) ba0_5_0_l (Int.le_trans u16t_a0_5_0 zq7)) (cwV 0 hts gX3_readLine_X3_readHall rfl rfl rfl zd_X3_readHall ⟨Nat.le_of_ble_eq_true rfl, Nat.le_of_ble_eq_true rfl⟩) ⟨ax_blind (fun _ _ _ _ hq => ⟨sxc_T_same _ _ _ _ (hq.1), va_Nw.same rfl rfl (hq.2)⟩), zr_3 hKc hPc (q0 := 0) rfl, ax_preE hPc hKc hDc (fun U hU hW => ⟨sxc_T_to hE0 hS.2.1 hFc hU hW, va_Nw.warmM hW hE1⟩)⟩ rfl rfl hl.1 rfl (lv_room (Nat.le_of_ble_eq_true rfl)) dX3_readLine_28 ⟨Nat.le_of_ble_eq_true rfl, Nat.le_of_ble_eq_true rfl⟩) hS (fun q _ h => hFc q h) hFc (fun r28 u t H locs ht hvm hw => zx_12 (fun v28na0_1 v28na0_2 v28na0_8 v28na0_9 v28na0_10 v28na0_11 v28na0_12 v28na0_13 v28na0_5_0 v28na0_5_1 v28na0_5_2 v28na0_5_3 => zy_5 (fun bv28na0_8 bv28na0_9 bv28na0_10 bv28na0_5_0 hraw28_0 hB hz1 hk1 hS1 => zo hB ht hS1 (fun hP1 hK1 hD1 hS => ?_))))
      refine zc_backc (w := [(a0, .inr (3, [a0g_0, .int v28na0_1, .int v28na0_2, .ref a0_3, .ref a0_4, .ref a0_5, .int a0_6, .int a0_7, .int v28na0_8, .int v28na0_9, .int v28na0_10, .long v28na0_11, .int v28na0_12, .int v28na0_13])), (a0_5, .inr (0, [.int v28na0_5_0, .int v28na0_5_1, .int v28na0_5_2, .int v28na0_5_3, .int a0_5_4, .int a0_5_5, .int a0_5_6, .int a0_5_7, .int a0_5_8, .int a0_5_9, .ref a0_5_10, .ref a0_5_11, .ref a0_5_12, .ref a0_5_13, .ref a0_5_14])), (a0_3, .inl (ka0_3, 900, .inl (fa0_3))), (a0_4, .inl (ka0_4, 12, .inr (.inl (fa0_4)))), (a0_5_10, .inl (ka0_5_10, 9, .inl (fa0_5_10))), (a0_5_11, .inl (ka0_5_11, 9, .inl (fa0_5_11))), (a0_5_14, .inr (6, [.int a0_5_14_0, a0_5_14g_1, .ref a0_5_14_2, .ref a0_5_14_3])), (a0_5_14_2, .inl (ka0_5_14_2, 3, .inl (fa0_5_14_2))), (a0_5_14_3, .inl (ka0_5_14_3, 3, .inl (fa0_5_14_3))), (a0_5_13, .inl (ka0_5_13, 6, .inl (fa0_5_13))), (a0_5_12, .inl (ka0_5_12, 6, .inl (fa0_5_12)))]) hP hD hCc hk1 hFc hP1 hD1 [.inr 0, .inr 2, .inr 1, .inl 3, .inl 4, .inl 5, .inl 6, .inl 7, .inl 8, .inl 9, .inl 10] (by decide +kernel) rfl (fun hP hD => ?_)
      obtain ⟨hw, hfr28⟩ := hw
      have hc28 : Ff_X3_readHall a0_1.toInt a0_2.toInt a0_7.toInt a0_9.toInt a0_11.toInt a0_12.toInt a0_13.toInt (fl_A fa0_3) a0_5_0.toInt a0_5_1.toInt a0_5_2.toInt a0_5_3.toInt = (r28.toInt, v28na0_1.toInt, v28na0_2.toInt, v28na0_8.toInt, v28na0_9.toInt, v28na0_10.toInt, v28na0_11.toInt, v28na0_12.toInt, v28na0_13.toInt, v28na0_5_0.toInt, v28na0_5_1.toInt, v28na0_5_2.toInt, v28na0_5_3.toInt) := Prod.ext hfr28.symm hraw28_0
      have hF0 := hF0.trans (fl_c13_eq hc28)
      rcases hw with hw | hw
      · subst hw
        have hF0 := hF0.trans (if_pos (by decide))
        have hFe : FX = (1, v28na0_1.toInt, v28na0_2.toInt, a0_6.toInt, v28na0_8.toInt, v28na0_9.toInt, v28na0_10.toInt, v28na0_11.toInt, v28na0_12.toInt, v28na0_13.toInt, v28na0_5_0.toInt, v28na0_5_1.toInt, v28na0_5_2.toInt, v28na0_5_3.toInt, a0_5_4.toInt, a0_5_5.toInt, a0_5_6.toInt, a0_5_7.toInt, a0_5_8.toInt, a0_5_9.toInt, (fl_L fa0_4), (fl_A fa0_5_10), (fl_A fa0_5_11), a0_5_14_0.toInt, (fl_A fa0_5_14_2), (fl_A fa0_5_14_3), (fl_A fa0_5_13), (fl_A fa0_5_12)) := hF0
        exact W.zret (v := 1) hx hb hr rfl (fun t ht hW => ⟨⟨1, (), rfl, ⟨(Or.inl (rfl)), (congrArg Prod.fst hFe).symm⟩, v28na0_1, v28na0_2, a0_6, v28na0_8, v28na0_9, v28na0_10, v28na0_11, v28na0_12, v28na0_13, v28na0_5_0, v28na0_5_1, v28na0_5_2, v28na0_5_3, a0_5_4, a0_5_5, a0_5_6, a0_5_7, a0_5_8, a0_5_9, fa0_4, fa0_5_10, fa0_5_11, a0_5_14_0, fa0_5_14_2, fa0_5_14_3, fa0_5_13, fa0_5_12, ⟨ba0_6_l, ba0_6_u⟩, ⟨bv28na0_8.1, bv28na0_8.2⟩, ⟨bv28na0_9.1, bv28na0_9.2⟩, ⟨bv28na0_10.1, bv28na0_10.2⟩, ⟨bv28na0_5_0.1, bv28na0_5_0.2⟩, ⟨ba0_5_4_l, ba0_5_4_u⟩, ⟨ba0_5_5_l, ba0_5_5_u⟩, ⟨ba0_5_6_l, ba0_5_6_u⟩, ⟨ba0_5_7_l, ba0_5_7_u⟩, ⟨ba0_5_9_l, ba0_5_9_u⟩, ⟨ba0_5_14_0_l, ba0_5_14_0_u⟩, bfa0_5_14_2, bfa0_5_14_3, bfa0_5_13, (congrArg Prod.snd hFe), by rw [ht]; exact hP, va_K.moved hW.alike hK, hD⟩, hS.F ht⟩) hS.2.2 dX3_readLine_31
      · subst hw
        have hF0 := hF0.trans (if_neg (by decide))
        have hFe : FX = (0, v28na0_1.toInt, v28na0_2.toInt, a0_6.toInt, v28na0_8.toInt, v28na0_9.toInt, v28na0_10.toInt, v28na0_11.toInt, v28na0_12.toInt, v28na0_13.toInt, v28na0_5_0.toInt, v28na0_5_1.toInt, v28na0_5_2.toInt, v28na0_5_3.toInt, a0_5_4.toInt, a0_5_5.toInt, a0_5_6.toInt, a0_5_7.toInt, a0_5_8.toInt, a0_5_9.toInt, (fl_L fa0_4), (fl_A fa0_5_10), (fl_A fa0_5_11), a0_5_14_0.toInt, (fl_A fa0_5_14_2), (fl_A fa0_5_14_3), (fl_A fa0_5_13), (fl_A fa0_5_12)) := hF0
        exact W.zret (v := 0) hx hb hr rfl (fun t ht hW => ⟨⟨0, (), rfl, ⟨(Or.inr (rfl)), (congrArg Prod.fst hFe).symm⟩, v28na0_1, v28na0_2, a0_6, v28na0_8, v28na0_9, v28na0_10, v28na0_11, v28na0_12, v28na0_13, v28na0_5_0, v28na0_5_1, v28na0_5_2, v28na0_5_3, a0_5_4, a0_5_5, a0_5_6, a0_5_7, a0_5_8, a0_5_9, fa0_4, fa0_5_10, fa0_5_11, a0_5_14_0, fa0_5_14_2, fa0_5_14_3, fa0_5_13, fa0_5_12, ⟨ba0_6_l, ba0_6_u⟩, ⟨bv28na0_8.1, bv28na0_8.2⟩, ⟨bv28na0_9.1, bv28na0_9.2⟩, ⟨bv28na0_10.1, bv28na0_10.2⟩, ⟨bv28na0_5_0.1, bv28na0_5_0.2⟩, ⟨ba0_5_4_l, ba0_5_4_u⟩, ⟨ba0_5_5_l, ba0_5_5_u⟩, ⟨ba0_5_6_l, ba0_5_6_u⟩, ⟨ba0_5_7_l, ba0_5_7_u⟩, ⟨ba0_5_9_l, ba0_5_9_u⟩, ⟨ba0_5_14_0_l, ba0_5_14_0_u⟩, bfa0_5_14_2, bfa0_5_14_3, bfa0_5_13, (congrArg Prod.snd hFe), by rw [ht]; exact hP, va_K.moved hW.alike hK, hD⟩, hS.F ht⟩) hS.2.2 dX3_readLine_31
    · have gc16 := ai_nle c16
      have l16f_a0_5_0 : (1 : Int) ≤ a0_5_0.toInt := ai_ltlo gc16 zq5
      have hF0 := hF0.trans (if_neg (show ¬ (a0_5_0.toInt ≤ 0) from Int.not_le.mpr gc16))
      refine lv_aload_n hx hb dX3_readLine_19 rfl (lv_at hl 0 rfl) ?_
      refine lv_iconst (v := 3) hx hb dX3_readLine_20 zk_iconst_3 ?_
      refine va_calli (va_runV (As := [.int 3]) (rest := []) ⟨hx, hb, hml, hown, hts⟩ (f_X3_fails l dC dI H.size a0 3 a0g_0 (.ref a0_3) (.ref a0_4) (.ref a0_5) (.int a0_6) (.int a0_7) (.int a0_9) (.int a0_10) (.long a0_11) (.int a0_12) (.int a0_13) a0_1 a0_2 a0_8 ba0_8_l ba0_8_u) (cwV 1 hts gX3_readLine_X3_fails rfl rfl rfl zd_X3_fails ⟨Nat.le_of_ble_eq_true rfl, Nat.le_of_ble_eq_true rfl⟩) ⟨ax_blind (fun _ _ _ _ _ => trivial), zr_3 (zp_K hK) (zp_P1 hP) (q0 := 0) rfl, ax_pre (zp_P1 hP) (zp_K hK) (zp_D1 hD) (fun _ _ => trivial)⟩ rfl rfl hl.1 rfl (lv_room (Nat.le_of_ble_eq_true rfl)) dX3_readLine_21 ⟨Nat.le_of_ble_eq_true rfl, Nat.le_of_ble_eq_true rfl⟩) hS (fun q _ h => zp_F1 hD hS hA q h) (zp_F1 hD hS hA) (fun r21 u t H locs ht hvm hw => zx_2 (fun v21na0_1 v21na0_2 => zy_1 (fun hraw21_0 hB hz1 hk1 hS1 => zo1 hB ht hP hD hk1 (zp_F1 hD hS hA) hS1 (fun hP hK1 hD hS => ?_))))
      obtain ⟨hw, hfr21⟩ := hw
      rw [show (3 : Int32).toInt = 3 from by decide] at hfr21 hraw21_0
      have hc21 : Ff_X3_fails 3 a0_8.toInt = (r21.toInt, v21na0_1.toInt, v21na0_2.toInt) := Prod.ext hfr21.symm hraw21_0
      have hF0 := hF0.trans (fl_c3_eq hc21)
      have hw : r21 = 0 := hw
      have hw := hw.symm
      subst hw
      refine lv_goto (tgt := 31) hx hb dX3_readLine_24 (by decide) ?_
      have hFe : FX = (0, v21na0_1.toInt, v21na0_2.toInt, a0_6.toInt, a0_8.toInt, a0_9.toInt, a0_10.toInt, a0_11.toInt, a0_12.toInt, a0_13.toInt, a0_5_0.toInt, a0_5_1.toInt, a0_5_2.toInt, a0_5_3.toInt, a0_5_4.toInt, a0_5_5.toInt, a0_5_6.toInt, a0_5_7.toInt, a0_5_8.toInt, a0_5_9.toInt, (fl_L fa0_4), (fl_A fa0_5_10), (fl_A fa0_5_11), a0_5_14_0.toInt, (fl_A fa0_5_14_2), (fl_A fa0_5_14_3), (fl_A fa0_5_13), (fl_A fa0_5_12)) := hF0
      exact W.zret (v := 0) hx hb hr rfl (fun t ht hW => ⟨⟨0, (), rfl, ⟨(Or.inr (rfl)), (congrArg Prod.fst hFe).symm⟩, v21na0_1, v21na0_2, a0_6, a0_8, a0_9, a0_10, a0_11, a0_12, a0_13, a0_5_0, a0_5_1, a0_5_2, a0_5_3, a0_5_4, a0_5_5, a0_5_6, a0_5_7, a0_5_8, a0_5_9, fa0_4, fa0_5_10, fa0_5_11, a0_5_14_0, fa0_5_14_2, fa0_5_14_3, fa0_5_13, fa0_5_12, ⟨ba0_6_l, ba0_6_u⟩, ⟨ba0_8_l, ba0_8_u⟩, ⟨ba0_9_l, ba0_9_u⟩, ⟨Int.le_trans (by decide) l3k0_a0_10, Int.le_trans u3k0_a0_10 (by decide)⟩, ⟨Int.le_trans (by decide) l16f_a0_5_0, ba0_5_0_u⟩, ⟨ba0_5_4_l, ba0_5_4_u⟩, ⟨ba0_5_5_l, ba0_5_5_u⟩, ⟨ba0_5_6_l, ba0_5_6_u⟩, ⟨ba0_5_7_l, ba0_5_7_u⟩, ⟨ba0_5_9_l, ba0_5_9_u⟩, ⟨ba0_5_14_0_l, ba0_5_14_0_u⟩, bfa0_5_14_2, bfa0_5_14_3, bfa0_5_13, (congrArg Prod.snd hFe), by rw [ht]; exact hP, va_K.moved hW.alike hK, hD⟩, hS.F ht⟩) hS.2.2 dX3_readLine_31
  · subst hw
    have hF0 := hF0.trans (if_neg (by decide))
    refine lv_if_eq (tgt := 32) hx hb dX3_readLine_6 (by decide) (fun _ => ?_) (fun c6 => absurd (by decide +kernel) c6)
    refine lv_aload_n hx hb dX3_readLine_32 rfl (lv_at hl 0 rfl) ?_
    refine va_ldcS hx hb hown (sxc_R1 hE0) dX3_readLine_33 ?_
    refine va_calli (va_runV (As := [.ref (ad 1)]) (rest := []) ⟨hx, hb, hml, hown, hts⟩ (f_X3_isWord l dC dI H.size a0 (ad 1) a0g_0 (.int a0_1) (.int a0_2) (.ref a0_3) (.ref a0_4) (.ref a0_5) (.int a0_6) (.int a0_7) (.int a0_8) (.int a0_9) (.int a0_12) (.int a0_13) a0_10 a0_11 3 (sxc 1) ba0_10_l ba0_10_u) (cwV 1 hts gX3_readLine_X3_isWord rfl rfl rfl zd_X3_isWord ⟨Nat.le_of_ble_eq_true rfl, Nat.le_of_ble_eq_true rfl⟩) ⟨ax_blind (fun _ _ _ _ hq => sxc_W_same _ _ _ _ (hq)), zr_3 (zp_K hK) (zp_P1 hP) (q0 := 0) rfl, ax_preE (zp_P1 hP) (zp_K hK) (zp_D1 hD) (fun U hU hW => sxc_W_to (sxc_T_w hE0 (i := 1) (by decide)) hS.2.1 (zp_F1 hD hS hA) hU hW)⟩ rfl rfl hl.1 rfl (lv_room (Nat.le_of_ble_eq_true rfl)) dX3_readLine_35 ⟨Nat.le_of_ble_eq_true rfl, Nat.le_of_ble_eq_true rfl⟩) hS (fun q _ h => zp_F1 hD hS hA q h) (zp_F1 hD hS hA) (fun r35 u t H locs ht hvm hw hB hz1 hk1 hS1 => zo1 hB ht hP hD hk1 (zp_F1 hD hS hA) hS1 (fun hP hK1 hD hS => ?_))
    obtain ⟨hw, hfr35⟩ := hw
    rw [show ((3 : Nat) : Int) = 3 from rfl] at hfr35
    have hc35 : Ff_X3_isWord a0_10.toInt a0_11.toInt 3 (fl_A (sxc 1)) = r35.toInt := hfr35.symm
    have hF0 := hF0.trans (fl_lt_eq hc35.symm)
    rcases hw with hw | hw
    · obtain ⟨hw, h35_0, h35_1⟩ := hw
      subst hw
      have l35k0_a0_10 : (1 : Int) ≤ a0_10.toInt := h35_0
      have u35k0_a0_10 : a0_10.toInt ≤ (1 : Int) := h35_1
      have hF0 := hF0.trans (if_pos (by decide))
      refine lv_if_ne (tgt := 74) hx hb dX3_readLine_38 (by decide) (fun _ => ?_) (fun c38 => absurd c38 (by decide +kernel))
      have J74 : ∀ (H : Heap) (locs : List Loc) (ls : Array Slot), (FX = Gf_X3_readLine_74_1 a0_1.toInt a0_2.toInt a0_6.toInt a0_7.toInt a0_8.toInt a0_9.toInt a0_10.toInt a0_11.toInt a0_12.toInt a0_13.toInt a0_5_0.toInt a0_5_1.toInt a0_5_2.toInt a0_5_3.toInt a0_5_4.toInt a0_5_5.toInt a0_5_6.toInt a0_5_7.toInt a0_5_8.toInt a0_5_9.toInt (fl_A fa0_3) (fl_L fa0_4) (fl_A fa0_5_10) (fl_A fa0_5_11) a0_5_14_0.toInt (fl_A fa0_5_14_2) (fl_A fa0_5_14_3) (fl_A fa0_5_13) (fl_A fa0_5_12)) → va_P (dC, dI) vwCl [(a0, .inr (3, [a0g_0, .int a0_1, .int a0_2, .ref a0_3, .ref a0_4, .ref a0_5, .int a0_6, .int a0_7, .int a0_8, .int a0_9, .int a0_10, .long a0_11, .int a0_12, .int a0_13])), (a0_5, .inr (0, [.int a0_5_0, .int a0_5_1, .int a0_5_2, .int a0_5_3, .int a0_5_4, .int a0_5_5, .int a0_5_6, .int a0_5_7, .int a0_5_8, .int a0_5_9, .ref a0_5_10, .ref a0_5_11, .ref a0_5_12, .ref a0_5_13, .ref a0_5_14])), (a0_3, .inl (ka0_3, 900, .inl (fa0_3))), (a0_4, .inl (ka0_4, 12, .inr (.inl (fa0_4)))), (a0_5_10, .inl (ka0_5_10, 9, .inl (fa0_5_10))), (a0_5_11, .inl (ka0_5_11, 9, .inl (fa0_5_11))), (a0_5_14, .inr (6, [.int a0_5_14_0, a0_5_14g_1, .ref a0_5_14_2, .ref a0_5_14_3])), (a0_5_14_2, .inl (ka0_5_14_2, 3, .inl (fa0_5_14_2))), (a0_5_14_3, .inl (ka0_5_14_3, 3, .inl (fa0_5_14_3))), (a0_5_13, .inl (ka0_5_13, 6, .inl (fa0_5_13))), (a0_5_12, .inl (ka0_5_12, 6, .inl (fa0_5_12)))] H → va_D A [(a0, .inr (3, [a0g_0, .int a0_1, .int a0_2, .ref a0_3, .ref a0_4, .ref a0_5, .int a0_6, .int a0_7, .int a0_8, .int a0_9, .int a0_10, .long a0_11, .int a0_12, .int a0_13])), (a0_5, .inr (0, [.int a0_5_0, .int a0_5_1, .int a0_5_2, .int a0_5_3, .int a0_5_4, .int a0_5_5, .int a0_5_6, .int a0_5_7, .int a0_5_8, .int a0_5_9, .ref a0_5_10, .ref a0_5_11, .ref a0_5_12, .ref a0_5_13, .ref a0_5_14])), (a0_3, .inl (ka0_3, 900, .inl (fa0_3))), (a0_4, .inl (ka0_4, 12, .inr (.inl (fa0_4)))), (a0_5_10, .inl (ka0_5_10, 9, .inl (fa0_5_10))), (a0_5_11, .inl (ka0_5_11, 9, .inl (fa0_5_11))), (a0_5_14, .inr (6, [.int a0_5_14_0, a0_5_14g_1, .ref a0_5_14_2, .ref a0_5_14_3])), (a0_5_14_2, .inl (ka0_5_14_2, 3, .inl (fa0_5_14_2))), (a0_5_14_3, .inl (ka0_5_14_3, 3, .inl (fa0_5_14_3))), (a0_5_13, .inl (ka0_5_13, 6, .inl (fa0_5_13))), (a0_5_12, .inl (ka0_5_12, 6, .inl (fa0_5_12)))] → va_S A s.heap H locs → lv_has ls 1 [(0, .ref a0)] → K H locs (F0 m 74 ls []) := by
        intro  H locs ls  hF0 hP hD hS hl
        refine (hK0 _ _ _).mpr ?_
        have hF0 := hF0.trans (Gf_X3_readLine_74_1.eq_1 a0_1.toInt a0_2.toInt a0_6.toInt a0_7.toInt a0_8.toInt a0_9.toInt a0_10.toInt a0_11.toInt a0_12.toInt a0_13.toInt a0_5_0.toInt a0_5_1.toInt a0_5_2.toInt a0_5_3.toInt a0_5_4.toInt a0_5_5.toInt a0_5_6.toInt a0_5_7.toInt a0_5_8.toInt a0_5_9.toInt (fl_A fa0_3) (fl_L fa0_4) (fl_A fa0_5_10) (fl_A fa0_5_11) a0_5_14_0.toInt (fl_A fa0_5_14_2) (fl_A fa0_5_14_3) (fl_A fa0_5_13) (fl_A fa0_5_12))
        refine lv_aload_n hx hb dX3_readLine_74 rfl (lv_at hl 0 rfl) ?_
        refine va_get (D := (dC, dI)) (ci := 3) (v := .ref a0_5) (C := RX3) (T := TX3) (N := 14) hx hb hts zi_X3_readLine_3 hown hK hP 0 rfl rfl 5 (by decide) (hts (.fieldLink RX3 22 "WaxTurns$Reade\x72" "draft" "LWaxTurns$Hall;") (zm_X3_readLine_r1 (List.mem_of_getElem? (i := 0) rfl))) (fun _ h9 => h9) rfl dX3_readLine_75 ?_
        refine va_get (D := (dC, dI)) (ci := 0) (v := .int a0_5_0) (C := RX0) (T := TX0) (N := 15) hx hb hts zi_X3_readLine_0 hown hK hP 1 rfl rfl 0 (by decide) (hts (.fieldLink RX3 104 "WaxTurns$Hall" "figures" "I") (zm_X3_readLine_r1 (List.mem_of_getElem? (i := 1) rfl))) (fun _ h9 => h9) rfl dX3_readLine_78 ?_
        refine lv_if_ne (tgt := 91) hx hb dX3_readLine_81 (by decide) (fun c81 => ?_) (fun c81 => ?_)
        · have gc81 := ai_ne c81
          have l81t_a0_5_0 : (1 : Int) ≤ a0_5_0.toInt := (by first | exact zg_l ba0_5_0_l gc81 (by decide) (by decide) | (have h1 := ba0_5_0_l; have h2 : (0 : Int32).toInt = 0 := (by decide); rw [h2] at gc81; omega))
          have hF0 := hF0.trans (if_neg (show ¬ (a0_5_0.toInt = 0) from  gc81))
          refine lv_aload_n hx hb dX3_readLine_91 rfl (lv_at hl 0 rfl) ?_
          refine va_ldcS hx hb hown (sxc_R1 hE0) dX3_readLine_92 ?_
          refine va_calli (va_runV (As := [.ref (ad 1)]) (rest := []) ⟨hx, hb, hml, hown, hts⟩ (f_X3_isWord l dC dI H.size a0 (ad 1) a0g_0 (.int a0_1) (.int a0_2) (.ref a0_3) (.ref a0_4) (.ref a0_5) (.int a0_6) (.int a0_7) (.int a0_8) (.int a0_9) (.int a0_12) (.int a0_13) a0_10 a0_11 3 (sxc 1) ba0_10_l ba0_10_u) (cwV 1 hts gX3_readLine_X3_isWord rfl rfl rfl zd_X3_isWord ⟨Nat.le_of_ble_eq_true rfl, Nat.le_of_ble_eq_true rfl⟩) ⟨ax_blind (fun _ _ _ _ hq => sxc_W_same _ _ _ _ (hq)), zr_3 (zp_K hK) (zp_P1 hP) (q0 := 0) rfl, ax_preE (zp_P1 hP) (zp_K hK) (zp_D1 hD) (fun U hU hW => sxc_W_to (sxc_T_w hE0 (i := 1) (by decide)) hS.2.1 (zp_F1 hD hS hA) hU hW)⟩ rfl rfl hl.1 rfl (lv_room (Nat.le_of_ble_eq_true rfl)) dX3_readLine_94 ⟨Nat.le_of_ble_eq_true rfl, Nat.le_of_ble_eq_true rfl⟩) hS (fun q _ h => zp_F1 hD hS hA q h) (zp_F1 hD hS hA) (fun r94 u t H locs ht hvm hw hB hz1 hk1 hS1 => zo1 hB ht hP hD hk1 (zp_F1 hD hS hA) hS1 (fun hP hK1 hD hS => ?_))
          obtain ⟨hw, hfr94⟩ := hw
          rw [show ((3 : Nat) : Int) = 3 from rfl] at hfr94
          have hc94 : Ff_X3_isWord a0_10.toInt a0_11.toInt 3 (fl_A (sxc 1)) = r94.toInt := hfr94.symm
          have hF0 := hF0.trans (fl_lt_eq hc94.symm)
          rcases hw with hw | hw
          · obtain ⟨hw, h94_0, h94_1⟩ := hw
            subst hw
            have l94k0_a0_10 : (1 : Int) ≤ a0_10.toInt := h94_0
            have u94k0_a0_10 : a0_10.toInt ≤ (1 : Int) := h94_1
            have hF0 := hF0.trans (if_pos (by decide))
            refine lv_if_eq (tgt := 123) hx hb dX3_readLine_97 (by decide) (fun c97 => absurd c97 (by decide +kernel)) (fun _ => ?_)
            refine lv_aload_n hx hb dX3_readLine_100 rfl (lv_at hl 0 rfl) ?_
            refine va_get (D := (dC, dI)) (ci := 3) (v := .ref a0_5) (C := RX3) (T := TX3) (N := 14) hx hb hts zi_X3_readLine_3 hown hK hP 0 rfl rfl 5 (by decide) (hts (.fieldLink RX3 22 "WaxTurns$Reade\x72" "draft" "LWaxTurns$Hall;") (zm_X3_readLine_r1 (List.mem_of_getElem? (i := 0) rfl))) (fun _ h9 => h9) rfl dX3_readLine_101 ?_
            refine va_get (D := (dC, dI)) (ci := 0) (v := .int a0_5_4) (C := RX0) (T := TX0) (N := 15) hx hb hts zi_X3_readLine_0 hown hK hP 1 rfl rfl 4 (by decide) (hts (.fieldLink RX3 68 "WaxTurns$Hall" "lawTold" "Z") (zm_X3_readLine_r1 (List.mem_of_getElem? (i := 2) rfl))) (fun _ h9 => h9) rfl dX3_readLine_104 ?_
            refine lv_if_eq (tgt := 118) hx hb dX3_readLine_107 (by decide) (fun c107 => ?_) (fun c107 => ?_)
            · have gc107 := ai_eq c107
              have u107t_a0_5_4 : a0_5_4.toInt ≤ (0 : Int) := Int.le_trans (Int.le_of_eq gc107) zq6
              have l107t_a0_5_4 : (0 : Int) ≤ a0_5_4.toInt := ba0_5_4_l
              have hF0 := hF0.trans (if_pos (show a0_5_4.toInt = 0 from gc107))
              refine lv_aload_n hx hb dX3_readLine_118 rfl (lv_at hl 0 rfl) ?_
              refine zc_cutc (wc := [(a0, .inr (3, [a0g_0, .int a0_1, .int a0_2, .ref a0_3, .ref a0_4, .ref a0_5, .int a0_6, .int a0_7, .int a0_8, .int a0_9, .int a0_10, .long a0_11, .int a0_12, .int a0_13])), (a0_3, .inl (ka0_3, 900, .inl (fa0_3))), (a0_5, .inr (0, [.int a0_5_0, .int a0_5_1, .int a0_5_2, .int a0_5_3, .int a0_5_4, .int a0_5_5, .int a0_5_6, .int a0_5_7, .int a0_5_8, .int a0_5_9, .ref a0_5_10, .ref a0_5_11, .ref a0_5_12, .ref a0_5_13, .ref a0_5_14]))]) hP hD hS hA [0, 2, 1] (by decide +kernel) rfl (fun hPc hDc hFc hCc => ?_)
              have hKc := hK.sub (tys' := [(ka0_3, .byte)]) [0] rfl
              refine va_calli (va_runV (As := []) (rest := []) ⟨hx, hb, hml, hown, hts⟩ (f_X3_readLaw l dC dI H.size a0 a0g_0 (.ref a0_4) (.int a0_6) a0_1 a0_2 a0_3 a0_5 a0_7 a0_8 a0_9 a0_10 a0_11 a0_12 a0_13 ka0_3 fa0_3 a0_5_0 (.int a0_5_1) (.int a0_5_2) (.int a0_5_3) (.int a0_5_8) (.int a0_5_9) (.ref a0_5_10) (.ref a0_5_11) (.ref a0_5_12) (.ref a0_5_13) (.ref a0_5_14) a0_5_4 a0_5_5 a0_5_6 a0_5_7 ad ba0_7_l ba0_7_u ba0_8_l ba0_8_u ba0_9_l ba0_9_u (Int.le_trans zq4 l94k0_a0_10) (Int.le_trans u94k0_a0_10 zq135) (Int.le_trans zq4 l81t_a0_5_0) ba0_5_0_u l107t_a0_5_4 (Int.le_trans u107t_a0_5_4 zq4) ba0_5_5_l ba0_5_5_u ba0_5_6_l ba0_5_6_u ba0_5_7_l ba0_5_7_u) (cwV 0 hts gX3_readLine_X3_readLaw rfl rfl rfl zd_X3_readLaw ⟨Nat.le_of_ble_eq_true rfl, Nat.le_of_ble_eq_true rfl⟩) ⟨ax_blind (fun _ _ _ _ hq => ⟨sxc_T_same _ _ _ _ (hq.1), va_Nw.same rfl rfl (hq.2)⟩), zr_3 hKc hPc (q0 := 0) rfl, ax_preE hPc hKc hDc (fun U hU hW => ⟨sxc_T_to hE0 hS.2.1 hFc hU hW, va_Nw.warmM hW hE1⟩)⟩ rfl rfl hl.1 rfl (lv_room (Nat.le_of_ble_eq_true rfl)) dX3_readLine_119 ⟨Nat.le_of_ble_eq_true rfl, Nat.le_of_ble_eq_true rfl⟩) hS (fun q _ h => hFc q h) hFc (fun r119 u t H locs ht hvm hw => zx_12 (fun v119na0_1 v119na0_2 v119na0_8 v119na0_9 v119na0_10 v119na0_11 v119na0_12 v119na0_13 v119na0_5_4 v119na0_5_5 v119na0_5_6 v119na0_5_7 => zy_8 (fun bv119na0_8 bv119na0_9 bv119na0_10 bv119na0_5_4 bv119na0_5_5 bv119na0_5_6 bv119na0_5_7 hraw119_0 hB hz1 hk1 hS1 => zo hB ht hS1 (fun hP1 hK1 hD1 hS => ?_))))
              refine zc_backc (w := [(a0, .inr (3, [a0g_0, .int v119na0_1, .int v119na0_2, .ref a0_3, .ref a0_4, .ref a0_5, .int a0_6, .int a0_7, .int v119na0_8, .int v119na0_9, .int v119na0_10, .long v119na0_11, .int v119na0_12, .int v119na0_13])), (a0_5, .inr (0, [.int a0_5_0, .int a0_5_1, .int a0_5_2, .int a0_5_3, .int v119na0_5_4, .int v119na0_5_5, .int v119na0_5_6, .int v119na0_5_7, .int a0_5_8, .int a0_5_9, .ref a0_5_10, .ref a0_5_11, .ref a0_5_12, .ref a0_5_13, .ref a0_5_14])), (a0_3, .inl (ka0_3, 900, .inl (fa0_3))), (a0_4, .inl (ka0_4, 12, .inr (.inl (fa0_4)))), (a0_5_10, .inl (ka0_5_10, 9, .inl (fa0_5_10))), (a0_5_11, .inl (ka0_5_11, 9, .inl (fa0_5_11))), (a0_5_14, .inr (6, [.int a0_5_14_0, a0_5_14g_1, .ref a0_5_14_2, .ref a0_5_14_3])), (a0_5_14_2, .inl (ka0_5_14_2, 3, .inl (fa0_5_14_2))), (a0_5_14_3, .inl (ka0_5_14_3, 3, .inl (fa0_5_14_3))), (a0_5_13, .inl (ka0_5_13, 6, .inl (fa0_5_13))), (a0_5_12, .inl (ka0_5_12, 6, .inl (fa0_5_12)))]) hP hD hCc hk1 hFc hP1 hD1 [.inr 0, .inr 2, .inr 1, .inl 3, .inl 4, .inl 5, .inl 6, .inl 7, .inl 8, .inl 9, .inl 10] (by decide +kernel) rfl (fun hP hD => ?_)
              obtain ⟨hw, hfr119⟩ := hw
              have hc119 : Ff_X3_readLaw a0_1.toInt a0_2.toInt a0_7.toInt a0_9.toInt a0_11.toInt a0_12.toInt a0_13.toInt (fl_A fa0_3) a0_5_0.toInt a0_5_4.toInt a0_5_5.toInt a0_5_6.toInt a0_5_7.toInt = (r119.toInt, v119na0_1.toInt, v119na0_2.toInt, v119na0_8.toInt, v119na0_9.toInt, v119na0_10.toInt, v119na0_11.toInt, v119na0_12.toInt, v119na0_13.toInt, v119na0_5_4.toInt, v119na0_5_5.toInt, v119na0_5_6.toInt, v119na0_5_7.toInt) := Prod.ext hfr119.symm hraw119_0
              have hF0 := hF0.trans (fl_c13_eq hc119)
              rcases hw with hw | hw
              · subst hw
                have hF0 := hF0.trans (if_pos (by decide))
                have hFe : FX = (1, v119na0_1.toInt, v119na0_2.toInt, a0_6.toInt, v119na0_8.toInt, v119na0_9.toInt, v119na0_10.toInt, v119na0_11.toInt, v119na0_12.toInt, v119na0_13.toInt, a0_5_0.toInt, a0_5_1.toInt, a0_5_2.toInt, a0_5_3.toInt, v119na0_5_4.toInt, v119na0_5_5.toInt, v119na0_5_6.toInt, v119na0_5_7.toInt, a0_5_8.toInt, a0_5_9.toInt, (fl_L fa0_4), (fl_A fa0_5_10), (fl_A fa0_5_11), a0_5_14_0.toInt, (fl_A fa0_5_14_2), (fl_A fa0_5_14_3), (fl_A fa0_5_13), (fl_A fa0_5_12)) := hF0
                exact W.zret (v := 1) hx hb hr rfl (fun t ht hW => ⟨⟨1, (), rfl, ⟨(Or.inl (rfl)), (congrArg Prod.fst hFe).symm⟩, v119na0_1, v119na0_2, a0_6, v119na0_8, v119na0_9, v119na0_10, v119na0_11, v119na0_12, v119na0_13, a0_5_0, a0_5_1, a0_5_2, a0_5_3, v119na0_5_4, v119na0_5_5, v119na0_5_6, v119na0_5_7, a0_5_8, a0_5_9, fa0_4, fa0_5_10, fa0_5_11, a0_5_14_0, fa0_5_14_2, fa0_5_14_3, fa0_5_13, fa0_5_12, ⟨ba0_6_l, ba0_6_u⟩, ⟨bv119na0_8.1, bv119na0_8.2⟩, ⟨bv119na0_9.1, bv119na0_9.2⟩, ⟨bv119na0_10.1, bv119na0_10.2⟩, ⟨Int.le_trans (by decide) l81t_a0_5_0, ba0_5_0_u⟩, ⟨bv119na0_5_4.1, bv119na0_5_4.2⟩, ⟨bv119na0_5_5.1, bv119na0_5_5.2⟩, ⟨bv119na0_5_6.1, bv119na0_5_6.2⟩, ⟨bv119na0_5_7.1, bv119na0_5_7.2⟩, ⟨ba0_5_9_l, ba0_5_9_u⟩, ⟨ba0_5_14_0_l, ba0_5_14_0_u⟩, bfa0_5_14_2, bfa0_5_14_3, bfa0_5_13, (congrArg Prod.snd hFe), by rw [ht]; exact hP, va_K.moved hW.alike hK, hD⟩, hS.F ht⟩) hS.2.2 dX3_readLine_122
              · subst hw
                have hF0 := hF0.trans (if_neg (by decide))
                have hFe : FX = (0, v119na0_1.toInt, v119na0_2.toInt, a0_6.toInt, v119na0_8.toInt, v119na0_9.toInt, v119na0_10.toInt, v119na0_11.toInt, v119na0_12.toInt, v119na0_13.toInt, a0_5_0.toInt, a0_5_1.toInt, a0_5_2.toInt, a0_5_3.toInt, v119na0_5_4.toInt, v119na0_5_5.toInt, v119na0_5_6.toInt, v119na0_5_7.toInt, a0_5_8.toInt, a0_5_9.toInt, (fl_L fa0_4), (fl_A fa0_5_10), (fl_A fa0_5_11), a0_5_14_0.toInt, (fl_A fa0_5_14_2), (fl_A fa0_5_14_3), (fl_A fa0_5_13), (fl_A fa0_5_12)) := hF0
                exact W.zret (v := 0) hx hb hr rfl (fun t ht hW => ⟨⟨0, (), rfl, ⟨(Or.inr (rfl)), (congrArg Prod.fst hFe).symm⟩, v119na0_1, v119na0_2, a0_6, v119na0_8, v119na0_9, v119na0_10, v119na0_11, v119na0_12, v119na0_13, a0_5_0, a0_5_1, a0_5_2, a0_5_3, v119na0_5_4, v119na0_5_5, v119na0_5_6, v119na0_5_7, a0_5_8, a0_5_9, fa0_4, fa0_5_10, fa0_5_11, a0_5_14_0, fa0_5_14_2, fa0_5_14_3, fa0_5_13, fa0_5_12, ⟨ba0_6_l, ba0_6_u⟩, ⟨bv119na0_8.1, bv119na0_8.2⟩, ⟨bv119na0_9.1, bv119na0_9.2⟩, ⟨bv119na0_10.1, bv119na0_10.2⟩, ⟨Int.le_trans (by decide) l81t_a0_5_0, ba0_5_0_u⟩, ⟨bv119na0_5_4.1, bv119na0_5_4.2⟩, ⟨bv119na0_5_5.1, bv119na0_5_5.2⟩, ⟨bv119na0_5_6.1, bv119na0_5_6.2⟩, ⟨bv119na0_5_7.1, bv119na0_5_7.2⟩, ⟨ba0_5_9_l, ba0_5_9_u⟩, ⟨ba0_5_14_0_l, ba0_5_14_0_u⟩, bfa0_5_14_2, bfa0_5_14_3, bfa0_5_13, (congrArg Prod.snd hFe), by rw [ht]; exact hP, va_K.moved hW.alike hK, hD⟩, hS.F ht⟩) hS.2.2 dX3_readLine_122
            · have gc107 := ai_ne c107
              have l107f_a0_5_4 : (1 : Int) ≤ a0_5_4.toInt := (by first | exact zg_l ba0_5_4_l gc107 (by decide) (by decide) | (have h1 := ba0_5_4_l; have h2 : (0 : Int32).toInt = 0 := (by decide); rw [h2] at gc107; omega))
              have hF0 := hF0.trans (if_neg (show ¬ (a0_5_4.toInt = 0) from  gc107))
              refine lv_aload_n hx hb dX3_readLine_110 rfl (lv_at hl 0 rfl) ?_
              refine lv_iconst (v := 3) hx hb dX3_readLine_111 zk_iconst_3 ?_
              refine va_calli (va_runV (As := [.int 3]) (rest := []) ⟨hx, hb, hml, hown, hts⟩ (f_X3_fails l dC dI H.size a0 3 a0g_0 (.ref a0_3) (.ref a0_4) (.ref a0_5) (.int a0_6) (.int a0_7) (.int a0_9) (.int a0_10) (.long a0_11) (.int a0_12) (.int a0_13) a0_1 a0_2 a0_8 ba0_8_l ba0_8_u) (cwV 1 hts gX3_readLine_X3_fails rfl rfl rfl zd_X3_fails ⟨Nat.le_of_ble_eq_true rfl, Nat.le_of_ble_eq_true rfl⟩) ⟨ax_blind (fun _ _ _ _ _ => trivial), zr_3 (zp_K hK) (zp_P1 hP) (q0 := 0) rfl, ax_pre (zp_P1 hP) (zp_K hK) (zp_D1 hD) (fun _ _ => trivial)⟩ rfl rfl hl.1 rfl (lv_room (Nat.le_of_ble_eq_true rfl)) dX3_readLine_112 ⟨Nat.le_of_ble_eq_true rfl, Nat.le_of_ble_eq_true rfl⟩) hS (fun q _ h => zp_F1 hD hS hA q h) (zp_F1 hD hS hA) (fun r112 u t H locs ht hvm hw => zx_2 (fun v112na0_1 v112na0_2 => zy_1 (fun hraw112_0 hB hz1 hk1 hS1 => zo1 hB ht hP hD hk1 (zp_F1 hD hS hA) hS1 (fun hP hK1 hD hS => ?_))))
              obtain ⟨hw, hfr112⟩ := hw
              rw [show (3 : Int32).toInt = 3 from by decide] at hfr112 hraw112_0
              have hc112 : Ff_X3_fails 3 a0_8.toInt = (r112.toInt, v112na0_1.toInt, v112na0_2.toInt) := Prod.ext hfr112.symm hraw112_0
              have hF0 := hF0.trans (fl_c3_eq hc112)
              have hw : r112 = 0 := hw
              have hw := hw.symm
              subst hw
              refine lv_goto (tgt := 122) hx hb dX3_readLine_115 (by decide) ?_
              have hFe : FX = (0, v112na0_1.toInt, v112na0_2.toInt, a0_6.toInt, a0_8.toInt, a0_9.toInt, a0_10.toInt, a0_11.toInt, a0_12.toInt, a0_13.toInt, a0_5_0.toInt, a0_5_1.toInt, a0_5_2.toInt, a0_5_3.toInt, a0_5_4.toInt, a0_5_5.toInt, a0_5_6.toInt, a0_5_7.toInt, a0_5_8.toInt, a0_5_9.toInt, (fl_L fa0_4), (fl_A fa0_5_10), (fl_A fa0_5_11), a0_5_14_0.toInt, (fl_A fa0_5_14_2), (fl_A fa0_5_14_3), (fl_A fa0_5_13), (fl_A fa0_5_12)) := hF0
              exact W.zret (v := 0) hx hb hr rfl (fun t ht hW => ⟨⟨0, (), rfl, ⟨(Or.inr (rfl)), (congrArg Prod.fst hFe).symm⟩, v112na0_1, v112na0_2, a0_6, a0_8, a0_9, a0_10, a0_11, a0_12, a0_13, a0_5_0, a0_5_1, a0_5_2, a0_5_3, a0_5_4, a0_5_5, a0_5_6, a0_5_7, a0_5_8, a0_5_9, fa0_4, fa0_5_10, fa0_5_11, a0_5_14_0, fa0_5_14_2, fa0_5_14_3, fa0_5_13, fa0_5_12, ⟨ba0_6_l, ba0_6_u⟩, ⟨ba0_8_l, ba0_8_u⟩, ⟨ba0_9_l, ba0_9_u⟩, ⟨Int.le_trans (by decide) l94k0_a0_10, Int.le_trans u94k0_a0_10 (by decide)⟩, ⟨Int.le_trans (by decide) l81t_a0_5_0, ba0_5_0_u⟩, ⟨Int.le_trans (by decide) l107f_a0_5_4, ba0_5_4_u⟩, ⟨ba0_5_5_l, ba0_5_5_u⟩, ⟨ba0_5_6_l, ba0_5_6_u⟩, ⟨ba0_5_7_l, ba0_5_7_u⟩, ⟨ba0_5_9_l, ba0_5_9_u⟩, ⟨ba0_5_14_0_l, ba0_5_14_0_u⟩, bfa0_5_14_2, bfa0_5_14_3, bfa0_5_13, (congrArg Prod.snd hFe), by rw [ht]; exact hP, va_K.moved hW.alike hK, hD⟩, hS.F ht⟩) hS.2.2 dX3_readLine_122
          · subst hw
            have hF0 := hF0.trans (if_neg (by decide))
            refine lv_if_eq (tgt := 123) hx hb dX3_readLine_97 (by decide) (fun _ => ?_) (fun c97 => absurd (by decide +kernel) c97)
            refine lv_aload_n hx hb dX3_readLine_123 rfl (lv_at hl 0 rfl) ?_
            refine va_ldcS hx hb hown (sxc_R2 hE0) dX3_readLine_124 ?_
            refine va_calli (va_runV (As := [.ref (ad 2)]) (rest := []) ⟨hx, hb, hml, hown, hts⟩ (f_X3_isWord l dC dI H.size a0 (ad 2) a0g_0 (.int a0_1) (.int a0_2) (.ref a0_3) (.ref a0_4) (.ref a0_5) (.int a0_6) (.int a0_7) (.int a0_8) (.int a0_9) (.int a0_12) (.int a0_13) a0_10 a0_11 6 (sxc 2) ba0_10_l ba0_10_u) (cwV 1 hts gX3_readLine_X3_isWord rfl rfl rfl zd_X3_isWord ⟨Nat.le_of_ble_eq_true rfl, Nat.le_of_ble_eq_true rfl⟩) ⟨ax_blind (fun _ _ _ _ hq => sxc_W_same _ _ _ _ (hq)), zr_3 (zp_K hK) (zp_P1 hP) (q0 := 0) rfl, ax_preE (zp_P1 hP) (zp_K hK) (zp_D1 hD) (fun U hU hW => sxc_W_to (sxc_T_w hE0 (i := 2) (by decide)) hS.2.1 (zp_F1 hD hS hA) hU hW)⟩ rfl rfl hl.1 rfl (lv_room (Nat.le_of_ble_eq_true rfl)) dX3_readLine_126 ⟨Nat.le_of_ble_eq_true rfl, Nat.le_of_ble_eq_true rfl⟩) hS (fun q _ h => zp_F1 hD hS hA q h) (zp_F1 hD hS hA) (fun r126 u t H locs ht hvm hw hB hz1 hk1 hS1 => zo1 hB ht hP hD hk1 (zp_F1 hD hS hA) hS1 (fun hP hK1 hD hS => ?_))
            obtain ⟨hw, hfr126⟩ := hw
            rw [show ((6 : Nat) : Int) = 6 from rfl] at hfr126
            have hc126 : Ff_X3_isWord a0_10.toInt a0_11.toInt 6 (fl_A (sxc 2)) = r126.toInt := hfr126.symm
            have hF0 := hF0.trans (fl_lt_eq hc126.symm)
            rcases hw with hw | hw
            · obtain ⟨hw, h126_0, h126_1⟩ := hw
              subst hw
              have l126k0_a0_10 : (1 : Int) ≤ a0_10.toInt := h126_0
              have u126k0_a0_10 : a0_10.toInt ≤ (1 : Int) := h126_1
              have hF0 := hF0.trans (if_pos (by decide))
              refine lv_if_eq (tgt := 160) hx hb dX3_readLine_129 (by decide) (fun c129 => absurd c129 (by decide +kernel)) (fun _ => ?_)
              refine lv_aload_n hx hb dX3_readLine_132 rfl (lv_at hl 0 rfl) ?_
              refine va_get (D := (dC, dI)) (ci := 3) (v := .ref a0_5) (C := RX3) (T := TX3) (N := 14) hx hb hts zi_X3_readLine_3 hown hK hP 0 rfl rfl 5 (by decide) (hts (.fieldLink RX3 22 "WaxTurns$Reade\x72" "draft" "LWaxTurns$Hall;") (zm_X3_readLine_r1 (List.mem_of_getElem? (i := 0) rfl))) (fun _ h9 => h9) rfl dX3_readLine_133 ?_
              refine va_get (D := (dC, dI)) (ci := 0) (v := .int a0_5_8) (C := RX0) (T := TX0) (N := 15) hx hb hts zi_X3_readLine_0 hown hK hP 1 rfl rfl 8 (by decide) (hts (.fieldLink RX3 121 "WaxTurns$Hall" "toldBits" "I") (zm_X3_readLine_r1 (List.mem_of_getElem? (i := 3) rfl))) (fun _ h9 => h9) rfl dX3_readLine_136 ?_
              refine va_calli (va_runS (As := [.int a0_5_8]) (rest := []) ⟨hx, hb, hml, hown, hts⟩ (f_J6_bitCount_0f7a4 l dC dI H.size a0_5_8 ) (va_cwS 1 hts gX3_readLine_J6_bitCount_0f7a4 rfl rfl rfl zd_J6_bitCount_0f7a4.2 ⟨Nat.le_of_ble_eq_true rfl, Nat.le_of_ble_eq_true rfl⟩) ⟨ax_blind (fun _ _ _ _ _ => trivial), ax_pre (zp_P0 hP) (zp_K hK) (zp_D0 hD) (fun _ _ => trivial)⟩ rfl rfl hl.1 rfl (lv_room (Nat.le_of_ble_eq_true rfl)) dX3_readLine_139 ⟨Nat.le_of_ble_eq_true rfl, Nat.le_of_ble_eq_true rfl⟩) hS (fun q _ h => zp_F0 hD hS hA q h) (zp_F0 hD hS hA) (fun r139 u t H locs ht hvm hw hB hz1 hk1 hS1 => zo0 hB ht hP hD hk1 (zp_F0 hD hS hA) hS1 (fun hP hK1 hD hS => ?_))
              obtain ⟨hw, hfr139⟩ := hw
              have hc139 : Ff_J6_bitCount_0f7a4 a0_5_8.toInt = r139.toInt := hfr139.symm
              have hF0 := hF0.trans (fl_lt_eq hc139.symm)
              refine lv_bipush (v := 9) hx hb dX3_readLine_142 zk_bipush_9 ?_
              refine lv_icmp_lt (tgt := 155) hx hb dX3_readLine_144 (by decide) (fun c144 => ?_) (fun c144 => ?_)
              · have gc144 := ai_lt c144
                have u144t_r139 : r139.toInt ≤ (8 : Int) := ai_lthi gc144 zq3
                have hF0 := hF0.trans (if_pos (show r139.toInt < 9 from gc144))
                refine lv_aload_n hx hb dX3_readLine_155 rfl (lv_at hl 0 rfl) ?_
                refine zc_cutc (wc := [(a0, .inr (3, [a0g_0, .int a0_1, .int a0_2, .ref a0_3, .ref a0_4, .ref a0_5, .int a0_6, .int a0_7, .int a0_8, .int a0_9, .int a0_10, .long a0_11, .int a0_12, .int a0_13])), (a0_3, .inl (ka0_3, 900, .inl (fa0_3))), (a0_4, .inl (ka0_4, 12, .inr (.inl (fa0_4)))), (a0_5, .inr (0, [.int a0_5_0, .int a0_5_1, .int a0_5_2, .int a0_5_3, .int a0_5_4, .int a0_5_5, .int a0_5_6, .int a0_5_7, .int a0_5_8, .int a0_5_9, .ref a0_5_10, .ref a0_5_11, .ref a0_5_12, .ref a0_5_13, .ref a0_5_14])), (a0_5_10, .inl (ka0_5_10, 9, .inl (fa0_5_10))), (a0_5_11, .inl (ka0_5_11, 9, .inl (fa0_5_11)))]) hP hD hS hA [0, 2, 3, 1, 4, 5] (by decide +kernel) rfl (fun hPc hDc hFc hCc => ?_)
                have hKc := hK.sub (tys' := [(ka0_3, .byte), (ka0_4, .long), (ka0_5_10, .int), (ka0_5_11, .int)]) [0, 1, 2, 3] rfl
                refine va_calli (va_runV (As := []) (rest := []) ⟨hx, hb, hml, hown, hts⟩ (f_X3_readFigure l dC dI H.size a0 a0g_0 a0_1 a0_2 a0_3 a0_4 a0_5 a0_6 a0_7 a0_8 a0_9 a0_10 a0_11 a0_12 a0_13 ka0_3 fa0_3 ka0_4 fa0_4 a0_5_0 (.int a0_5_1) (.int a0_5_2) (.int a0_5_3) (.int a0_5_4) (.int a0_5_5) (.int a0_5_6) (.int a0_5_7) (.int a0_5_9) (.ref a0_5_12) (.ref a0_5_13) (.ref a0_5_14) a0_5_8 a0_5_10 a0_5_11 ka0_5_10 fa0_5_10 ka0_5_11 fa0_5_11 ad ba0_6_l ba0_6_u ba0_7_l ba0_7_u ba0_8_l ba0_8_u ba0_9_l ba0_9_u (Int.le_trans zq4 l126k0_a0_10) (Int.le_trans u126k0_a0_10 zq135) (Int.le_trans zq4 l81t_a0_5_0) ba0_5_0_u) (cwV 0 hts gX3_readLine_X3_readFigure rfl rfl rfl zd_X3_readFigure ⟨Nat.le_of_ble_eq_true rfl, Nat.le_of_ble_eq_true rfl⟩) ⟨ax_blind (fun _ _ _ _ hq => ⟨sxc_T_same _ _ _ _ (hq.1), va_Nw.same rfl rfl (hq.2.1), va_Nw.same rfl rfl (hq.2.2)⟩), zr_3 hKc hPc (q0 := 0) rfl, ax_preE hPc hKc hDc (fun U hU hW => ⟨sxc_T_to hE0 hS.2.1 hFc hU hW, va_Nw.warmM hW hE1, va_Nw.warmM hW hE2⟩)⟩ rfl rfl hl.1 rfl (lv_room (Nat.le_of_ble_eq_true rfl)) dX3_readLine_156 ⟨Nat.le_of_ble_eq_true rfl, Nat.le_of_ble_eq_true rfl⟩) hS (fun q _ h => hFc q h) hFc (fun r156 u t H locs ht hvm hw => zx_13 (fun v156na0_1 v156na0_2 v156na0_6 v156na0_8 v156na0_9 v156na0_10 v156na0_11 v156na0_12 v156na0_13 v156nfa0_4 v156na0_5_8 v156nfa0_5_10 v156nfa0_5_11 => zy_5 (fun bv156na0_6 bv156na0_8 bv156na0_9 bv156na0_10 hraw156_0 hB hz1 hk1 hS1 => zo hB ht hS1 (fun hP1 hK1 hD1 hS => ?_))))
                refine zc_backc (w := [(a0, .inr (3, [a0g_0, .int v156na0_1, .int v156na0_2, .ref a0_3, .ref a0_4, .ref a0_5, .int v156na0_6, .int a0_7, .int v156na0_8, .int v156na0_9, .int v156na0_10, .long v156na0_11, .int v156na0_12, .int v156na0_13])), (a0_5, .inr (0, [.int a0_5_0, .int a0_5_1, .int a0_5_2, .int a0_5_3, .int a0_5_4, .int a0_5_5, .int a0_5_6, .int a0_5_7, .int v156na0_5_8, .int a0_5_9, .ref a0_5_10, .ref a0_5_11, .ref a0_5_12, .ref a0_5_13, .ref a0_5_14])), (a0_3, .inl (ka0_3, 900, .inl (fa0_3))), (a0_4, .inl (ka0_4, 12, .inr (.inl (v156nfa0_4)))), (a0_5_10, .inl (ka0_5_10, 9, .inl (v156nfa0_5_10))), (a0_5_11, .inl (ka0_5_11, 9, .inl (v156nfa0_5_11))), (a0_5_14, .inr (6, [.int a0_5_14_0, a0_5_14g_1, .ref a0_5_14_2, .ref a0_5_14_3])), (a0_5_14_2, .inl (ka0_5_14_2, 3, .inl (fa0_5_14_2))), (a0_5_14_3, .inl (ka0_5_14_3, 3, .inl (fa0_5_14_3))), (a0_5_13, .inl (ka0_5_13, 6, .inl (fa0_5_13))), (a0_5_12, .inl (ka0_5_12, 6, .inl (fa0_5_12)))]) hP hD hCc hk1 hFc hP1 hD1 [.inr 0, .inr 3, .inr 1, .inr 2, .inr 4, .inr 5, .inl 6, .inl 7, .inl 8, .inl 9, .inl 10] (by decide +kernel) rfl (fun hP hD => ?_)
                obtain ⟨hw, hfr156⟩ := hw
                have hc156 : Ff_X3_readFigure a0_1.toInt a0_2.toInt a0_6.toInt a0_7.toInt a0_9.toInt a0_11.toInt a0_12.toInt a0_13.toInt (fl_A fa0_3) (fl_L fa0_4) a0_5_0.toInt a0_5_8.toInt (fl_A fa0_5_10) (fl_A fa0_5_11) = (r156.toInt, v156na0_1.toInt, v156na0_2.toInt, v156na0_6.toInt, v156na0_8.toInt, v156na0_9.toInt, v156na0_10.toInt, v156na0_11.toInt, v156na0_12.toInt, v156na0_13.toInt, (fl_L v156nfa0_4), v156na0_5_8.toInt, (fl_A v156nfa0_5_10), (fl_A v156nfa0_5_11)) := Prod.ext hfr156.symm hraw156_0
                have hF0 := hF0.trans (fl_c14_eq hc156)
                rcases hw with hw | hw
                · subst hw
                  have hF0 := hF0.trans (if_pos (by decide))
                  have hFe : FX = (1, v156na0_1.toInt, v156na0_2.toInt, v156na0_6.toInt, v156na0_8.toInt, v156na0_9.toInt, v156na0_10.toInt, v156na0_11.toInt, v156na0_12.toInt, v156na0_13.toInt, a0_5_0.toInt, a0_5_1.toInt, a0_5_2.toInt, a0_5_3.toInt, a0_5_4.toInt, a0_5_5.toInt, a0_5_6.toInt, a0_5_7.toInt, v156na0_5_8.toInt, a0_5_9.toInt, (fl_L v156nfa0_4), (fl_A v156nfa0_5_10), (fl_A v156nfa0_5_11), a0_5_14_0.toInt, (fl_A fa0_5_14_2), (fl_A fa0_5_14_3), (fl_A fa0_5_13), (fl_A fa0_5_12)) := hF0
                  exact W.zret (v := 1) hx hb hr rfl (fun t ht hW => ⟨⟨1, (), rfl, ⟨(Or.inl (rfl)), (congrArg Prod.fst hFe).symm⟩, v156na0_1, v156na0_2, v156na0_6, v156na0_8, v156na0_9, v156na0_10, v156na0_11, v156na0_12, v156na0_13, a0_5_0, a0_5_1, a0_5_2, a0_5_3, a0_5_4, a0_5_5, a0_5_6, a0_5_7, v156na0_5_8, a0_5_9, v156nfa0_4, v156nfa0_5_10, v156nfa0_5_11, a0_5_14_0, fa0_5_14_2, fa0_5_14_3, fa0_5_13, fa0_5_12, ⟨bv156na0_6.1, bv156na0_6.2⟩, ⟨bv156na0_8.1, bv156na0_8.2⟩, ⟨bv156na0_9.1, bv156na0_9.2⟩, ⟨bv156na0_10.1, bv156na0_10.2⟩, ⟨Int.le_trans (by decide) l81t_a0_5_0, ba0_5_0_u⟩, ⟨ba0_5_4_l, ba0_5_4_u⟩, ⟨ba0_5_5_l, ba0_5_5_u⟩, ⟨ba0_5_6_l, ba0_5_6_u⟩, ⟨ba0_5_7_l, ba0_5_7_u⟩, ⟨ba0_5_9_l, ba0_5_9_u⟩, ⟨ba0_5_14_0_l, ba0_5_14_0_u⟩, bfa0_5_14_2, bfa0_5_14_3, bfa0_5_13, (congrArg Prod.snd hFe), by rw [ht]; exact hP, va_K.moved hW.alike hK, hD⟩, hS.F ht⟩) hS.2.2 dX3_readLine_159
                · subst hw
                  have hF0 := hF0.trans (if_neg (by decide))
                  have hFe : FX = (0, v156na0_1.toInt, v156na0_2.toInt, v156na0_6.toInt, v156na0_8.toInt, v156na0_9.toInt, v156na0_10.toInt, v156na0_11.toInt, v156na0_12.toInt, v156na0_13.toInt, a0_5_0.toInt, a0_5_1.toInt, a0_5_2.toInt, a0_5_3.toInt, a0_5_4.toInt, a0_5_5.toInt, a0_5_6.toInt, a0_5_7.toInt, v156na0_5_8.toInt, a0_5_9.toInt, (fl_L v156nfa0_4), (fl_A v156nfa0_5_10), (fl_A v156nfa0_5_11), a0_5_14_0.toInt, (fl_A fa0_5_14_2), (fl_A fa0_5_14_3), (fl_A fa0_5_13), (fl_A fa0_5_12)) := hF0
                  exact W.zret (v := 0) hx hb hr rfl (fun t ht hW => ⟨⟨0, (), rfl, ⟨(Or.inr (rfl)), (congrArg Prod.fst hFe).symm⟩, v156na0_1, v156na0_2, v156na0_6, v156na0_8, v156na0_9, v156na0_10, v156na0_11, v156na0_12, v156na0_13, a0_5_0, a0_5_1, a0_5_2, a0_5_3, a0_5_4, a0_5_5, a0_5_6, a0_5_7, v156na0_5_8, a0_5_9, v156nfa0_4, v156nfa0_5_10, v156nfa0_5_11, a0_5_14_0, fa0_5_14_2, fa0_5_14_3, fa0_5_13, fa0_5_12, ⟨bv156na0_6.1, bv156na0_6.2⟩, ⟨bv156na0_8.1, bv156na0_8.2⟩, ⟨bv156na0_9.1, bv156na0_9.2⟩, ⟨bv156na0_10.1, bv156na0_10.2⟩, ⟨Int.le_trans (by decide) l81t_a0_5_0, ba0_5_0_u⟩, ⟨ba0_5_4_l, ba0_5_4_u⟩, ⟨ba0_5_5_l, ba0_5_5_u⟩, ⟨ba0_5_6_l, ba0_5_6_u⟩, ⟨ba0_5_7_l, ba0_5_7_u⟩, ⟨ba0_5_9_l, ba0_5_9_u⟩, ⟨ba0_5_14_0_l, ba0_5_14_0_u⟩, bfa0_5_14_2, bfa0_5_14_3, bfa0_5_13, (congrArg Prod.snd hFe), by rw [ht]; exact hP, va_K.moved hW.alike hK, hD⟩, hS.F ht⟩) hS.2.2 dX3_readLine_159
              · have gc144 := ai_nlt c144
                have l144f_r139 : (9 : Int) ≤ r139.toInt := Int.le_trans zq2 gc144
                have hF0 := hF0.trans (if_neg (show ¬ (r139.toInt < 9) from Int.not_lt.mpr gc144))
                refine lv_aload_n hx hb dX3_readLine_147 rfl (lv_at hl 0 rfl) ?_
                refine lv_iconst (v := 5) hx hb dX3_readLine_148 zk_iconst_5 ?_
                refine va_calli (va_runV (As := [.int 5]) (rest := []) ⟨hx, hb, hml, hown, hts⟩ (f_X3_fails l dC dI H.size a0 5 a0g_0 (.ref a0_3) (.ref a0_4) (.ref a0_5) (.int a0_6) (.int a0_7) (.int a0_9) (.int a0_10) (.long a0_11) (.int a0_12) (.int a0_13) a0_1 a0_2 a0_8 ba0_8_l ba0_8_u) (cwV 1 hts gX3_readLine_X3_fails rfl rfl rfl zd_X3_fails ⟨Nat.le_of_ble_eq_true rfl, Nat.le_of_ble_eq_true rfl⟩) ⟨ax_blind (fun _ _ _ _ _ => trivial), zr_3 (zp_K hK) (zp_P1 hP) (q0 := 0) rfl, ax_pre (zp_P1 hP) (zp_K hK) (zp_D1 hD) (fun _ _ => trivial)⟩ rfl rfl hl.1 rfl (lv_room (Nat.le_of_ble_eq_true rfl)) dX3_readLine_149 ⟨Nat.le_of_ble_eq_true rfl, Nat.le_of_ble_eq_true rfl⟩) hS (fun q _ h => zp_F1 hD hS hA q h) (zp_F1 hD hS hA) (fun r149 u t H locs ht hvm hw => zx_2 (fun v149na0_1 v149na0_2 => zy_1 (fun hraw149_0 hB hz1 hk1 hS1 => zo1 hB ht hP hD hk1 (zp_F1 hD hS hA) hS1 (fun hP hK1 hD hS => ?_))))
                obtain ⟨hw, hfr149⟩ := hw
                rw [show (5 : Int32).toInt = 5 from by decide] at hfr149 hraw149_0
                have hc149 : Ff_X3_fails 5 a0_8.toInt = (r149.toInt, v149na0_1.toInt, v149na0_2.toInt) := Prod.ext hfr149.symm hraw149_0
                have hF0 := hF0.trans (fl_c3_eq hc149)
                have hw : r149 = 0 := hw
                have hw := hw.symm
                subst hw
                refine lv_goto (tgt := 159) hx hb dX3_readLine_152 (by decide) ?_
                have hFe : FX = (0, v149na0_1.toInt, v149na0_2.toInt, a0_6.toInt, a0_8.toInt, a0_9.toInt, a0_10.toInt, a0_11.toInt, a0_12.toInt, a0_13.toInt, a0_5_0.toInt, a0_5_1.toInt, a0_5_2.toInt, a0_5_3.toInt, a0_5_4.toInt, a0_5_5.toInt, a0_5_6.toInt, a0_5_7.toInt, a0_5_8.toInt, a0_5_9.toInt, (fl_L fa0_4), (fl_A fa0_5_10), (fl_A fa0_5_11), a0_5_14_0.toInt, (fl_A fa0_5_14_2), (fl_A fa0_5_14_3), (fl_A fa0_5_13), (fl_A fa0_5_12)) := hF0
                exact W.zret (v := 0) hx hb hr rfl (fun t ht hW => ⟨⟨0, (), rfl, ⟨(Or.inr (rfl)), (congrArg Prod.fst hFe).symm⟩, v149na0_1, v149na0_2, a0_6, a0_8, a0_9, a0_10, a0_11, a0_12, a0_13, a0_5_0, a0_5_1, a0_5_2, a0_5_3, a0_5_4, a0_5_5, a0_5_6, a0_5_7, a0_5_8, a0_5_9, fa0_4, fa0_5_10, fa0_5_11, a0_5_14_0, fa0_5_14_2, fa0_5_14_3, fa0_5_13, fa0_5_12, ⟨ba0_6_l, ba0_6_u⟩, ⟨ba0_8_l, ba0_8_u⟩, ⟨ba0_9_l, ba0_9_u⟩, ⟨Int.le_trans (by decide) l126k0_a0_10, Int.le_trans u126k0_a0_10 (by decide)⟩, ⟨Int.le_trans (by decide) l81t_a0_5_0, ba0_5_0_u⟩, ⟨ba0_5_4_l, ba0_5_4_u⟩, ⟨ba0_5_5_l, ba0_5_5_u⟩, ⟨ba0_5_6_l, ba0_5_6_u⟩, ⟨ba0_5_7_l, ba0_5_7_u⟩, ⟨ba0_5_9_l, ba0_5_9_u⟩, ⟨ba0_5_14_0_l, ba0_5_14_0_u⟩, bfa0_5_14_2, bfa0_5_14_3, bfa0_5_13, (congrArg Prod.snd hFe), by rw [ht]; exact hP, va_K.moved hW.alike hK, hD⟩, hS.F ht⟩) hS.2.2 dX3_readLine_159
            · subst hw
              have hF0 := hF0.trans (if_neg (by decide))
              refine lv_if_eq (tgt := 160) hx hb dX3_readLine_129 (by decide) (fun _ => ?_) (fun c129 => absurd (by decide +kernel) c129)
              refine lv_aload_n hx hb dX3_readLine_160 rfl (lv_at hl 0 rfl) ?_
              refine va_ldcS hx hb hown (sxc_R3 hE0) dX3_readLine_161 ?_
              refine va_calli (va_runV (As := [.ref (ad 3)]) (rest := []) ⟨hx, hb, hml, hown, hts⟩ (f_X3_isWord l dC dI H.size a0 (ad 3) a0g_0 (.int a0_1) (.int a0_2) (.ref a0_3) (.ref a0_4) (.ref a0_5) (.int a0_6) (.int a0_7) (.int a0_8) (.int a0_9) (.int a0_12) (.int a0_13) a0_10 a0_11 7 (sxc 3) ba0_10_l ba0_10_u) (cwV 1 hts gX3_readLine_X3_isWord rfl rfl rfl zd_X3_isWord ⟨Nat.le_of_ble_eq_true rfl, Nat.le_of_ble_eq_true rfl⟩) ⟨ax_blind (fun _ _ _ _ hq => sxc_W_same _ _ _ _ (hq)), zr_3 (zp_K hK) (zp_P1 hP) (q0 := 0) rfl, ax_preE (zp_P1 hP) (zp_K hK) (zp_D1 hD) (fun U hU hW => sxc_W_to (sxc_T_w hE0 (i := 3) (by decide)) hS.2.1 (zp_F1 hD hS hA) hU hW)⟩ rfl rfl hl.1 rfl (lv_room (Nat.le_of_ble_eq_true rfl)) dX3_readLine_163 ⟨Nat.le_of_ble_eq_true rfl, Nat.le_of_ble_eq_true rfl⟩) hS (fun q _ h => zp_F1 hD hS hA q h) (zp_F1 hD hS hA) (fun r163 u t H locs ht hvm hw hB hz1 hk1 hS1 => zo1 hB ht hP hD hk1 (zp_F1 hD hS hA) hS1 (fun hP hK1 hD hS => ?_))
              obtain ⟨hw, hfr163⟩ := hw
              rw [show ((7 : Nat) : Int) = 7 from rfl] at hfr163
              have hc163 : Ff_X3_isWord a0_10.toInt a0_11.toInt 7 (fl_A (sxc 3)) = r163.toInt := hfr163.symm
              have hF0 := hF0.trans (fl_lt_eq hc163.symm)
              rcases hw with hw | hw
              · obtain ⟨hw, h163_0, h163_1⟩ := hw
                subst hw
                have l163k0_a0_10 : (1 : Int) ≤ a0_10.toInt := h163_0
                have u163k0_a0_10 : a0_10.toInt ≤ (1 : Int) := h163_1
                have hF0 := hF0.trans (if_pos (by decide))
                refine lv_if_eq (tgt := 196) hx hb dX3_readLine_166 (by decide) (fun c166 => absurd c166 (by decide +kernel)) (fun _ => ?_)
                refine lv_aload_n hx hb dX3_readLine_169 rfl (lv_at hl 0 rfl) ?_
                refine va_get (D := (dC, dI)) (ci := 3) (v := .ref a0_5) (C := RX3) (T := TX3) (N := 14) hx hb hts zi_X3_readLine_3 hown hK hP 0 rfl rfl 5 (by decide) (hts (.fieldLink RX3 22 "WaxTurns$Reade\x72" "draft" "LWaxTurns$Hall;") (zm_X3_readLine_r1 (List.mem_of_getElem? (i := 0) rfl))) (fun _ h9 => h9) rfl dX3_readLine_170 ?_
                refine va_get (D := (dC, dI)) (ci := 0) (v := .ref a0_5_14) (C := RX0) (T := TX0) (N := 15) hx hb hts zi_X3_readLine_0 hown hK hP 1 rfl rfl 14 (by decide) (hts (.fieldLink RX3 133 "WaxTurns$Hall" "watchers" "LWaxTurns$Watchers;") (zm_X3_readLine_r1 (List.mem_of_getElem? (i := 4) rfl))) (fun _ h9 => h9) rfl dX3_readLine_173 ?_
                refine va_get (D := (dC, dI)) (ci := 6) (v := .int a0_5_14_0) (C := RX6) (T := TX6) (N := 4) hx hb hts zi_X3_readLine_6 hown hK hP 6 rfl rfl 0 (by decide) (hts (.fieldLink RX3 137 "WaxTurns$Watchers" "count" "I") (zm_X3_readLine_r1 (List.mem_of_getElem? (i := 5) rfl))) (fun _ h9 => h9) rfl dX3_readLine_176 ?_
                refine lv_iconst (v := 3) hx hb dX3_readLine_179 zk_iconst_3 ?_
                refine lv_icmp_lt (tgt := 191) hx hb dX3_readLine_180 (by decide) (fun c180 => ?_) (fun c180 => ?_)
                · have gc180 := ai_lt c180
                  have u180t_a0_5_14_0 : a0_5_14_0.toInt ≤ (2 : Int) := ai_lthi gc180 zq9
                  have hF0 := hF0.trans (if_pos (show a0_5_14_0.toInt < 3 from gc180))
                  refine lv_aload_n hx hb dX3_readLine_191 rfl (lv_at hl 0 rfl) ?_
                  refine zc_cutc (wc := [(a0, .inr (3, [a0g_0, .int a0_1, .int a0_2, .ref a0_3, .ref a0_4, .ref a0_5, .int a0_6, .int a0_7, .int a0_8, .int a0_9, .int a0_10, .long a0_11, .int a0_12, .int a0_13])), (a0_3, .inl (ka0_3, 900, .inl (fa0_3))), (a0_4, .inl (ka0_4, 12, .inr (.inl (fa0_4)))), (a0_5, .inr (0, [.int a0_5_0, .int a0_5_1, .int a0_5_2, .int a0_5_3, .int a0_5_4, .int a0_5_5, .int a0_5_6, .int a0_5_7, .int a0_5_8, .int a0_5_9, .ref a0_5_10, .ref a0_5_11, .ref a0_5_12, .ref a0_5_13, .ref a0_5_14])), (a0_5_14, .inr (6, [.int a0_5_14_0, a0_5_14g_1, .ref a0_5_14_2, .ref a0_5_14_3])), (a0_5_14_2, .inl (ka0_5_14_2, 3, .inl (fa0_5_14_2))), (a0_5_14_3, .inl (ka0_5_14_3, 3, .inl (fa0_5_14_3)))]) hP hD hS hA [0, 2, 3, 1, 6, 7, 8] (by decide +kernel) rfl (fun hPc hDc hFc hCc => ?_)
                  have hKc := hK.sub (tys' := [(ka0_3, .byte), (ka0_4, .long), (ka0_5_14_2, .int), (ka0_5_14_3, .int)]) [0, 1, 4, 5] rfl
                  refine va_calli (va_runV (As := []) (rest := []) ⟨hx, hb, hml, hown, hts⟩ (f_X3_readWatcher l dC dI H.size a0 a0g_0 a0_1 a0_2 a0_3 a0_4 a0_5 a0_6 a0_7 a0_8 a0_9 a0_10 a0_11 a0_12 a0_13 ka0_3 fa0_3 ka0_4 fa0_4 a0_5_0 (.int a0_5_1) (.int a0_5_2) (.int a0_5_3) (.int a0_5_4) (.int a0_5_5) (.int a0_5_6) (.int a0_5_7) (.int a0_5_8) (.int a0_5_9) (.ref a0_5_10) (.ref a0_5_11) (.ref a0_5_12) (.ref a0_5_13) a0_5_14 a0_5_14_0 a0_5_14g_1 a0_5_14_2 a0_5_14_3 ka0_5_14_2 fa0_5_14_2 ka0_5_14_3 fa0_5_14_3 ad ba0_6_l ba0_6_u ba0_7_l ba0_7_u ba0_8_l ba0_8_u ba0_9_l ba0_9_u (Int.le_trans zq4 l163k0_a0_10) (Int.le_trans u163k0_a0_10 zq135) (Int.le_trans zq4 l81t_a0_5_0) ba0_5_0_u ba0_5_14_0_l (Int.le_trans u180t_a0_5_14_0 zq130) bfa0_5_14_2 bfa0_5_14_3) (cwV 0 hts gX3_readLine_X3_readWatcher rfl rfl rfl zd_X3_readWatcher ⟨Nat.le_of_ble_eq_true rfl, Nat.le_of_ble_eq_true rfl⟩) ⟨ax_blind (fun _ _ _ _ hq => ⟨sxc_T_same _ _ _ _ (hq.1), va_Nw.same rfl rfl (hq.2)⟩), zr_3 hKc hPc (q0 := 0) rfl, ax_preE hPc hKc hDc (fun U hU hW => ⟨sxc_T_to hE0 hS.2.1 hFc hU hW, va_Nw.warmM hW hE1⟩)⟩ rfl rfl hl.1 rfl (lv_room (Nat.le_of_ble_eq_true rfl)) dX3_readLine_192 ⟨Nat.le_of_ble_eq_true rfl, Nat.le_of_ble_eq_true rfl⟩) hS (fun q _ h => hFc q h) hFc (fun r192 u t H locs ht hvm hw => zx_13 (fun v192na0_1 v192na0_2 v192na0_6 v192na0_8 v192na0_9 v192na0_10 v192na0_11 v192na0_12 v192na0_13 v192nfa0_4 v192na0_5_14_0 v192nfa0_5_14_2 v192nfa0_5_14_3 => zy_8 (fun bv192na0_6 bv192na0_8 bv192na0_9 bv192na0_10 bv192na0_5_14_0 bv192nfa0_5_14_2 bv192nfa0_5_14_3 hraw192_0 hB hz1 hk1 hS1 => zo hB ht hS1 (fun hP1 hK1 hD1 hS => ?_))))
                  refine zc_backc (w := [(a0, .inr (3, [a0g_0, .int v192na0_1, .int v192na0_2, .ref a0_3, .ref a0_4, .ref a0_5, .int v192na0_6, .int a0_7, .int v192na0_8, .int v192na0_9, .int v192na0_10, .long v192na0_11, .int v192na0_12, .int v192na0_13])), (a0_5, .inr (0, [.int a0_5_0, .int a0_5_1, .int a0_5_2, .int a0_5_3, .int a0_5_4, .int a0_5_5, .int a0_5_6, .int a0_5_7, .int a0_5_8, .int a0_5_9, .ref a0_5_10, .ref a0_5_11, .ref a0_5_12, .ref a0_5_13, .ref a0_5_14])), (a0_3, .inl (ka0_3, 900, .inl (fa0_3))), (a0_4, .inl (ka0_4, 12, .inr (.inl (v192nfa0_4)))), (a0_5_10, .inl (ka0_5_10, 9, .inl (fa0_5_10))), (a0_5_11, .inl (ka0_5_11, 9, .inl (fa0_5_11))), (a0_5_14, .inr (6, [.int v192na0_5_14_0, a0_5_14g_1, .ref a0_5_14_2, .ref a0_5_14_3])), (a0_5_14_2, .inl (ka0_5_14_2, 3, .inl (v192nfa0_5_14_2))), (a0_5_14_3, .inl (ka0_5_14_3, 3, .inl (v192nfa0_5_14_3))), (a0_5_13, .inl (ka0_5_13, 6, .inl (fa0_5_13))), (a0_5_12, .inl (ka0_5_12, 6, .inl (fa0_5_12)))]) hP hD hCc hk1 hFc hP1 hD1 [.inr 0, .inr 3, .inr 1, .inr 2, .inl 4, .inl 5, .inr 4, .inr 5, .inr 6, .inl 9, .inl 10] (by decide +kernel) rfl (fun hP hD => ?_)
                  obtain ⟨hw, hfr192⟩ := hw
                  have hc192 : Ff_X3_readWatcher a0_1.toInt a0_2.toInt a0_6.toInt a0_7.toInt a0_9.toInt a0_11.toInt a0_12.toInt a0_13.toInt (fl_A fa0_3) (fl_L fa0_4) a0_5_0.toInt a0_5_14_0.toInt (fl_A fa0_5_14_2) (fl_A fa0_5_14_3) = (r192.toInt, v192na0_1.toInt, v192na0_2.toInt, v192na0_6.toInt, v192na0_8.toInt, v192na0_9.toInt, v192na0_10.toInt, v192na0_11.toInt, v192na0_12.toInt, v192na0_13.toInt, (fl_L v192nfa0_4), v192na0_5_14_0.toInt, (fl_A v192nfa0_5_14_2), (fl_A v192nfa0_5_14_3)) := Prod.ext hfr192.symm hraw192_0
                  have hF0 := hF0.trans (fl_c14_eq hc192)
                  rcases hw with hw | hw
                  · subst hw
                    have hF0 := hF0.trans (if_pos (by decide))
                    have hFe : FX = (1, v192na0_1.toInt, v192na0_2.toInt, v192na0_6.toInt, v192na0_8.toInt, v192na0_9.toInt, v192na0_10.toInt, v192na0_11.toInt, v192na0_12.toInt, v192na0_13.toInt, a0_5_0.toInt, a0_5_1.toInt, a0_5_2.toInt, a0_5_3.toInt, a0_5_4.toInt, a0_5_5.toInt, a0_5_6.toInt, a0_5_7.toInt, a0_5_8.toInt, a0_5_9.toInt, (fl_L v192nfa0_4), (fl_A fa0_5_10), (fl_A fa0_5_11), v192na0_5_14_0.toInt, (fl_A v192nfa0_5_14_2), (fl_A v192nfa0_5_14_3), (fl_A fa0_5_13), (fl_A fa0_5_12)) := hF0
                    exact W.zret (v := 1) hx hb hr rfl (fun t ht hW => ⟨⟨1, (), rfl, ⟨(Or.inl (rfl)), (congrArg Prod.fst hFe).symm⟩, v192na0_1, v192na0_2, v192na0_6, v192na0_8, v192na0_9, v192na0_10, v192na0_11, v192na0_12, v192na0_13, a0_5_0, a0_5_1, a0_5_2, a0_5_3, a0_5_4, a0_5_5, a0_5_6, a0_5_7, a0_5_8, a0_5_9, v192nfa0_4, fa0_5_10, fa0_5_11, v192na0_5_14_0, v192nfa0_5_14_2, v192nfa0_5_14_3, fa0_5_13, fa0_5_12, ⟨bv192na0_6.1, bv192na0_6.2⟩, ⟨bv192na0_8.1, bv192na0_8.2⟩, ⟨bv192na0_9.1, bv192na0_9.2⟩, ⟨bv192na0_10.1, bv192na0_10.2⟩, ⟨Int.le_trans (by decide) l81t_a0_5_0, ba0_5_0_u⟩, ⟨ba0_5_4_l, ba0_5_4_u⟩, ⟨ba0_5_5_l, ba0_5_5_u⟩, ⟨ba0_5_6_l, ba0_5_6_u⟩, ⟨ba0_5_7_l, ba0_5_7_u⟩, ⟨ba0_5_9_l, ba0_5_9_u⟩, ⟨bv192na0_5_14_0.1, bv192na0_5_14_0.2⟩, bv192nfa0_5_14_2, bv192nfa0_5_14_3, bfa0_5_13, (congrArg Prod.snd hFe), by rw [ht]; exact hP, va_K.moved hW.alike hK, hD⟩, hS.F ht⟩) hS.2.2 dX3_readLine_195
                  · subst hw
                    have hF0 := hF0.trans (if_neg (by decide))
                    have hFe : FX = (0, v192na0_1.toInt, v192na0_2.toInt, v192na0_6.toInt, v192na0_8.toInt, v192na0_9.toInt, v192na0_10.toInt, v192na0_11.toInt, v192na0_12.toInt, v192na0_13.toInt, a0_5_0.toInt, a0_5_1.toInt, a0_5_2.toInt, a0_5_3.toInt, a0_5_4.toInt, a0_5_5.toInt, a0_5_6.toInt, a0_5_7.toInt, a0_5_8.toInt, a0_5_9.toInt, (fl_L v192nfa0_4), (fl_A fa0_5_10), (fl_A fa0_5_11), v192na0_5_14_0.toInt, (fl_A v192nfa0_5_14_2), (fl_A v192nfa0_5_14_3), (fl_A fa0_5_13), (fl_A fa0_5_12)) := hF0
                    exact W.zret (v := 0) hx hb hr rfl (fun t ht hW => ⟨⟨0, (), rfl, ⟨(Or.inr (rfl)), (congrArg Prod.fst hFe).symm⟩, v192na0_1, v192na0_2, v192na0_6, v192na0_8, v192na0_9, v192na0_10, v192na0_11, v192na0_12, v192na0_13, a0_5_0, a0_5_1, a0_5_2, a0_5_3, a0_5_4, a0_5_5, a0_5_6, a0_5_7, a0_5_8, a0_5_9, v192nfa0_4, fa0_5_10, fa0_5_11, v192na0_5_14_0, v192nfa0_5_14_2, v192nfa0_5_14_3, fa0_5_13, fa0_5_12, ⟨bv192na0_6.1, bv192na0_6.2⟩, ⟨bv192na0_8.1, bv192na0_8.2⟩, ⟨bv192na0_9.1, bv192na0_9.2⟩, ⟨bv192na0_10.1, bv192na0_10.2⟩, ⟨Int.le_trans (by decide) l81t_a0_5_0, ba0_5_0_u⟩, ⟨ba0_5_4_l, ba0_5_4_u⟩, ⟨ba0_5_5_l, ba0_5_5_u⟩, ⟨ba0_5_6_l, ba0_5_6_u⟩, ⟨ba0_5_7_l, ba0_5_7_u⟩, ⟨ba0_5_9_l, ba0_5_9_u⟩, ⟨bv192na0_5_14_0.1, bv192na0_5_14_0.2⟩, bv192nfa0_5_14_2, bv192nfa0_5_14_3, bfa0_5_13, (congrArg Prod.snd hFe), by rw [ht]; exact hP, va_K.moved hW.alike hK, hD⟩, hS.F ht⟩) hS.2.2 dX3_readLine_195
                · have gc180 := ai_nlt c180
                  have l180f_a0_5_14_0 : (3 : Int) ≤ a0_5_14_0.toInt := Int.le_trans zq8 gc180
                  have hF0 := hF0.trans (if_neg (show ¬ (a0_5_14_0.toInt < 3) from Int.not_lt.mpr gc180))
                  refine lv_aload_n hx hb dX3_readLine_183 rfl (lv_at hl 0 rfl) ?_
                  refine lv_iconst (v := 5) hx hb dX3_readLine_184 zk_iconst_5 ?_
                  refine va_calli (va_runV (As := [.int 5]) (rest := []) ⟨hx, hb, hml, hown, hts⟩ (f_X3_fails l dC dI H.size a0 5 a0g_0 (.ref a0_3) (.ref a0_4) (.ref a0_5) (.int a0_6) (.int a0_7) (.int a0_9) (.int a0_10) (.long a0_11) (.int a0_12) (.int a0_13) a0_1 a0_2 a0_8 ba0_8_l ba0_8_u) (cwV 1 hts gX3_readLine_X3_fails rfl rfl rfl zd_X3_fails ⟨Nat.le_of_ble_eq_true rfl, Nat.le_of_ble_eq_true rfl⟩) ⟨ax_blind (fun _ _ _ _ _ => trivial), zr_3 (zp_K hK) (zp_P1 hP) (q0 := 0) rfl, ax_pre (zp_P1 hP) (zp_K hK) (zp_D1 hD) (fun _ _ => trivial)⟩ rfl rfl hl.1 rfl (lv_room (Nat.le_of_ble_eq_true rfl)) dX3_readLine_185 ⟨Nat.le_of_ble_eq_true rfl, Nat.le_of_ble_eq_true rfl⟩) hS (fun q _ h => zp_F1 hD hS hA q h) (zp_F1 hD hS hA) (fun r185 u t H locs ht hvm hw => zx_2 (fun v185na0_1 v185na0_2 => zy_1 (fun hraw185_0 hB hz1 hk1 hS1 => zo1 hB ht hP hD hk1 (zp_F1 hD hS hA) hS1 (fun hP hK1 hD hS => ?_))))
                  obtain ⟨hw, hfr185⟩ := hw
                  rw [show (5 : Int32).toInt = 5 from by decide] at hfr185 hraw185_0
                  have hc185 : Ff_X3_fails 5 a0_8.toInt = (r185.toInt, v185na0_1.toInt, v185na0_2.toInt) := Prod.ext hfr185.symm hraw185_0
                  have hF0 := hF0.trans (fl_c3_eq hc185)
                  have hw : r185 = 0 := hw
                  have hw := hw.symm
                  subst hw
                  refine lv_goto (tgt := 195) hx hb dX3_readLine_188 (by decide) ?_
                  have hFe : FX = (0, v185na0_1.toInt, v185na0_2.toInt, a0_6.toInt, a0_8.toInt, a0_9.toInt, a0_10.toInt, a0_11.toInt, a0_12.toInt, a0_13.toInt, a0_5_0.toInt, a0_5_1.toInt, a0_5_2.toInt, a0_5_3.toInt, a0_5_4.toInt, a0_5_5.toInt, a0_5_6.toInt, a0_5_7.toInt, a0_5_8.toInt, a0_5_9.toInt, (fl_L fa0_4), (fl_A fa0_5_10), (fl_A fa0_5_11), a0_5_14_0.toInt, (fl_A fa0_5_14_2), (fl_A fa0_5_14_3), (fl_A fa0_5_13), (fl_A fa0_5_12)) := hF0
                  exact W.zret (v := 0) hx hb hr rfl (fun t ht hW => ⟨⟨0, (), rfl, ⟨(Or.inr (rfl)), (congrArg Prod.fst hFe).symm⟩, v185na0_1, v185na0_2, a0_6, a0_8, a0_9, a0_10, a0_11, a0_12, a0_13, a0_5_0, a0_5_1, a0_5_2, a0_5_3, a0_5_4, a0_5_5, a0_5_6, a0_5_7, a0_5_8, a0_5_9, fa0_4, fa0_5_10, fa0_5_11, a0_5_14_0, fa0_5_14_2, fa0_5_14_3, fa0_5_13, fa0_5_12, ⟨ba0_6_l, ba0_6_u⟩, ⟨ba0_8_l, ba0_8_u⟩, ⟨ba0_9_l, ba0_9_u⟩, ⟨Int.le_trans (by decide) l163k0_a0_10, Int.le_trans u163k0_a0_10 (by decide)⟩, ⟨Int.le_trans (by decide) l81t_a0_5_0, ba0_5_0_u⟩, ⟨ba0_5_4_l, ba0_5_4_u⟩, ⟨ba0_5_5_l, ba0_5_5_u⟩, ⟨ba0_5_6_l, ba0_5_6_u⟩, ⟨ba0_5_7_l, ba0_5_7_u⟩, ⟨ba0_5_9_l, ba0_5_9_u⟩, ⟨Int.le_trans (by decide) l180f_a0_5_14_0, ba0_5_14_0_u⟩, bfa0_5_14_2, bfa0_5_14_3, bfa0_5_13, (congrArg Prod.snd hFe), by rw [ht]; exact hP, va_K.moved hW.alike hK, hD⟩, hS.F ht⟩) hS.2.2 dX3_readLine_195
              · subst hw
                have hF0 := hF0.trans (if_neg (by decide))
                refine lv_if_eq (tgt := 196) hx hb dX3_readLine_166 (by decide) (fun _ => ?_) (fun c166 => absurd (by decide +kernel) c166)
                refine lv_aload_n hx hb dX3_readLine_196 rfl (lv_at hl 0 rfl) ?_
                refine va_get (D := (dC, dI)) (ci := 3) (v := .ref a0_5) (C := RX3) (T := TX3) (N := 14) hx hb hts zi_X3_readLine_3 hown hK hP 0 rfl rfl 5 (by decide) (hts (.fieldLink RX3 22 "WaxTurns$Reade\x72" "draft" "LWaxTurns$Hall;") (zm_X3_readLine_r1 (List.mem_of_getElem? (i := 0) rfl))) (fun _ h9 => h9) rfl dX3_readLine_197 ?_
                refine va_get (D := (dC, dI)) (ci := 0) (v := .int a0_5_9) (C := RX0) (T := TX0) (N := 15) hx hb hts zi_X3_readLine_0 hown hK hP 1 rfl rfl 9 (by decide) (hts (.fieldLink RX3 145 "WaxTurns$Hall" "seenCount" "I") (zm_X3_readLine_r1 (List.mem_of_getElem? (i := 6) rfl))) (fun _ h9 => h9) rfl dX3_readLine_200 ?_
                refine lv_bipush (v := 6) hx hb dX3_readLine_203 zk_bipush_6 ?_
                refine lv_icmp_lt (tgt := 216) hx hb dX3_readLine_205 (by decide) (fun c205 => ?_) (fun c205 => ?_)
                · have gc205 := ai_lt c205
                  have u205t_a0_5_9 : a0_5_9.toInt ≤ (5 : Int) := ai_lthi gc205 zq16
                  have hF0 := hF0.trans (if_pos (show a0_5_9.toInt < 6 from gc205))
                  refine lv_aload_n hx hb dX3_readLine_216 rfl (lv_at hl 0 rfl) ?_
                  refine zc_cutc (wc := [(a0, .inr (3, [a0g_0, .int a0_1, .int a0_2, .ref a0_3, .ref a0_4, .ref a0_5, .int a0_6, .int a0_7, .int a0_8, .int a0_9, .int a0_10, .long a0_11, .int a0_12, .int a0_13])), (a0_5, .inr (0, [.int a0_5_0, .int a0_5_1, .int a0_5_2, .int a0_5_3, .int a0_5_4, .int a0_5_5, .int a0_5_6, .int a0_5_7, .int a0_5_8, .int a0_5_9, .ref a0_5_10, .ref a0_5_11, .ref a0_5_12, .ref a0_5_13, .ref a0_5_14])), (a0_3, .inl (ka0_3, 900, .inl (fa0_3))), (a0_5_13, .inl (ka0_5_13, 6, .inl (fa0_5_13))), (a0_5_12, .inl (ka0_5_12, 6, .inl (fa0_5_12)))]) hP hD hS hA [0, 1, 2, 9, 10] (by decide +kernel) rfl (fun hPc hDc hFc hCc => ?_)
                  have hKc := hK.sub (tys' := [(ka0_3, .byte), (ka0_5_13, .int), (ka0_5_12, .int)]) [0, 6, 7] rfl
                  refine va_calli (va_runV (As := []) (rest := []) ⟨hx, hb, hml, hown, hts⟩ (f_X3_readSeen l dC dI H.size a0 a0g_0 (.ref a0_4) (.int a0_6) a0_1 a0_2 a0_3 a0_5 a0_7 a0_8 a0_9 a0_10 a0_11 a0_12 a0_13 a0_5_0 (.int a0_5_1) (.int a0_5_2) (.int a0_5_3) (.int a0_5_4) (.int a0_5_5) (.int a0_5_6) (.int a0_5_7) (.int a0_5_8) (.ref a0_5_10) (.ref a0_5_11) (.ref a0_5_14) a0_5_9 a0_5_12 a0_5_13 ka0_3 fa0_3 ka0_5_13 fa0_5_13 ka0_5_12 fa0_5_12 ad ba0_7_l ba0_7_u ba0_8_l ba0_8_u ba0_9_l ba0_9_u ba0_10_l ba0_10_u (Int.le_trans zq4 l81t_a0_5_0) ba0_5_0_u ba0_5_9_l (Int.le_trans u205t_a0_5_9 zq229) bfa0_5_13) (cwV 0 hts gX3_readLine_X3_readSeen rfl rfl rfl zd_X3_readSeen ⟨Nat.le_of_ble_eq_true rfl, Nat.le_of_ble_eq_true rfl⟩) ⟨ax_blind (fun _ _ _ _ hq => ⟨sxc_T_same _ _ _ _ (hq.1), va_Nw.same rfl rfl (hq.2)⟩), zr_3 hKc hPc (q0 := 0) rfl, ax_preE hPc hKc hDc (fun U hU hW => ⟨sxc_T_to hE0 hS.2.1 hFc hU hW, va_Nw.warmM hW hE1⟩)⟩ rfl rfl hl.1 rfl (lv_room (Nat.le_of_ble_eq_true rfl)) dX3_readLine_217 ⟨Nat.le_of_ble_eq_true rfl, Nat.le_of_ble_eq_true rfl⟩) hS (fun q _ h => hFc q h) hFc (fun r217 u t H locs ht hvm hw => zx_11 (fun v217na0_1 v217na0_2 v217na0_8 v217na0_9 v217na0_10 v217na0_11 v217na0_12 v217na0_13 v217na0_5_9 v217nfa0_5_13 v217nfa0_5_12 => zy_6 (fun bv217na0_8 bv217na0_9 bv217na0_10 bv217na0_5_9 bv217nfa0_5_13 hraw217_0 hB hz1 hk1 hS1 => zo hB ht hS1 (fun hP1 hK1 hD1 hS => ?_))))
                  refine zc_backc (w := [(a0, .inr (3, [a0g_0, .int v217na0_1, .int v217na0_2, .ref a0_3, .ref a0_4, .ref a0_5, .int a0_6, .int a0_7, .int v217na0_8, .int v217na0_9, .int v217na0_10, .long v217na0_11, .int v217na0_12, .int v217na0_13])), (a0_5, .inr (0, [.int a0_5_0, .int a0_5_1, .int a0_5_2, .int a0_5_3, .int a0_5_4, .int a0_5_5, .int a0_5_6, .int a0_5_7, .int a0_5_8, .int v217na0_5_9, .ref a0_5_10, .ref a0_5_11, .ref a0_5_12, .ref a0_5_13, .ref a0_5_14])), (a0_3, .inl (ka0_3, 900, .inl (fa0_3))), (a0_4, .inl (ka0_4, 12, .inr (.inl (fa0_4)))), (a0_5_10, .inl (ka0_5_10, 9, .inl (fa0_5_10))), (a0_5_11, .inl (ka0_5_11, 9, .inl (fa0_5_11))), (a0_5_14, .inr (6, [.int a0_5_14_0, a0_5_14g_1, .ref a0_5_14_2, .ref a0_5_14_3])), (a0_5_14_2, .inl (ka0_5_14_2, 3, .inl (fa0_5_14_2))), (a0_5_14_3, .inl (ka0_5_14_3, 3, .inl (fa0_5_14_3))), (a0_5_13, .inl (ka0_5_13, 6, .inl (v217nfa0_5_13))), (a0_5_12, .inl (ka0_5_12, 6, .inl (v217nfa0_5_12)))]) hP hD hCc hk1 hFc hP1 hD1 [.inr 0, .inr 1, .inr 2, .inl 3, .inl 4, .inl 5, .inl 6, .inl 7, .inl 8, .inr 3, .inr 4] (by decide +kernel) rfl (fun hP hD => ?_)
                  obtain ⟨hw, hfr217⟩ := hw
                  have hc217 : Ff_X3_readSeen a0_1.toInt a0_2.toInt a0_7.toInt a0_8.toInt a0_9.toInt a0_10.toInt a0_11.toInt a0_12.toInt a0_13.toInt a0_5_0.toInt a0_5_9.toInt (fl_A fa0_3) (fl_A fa0_5_13) (fl_A fa0_5_12) = (r217.toInt, v217na0_1.toInt, v217na0_2.toInt, v217na0_8.toInt, v217na0_9.toInt, v217na0_10.toInt, v217na0_11.toInt, v217na0_12.toInt, v217na0_13.toInt, v217na0_5_9.toInt, (fl_A v217nfa0_5_13), (fl_A v217nfa0_5_12)) := Prod.ext hfr217.symm hraw217_0
                  have hF0 := hF0.trans (fl_c12_eq hc217)
                  rcases hw with hw | hw
                  · subst hw
                    have hF0 := hF0.trans (if_pos (by decide))
                    have hFe : FX = (1, v217na0_1.toInt, v217na0_2.toInt, a0_6.toInt, v217na0_8.toInt, v217na0_9.toInt, v217na0_10.toInt, v217na0_11.toInt, v217na0_12.toInt, v217na0_13.toInt, a0_5_0.toInt, a0_5_1.toInt, a0_5_2.toInt, a0_5_3.toInt, a0_5_4.toInt, a0_5_5.toInt, a0_5_6.toInt, a0_5_7.toInt, a0_5_8.toInt, v217na0_5_9.toInt, (fl_L fa0_4), (fl_A fa0_5_10), (fl_A fa0_5_11), a0_5_14_0.toInt, (fl_A fa0_5_14_2), (fl_A fa0_5_14_3), (fl_A v217nfa0_5_13), (fl_A v217nfa0_5_12)) := hF0
                    exact W.zret (v := 1) hx hb hr rfl (fun t ht hW => ⟨⟨1, (), rfl, ⟨(Or.inl (rfl)), (congrArg Prod.fst hFe).symm⟩, v217na0_1, v217na0_2, a0_6, v217na0_8, v217na0_9, v217na0_10, v217na0_11, v217na0_12, v217na0_13, a0_5_0, a0_5_1, a0_5_2, a0_5_3, a0_5_4, a0_5_5, a0_5_6, a0_5_7, a0_5_8, v217na0_5_9, fa0_4, fa0_5_10, fa0_5_11, a0_5_14_0, fa0_5_14_2, fa0_5_14_3, v217nfa0_5_13, v217nfa0_5_12, ⟨ba0_6_l, ba0_6_u⟩, ⟨bv217na0_8.1, bv217na0_8.2⟩, ⟨bv217na0_9.1, bv217na0_9.2⟩, ⟨bv217na0_10.1, bv217na0_10.2⟩, ⟨Int.le_trans (by decide) l81t_a0_5_0, ba0_5_0_u⟩, ⟨ba0_5_4_l, ba0_5_4_u⟩, ⟨ba0_5_5_l, ba0_5_5_u⟩, ⟨ba0_5_6_l, ba0_5_6_u⟩, ⟨ba0_5_7_l, ba0_5_7_u⟩, ⟨bv217na0_5_9.1, bv217na0_5_9.2⟩, ⟨ba0_5_14_0_l, ba0_5_14_0_u⟩, bfa0_5_14_2, bfa0_5_14_3, bv217nfa0_5_13, (congrArg Prod.snd hFe), by rw [ht]; exact hP, va_K.moved hW.alike hK, hD⟩, hS.F ht⟩) hS.2.2 dX3_readLine_220
                  · subst hw
                    have hF0 := hF0.trans (if_neg (by decide))
                    have hFe : FX = (0, v217na0_1.toInt, v217na0_2.toInt, a0_6.toInt, v217na0_8.toInt, v217na0_9.toInt, v217na0_10.toInt, v217na0_11.toInt, v217na0_12.toInt, v217na0_13.toInt, a0_5_0.toInt, a0_5_1.toInt, a0_5_2.toInt, a0_5_3.toInt, a0_5_4.toInt, a0_5_5.toInt, a0_5_6.toInt, a0_5_7.toInt, a0_5_8.toInt, v217na0_5_9.toInt, (fl_L fa0_4), (fl_A fa0_5_10), (fl_A fa0_5_11), a0_5_14_0.toInt, (fl_A fa0_5_14_2), (fl_A fa0_5_14_3), (fl_A v217nfa0_5_13), (fl_A v217nfa0_5_12)) := hF0
                    exact W.zret (v := 0) hx hb hr rfl (fun t ht hW => ⟨⟨0, (), rfl, ⟨(Or.inr (rfl)), (congrArg Prod.fst hFe).symm⟩, v217na0_1, v217na0_2, a0_6, v217na0_8, v217na0_9, v217na0_10, v217na0_11, v217na0_12, v217na0_13, a0_5_0, a0_5_1, a0_5_2, a0_5_3, a0_5_4, a0_5_5, a0_5_6, a0_5_7, a0_5_8, v217na0_5_9, fa0_4, fa0_5_10, fa0_5_11, a0_5_14_0, fa0_5_14_2, fa0_5_14_3, v217nfa0_5_13, v217nfa0_5_12, ⟨ba0_6_l, ba0_6_u⟩, ⟨bv217na0_8.1, bv217na0_8.2⟩, ⟨bv217na0_9.1, bv217na0_9.2⟩, ⟨bv217na0_10.1, bv217na0_10.2⟩, ⟨Int.le_trans (by decide) l81t_a0_5_0, ba0_5_0_u⟩, ⟨ba0_5_4_l, ba0_5_4_u⟩, ⟨ba0_5_5_l, ba0_5_5_u⟩, ⟨ba0_5_6_l, ba0_5_6_u⟩, ⟨ba0_5_7_l, ba0_5_7_u⟩, ⟨bv217na0_5_9.1, bv217na0_5_9.2⟩, ⟨ba0_5_14_0_l, ba0_5_14_0_u⟩, bfa0_5_14_2, bfa0_5_14_3, bv217nfa0_5_13, (congrArg Prod.snd hFe), by rw [ht]; exact hP, va_K.moved hW.alike hK, hD⟩, hS.F ht⟩) hS.2.2 dX3_readLine_220
                · have gc205 := ai_nlt c205
                  have l205f_a0_5_9 : (6 : Int) ≤ a0_5_9.toInt := Int.le_trans zq15 gc205
                  have hF0 := hF0.trans (if_neg (show ¬ (a0_5_9.toInt < 6) from Int.not_lt.mpr gc205))
                  refine lv_aload_n hx hb dX3_readLine_208 rfl (lv_at hl 0 rfl) ?_
                  refine lv_iconst (v := 5) hx hb dX3_readLine_209 zk_iconst_5 ?_
                  refine va_calli (va_runV (As := [.int 5]) (rest := []) ⟨hx, hb, hml, hown, hts⟩ (f_X3_fails l dC dI H.size a0 5 a0g_0 (.ref a0_3) (.ref a0_4) (.ref a0_5) (.int a0_6) (.int a0_7) (.int a0_9) (.int a0_10) (.long a0_11) (.int a0_12) (.int a0_13) a0_1 a0_2 a0_8 ba0_8_l ba0_8_u) (cwV 1 hts gX3_readLine_X3_fails rfl rfl rfl zd_X3_fails ⟨Nat.le_of_ble_eq_true rfl, Nat.le_of_ble_eq_true rfl⟩) ⟨ax_blind (fun _ _ _ _ _ => trivial), zr_3 (zp_K hK) (zp_P1 hP) (q0 := 0) rfl, ax_pre (zp_P1 hP) (zp_K hK) (zp_D1 hD) (fun _ _ => trivial)⟩ rfl rfl hl.1 rfl (lv_room (Nat.le_of_ble_eq_true rfl)) dX3_readLine_210 ⟨Nat.le_of_ble_eq_true rfl, Nat.le_of_ble_eq_true rfl⟩) hS (fun q _ h => zp_F1 hD hS hA q h) (zp_F1 hD hS hA) (fun r210 u t H locs ht hvm hw => zx_2 (fun v210na0_1 v210na0_2 => zy_1 (fun hraw210_0 hB hz1 hk1 hS1 => zo1 hB ht hP hD hk1 (zp_F1 hD hS hA) hS1 (fun hP hK1 hD hS => ?_))))
                  obtain ⟨hw, hfr210⟩ := hw
                  rw [show (5 : Int32).toInt = 5 from by decide] at hfr210 hraw210_0
                  have hc210 : Ff_X3_fails 5 a0_8.toInt = (r210.toInt, v210na0_1.toInt, v210na0_2.toInt) := Prod.ext hfr210.symm hraw210_0
                  have hF0 := hF0.trans (fl_c3_eq hc210)
                  have hw : r210 = 0 := hw
                  have hw := hw.symm
                  subst hw
                  refine lv_goto (tgt := 220) hx hb dX3_readLine_213 (by decide) ?_
                  have hFe : FX = (0, v210na0_1.toInt, v210na0_2.toInt, a0_6.toInt, a0_8.toInt, a0_9.toInt, a0_10.toInt, a0_11.toInt, a0_12.toInt, a0_13.toInt, a0_5_0.toInt, a0_5_1.toInt, a0_5_2.toInt, a0_5_3.toInt, a0_5_4.toInt, a0_5_5.toInt, a0_5_6.toInt, a0_5_7.toInt, a0_5_8.toInt, a0_5_9.toInt, (fl_L fa0_4), (fl_A fa0_5_10), (fl_A fa0_5_11), a0_5_14_0.toInt, (fl_A fa0_5_14_2), (fl_A fa0_5_14_3), (fl_A fa0_5_13), (fl_A fa0_5_12)) := hF0
                  exact W.zret (v := 0) hx hb hr rfl (fun t ht hW => ⟨⟨0, (), rfl, ⟨(Or.inr (rfl)), (congrArg Prod.fst hFe).symm⟩, v210na0_1, v210na0_2, a0_6, a0_8, a0_9, a0_10, a0_11, a0_12, a0_13, a0_5_0, a0_5_1, a0_5_2, a0_5_3, a0_5_4, a0_5_5, a0_5_6, a0_5_7, a0_5_8, a0_5_9, fa0_4, fa0_5_10, fa0_5_11, a0_5_14_0, fa0_5_14_2, fa0_5_14_3, fa0_5_13, fa0_5_12, ⟨ba0_6_l, ba0_6_u⟩, ⟨ba0_8_l, ba0_8_u⟩, ⟨ba0_9_l, ba0_9_u⟩, ⟨ba0_10_l, ba0_10_u⟩, ⟨Int.le_trans (by decide) l81t_a0_5_0, ba0_5_0_u⟩, ⟨ba0_5_4_l, ba0_5_4_u⟩, ⟨ba0_5_5_l, ba0_5_5_u⟩, ⟨ba0_5_6_l, ba0_5_6_u⟩, ⟨ba0_5_7_l, ba0_5_7_u⟩, ⟨Int.le_trans (by decide) l205f_a0_5_9, ba0_5_9_u⟩, ⟨ba0_5_14_0_l, ba0_5_14_0_u⟩, bfa0_5_14_2, bfa0_5_14_3, bfa0_5_13, (congrArg Prod.snd hFe), by rw [ht]; exact hP, va_K.moved hW.alike hK, hD⟩, hS.F ht⟩) hS.2.2 dX3_readLine_220
        · have gc81 := ai_eq c81
          have u81f_a0_5_0 : a0_5_0.toInt ≤ (0 : Int) := Int.le_trans (Int.le_of_eq gc81) zq6
          have l81f_a0_5_0 : (0 : Int) ≤ a0_5_0.toInt := ba0_5_0_l
          have hF0 := hF0.trans (if_pos (show a0_5_0.toInt = 0 from gc81))
          refine lv_aload_n hx hb dX3_readLine_84 rfl (lv_at hl 0 rfl) ?_
          refine lv_bipush (v := 6) hx hb dX3_readLine_85 zk_bipush_6 ?_
          refine va_calli (va_runV (As := [.int 6]) (rest := []) ⟨hx, hb, hml, hown, hts⟩ (f_X3_fails l dC dI H.size a0 6 a0g_0 (.ref a0_3) (.ref a0_4) (.ref a0_5) (.int a0_6) (.int a0_7) (.int a0_9) (.int a0_10) (.long a0_11) (.int a0_12) (.int a0_13) a0_1 a0_2 a0_8 ba0_8_l ba0_8_u) (cwV 1 hts gX3_readLine_X3_fails rfl rfl rfl zd_X3_fails ⟨Nat.le_of_ble_eq_true rfl, Nat.le_of_ble_eq_true rfl⟩) ⟨ax_blind (fun _ _ _ _ _ => trivial), zr_3 (zp_K hK) (zp_P1 hP) (q0 := 0) rfl, ax_pre (zp_P1 hP) (zp_K hK) (zp_D1 hD) (fun _ _ => trivial)⟩ rfl rfl hl.1 rfl (lv_room (Nat.le_of_ble_eq_true rfl)) dX3_readLine_87 ⟨Nat.le_of_ble_eq_true rfl, Nat.le_of_ble_eq_true rfl⟩) hS (fun q _ h => zp_F1 hD hS hA q h) (zp_F1 hD hS hA) (fun r87 u t H locs ht hvm hw => zx_2 (fun v87na0_1 v87na0_2 => zy_1 (fun hraw87_0 hB hz1 hk1 hS1 => zo1 hB ht hP hD hk1 (zp_F1 hD hS hA) hS1 (fun hP hK1 hD hS => ?_))))
          obtain ⟨hw, hfr87⟩ := hw
          rw [show (6 : Int32).toInt = 6 from by decide] at hfr87 hraw87_0
          have hc87 : Ff_X3_fails 6 a0_8.toInt = (r87.toInt, v87na0_1.toInt, v87na0_2.toInt) := Prod.ext hfr87.symm hraw87_0
          have hF0 := hF0.trans (fl_c3_eq hc87)
          have hw : r87 = 0 := hw
          have hw := hw.symm
          subst hw
          have hFe : FX = (0, v87na0_1.toInt, v87na0_2.toInt, a0_6.toInt, a0_8.toInt, a0_9.toInt, a0_10.toInt, a0_11.toInt, a0_12.toInt, a0_13.toInt, a0_5_0.toInt, a0_5_1.toInt, a0_5_2.toInt, a0_5_3.toInt, a0_5_4.toInt, a0_5_5.toInt, a0_5_6.toInt, a0_5_7.toInt, a0_5_8.toInt, a0_5_9.toInt, (fl_L fa0_4), (fl_A fa0_5_10), (fl_A fa0_5_11), a0_5_14_0.toInt, (fl_A fa0_5_14_2), (fl_A fa0_5_14_3), (fl_A fa0_5_13), (fl_A fa0_5_12)) := hF0
          exact W.zret (v := 0) hx hb hr rfl (fun t ht hW => ⟨⟨0, (), rfl, ⟨(Or.inr (rfl)), (congrArg Prod.fst hFe).symm⟩, v87na0_1, v87na0_2, a0_6, a0_8, a0_9, a0_10, a0_11, a0_12, a0_13, a0_5_0, a0_5_1, a0_5_2, a0_5_3, a0_5_4, a0_5_5, a0_5_6, a0_5_7, a0_5_8, a0_5_9, fa0_4, fa0_5_10, fa0_5_11, a0_5_14_0, fa0_5_14_2, fa0_5_14_3, fa0_5_13, fa0_5_12, ⟨ba0_6_l, ba0_6_u⟩, ⟨ba0_8_l, ba0_8_u⟩, ⟨ba0_9_l, ba0_9_u⟩, ⟨ba0_10_l, ba0_10_u⟩, ⟨l81f_a0_5_0, Int.le_trans u81f_a0_5_0 (by decide)⟩, ⟨ba0_5_4_l, ba0_5_4_u⟩, ⟨ba0_5_5_l, ba0_5_5_u⟩, ⟨ba0_5_6_l, ba0_5_6_u⟩, ⟨ba0_5_7_l, ba0_5_7_u⟩, ⟨ba0_5_9_l, ba0_5_9_u⟩, ⟨ba0_5_14_0_l, ba0_5_14_0_u⟩, bfa0_5_14_2, bfa0_5_14_3, bfa0_5_13, (congrArg Prod.snd hFe), by rw [ht]; exact hP, va_K.moved hW.alike hK, hD⟩, hS.F ht⟩) hS.2.2 dX3_readLine_90
      exact (hK0 _ _ _).mp (J74  _ _ _   hF0 hP hD hS (lv_sub hl [0] rfl))
    · subst hw
      have hF0 := hF0.trans (if_neg (by decide))
      refine lv_if_ne (tgt := 74) hx hb dX3_readLine_38 (by decide) (fun c38 => absurd (by decide +kernel) c38) (fun _ => ?_)
      have J74 : ∀ (H : Heap) (locs : List Loc) (ls : Array Slot), (FX = Gf_X3_readLine_74_2 a0_1.toInt a0_2.toInt a0_6.toInt a0_7.toInt a0_8.toInt a0_9.toInt a0_10.toInt a0_11.toInt a0_12.toInt a0_13.toInt a0_5_0.toInt a0_5_1.toInt a0_5_2.toInt a0_5_3.toInt a0_5_4.toInt a0_5_5.toInt a0_5_6.toInt a0_5_7.toInt a0_5_8.toInt a0_5_9.toInt (fl_A fa0_3) (fl_L fa0_4) (fl_A fa0_5_10) (fl_A fa0_5_11) a0_5_14_0.toInt (fl_A fa0_5_14_2) (fl_A fa0_5_14_3) (fl_A fa0_5_13) (fl_A fa0_5_12)) → va_P (dC, dI) vwCl [(a0, .inr (3, [a0g_0, .int a0_1, .int a0_2, .ref a0_3, .ref a0_4, .ref a0_5, .int a0_6, .int a0_7, .int a0_8, .int a0_9, .int a0_10, .long a0_11, .int a0_12, .int a0_13])), (a0_5, .inr (0, [.int a0_5_0, .int a0_5_1, .int a0_5_2, .int a0_5_3, .int a0_5_4, .int a0_5_5, .int a0_5_6, .int a0_5_7, .int a0_5_8, .int a0_5_9, .ref a0_5_10, .ref a0_5_11, .ref a0_5_12, .ref a0_5_13, .ref a0_5_14])), (a0_3, .inl (ka0_3, 900, .inl (fa0_3))), (a0_4, .inl (ka0_4, 12, .inr (.inl (fa0_4)))), (a0_5_10, .inl (ka0_5_10, 9, .inl (fa0_5_10))), (a0_5_11, .inl (ka0_5_11, 9, .inl (fa0_5_11))), (a0_5_14, .inr (6, [.int a0_5_14_0, a0_5_14g_1, .ref a0_5_14_2, .ref a0_5_14_3])), (a0_5_14_2, .inl (ka0_5_14_2, 3, .inl (fa0_5_14_2))), (a0_5_14_3, .inl (ka0_5_14_3, 3, .inl (fa0_5_14_3))), (a0_5_13, .inl (ka0_5_13, 6, .inl (fa0_5_13))), (a0_5_12, .inl (ka0_5_12, 6, .inl (fa0_5_12)))] H → va_D A [(a0, .inr (3, [a0g_0, .int a0_1, .int a0_2, .ref a0_3, .ref a0_4, .ref a0_5, .int a0_6, .int a0_7, .int a0_8, .int a0_9, .int a0_10, .long a0_11, .int a0_12, .int a0_13])), (a0_5, .inr (0, [.int a0_5_0, .int a0_5_1, .int a0_5_2, .int a0_5_3, .int a0_5_4, .int a0_5_5, .int a0_5_6, .int a0_5_7, .int a0_5_8, .int a0_5_9, .ref a0_5_10, .ref a0_5_11, .ref a0_5_12, .ref a0_5_13, .ref a0_5_14])), (a0_3, .inl (ka0_3, 900, .inl (fa0_3))), (a0_4, .inl (ka0_4, 12, .inr (.inl (fa0_4)))), (a0_5_10, .inl (ka0_5_10, 9, .inl (fa0_5_10))), (a0_5_11, .inl (ka0_5_11, 9, .inl (fa0_5_11))), (a0_5_14, .inr (6, [.int a0_5_14_0, a0_5_14g_1, .ref a0_5_14_2, .ref a0_5_14_3])), (a0_5_14_2, .inl (ka0_5_14_2, 3, .inl (fa0_5_14_2))), (a0_5_14_3, .inl (ka0_5_14_3, 3, .inl (fa0_5_14_3))), (a0_5_13, .inl (ka0_5_13, 6, .inl (fa0_5_13))), (a0_5_12, .inl (ka0_5_12, 6, .inl (fa0_5_12)))] → va_S A s.heap H locs → lv_has ls 1 [(0, .ref a0)] → K H locs (F0 m 74 ls []) := by
        intro  H locs ls  hF0 hP hD hS hl
        refine (hK0 _ _ _).mpr ?_
        have hF0 := hF0.trans (Gf_X3_readLine_74_2.eq_1 a0_1.toInt a0_2.toInt a0_6.toInt a0_7.toInt a0_8.toInt a0_9.toInt a0_10.toInt a0_11.toInt a0_12.toInt a0_13.toInt a0_5_0.toInt a0_5_1.toInt a0_5_2.toInt a0_5_3.toInt a0_5_4.toInt a0_5_5.toInt a0_5_6.toInt a0_5_7.toInt a0_5_8.toInt a0_5_9.toInt (fl_A fa0_3) (fl_L fa0_4) (fl_A fa0_5_10) (fl_A fa0_5_11) a0_5_14_0.toInt (fl_A fa0_5_14_2) (fl_A fa0_5_14_3) (fl_A fa0_5_13) (fl_A fa0_5_12))
        refine lv_aload_n hx hb dX3_readLine_74 rfl (lv_at hl 0 rfl) ?_
        refine va_get (D := (dC, dI)) (ci := 3) (v := .ref a0_5) (C := RX3) (T := TX3) (N := 14) hx hb hts zi_X3_readLine_3 hown hK hP 0 rfl rfl 5 (by decide) (hts (.fieldLink RX3 22 "WaxTurns$Reade\x72" "draft" "LWaxTurns$Hall;") (zm_X3_readLine_r1 (List.mem_of_getElem? (i := 0) rfl))) (fun _ h9 => h9) rfl dX3_readLine_75 ?_
        refine va_get (D := (dC, dI)) (ci := 0) (v := .int a0_5_0) (C := RX0) (T := TX0) (N := 15) hx hb hts zi_X3_readLine_0 hown hK hP 1 rfl rfl 0 (by decide) (hts (.fieldLink RX3 104 "WaxTurns$Hall" "figures" "I") (zm_X3_readLine_r1 (List.mem_of_getElem? (i := 1) rfl))) (fun _ h9 => h9) rfl dX3_readLine_78 ?_
        refine lv_if_ne (tgt := 91) hx hb dX3_readLine_81 (by decide) (fun c81 => ?_) (fun c81 => ?_)
        · have gc81 := ai_ne c81
          have l81t_a0_5_0 : (1 : Int) ≤ a0_5_0.toInt := (by first | exact zg_l ba0_5_0_l gc81 (by decide) (by decide) | (have h1 := ba0_5_0_l; have h2 : (0 : Int32).toInt = 0 := (by decide); rw [h2] at gc81; omega))
          have hF0 := hF0.trans (if_neg (show ¬ (a0_5_0.toInt = 0) from  gc81))
          refine lv_aload_n hx hb dX3_readLine_91 rfl (lv_at hl 0 rfl) ?_
          refine va_ldcS hx hb hown (sxc_R1 hE0) dX3_readLine_92 ?_
          refine va_calli (va_runV (As := [.ref (ad 1)]) (rest := []) ⟨hx, hb, hml, hown, hts⟩ (f_X3_isWord l dC dI H.size a0 (ad 1) a0g_0 (.int a0_1) (.int a0_2) (.ref a0_3) (.ref a0_4) (.ref a0_5) (.int a0_6) (.int a0_7) (.int a0_8) (.int a0_9) (.int a0_12) (.int a0_13) a0_10 a0_11 3 (sxc 1) ba0_10_l ba0_10_u) (cwV 1 hts gX3_readLine_X3_isWord rfl rfl rfl zd_X3_isWord ⟨Nat.le_of_ble_eq_true rfl, Nat.le_of_ble_eq_true rfl⟩) ⟨ax_blind (fun _ _ _ _ hq => sxc_W_same _ _ _ _ (hq)), zr_3 (zp_K hK) (zp_P1 hP) (q0 := 0) rfl, ax_preE (zp_P1 hP) (zp_K hK) (zp_D1 hD) (fun U hU hW => sxc_W_to (sxc_T_w hE0 (i := 1) (by decide)) hS.2.1 (zp_F1 hD hS hA) hU hW)⟩ rfl rfl hl.1 rfl (lv_room (Nat.le_of_ble_eq_true rfl)) dX3_readLine_94 ⟨Nat.le_of_ble_eq_true rfl, Nat.le_of_ble_eq_true rfl⟩) hS (fun q _ h => zp_F1 hD hS hA q h) (zp_F1 hD hS hA) (fun r94 u t H locs ht hvm hw hB hz1 hk1 hS1 => zo1 hB ht hP hD hk1 (zp_F1 hD hS hA) hS1 (fun hP hK1 hD hS => ?_))
          obtain ⟨hw, hfr94⟩ := hw
          rw [show ((3 : Nat) : Int) = 3 from rfl] at hfr94
          have hc94 : Ff_X3_isWord a0_10.toInt a0_11.toInt 3 (fl_A (sxc 1)) = r94.toInt := hfr94.symm
          have hF0 := hF0.trans (fl_lt_eq hc94.symm)
          rcases hw with hw | hw
          · obtain ⟨hw, h94_0, h94_1⟩ := hw
            subst hw
            have l94k0_a0_10 : (1 : Int) ≤ a0_10.toInt := h94_0
            have u94k0_a0_10 : a0_10.toInt ≤ (1 : Int) := h94_1
            have hF0 := hF0.trans (if_pos (by decide))
            refine lv_if_eq (tgt := 123) hx hb dX3_readLine_97 (by decide) (fun c97 => absurd c97 (by decide +kernel)) (fun _ => ?_)
            refine lv_aload_n hx hb dX3_readLine_100 rfl (lv_at hl 0 rfl) ?_
            refine va_get (D := (dC, dI)) (ci := 3) (v := .ref a0_5) (C := RX3) (T := TX3) (N := 14) hx hb hts zi_X3_readLine_3 hown hK hP 0 rfl rfl 5 (by decide) (hts (.fieldLink RX3 22 "WaxTurns$Reade\x72" "draft" "LWaxTurns$Hall;") (zm_X3_readLine_r1 (List.mem_of_getElem? (i := 0) rfl))) (fun _ h9 => h9) rfl dX3_readLine_101 ?_
            refine va_get (D := (dC, dI)) (ci := 0) (v := .int a0_5_4) (C := RX0) (T := TX0) (N := 15) hx hb hts zi_X3_readLine_0 hown hK hP 1 rfl rfl 4 (by decide) (hts (.fieldLink RX3 68 "WaxTurns$Hall" "lawTold" "Z") (zm_X3_readLine_r1 (List.mem_of_getElem? (i := 2) rfl))) (fun _ h9 => h9) rfl dX3_readLine_104 ?_
            refine lv_if_eq (tgt := 118) hx hb dX3_readLine_107 (by decide) (fun c107 => ?_) (fun c107 => ?_)
            · have gc107 := ai_eq c107
              have u107t_a0_5_4 : a0_5_4.toInt ≤ (0 : Int) := Int.le_trans (Int.le_of_eq gc107) zq6
              have l107t_a0_5_4 : (0 : Int) ≤ a0_5_4.toInt := ba0_5_4_l
              have hF0 := hF0.trans (if_pos (show a0_5_4.toInt = 0 from gc107))
              refine lv_aload_n hx hb dX3_readLine_118 rfl (lv_at hl 0 rfl) ?_
              refine zc_cutc (wc := [(a0, .inr (3, [a0g_0, .int a0_1, .int a0_2, .ref a0_3, .ref a0_4, .ref a0_5, .int a0_6, .int a0_7, .int a0_8, .int a0_9, .int a0_10, .long a0_11, .int a0_12, .int a0_13])), (a0_3, .inl (ka0_3, 900, .inl (fa0_3))), (a0_5, .inr (0, [.int a0_5_0, .int a0_5_1, .int a0_5_2, .int a0_5_3, .int a0_5_4, .int a0_5_5, .int a0_5_6, .int a0_5_7, .int a0_5_8, .int a0_5_9, .ref a0_5_10, .ref a0_5_11, .ref a0_5_12, .ref a0_5_13, .ref a0_5_14]))]) hP hD hS hA [0, 2, 1] (by decide +kernel) rfl (fun hPc hDc hFc hCc => ?_)
              have hKc := hK.sub (tys' := [(ka0_3, .byte)]) [0] rfl
              refine va_calli (va_runV (As := []) (rest := []) ⟨hx, hb, hml, hown, hts⟩ (f_X3_readLaw l dC dI H.size a0 a0g_0 (.ref a0_4) (.int a0_6) a0_1 a0_2 a0_3 a0_5 a0_7 a0_8 a0_9 a0_10 a0_11 a0_12 a0_13 ka0_3 fa0_3 a0_5_0 (.int a0_5_1) (.int a0_5_2) (.int a0_5_3) (.int a0_5_8) (.int a0_5_9) (.ref a0_5_10) (.ref a0_5_11) (.ref a0_5_12) (.ref a0_5_13) (.ref a0_5_14) a0_5_4 a0_5_5 a0_5_6 a0_5_7 ad ba0_7_l ba0_7_u ba0_8_l ba0_8_u ba0_9_l ba0_9_u (Int.le_trans zq4 l94k0_a0_10) (Int.le_trans u94k0_a0_10 zq135) (Int.le_trans zq4 l81t_a0_5_0) ba0_5_0_u l107t_a0_5_4 (Int.le_trans u107t_a0_5_4 zq4) ba0_5_5_l ba0_5_5_u ba0_5_6_l ba0_5_6_u ba0_5_7_l ba0_5_7_u) (cwV 0 hts gX3_readLine_X3_readLaw rfl rfl rfl zd_X3_readLaw ⟨Nat.le_of_ble_eq_true rfl, Nat.le_of_ble_eq_true rfl⟩) ⟨ax_blind (fun _ _ _ _ hq => ⟨sxc_T_same _ _ _ _ (hq.1), va_Nw.same rfl rfl (hq.2)⟩), zr_3 hKc hPc (q0 := 0) rfl, ax_preE hPc hKc hDc (fun U hU hW => ⟨sxc_T_to hE0 hS.2.1 hFc hU hW, va_Nw.warmM hW hE1⟩)⟩ rfl rfl hl.1 rfl (lv_room (Nat.le_of_ble_eq_true rfl)) dX3_readLine_119 ⟨Nat.le_of_ble_eq_true rfl, Nat.le_of_ble_eq_true rfl⟩) hS (fun q _ h => hFc q h) hFc (fun r119 u t H locs ht hvm hw => zx_12 (fun v119na0_1 v119na0_2 v119na0_8 v119na0_9 v119na0_10 v119na0_11 v119na0_12 v119na0_13 v119na0_5_4 v119na0_5_5 v119na0_5_6 v119na0_5_7 => zy_8 (fun bv119na0_8 bv119na0_9 bv119na0_10 bv119na0_5_4 bv119na0_5_5 bv119na0_5_6 bv119na0_5_7 hraw119_0 hB hz1 hk1 hS1 => zo hB ht hS1 (fun hP1 hK1 hD1 hS => ?_))))
              refine zc_backc (w := [(a0, .inr (3, [a0g_0, .int v119na0_1, .int v119na0_2, .ref a0_3, .ref a0_4, .ref a0_5, .int a0_6, .int a0_7, .int v119na0_8, .int v119na0_9, .int v119na0_10, .long v119na0_11, .int v119na0_12, .int v119na0_13])), (a0_5, .inr (0, [.int a0_5_0, .int a0_5_1, .int a0_5_2, .int a0_5_3, .int v119na0_5_4, .int v119na0_5_5, .int v119na0_5_6, .int v119na0_5_7, .int a0_5_8, .int a0_5_9, .ref a0_5_10, .ref a0_5_11, .ref a0_5_12, .ref a0_5_13, .ref a0_5_14])), (a0_3, .inl (ka0_3, 900, .inl (fa0_3))), (a0_4, .inl (ka0_4, 12, .inr (.inl (fa0_4)))), (a0_5_10, .inl (ka0_5_10, 9, .inl (fa0_5_10))), (a0_5_11, .inl (ka0_5_11, 9, .inl (fa0_5_11))), (a0_5_14, .inr (6, [.int a0_5_14_0, a0_5_14g_1, .ref a0_5_14_2, .ref a0_5_14_3])), (a0_5_14_2, .inl (ka0_5_14_2, 3, .inl (fa0_5_14_2))), (a0_5_14_3, .inl (ka0_5_14_3, 3, .inl (fa0_5_14_3))), (a0_5_13, .inl (ka0_5_13, 6, .inl (fa0_5_13))), (a0_5_12, .inl (ka0_5_12, 6, .inl (fa0_5_12)))]) hP hD hCc hk1 hFc hP1 hD1 [.inr 0, .inr 2, .inr 1, .inl 3, .inl 4, .inl 5, .inl 6, .inl 7, .inl 8, .inl 9, .inl 10] (by decide +kernel) rfl (fun hP hD => ?_)
              obtain ⟨hw, hfr119⟩ := hw
              have hc119 : Ff_X3_readLaw a0_1.toInt a0_2.toInt a0_7.toInt a0_9.toInt a0_11.toInt a0_12.toInt a0_13.toInt (fl_A fa0_3) a0_5_0.toInt a0_5_4.toInt a0_5_5.toInt a0_5_6.toInt a0_5_7.toInt = (r119.toInt, v119na0_1.toInt, v119na0_2.toInt, v119na0_8.toInt, v119na0_9.toInt, v119na0_10.toInt, v119na0_11.toInt, v119na0_12.toInt, v119na0_13.toInt, v119na0_5_4.toInt, v119na0_5_5.toInt, v119na0_5_6.toInt, v119na0_5_7.toInt) := Prod.ext hfr119.symm hraw119_0
              have hF0 := hF0.trans (fl_c13_eq hc119)
              rcases hw with hw | hw
              · subst hw
                have hF0 := hF0.trans (if_pos (by decide))
                have hFe : FX = (1, v119na0_1.toInt, v119na0_2.toInt, a0_6.toInt, v119na0_8.toInt, v119na0_9.toInt, v119na0_10.toInt, v119na0_11.toInt, v119na0_12.toInt, v119na0_13.toInt, a0_5_0.toInt, a0_5_1.toInt, a0_5_2.toInt, a0_5_3.toInt, v119na0_5_4.toInt, v119na0_5_5.toInt, v119na0_5_6.toInt, v119na0_5_7.toInt, a0_5_8.toInt, a0_5_9.toInt, (fl_L fa0_4), (fl_A fa0_5_10), (fl_A fa0_5_11), a0_5_14_0.toInt, (fl_A fa0_5_14_2), (fl_A fa0_5_14_3), (fl_A fa0_5_13), (fl_A fa0_5_12)) := hF0
                exact W.zret (v := 1) hx hb hr rfl (fun t ht hW => ⟨⟨1, (), rfl, ⟨(Or.inl (rfl)), (congrArg Prod.fst hFe).symm⟩, v119na0_1, v119na0_2, a0_6, v119na0_8, v119na0_9, v119na0_10, v119na0_11, v119na0_12, v119na0_13, a0_5_0, a0_5_1, a0_5_2, a0_5_3, v119na0_5_4, v119na0_5_5, v119na0_5_6, v119na0_5_7, a0_5_8, a0_5_9, fa0_4, fa0_5_10, fa0_5_11, a0_5_14_0, fa0_5_14_2, fa0_5_14_3, fa0_5_13, fa0_5_12, ⟨ba0_6_l, ba0_6_u⟩, ⟨bv119na0_8.1, bv119na0_8.2⟩, ⟨bv119na0_9.1, bv119na0_9.2⟩, ⟨bv119na0_10.1, bv119na0_10.2⟩, ⟨Int.le_trans (by decide) l81t_a0_5_0, ba0_5_0_u⟩, ⟨bv119na0_5_4.1, bv119na0_5_4.2⟩, ⟨bv119na0_5_5.1, bv119na0_5_5.2⟩, ⟨bv119na0_5_6.1, bv119na0_5_6.2⟩, ⟨bv119na0_5_7.1, bv119na0_5_7.2⟩, ⟨ba0_5_9_l, ba0_5_9_u⟩, ⟨ba0_5_14_0_l, ba0_5_14_0_u⟩, bfa0_5_14_2, bfa0_5_14_3, bfa0_5_13, (congrArg Prod.snd hFe), by rw [ht]; exact hP, va_K.moved hW.alike hK, hD⟩, hS.F ht⟩) hS.2.2 dX3_readLine_122
              · subst hw
                have hF0 := hF0.trans (if_neg (by decide))
                have hFe : FX = (0, v119na0_1.toInt, v119na0_2.toInt, a0_6.toInt, v119na0_8.toInt, v119na0_9.toInt, v119na0_10.toInt, v119na0_11.toInt, v119na0_12.toInt, v119na0_13.toInt, a0_5_0.toInt, a0_5_1.toInt, a0_5_2.toInt, a0_5_3.toInt, v119na0_5_4.toInt, v119na0_5_5.toInt, v119na0_5_6.toInt, v119na0_5_7.toInt, a0_5_8.toInt, a0_5_9.toInt, (fl_L fa0_4), (fl_A fa0_5_10), (fl_A fa0_5_11), a0_5_14_0.toInt, (fl_A fa0_5_14_2), (fl_A fa0_5_14_3), (fl_A fa0_5_13), (fl_A fa0_5_12)) := hF0
                exact W.zret (v := 0) hx hb hr rfl (fun t ht hW => ⟨⟨0, (), rfl, ⟨(Or.inr (rfl)), (congrArg Prod.fst hFe).symm⟩, v119na0_1, v119na0_2, a0_6, v119na0_8, v119na0_9, v119na0_10, v119na0_11, v119na0_12, v119na0_13, a0_5_0, a0_5_1, a0_5_2, a0_5_3, v119na0_5_4, v119na0_5_5, v119na0_5_6, v119na0_5_7, a0_5_8, a0_5_9, fa0_4, fa0_5_10, fa0_5_11, a0_5_14_0, fa0_5_14_2, fa0_5_14_3, fa0_5_13, fa0_5_12, ⟨ba0_6_l, ba0_6_u⟩, ⟨bv119na0_8.1, bv119na0_8.2⟩, ⟨bv119na0_9.1, bv119na0_9.2⟩, ⟨bv119na0_10.1, bv119na0_10.2⟩, ⟨Int.le_trans (by decide) l81t_a0_5_0, ba0_5_0_u⟩, ⟨bv119na0_5_4.1, bv119na0_5_4.2⟩, ⟨bv119na0_5_5.1, bv119na0_5_5.2⟩, ⟨bv119na0_5_6.1, bv119na0_5_6.2⟩, ⟨bv119na0_5_7.1, bv119na0_5_7.2⟩, ⟨ba0_5_9_l, ba0_5_9_u⟩, ⟨ba0_5_14_0_l, ba0_5_14_0_u⟩, bfa0_5_14_2, bfa0_5_14_3, bfa0_5_13, (congrArg Prod.snd hFe), by rw [ht]; exact hP, va_K.moved hW.alike hK, hD⟩, hS.F ht⟩) hS.2.2 dX3_readLine_122
            · have gc107 := ai_ne c107
              have l107f_a0_5_4 : (1 : Int) ≤ a0_5_4.toInt := (by first | exact zg_l ba0_5_4_l gc107 (by decide) (by decide) | (have h1 := ba0_5_4_l; have h2 : (0 : Int32).toInt = 0 := (by decide); rw [h2] at gc107; omega))
              have hF0 := hF0.trans (if_neg (show ¬ (a0_5_4.toInt = 0) from  gc107))
              refine lv_aload_n hx hb dX3_readLine_110 rfl (lv_at hl 0 rfl) ?_
              refine lv_iconst (v := 3) hx hb dX3_readLine_111 zk_iconst_3 ?_
              refine va_calli (va_runV (As := [.int 3]) (rest := []) ⟨hx, hb, hml, hown, hts⟩ (f_X3_fails l dC dI H.size a0 3 a0g_0 (.ref a0_3) (.ref a0_4) (.ref a0_5) (.int a0_6) (.int a0_7) (.int a0_9) (.int a0_10) (.long a0_11) (.int a0_12) (.int a0_13) a0_1 a0_2 a0_8 ba0_8_l ba0_8_u) (cwV 1 hts gX3_readLine_X3_fails rfl rfl rfl zd_X3_fails ⟨Nat.le_of_ble_eq_true rfl, Nat.le_of_ble_eq_true rfl⟩) ⟨ax_blind (fun _ _ _ _ _ => trivial), zr_3 (zp_K hK) (zp_P1 hP) (q0 := 0) rfl, ax_pre (zp_P1 hP) (zp_K hK) (zp_D1 hD) (fun _ _ => trivial)⟩ rfl rfl hl.1 rfl (lv_room (Nat.le_of_ble_eq_true rfl)) dX3_readLine_112 ⟨Nat.le_of_ble_eq_true rfl, Nat.le_of_ble_eq_true rfl⟩) hS (fun q _ h => zp_F1 hD hS hA q h) (zp_F1 hD hS hA) (fun r112 u t H locs ht hvm hw => zx_2 (fun v112na0_1 v112na0_2 => zy_1 (fun hraw112_0 hB hz1 hk1 hS1 => zo1 hB ht hP hD hk1 (zp_F1 hD hS hA) hS1 (fun hP hK1 hD hS => ?_))))
              obtain ⟨hw, hfr112⟩ := hw
              rw [show (3 : Int32).toInt = 3 from by decide] at hfr112 hraw112_0
              have hc112 : Ff_X3_fails 3 a0_8.toInt = (r112.toInt, v112na0_1.toInt, v112na0_2.toInt) := Prod.ext hfr112.symm hraw112_0
              have hF0 := hF0.trans (fl_c3_eq hc112)
              have hw : r112 = 0 := hw
              have hw := hw.symm
              subst hw
              refine lv_goto (tgt := 122) hx hb dX3_readLine_115 (by decide) ?_
              have hFe : FX = (0, v112na0_1.toInt, v112na0_2.toInt, a0_6.toInt, a0_8.toInt, a0_9.toInt, a0_10.toInt, a0_11.toInt, a0_12.toInt, a0_13.toInt, a0_5_0.toInt, a0_5_1.toInt, a0_5_2.toInt, a0_5_3.toInt, a0_5_4.toInt, a0_5_5.toInt, a0_5_6.toInt, a0_5_7.toInt, a0_5_8.toInt, a0_5_9.toInt, (fl_L fa0_4), (fl_A fa0_5_10), (fl_A fa0_5_11), a0_5_14_0.toInt, (fl_A fa0_5_14_2), (fl_A fa0_5_14_3), (fl_A fa0_5_13), (fl_A fa0_5_12)) := hF0
              exact W.zret (v := 0) hx hb hr rfl (fun t ht hW => ⟨⟨0, (), rfl, ⟨(Or.inr (rfl)), (congrArg Prod.fst hFe).symm⟩, v112na0_1, v112na0_2, a0_6, a0_8, a0_9, a0_10, a0_11, a0_12, a0_13, a0_5_0, a0_5_1, a0_5_2, a0_5_3, a0_5_4, a0_5_5, a0_5_6, a0_5_7, a0_5_8, a0_5_9, fa0_4, fa0_5_10, fa0_5_11, a0_5_14_0, fa0_5_14_2, fa0_5_14_3, fa0_5_13, fa0_5_12, ⟨ba0_6_l, ba0_6_u⟩, ⟨ba0_8_l, ba0_8_u⟩, ⟨ba0_9_l, ba0_9_u⟩, ⟨Int.le_trans (by decide) l94k0_a0_10, Int.le_trans u94k0_a0_10 (by decide)⟩, ⟨Int.le_trans (by decide) l81t_a0_5_0, ba0_5_0_u⟩, ⟨Int.le_trans (by decide) l107f_a0_5_4, ba0_5_4_u⟩, ⟨ba0_5_5_l, ba0_5_5_u⟩, ⟨ba0_5_6_l, ba0_5_6_u⟩, ⟨ba0_5_7_l, ba0_5_7_u⟩, ⟨ba0_5_9_l, ba0_5_9_u⟩, ⟨ba0_5_14_0_l, ba0_5_14_0_u⟩, bfa0_5_14_2, bfa0_5_14_3, bfa0_5_13, (congrArg Prod.snd hFe), by rw [ht]; exact hP, va_K.moved hW.alike hK, hD⟩, hS.F ht⟩) hS.2.2 dX3_readLine_122
          · subst hw
            have hF0 := hF0.trans (if_neg (by decide))
            refine lv_if_eq (tgt := 123) hx hb dX3_readLine_97 (by decide) (fun _ => ?_) (fun c97 => absurd (by decide +kernel) c97)
            refine lv_aload_n hx hb dX3_readLine_123 rfl (lv_at hl 0 rfl) ?_
            refine va_ldcS hx hb hown (sxc_R2 hE0) dX3_readLine_124 ?_
            refine va_calli (va_runV (As := [.ref (ad 2)]) (rest := []) ⟨hx, hb, hml, hown, hts⟩ (f_X3_isWord l dC dI H.size a0 (ad 2) a0g_0 (.int a0_1) (.int a0_2) (.ref a0_3) (.ref a0_4) (.ref a0_5) (.int a0_6) (.int a0_7) (.int a0_8) (.int a0_9) (.int a0_12) (.int a0_13) a0_10 a0_11 6 (sxc 2) ba0_10_l ba0_10_u) (cwV 1 hts gX3_readLine_X3_isWord rfl rfl rfl zd_X3_isWord ⟨Nat.le_of_ble_eq_true rfl, Nat.le_of_ble_eq_true rfl⟩) ⟨ax_blind (fun _ _ _ _ hq => sxc_W_same _ _ _ _ (hq)), zr_3 (zp_K hK) (zp_P1 hP) (q0 := 0) rfl, ax_preE (zp_P1 hP) (zp_K hK) (zp_D1 hD) (fun U hU hW => sxc_W_to (sxc_T_w hE0 (i := 2) (by decide)) hS.2.1 (zp_F1 hD hS hA) hU hW)⟩ rfl rfl hl.1 rfl (lv_room (Nat.le_of_ble_eq_true rfl)) dX3_readLine_126 ⟨Nat.le_of_ble_eq_true rfl, Nat.le_of_ble_eq_true rfl⟩) hS (fun q _ h => zp_F1 hD hS hA q h) (zp_F1 hD hS hA) (fun r126 u t H locs ht hvm hw hB hz1 hk1 hS1 => zo1 hB ht hP hD hk1 (zp_F1 hD hS hA) hS1 (fun hP hK1 hD hS => ?_))
            obtain ⟨hw, hfr126⟩ := hw
            rw [show ((6 : Nat) : Int) = 6 from rfl] at hfr126
            have hc126 : Ff_X3_isWord a0_10.toInt a0_11.toInt 6 (fl_A (sxc 2)) = r126.toInt := hfr126.symm
            have hF0 := hF0.trans (fl_lt_eq hc126.symm)
            rcases hw with hw | hw
            · obtain ⟨hw, h126_0, h126_1⟩ := hw
              subst hw
              have l126k0_a0_10 : (1 : Int) ≤ a0_10.toInt := h126_0
              have u126k0_a0_10 : a0_10.toInt ≤ (1 : Int) := h126_1
              have hF0 := hF0.trans (if_pos (by decide))
              refine lv_if_eq (tgt := 160) hx hb dX3_readLine_129 (by decide) (fun c129 => absurd c129 (by decide +kernel)) (fun _ => ?_)
              refine lv_aload_n hx hb dX3_readLine_132 rfl (lv_at hl 0 rfl) ?_
              refine va_get (D := (dC, dI)) (ci := 3) (v := .ref a0_5) (C := RX3) (T := TX3) (N := 14) hx hb hts zi_X3_readLine_3 hown hK hP 0 rfl rfl 5 (by decide) (hts (.fieldLink RX3 22 "WaxTurns$Reade\x72" "draft" "LWaxTurns$Hall;") (zm_X3_readLine_r1 (List.mem_of_getElem? (i := 0) rfl))) (fun _ h9 => h9) rfl dX3_readLine_133 ?_
              refine va_get (D := (dC, dI)) (ci := 0) (v := .int a0_5_8) (C := RX0) (T := TX0) (N := 15) hx hb hts zi_X3_readLine_0 hown hK hP 1 rfl rfl 8 (by decide) (hts (.fieldLink RX3 121 "WaxTurns$Hall" "toldBits" "I") (zm_X3_readLine_r1 (List.mem_of_getElem? (i := 3) rfl))) (fun _ h9 => h9) rfl dX3_readLine_136 ?_
              refine va_calli (va_runS (As := [.int a0_5_8]) (rest := []) ⟨hx, hb, hml, hown, hts⟩ (f_J6_bitCount_0f7a4 l dC dI H.size a0_5_8 ) (va_cwS 1 hts gX3_readLine_J6_bitCount_0f7a4 rfl rfl rfl zd_J6_bitCount_0f7a4.2 ⟨Nat.le_of_ble_eq_true rfl, Nat.le_of_ble_eq_true rfl⟩) ⟨ax_blind (fun _ _ _ _ _ => trivial), ax_pre (zp_P0 hP) (zp_K hK) (zp_D0 hD) (fun _ _ => trivial)⟩ rfl rfl hl.1 rfl (lv_room (Nat.le_of_ble_eq_true rfl)) dX3_readLine_139 ⟨Nat.le_of_ble_eq_true rfl, Nat.le_of_ble_eq_true rfl⟩) hS (fun q _ h => zp_F0 hD hS hA q h) (zp_F0 hD hS hA) (fun r139 u t H locs ht hvm hw hB hz1 hk1 hS1 => zo0 hB ht hP hD hk1 (zp_F0 hD hS hA) hS1 (fun hP hK1 hD hS => ?_))
              obtain ⟨hw, hfr139⟩ := hw
              have hc139 : Ff_J6_bitCount_0f7a4 a0_5_8.toInt = r139.toInt := hfr139.symm
              have hF0 := hF0.trans (fl_lt_eq hc139.symm)
              refine lv_bipush (v := 9) hx hb dX3_readLine_142 zk_bipush_9 ?_
              refine lv_icmp_lt (tgt := 155) hx hb dX3_readLine_144 (by decide) (fun c144 => ?_) (fun c144 => ?_)
              · have gc144 := ai_lt c144
                have u144t_r139 : r139.toInt ≤ (8 : Int) := ai_lthi gc144 zq3
                have hF0 := hF0.trans (if_pos (show r139.toInt < 9 from gc144))
                refine lv_aload_n hx hb dX3_readLine_155 rfl (lv_at hl 0 rfl) ?_
                refine zc_cutc (wc := [(a0, .inr (3, [a0g_0, .int a0_1, .int a0_2, .ref a0_3, .ref a0_4, .ref a0_5, .int a0_6, .int a0_7, .int a0_8, .int a0_9, .int a0_10, .long a0_11, .int a0_12, .int a0_13])), (a0_3, .inl (ka0_3, 900, .inl (fa0_3))), (a0_4, .inl (ka0_4, 12, .inr (.inl (fa0_4)))), (a0_5, .inr (0, [.int a0_5_0, .int a0_5_1, .int a0_5_2, .int a0_5_3, .int a0_5_4, .int a0_5_5, .int a0_5_6, .int a0_5_7, .int a0_5_8, .int a0_5_9, .ref a0_5_10, .ref a0_5_11, .ref a0_5_12, .ref a0_5_13, .ref a0_5_14])), (a0_5_10, .inl (ka0_5_10, 9, .inl (fa0_5_10))), (a0_5_11, .inl (ka0_5_11, 9, .inl (fa0_5_11)))]) hP hD hS hA [0, 2, 3, 1, 4, 5] (by decide +kernel) rfl (fun hPc hDc hFc hCc => ?_)
                have hKc := hK.sub (tys' := [(ka0_3, .byte), (ka0_4, .long), (ka0_5_10, .int), (ka0_5_11, .int)]) [0, 1, 2, 3] rfl
                refine va_calli (va_runV (As := []) (rest := []) ⟨hx, hb, hml, hown, hts⟩ (f_X3_readFigure l dC dI H.size a0 a0g_0 a0_1 a0_2 a0_3 a0_4 a0_5 a0_6 a0_7 a0_8 a0_9 a0_10 a0_11 a0_12 a0_13 ka0_3 fa0_3 ka0_4 fa0_4 a0_5_0 (.int a0_5_1) (.int a0_5_2) (.int a0_5_3) (.int a0_5_4) (.int a0_5_5) (.int a0_5_6) (.int a0_5_7) (.int a0_5_9) (.ref a0_5_12) (.ref a0_5_13) (.ref a0_5_14) a0_5_8 a0_5_10 a0_5_11 ka0_5_10 fa0_5_10 ka0_5_11 fa0_5_11 ad ba0_6_l ba0_6_u ba0_7_l ba0_7_u ba0_8_l ba0_8_u ba0_9_l ba0_9_u (Int.le_trans zq4 l126k0_a0_10) (Int.le_trans u126k0_a0_10 zq135) (Int.le_trans zq4 l81t_a0_5_0) ba0_5_0_u) (cwV 0 hts gX3_readLine_X3_readFigure rfl rfl rfl zd_X3_readFigure ⟨Nat.le_of_ble_eq_true rfl, Nat.le_of_ble_eq_true rfl⟩) ⟨ax_blind (fun _ _ _ _ hq => ⟨sxc_T_same _ _ _ _ (hq.1), va_Nw.same rfl rfl (hq.2.1), va_Nw.same rfl rfl (hq.2.2)⟩), zr_3 hKc hPc (q0 := 0) rfl, ax_preE hPc hKc hDc (fun U hU hW => ⟨sxc_T_to hE0 hS.2.1 hFc hU hW, va_Nw.warmM hW hE1, va_Nw.warmM hW hE2⟩)⟩ rfl rfl hl.1 rfl (lv_room (Nat.le_of_ble_eq_true rfl)) dX3_readLine_156 ⟨Nat.le_of_ble_eq_true rfl, Nat.le_of_ble_eq_true rfl⟩) hS (fun q _ h => hFc q h) hFc (fun r156 u t H locs ht hvm hw => zx_13 (fun v156na0_1 v156na0_2 v156na0_6 v156na0_8 v156na0_9 v156na0_10 v156na0_11 v156na0_12 v156na0_13 v156nfa0_4 v156na0_5_8 v156nfa0_5_10 v156nfa0_5_11 => zy_5 (fun bv156na0_6 bv156na0_8 bv156na0_9 bv156na0_10 hraw156_0 hB hz1 hk1 hS1 => zo hB ht hS1 (fun hP1 hK1 hD1 hS => ?_))))
                refine zc_backc (w := [(a0, .inr (3, [a0g_0, .int v156na0_1, .int v156na0_2, .ref a0_3, .ref a0_4, .ref a0_5, .int v156na0_6, .int a0_7, .int v156na0_8, .int v156na0_9, .int v156na0_10, .long v156na0_11, .int v156na0_12, .int v156na0_13])), (a0_5, .inr (0, [.int a0_5_0, .int a0_5_1, .int a0_5_2, .int a0_5_3, .int a0_5_4, .int a0_5_5, .int a0_5_6, .int a0_5_7, .int v156na0_5_8, .int a0_5_9, .ref a0_5_10, .ref a0_5_11, .ref a0_5_12, .ref a0_5_13, .ref a0_5_14])), (a0_3, .inl (ka0_3, 900, .inl (fa0_3))), (a0_4, .inl (ka0_4, 12, .inr (.inl (v156nfa0_4)))), (a0_5_10, .inl (ka0_5_10, 9, .inl (v156nfa0_5_10))), (a0_5_11, .inl (ka0_5_11, 9, .inl (v156nfa0_5_11))), (a0_5_14, .inr (6, [.int a0_5_14_0, a0_5_14g_1, .ref a0_5_14_2, .ref a0_5_14_3])), (a0_5_14_2, .inl (ka0_5_14_2, 3, .inl (fa0_5_14_2))), (a0_5_14_3, .inl (ka0_5_14_3, 3, .inl (fa0_5_14_3))), (a0_5_13, .inl (ka0_5_13, 6, .inl (fa0_5_13))), (a0_5_12, .inl (ka0_5_12, 6, .inl (fa0_5_12)))]) hP hD hCc hk1 hFc hP1 hD1 [.inr 0, .inr 3, .inr 1, .inr 2, .inr 4, .inr 5, .inl 6, .inl 7, .inl 8, .inl 9, .inl 10] (by decide +kernel) rfl (fun hP hD => ?_)
                obtain ⟨hw, hfr156⟩ := hw
                have hc156 : Ff_X3_readFigure a0_1.toInt a0_2.toInt a0_6.toInt a0_7.toInt a0_9.toInt a0_11.toInt a0_12.toInt a0_13.toInt (fl_A fa0_3) (fl_L fa0_4) a0_5_0.toInt a0_5_8.toInt (fl_A fa0_5_10) (fl_A fa0_5_11) = (r156.toInt, v156na0_1.toInt, v156na0_2.toInt, v156na0_6.toInt, v156na0_8.toInt, v156na0_9.toInt, v156na0_10.toInt, v156na0_11.toInt, v156na0_12.toInt, v156na0_13.toInt, (fl_L v156nfa0_4), v156na0_5_8.toInt, (fl_A v156nfa0_5_10), (fl_A v156nfa0_5_11)) := Prod.ext hfr156.symm hraw156_0
                have hF0 := hF0.trans (fl_c14_eq hc156)
                rcases hw with hw | hw
                · subst hw
                  have hF0 := hF0.trans (if_pos (by decide))
                  have hFe : FX = (1, v156na0_1.toInt, v156na0_2.toInt, v156na0_6.toInt, v156na0_8.toInt, v156na0_9.toInt, v156na0_10.toInt, v156na0_11.toInt, v156na0_12.toInt, v156na0_13.toInt, a0_5_0.toInt, a0_5_1.toInt, a0_5_2.toInt, a0_5_3.toInt, a0_5_4.toInt, a0_5_5.toInt, a0_5_6.toInt, a0_5_7.toInt, v156na0_5_8.toInt, a0_5_9.toInt, (fl_L v156nfa0_4), (fl_A v156nfa0_5_10), (fl_A v156nfa0_5_11), a0_5_14_0.toInt, (fl_A fa0_5_14_2), (fl_A fa0_5_14_3), (fl_A fa0_5_13), (fl_A fa0_5_12)) := hF0
                  exact W.zret (v := 1) hx hb hr rfl (fun t ht hW => ⟨⟨1, (), rfl, ⟨(Or.inl (rfl)), (congrArg Prod.fst hFe).symm⟩, v156na0_1, v156na0_2, v156na0_6, v156na0_8, v156na0_9, v156na0_10, v156na0_11, v156na0_12, v156na0_13, a0_5_0, a0_5_1, a0_5_2, a0_5_3, a0_5_4, a0_5_5, a0_5_6, a0_5_7, v156na0_5_8, a0_5_9, v156nfa0_4, v156nfa0_5_10, v156nfa0_5_11, a0_5_14_0, fa0_5_14_2, fa0_5_14_3, fa0_5_13, fa0_5_12, ⟨bv156na0_6.1, bv156na0_6.2⟩, ⟨bv156na0_8.1, bv156na0_8.2⟩, ⟨bv156na0_9.1, bv156na0_9.2⟩, ⟨bv156na0_10.1, bv156na0_10.2⟩, ⟨Int.le_trans (by decide) l81t_a0_5_0, ba0_5_0_u⟩, ⟨ba0_5_4_l, ba0_5_4_u⟩, ⟨ba0_5_5_l, ba0_5_5_u⟩, ⟨ba0_5_6_l, ba0_5_6_u⟩, ⟨ba0_5_7_l, ba0_5_7_u⟩, ⟨ba0_5_9_l, ba0_5_9_u⟩, ⟨ba0_5_14_0_l, ba0_5_14_0_u⟩, bfa0_5_14_2, bfa0_5_14_3, bfa0_5_13, (congrArg Prod.snd hFe), by rw [ht]; exact hP, va_K.moved hW.alike hK, hD⟩, hS.F ht⟩) hS.2.2 dX3_readLine_159
                · subst hw
                  have hF0 := hF0.trans (if_neg (by decide))
                  have hFe : FX = (0, v156na0_1.toInt, v156na0_2.toInt, v156na0_6.toInt, v156na0_8.toInt, v156na0_9.toInt, v156na0_10.toInt, v156na0_11.toInt, v156na0_12.toInt, v156na0_13.toInt, a0_5_0.toInt, a0_5_1.toInt, a0_5_2.toInt, a0_5_3.toInt, a0_5_4.toInt, a0_5_5.toInt, a0_5_6.toInt, a0_5_7.toInt, v156na0_5_8.toInt, a0_5_9.toInt, (fl_L v156nfa0_4), (fl_A v156nfa0_5_10), (fl_A v156nfa0_5_11), a0_5_14_0.toInt, (fl_A fa0_5_14_2), (fl_A fa0_5_14_3), (fl_A fa0_5_13), (fl_A fa0_5_12)) := hF0
                  exact W.zret (v := 0) hx hb hr rfl (fun t ht hW => ⟨⟨0, (), rfl, ⟨(Or.inr (rfl)), (congrArg Prod.fst hFe).symm⟩, v156na0_1, v156na0_2, v156na0_6, v156na0_8, v156na0_9, v156na0_10, v156na0_11, v156na0_12, v156na0_13, a0_5_0, a0_5_1, a0_5_2, a0_5_3, a0_5_4, a0_5_5, a0_5_6, a0_5_7, v156na0_5_8, a0_5_9, v156nfa0_4, v156nfa0_5_10, v156nfa0_5_11, a0_5_14_0, fa0_5_14_2, fa0_5_14_3, fa0_5_13, fa0_5_12, ⟨bv156na0_6.1, bv156na0_6.2⟩, ⟨bv156na0_8.1, bv156na0_8.2⟩, ⟨bv156na0_9.1, bv156na0_9.2⟩, ⟨bv156na0_10.1, bv156na0_10.2⟩, ⟨Int.le_trans (by decide) l81t_a0_5_0, ba0_5_0_u⟩, ⟨ba0_5_4_l, ba0_5_4_u⟩, ⟨ba0_5_5_l, ba0_5_5_u⟩, ⟨ba0_5_6_l, ba0_5_6_u⟩, ⟨ba0_5_7_l, ba0_5_7_u⟩, ⟨ba0_5_9_l, ba0_5_9_u⟩, ⟨ba0_5_14_0_l, ba0_5_14_0_u⟩, bfa0_5_14_2, bfa0_5_14_3, bfa0_5_13, (congrArg Prod.snd hFe), by rw [ht]; exact hP, va_K.moved hW.alike hK, hD⟩, hS.F ht⟩) hS.2.2 dX3_readLine_159
              · have gc144 := ai_nlt c144
                have l144f_r139 : (9 : Int) ≤ r139.toInt := Int.le_trans zq2 gc144
                have hF0 := hF0.trans (if_neg (show ¬ (r139.toInt < 9) from Int.not_lt.mpr gc144))
                refine lv_aload_n hx hb dX3_readLine_147 rfl (lv_at hl 0 rfl) ?_
                refine lv_iconst (v := 5) hx hb dX3_readLine_148 zk_iconst_5 ?_
                refine va_calli (va_runV (As := [.int 5]) (rest := []) ⟨hx, hb, hml, hown, hts⟩ (f_X3_fails l dC dI H.size a0 5 a0g_0 (.ref a0_3) (.ref a0_4) (.ref a0_5) (.int a0_6) (.int a0_7) (.int a0_9) (.int a0_10) (.long a0_11) (.int a0_12) (.int a0_13) a0_1 a0_2 a0_8 ba0_8_l ba0_8_u) (cwV 1 hts gX3_readLine_X3_fails rfl rfl rfl zd_X3_fails ⟨Nat.le_of_ble_eq_true rfl, Nat.le_of_ble_eq_true rfl⟩) ⟨ax_blind (fun _ _ _ _ _ => trivial), zr_3 (zp_K hK) (zp_P1 hP) (q0 := 0) rfl, ax_pre (zp_P1 hP) (zp_K hK) (zp_D1 hD) (fun _ _ => trivial)⟩ rfl rfl hl.1 rfl (lv_room (Nat.le_of_ble_eq_true rfl)) dX3_readLine_149 ⟨Nat.le_of_ble_eq_true rfl, Nat.le_of_ble_eq_true rfl⟩) hS (fun q _ h => zp_F1 hD hS hA q h) (zp_F1 hD hS hA) (fun r149 u t H locs ht hvm hw => zx_2 (fun v149na0_1 v149na0_2 => zy_1 (fun hraw149_0 hB hz1 hk1 hS1 => zo1 hB ht hP hD hk1 (zp_F1 hD hS hA) hS1 (fun hP hK1 hD hS => ?_))))
                obtain ⟨hw, hfr149⟩ := hw
                rw [show (5 : Int32).toInt = 5 from by decide] at hfr149 hraw149_0
                have hc149 : Ff_X3_fails 5 a0_8.toInt = (r149.toInt, v149na0_1.toInt, v149na0_2.toInt) := Prod.ext hfr149.symm hraw149_0
                have hF0 := hF0.trans (fl_c3_eq hc149)
                have hw : r149 = 0 := hw
                have hw := hw.symm
                subst hw
                refine lv_goto (tgt := 159) hx hb dX3_readLine_152 (by decide) ?_
                have hFe : FX = (0, v149na0_1.toInt, v149na0_2.toInt, a0_6.toInt, a0_8.toInt, a0_9.toInt, a0_10.toInt, a0_11.toInt, a0_12.toInt, a0_13.toInt, a0_5_0.toInt, a0_5_1.toInt, a0_5_2.toInt, a0_5_3.toInt, a0_5_4.toInt, a0_5_5.toInt, a0_5_6.toInt, a0_5_7.toInt, a0_5_8.toInt, a0_5_9.toInt, (fl_L fa0_4), (fl_A fa0_5_10), (fl_A fa0_5_11), a0_5_14_0.toInt, (fl_A fa0_5_14_2), (fl_A fa0_5_14_3), (fl_A fa0_5_13), (fl_A fa0_5_12)) := hF0
                exact W.zret (v := 0) hx hb hr rfl (fun t ht hW => ⟨⟨0, (), rfl, ⟨(Or.inr (rfl)), (congrArg Prod.fst hFe).symm⟩, v149na0_1, v149na0_2, a0_6, a0_8, a0_9, a0_10, a0_11, a0_12, a0_13, a0_5_0, a0_5_1, a0_5_2, a0_5_3, a0_5_4, a0_5_5, a0_5_6, a0_5_7, a0_5_8, a0_5_9, fa0_4, fa0_5_10, fa0_5_11, a0_5_14_0, fa0_5_14_2, fa0_5_14_3, fa0_5_13, fa0_5_12, ⟨ba0_6_l, ba0_6_u⟩, ⟨ba0_8_l, ba0_8_u⟩, ⟨ba0_9_l, ba0_9_u⟩, ⟨Int.le_trans (by decide) l126k0_a0_10, Int.le_trans u126k0_a0_10 (by decide)⟩, ⟨Int.le_trans (by decide) l81t_a0_5_0, ba0_5_0_u⟩, ⟨ba0_5_4_l, ba0_5_4_u⟩, ⟨ba0_5_5_l, ba0_5_5_u⟩, ⟨ba0_5_6_l, ba0_5_6_u⟩, ⟨ba0_5_7_l, ba0_5_7_u⟩, ⟨ba0_5_9_l, ba0_5_9_u⟩, ⟨ba0_5_14_0_l, ba0_5_14_0_u⟩, bfa0_5_14_2, bfa0_5_14_3, bfa0_5_13, (congrArg Prod.snd hFe), by rw [ht]; exact hP, va_K.moved hW.alike hK, hD⟩, hS.F ht⟩) hS.2.2 dX3_readLine_159
            · subst hw
              have hF0 := hF0.trans (if_neg (by decide))
              refine lv_if_eq (tgt := 160) hx hb dX3_readLine_129 (by decide) (fun _ => ?_) (fun c129 => absurd (by decide +kernel) c129)
              refine lv_aload_n hx hb dX3_readLine_160 rfl (lv_at hl 0 rfl) ?_
              refine va_ldcS hx hb hown (sxc_R3 hE0) dX3_readLine_161 ?_
              refine va_calli (va_runV (As := [.ref (ad 3)]) (rest := []) ⟨hx, hb, hml, hown, hts⟩ (f_X3_isWord l dC dI H.size a0 (ad 3) a0g_0 (.int a0_1) (.int a0_2) (.ref a0_3) (.ref a0_4) (.ref a0_5) (.int a0_6) (.int a0_7) (.int a0_8) (.int a0_9) (.int a0_12) (.int a0_13) a0_10 a0_11 7 (sxc 3) ba0_10_l ba0_10_u) (cwV 1 hts gX3_readLine_X3_isWord rfl rfl rfl zd_X3_isWord ⟨Nat.le_of_ble_eq_true rfl, Nat.le_of_ble_eq_true rfl⟩) ⟨ax_blind (fun _ _ _ _ hq => sxc_W_same _ _ _ _ (hq)), zr_3 (zp_K hK) (zp_P1 hP) (q0 := 0) rfl, ax_preE (zp_P1 hP) (zp_K hK) (zp_D1 hD) (fun U hU hW => sxc_W_to (sxc_T_w hE0 (i := 3) (by decide)) hS.2.1 (zp_F1 hD hS hA) hU hW)⟩ rfl rfl hl.1 rfl (lv_room (Nat.le_of_ble_eq_true rfl)) dX3_readLine_163 ⟨Nat.le_of_ble_eq_true rfl, Nat.le_of_ble_eq_true rfl⟩) hS (fun q _ h => zp_F1 hD hS hA q h) (zp_F1 hD hS hA) (fun r163 u t H locs ht hvm hw hB hz1 hk1 hS1 => zo1 hB ht hP hD hk1 (zp_F1 hD hS hA) hS1 (fun hP hK1 hD hS => ?_))
              obtain ⟨hw, hfr163⟩ := hw
              rw [show ((7 : Nat) : Int) = 7 from rfl] at hfr163
              have hc163 : Ff_X3_isWord a0_10.toInt a0_11.toInt 7 (fl_A (sxc 3)) = r163.toInt := hfr163.symm
              have hF0 := hF0.trans (fl_lt_eq hc163.symm)
              rcases hw with hw | hw
              · obtain ⟨hw, h163_0, h163_1⟩ := hw
                subst hw
                have l163k0_a0_10 : (1 : Int) ≤ a0_10.toInt := h163_0
                have u163k0_a0_10 : a0_10.toInt ≤ (1 : Int) := h163_1
                have hF0 := hF0.trans (if_pos (by decide))
                refine lv_if_eq (tgt := 196) hx hb dX3_readLine_166 (by decide) (fun c166 => absurd c166 (by decide +kernel)) (fun _ => ?_)
                refine lv_aload_n hx hb dX3_readLine_169 rfl (lv_at hl 0 rfl) ?_
                refine va_get (D := (dC, dI)) (ci := 3) (v := .ref a0_5) (C := RX3) (T := TX3) (N := 14) hx hb hts zi_X3_readLine_3 hown hK hP 0 rfl rfl 5 (by decide) (hts (.fieldLink RX3 22 "WaxTurns$Reade\x72" "draft" "LWaxTurns$Hall;") (zm_X3_readLine_r1 (List.mem_of_getElem? (i := 0) rfl))) (fun _ h9 => h9) rfl dX3_readLine_170 ?_
                refine va_get (D := (dC, dI)) (ci := 0) (v := .ref a0_5_14) (C := RX0) (T := TX0) (N := 15) hx hb hts zi_X3_readLine_0 hown hK hP 1 rfl rfl 14 (by decide) (hts (.fieldLink RX3 133 "WaxTurns$Hall" "watchers" "LWaxTurns$Watchers;") (zm_X3_readLine_r1 (List.mem_of_getElem? (i := 4) rfl))) (fun _ h9 => h9) rfl dX3_readLine_173 ?_
                refine va_get (D := (dC, dI)) (ci := 6) (v := .int a0_5_14_0) (C := RX6) (T := TX6) (N := 4) hx hb hts zi_X3_readLine_6 hown hK hP 6 rfl rfl 0 (by decide) (hts (.fieldLink RX3 137 "WaxTurns$Watchers" "count" "I") (zm_X3_readLine_r1 (List.mem_of_getElem? (i := 5) rfl))) (fun _ h9 => h9) rfl dX3_readLine_176 ?_
                refine lv_iconst (v := 3) hx hb dX3_readLine_179 zk_iconst_3 ?_
                refine lv_icmp_lt (tgt := 191) hx hb dX3_readLine_180 (by decide) (fun c180 => ?_) (fun c180 => ?_)
                · have gc180 := ai_lt c180
                  have u180t_a0_5_14_0 : a0_5_14_0.toInt ≤ (2 : Int) := ai_lthi gc180 zq9
                  have hF0 := hF0.trans (if_pos (show a0_5_14_0.toInt < 3 from gc180))
                  refine lv_aload_n hx hb dX3_readLine_191 rfl (lv_at hl 0 rfl) ?_
                  refine zc_cutc (wc := [(a0, .inr (3, [a0g_0, .int a0_1, .int a0_2, .ref a0_3, .ref a0_4, .ref a0_5, .int a0_6, .int a0_7, .int a0_8, .int a0_9, .int a0_10, .long a0_11, .int a0_12, .int a0_13])), (a0_3, .inl (ka0_3, 900, .inl (fa0_3))), (a0_4, .inl (ka0_4, 12, .inr (.inl (fa0_4)))), (a0_5, .inr (0, [.int a0_5_0, .int a0_5_1, .int a0_5_2, .int a0_5_3, .int a0_5_4, .int a0_5_5, .int a0_5_6, .int a0_5_7, .int a0_5_8, .int a0_5_9, .ref a0_5_10, .ref a0_5_11, .ref a0_5_12, .ref a0_5_13, .ref a0_5_14])), (a0_5_14, .inr (6, [.int a0_5_14_0, a0_5_14g_1, .ref a0_5_14_2, .ref a0_5_14_3])), (a0_5_14_2, .inl (ka0_5_14_2, 3, .inl (fa0_5_14_2))), (a0_5_14_3, .inl (ka0_5_14_3, 3, .inl (fa0_5_14_3)))]) hP hD hS hA [0, 2, 3, 1, 6, 7, 8] (by decide +kernel) rfl (fun hPc hDc hFc hCc => ?_)
                  have hKc := hK.sub (tys' := [(ka0_3, .byte), (ka0_4, .long), (ka0_5_14_2, .int), (ka0_5_14_3, .int)]) [0, 1, 4, 5] rfl
                  refine va_calli (va_runV (As := []) (rest := []) ⟨hx, hb, hml, hown, hts⟩ (f_X3_readWatcher l dC dI H.size a0 a0g_0 a0_1 a0_2 a0_3 a0_4 a0_5 a0_6 a0_7 a0_8 a0_9 a0_10 a0_11 a0_12 a0_13 ka0_3 fa0_3 ka0_4 fa0_4 a0_5_0 (.int a0_5_1) (.int a0_5_2) (.int a0_5_3) (.int a0_5_4) (.int a0_5_5) (.int a0_5_6) (.int a0_5_7) (.int a0_5_8) (.int a0_5_9) (.ref a0_5_10) (.ref a0_5_11) (.ref a0_5_12) (.ref a0_5_13) a0_5_14 a0_5_14_0 a0_5_14g_1 a0_5_14_2 a0_5_14_3 ka0_5_14_2 fa0_5_14_2 ka0_5_14_3 fa0_5_14_3 ad ba0_6_l ba0_6_u ba0_7_l ba0_7_u ba0_8_l ba0_8_u ba0_9_l ba0_9_u (Int.le_trans zq4 l163k0_a0_10) (Int.le_trans u163k0_a0_10 zq135) (Int.le_trans zq4 l81t_a0_5_0) ba0_5_0_u ba0_5_14_0_l (Int.le_trans u180t_a0_5_14_0 zq130) bfa0_5_14_2 bfa0_5_14_3) (cwV 0 hts gX3_readLine_X3_readWatcher rfl rfl rfl zd_X3_readWatcher ⟨Nat.le_of_ble_eq_true rfl, Nat.le_of_ble_eq_true rfl⟩) ⟨ax_blind (fun _ _ _ _ hq => ⟨sxc_T_same _ _ _ _ (hq.1), va_Nw.same rfl rfl (hq.2)⟩), zr_3 hKc hPc (q0 := 0) rfl, ax_preE hPc hKc hDc (fun U hU hW => ⟨sxc_T_to hE0 hS.2.1 hFc hU hW, va_Nw.warmM hW hE1⟩)⟩ rfl rfl hl.1 rfl (lv_room (Nat.le_of_ble_eq_true rfl)) dX3_readLine_192 ⟨Nat.le_of_ble_eq_true rfl, Nat.le_of_ble_eq_true rfl⟩) hS (fun q _ h => hFc q h) hFc (fun r192 u t H locs ht hvm hw => zx_13 (fun v192na0_1 v192na0_2 v192na0_6 v192na0_8 v192na0_9 v192na0_10 v192na0_11 v192na0_12 v192na0_13 v192nfa0_4 v192na0_5_14_0 v192nfa0_5_14_2 v192nfa0_5_14_3 => zy_8 (fun bv192na0_6 bv192na0_8 bv192na0_9 bv192na0_10 bv192na0_5_14_0 bv192nfa0_5_14_2 bv192nfa0_5_14_3 hraw192_0 hB hz1 hk1 hS1 => zo hB ht hS1 (fun hP1 hK1 hD1 hS => ?_))))
                  refine zc_backc (w := [(a0, .inr (3, [a0g_0, .int v192na0_1, .int v192na0_2, .ref a0_3, .ref a0_4, .ref a0_5, .int v192na0_6, .int a0_7, .int v192na0_8, .int v192na0_9, .int v192na0_10, .long v192na0_11, .int v192na0_12, .int v192na0_13])), (a0_5, .inr (0, [.int a0_5_0, .int a0_5_1, .int a0_5_2, .int a0_5_3, .int a0_5_4, .int a0_5_5, .int a0_5_6, .int a0_5_7, .int a0_5_8, .int a0_5_9, .ref a0_5_10, .ref a0_5_11, .ref a0_5_12, .ref a0_5_13, .ref a0_5_14])), (a0_3, .inl (ka0_3, 900, .inl (fa0_3))), (a0_4, .inl (ka0_4, 12, .inr (.inl (v192nfa0_4)))), (a0_5_10, .inl (ka0_5_10, 9, .inl (fa0_5_10))), (a0_5_11, .inl (ka0_5_11, 9, .inl (fa0_5_11))), (a0_5_14, .inr (6, [.int v192na0_5_14_0, a0_5_14g_1, .ref a0_5_14_2, .ref a0_5_14_3])), (a0_5_14_2, .inl (ka0_5_14_2, 3, .inl (v192nfa0_5_14_2))), (a0_5_14_3, .inl (ka0_5_14_3, 3, .inl (v192nfa0_5_14_3))), (a0_5_13, .inl (ka0_5_13, 6, .inl (fa0_5_13))), (a0_5_12, .inl (ka0_5_12, 6, .inl (fa0_5_12)))]) hP hD hCc hk1 hFc hP1 hD1 [.inr 0, .inr 3, .inr 1, .inr 2, .inl 4, .inl 5, .inr 4, .inr 5, .inr 6, .inl 9, .inl 10] (by decide +kernel) rfl (fun hP hD => ?_)
                  obtain ⟨hw, hfr192⟩ := hw
                  have hc192 : Ff_X3_readWatcher a0_1.toInt a0_2.toInt a0_6.toInt a0_7.toInt a0_9.toInt a0_11.toInt a0_12.toInt a0_13.toInt (fl_A fa0_3) (fl_L fa0_4) a0_5_0.toInt a0_5_14_0.toInt (fl_A fa0_5_14_2) (fl_A fa0_5_14_3) = (r192.toInt, v192na0_1.toInt, v192na0_2.toInt, v192na0_6.toInt, v192na0_8.toInt, v192na0_9.toInt, v192na0_10.toInt, v192na0_11.toInt, v192na0_12.toInt, v192na0_13.toInt, (fl_L v192nfa0_4), v192na0_5_14_0.toInt, (fl_A v192nfa0_5_14_2), (fl_A v192nfa0_5_14_3)) := Prod.ext hfr192.symm hraw192_0
                  have hF0 := hF0.trans (fl_c14_eq hc192)
                  rcases hw with hw | hw
                  · subst hw
                    have hF0 := hF0.trans (if_pos (by decide))
                    have hFe : FX = (1, v192na0_1.toInt, v192na0_2.toInt, v192na0_6.toInt, v192na0_8.toInt, v192na0_9.toInt, v192na0_10.toInt, v192na0_11.toInt, v192na0_12.toInt, v192na0_13.toInt, a0_5_0.toInt, a0_5_1.toInt, a0_5_2.toInt, a0_5_3.toInt, a0_5_4.toInt, a0_5_5.toInt, a0_5_6.toInt, a0_5_7.toInt, a0_5_8.toInt, a0_5_9.toInt, (fl_L v192nfa0_4), (fl_A fa0_5_10), (fl_A fa0_5_11), v192na0_5_14_0.toInt, (fl_A v192nfa0_5_14_2), (fl_A v192nfa0_5_14_3), (fl_A fa0_5_13), (fl_A fa0_5_12)) := hF0
                    exact W.zret (v := 1) hx hb hr rfl (fun t ht hW => ⟨⟨1, (), rfl, ⟨(Or.inl (rfl)), (congrArg Prod.fst hFe).symm⟩, v192na0_1, v192na0_2, v192na0_6, v192na0_8, v192na0_9, v192na0_10, v192na0_11, v192na0_12, v192na0_13, a0_5_0, a0_5_1, a0_5_2, a0_5_3, a0_5_4, a0_5_5, a0_5_6, a0_5_7, a0_5_8, a0_5_9, v192nfa0_4, fa0_5_10, fa0_5_11, v192na0_5_14_0, v192nfa0_5_14_2, v192nfa0_5_14_3, fa0_5_13, fa0_5_12, ⟨bv192na0_6.1, bv192na0_6.2⟩, ⟨bv192na0_8.1, bv192na0_8.2⟩, ⟨bv192na0_9.1, bv192na0_9.2⟩, ⟨bv192na0_10.1, bv192na0_10.2⟩, ⟨Int.le_trans (by decide) l81t_a0_5_0, ba0_5_0_u⟩, ⟨ba0_5_4_l, ba0_5_4_u⟩, ⟨ba0_5_5_l, ba0_5_5_u⟩, ⟨ba0_5_6_l, ba0_5_6_u⟩, ⟨ba0_5_7_l, ba0_5_7_u⟩, ⟨ba0_5_9_l, ba0_5_9_u⟩, ⟨bv192na0_5_14_0.1, bv192na0_5_14_0.2⟩, bv192nfa0_5_14_2, bv192nfa0_5_14_3, bfa0_5_13, (congrArg Prod.snd hFe), by rw [ht]; exact hP, va_K.moved hW.alike hK, hD⟩, hS.F ht⟩) hS.2.2 dX3_readLine_195
                  · subst hw
                    have hF0 := hF0.trans (if_neg (by decide))
                    have hFe : FX = (0, v192na0_1.toInt, v192na0_2.toInt, v192na0_6.toInt, v192na0_8.toInt, v192na0_9.toInt, v192na0_10.toInt, v192na0_11.toInt, v192na0_12.toInt, v192na0_13.toInt, a0_5_0.toInt, a0_5_1.toInt, a0_5_2.toInt, a0_5_3.toInt, a0_5_4.toInt, a0_5_5.toInt, a0_5_6.toInt, a0_5_7.toInt, a0_5_8.toInt, a0_5_9.toInt, (fl_L v192nfa0_4), (fl_A fa0_5_10), (fl_A fa0_5_11), v192na0_5_14_0.toInt, (fl_A v192nfa0_5_14_2), (fl_A v192nfa0_5_14_3), (fl_A fa0_5_13), (fl_A fa0_5_12)) := hF0
                    exact W.zret (v := 0) hx hb hr rfl (fun t ht hW => ⟨⟨0, (), rfl, ⟨(Or.inr (rfl)), (congrArg Prod.fst hFe).symm⟩, v192na0_1, v192na0_2, v192na0_6, v192na0_8, v192na0_9, v192na0_10, v192na0_11, v192na0_12, v192na0_13, a0_5_0, a0_5_1, a0_5_2, a0_5_3, a0_5_4, a0_5_5, a0_5_6, a0_5_7, a0_5_8, a0_5_9, v192nfa0_4, fa0_5_10, fa0_5_11, v192na0_5_14_0, v192nfa0_5_14_2, v192nfa0_5_14_3, fa0_5_13, fa0_5_12, ⟨bv192na0_6.1, bv192na0_6.2⟩, ⟨bv192na0_8.1, bv192na0_8.2⟩, ⟨bv192na0_9.1, bv192na0_9.2⟩, ⟨bv192na0_10.1, bv192na0_10.2⟩, ⟨Int.le_trans (by decide) l81t_a0_5_0, ba0_5_0_u⟩, ⟨ba0_5_4_l, ba0_5_4_u⟩, ⟨ba0_5_5_l, ba0_5_5_u⟩, ⟨ba0_5_6_l, ba0_5_6_u⟩, ⟨ba0_5_7_l, ba0_5_7_u⟩, ⟨ba0_5_9_l, ba0_5_9_u⟩, ⟨bv192na0_5_14_0.1, bv192na0_5_14_0.2⟩, bv192nfa0_5_14_2, bv192nfa0_5_14_3, bfa0_5_13, (congrArg Prod.snd hFe), by rw [ht]; exact hP, va_K.moved hW.alike hK, hD⟩, hS.F ht⟩) hS.2.2 dX3_readLine_195
                · have gc180 := ai_nlt c180
                  have l180f_a0_5_14_0 : (3 : Int) ≤ a0_5_14_0.toInt := Int.le_trans zq8 gc180
                  have hF0 := hF0.trans (if_neg (show ¬ (a0_5_14_0.toInt < 3) from Int.not_lt.mpr gc180))
                  refine lv_aload_n hx hb dX3_readLine_183 rfl (lv_at hl 0 rfl) ?_
                  refine lv_iconst (v := 5) hx hb dX3_readLine_184 zk_iconst_5 ?_
                  refine va_calli (va_runV (As := [.int 5]) (rest := []) ⟨hx, hb, hml, hown, hts⟩ (f_X3_fails l dC dI H.size a0 5 a0g_0 (.ref a0_3) (.ref a0_4) (.ref a0_5) (.int a0_6) (.int a0_7) (.int a0_9) (.int a0_10) (.long a0_11) (.int a0_12) (.int a0_13) a0_1 a0_2 a0_8 ba0_8_l ba0_8_u) (cwV 1 hts gX3_readLine_X3_fails rfl rfl rfl zd_X3_fails ⟨Nat.le_of_ble_eq_true rfl, Nat.le_of_ble_eq_true rfl⟩) ⟨ax_blind (fun _ _ _ _ _ => trivial), zr_3 (zp_K hK) (zp_P1 hP) (q0 := 0) rfl, ax_pre (zp_P1 hP) (zp_K hK) (zp_D1 hD) (fun _ _ => trivial)⟩ rfl rfl hl.1 rfl (lv_room (Nat.le_of_ble_eq_true rfl)) dX3_readLine_185 ⟨Nat.le_of_ble_eq_true rfl, Nat.le_of_ble_eq_true rfl⟩) hS (fun q _ h => zp_F1 hD hS hA q h) (zp_F1 hD hS hA) (fun r185 u t H locs ht hvm hw => zx_2 (fun v185na0_1 v185na0_2 => zy_1 (fun hraw185_0 hB hz1 hk1 hS1 => zo1 hB ht hP hD hk1 (zp_F1 hD hS hA) hS1 (fun hP hK1 hD hS => ?_))))
                  obtain ⟨hw, hfr185⟩ := hw
                  rw [show (5 : Int32).toInt = 5 from by decide] at hfr185 hraw185_0
                  have hc185 : Ff_X3_fails 5 a0_8.toInt = (r185.toInt, v185na0_1.toInt, v185na0_2.toInt) := Prod.ext hfr185.symm hraw185_0
                  have hF0 := hF0.trans (fl_c3_eq hc185)
                  have hw : r185 = 0 := hw
                  have hw := hw.symm
                  subst hw
                  refine lv_goto (tgt := 195) hx hb dX3_readLine_188 (by decide) ?_
                  have hFe : FX = (0, v185na0_1.toInt, v185na0_2.toInt, a0_6.toInt, a0_8.toInt, a0_9.toInt, a0_10.toInt, a0_11.toInt, a0_12.toInt, a0_13.toInt, a0_5_0.toInt, a0_5_1.toInt, a0_5_2.toInt, a0_5_3.toInt, a0_5_4.toInt, a0_5_5.toInt, a0_5_6.toInt, a0_5_7.toInt, a0_5_8.toInt, a0_5_9.toInt, (fl_L fa0_4), (fl_A fa0_5_10), (fl_A fa0_5_11), a0_5_14_0.toInt, (fl_A fa0_5_14_2), (fl_A fa0_5_14_3), (fl_A fa0_5_13), (fl_A fa0_5_12)) := hF0
                  exact W.zret (v := 0) hx hb hr rfl (fun t ht hW => ⟨⟨0, (), rfl, ⟨(Or.inr (rfl)), (congrArg Prod.fst hFe).symm⟩, v185na0_1, v185na0_2, a0_6, a0_8, a0_9, a0_10, a0_11, a0_12, a0_13, a0_5_0, a0_5_1, a0_5_2, a0_5_3, a0_5_4, a0_5_5, a0_5_6, a0_5_7, a0_5_8, a0_5_9, fa0_4, fa0_5_10, fa0_5_11, a0_5_14_0, fa0_5_14_2, fa0_5_14_3, fa0_5_13, fa0_5_12, ⟨ba0_6_l, ba0_6_u⟩, ⟨ba0_8_l, ba0_8_u⟩, ⟨ba0_9_l, ba0_9_u⟩, ⟨Int.le_trans (by decide) l163k0_a0_10, Int.le_trans u163k0_a0_10 (by decide)⟩, ⟨Int.le_trans (by decide) l81t_a0_5_0, ba0_5_0_u⟩, ⟨ba0_5_4_l, ba0_5_4_u⟩, ⟨ba0_5_5_l, ba0_5_5_u⟩, ⟨ba0_5_6_l, ba0_5_6_u⟩, ⟨ba0_5_7_l, ba0_5_7_u⟩, ⟨ba0_5_9_l, ba0_5_9_u⟩, ⟨Int.le_trans (by decide) l180f_a0_5_14_0, ba0_5_14_0_u⟩, bfa0_5_14_2, bfa0_5_14_3, bfa0_5_13, (congrArg Prod.snd hFe), by rw [ht]; exact hP, va_K.moved hW.alike hK, hD⟩, hS.F ht⟩) hS.2.2 dX3_readLine_195
              · subst hw
                have hF0 := hF0.trans (if_neg (by decide))
                refine lv_if_eq (tgt := 196) hx hb dX3_readLine_166 (by decide) (fun _ => ?_) (fun c166 => absurd (by decide +kernel) c166)
                refine lv_aload_n hx hb dX3_readLine_196 rfl (lv_at hl 0 rfl) ?_
                refine va_get (D := (dC, dI)) (ci := 3) (v := .ref a0_5) (C := RX3) (T := TX3) (N := 14) hx hb hts zi_X3_readLine_3 hown hK hP 0 rfl rfl 5 (by decide) (hts (.fieldLink RX3 22 "WaxTurns$Reade\x72" "draft" "LWaxTurns$Hall;") (zm_X3_readLine_r1 (List.mem_of_getElem? (i := 0) rfl))) (fun _ h9 => h9) rfl dX3_readLine_197 ?_
                refine va_get (D := (dC, dI)) (ci := 0) (v := .int a0_5_9) (C := RX0) (T := TX0) (N := 15) hx hb hts zi_X3_readLine_0 hown hK hP 1 rfl rfl 9 (by decide) (hts (.fieldLink RX3 145 "WaxTurns$Hall" "seenCount" "I") (zm_X3_readLine_r1 (List.mem_of_getElem? (i := 6) rfl))) (fun _ h9 => h9) rfl dX3_readLine_200 ?_
                refine lv_bipush (v := 6) hx hb dX3_readLine_203 zk_bipush_6 ?_
                refine lv_icmp_lt (tgt := 216) hx hb dX3_readLine_205 (by decide) (fun c205 => ?_) (fun c205 => ?_)
                · have gc205 := ai_lt c205
                  have u205t_a0_5_9 : a0_5_9.toInt ≤ (5 : Int) := ai_lthi gc205 zq16
                  have hF0 := hF0.trans (if_pos (show a0_5_9.toInt < 6 from gc205))
                  refine lv_aload_n hx hb dX3_readLine_216 rfl (lv_at hl 0 rfl) ?_
                  refine zc_cutc (wc := [(a0, .inr (3, [a0g_0, .int a0_1, .int a0_2, .ref a0_3, .ref a0_4, .ref a0_5, .int a0_6, .int a0_7, .int a0_8, .int a0_9, .int a0_10, .long a0_11, .int a0_12, .int a0_13])), (a0_5, .inr (0, [.int a0_5_0, .int a0_5_1, .int a0_5_2, .int a0_5_3, .int a0_5_4, .int a0_5_5, .int a0_5_6, .int a0_5_7, .int a0_5_8, .int a0_5_9, .ref a0_5_10, .ref a0_5_11, .ref a0_5_12, .ref a0_5_13, .ref a0_5_14])), (a0_3, .inl (ka0_3, 900, .inl (fa0_3))), (a0_5_13, .inl (ka0_5_13, 6, .inl (fa0_5_13))), (a0_5_12, .inl (ka0_5_12, 6, .inl (fa0_5_12)))]) hP hD hS hA [0, 1, 2, 9, 10] (by decide +kernel) rfl (fun hPc hDc hFc hCc => ?_)
                  have hKc := hK.sub (tys' := [(ka0_3, .byte), (ka0_5_13, .int), (ka0_5_12, .int)]) [0, 6, 7] rfl
                  refine va_calli (va_runV (As := []) (rest := []) ⟨hx, hb, hml, hown, hts⟩ (f_X3_readSeen l dC dI H.size a0 a0g_0 (.ref a0_4) (.int a0_6) a0_1 a0_2 a0_3 a0_5 a0_7 a0_8 a0_9 a0_10 a0_11 a0_12 a0_13 a0_5_0 (.int a0_5_1) (.int a0_5_2) (.int a0_5_3) (.int a0_5_4) (.int a0_5_5) (.int a0_5_6) (.int a0_5_7) (.int a0_5_8) (.ref a0_5_10) (.ref a0_5_11) (.ref a0_5_14) a0_5_9 a0_5_12 a0_5_13 ka0_3 fa0_3 ka0_5_13 fa0_5_13 ka0_5_12 fa0_5_12 ad ba0_7_l ba0_7_u ba0_8_l ba0_8_u ba0_9_l ba0_9_u ba0_10_l ba0_10_u (Int.le_trans zq4 l81t_a0_5_0) ba0_5_0_u ba0_5_9_l (Int.le_trans u205t_a0_5_9 zq229) bfa0_5_13) (cwV 0 hts gX3_readLine_X3_readSeen rfl rfl rfl zd_X3_readSeen ⟨Nat.le_of_ble_eq_true rfl, Nat.le_of_ble_eq_true rfl⟩) ⟨ax_blind (fun _ _ _ _ hq => ⟨sxc_T_same _ _ _ _ (hq.1), va_Nw.same rfl rfl (hq.2)⟩), zr_3 hKc hPc (q0 := 0) rfl, ax_preE hPc hKc hDc (fun U hU hW => ⟨sxc_T_to hE0 hS.2.1 hFc hU hW, va_Nw.warmM hW hE1⟩)⟩ rfl rfl hl.1 rfl (lv_room (Nat.le_of_ble_eq_true rfl)) dX3_readLine_217 ⟨Nat.le_of_ble_eq_true rfl, Nat.le_of_ble_eq_true rfl⟩) hS (fun q _ h => hFc q h) hFc (fun r217 u t H locs ht hvm hw => zx_11 (fun v217na0_1 v217na0_2 v217na0_8 v217na0_9 v217na0_10 v217na0_11 v217na0_12 v217na0_13 v217na0_5_9 v217nfa0_5_13 v217nfa0_5_12 => zy_6 (fun bv217na0_8 bv217na0_9 bv217na0_10 bv217na0_5_9 bv217nfa0_5_13 hraw217_0 hB hz1 hk1 hS1 => zo hB ht hS1 (fun hP1 hK1 hD1 hS => ?_))))
                  refine zc_backc (w := [(a0, .inr (3, [a0g_0, .int v217na0_1, .int v217na0_2, .ref a0_3, .ref a0_4, .ref a0_5, .int a0_6, .int a0_7, .int v217na0_8, .int v217na0_9, .int v217na0_10, .long v217na0_11, .int v217na0_12, .int v217na0_13])), (a0_5, .inr (0, [.int a0_5_0, .int a0_5_1, .int a0_5_2, .int a0_5_3, .int a0_5_4, .int a0_5_5, .int a0_5_6, .int a0_5_7, .int a0_5_8, .int v217na0_5_9, .ref a0_5_10, .ref a0_5_11, .ref a0_5_12, .ref a0_5_13, .ref a0_5_14])), (a0_3, .inl (ka0_3, 900, .inl (fa0_3))), (a0_4, .inl (ka0_4, 12, .inr (.inl (fa0_4)))), (a0_5_10, .inl (ka0_5_10, 9, .inl (fa0_5_10))), (a0_5_11, .inl (ka0_5_11, 9, .inl (fa0_5_11))), (a0_5_14, .inr (6, [.int a0_5_14_0, a0_5_14g_1, .ref a0_5_14_2, .ref a0_5_14_3])), (a0_5_14_2, .inl (ka0_5_14_2, 3, .inl (fa0_5_14_2))), (a0_5_14_3, .inl (ka0_5_14_3, 3, .inl (fa0_5_14_3))), (a0_5_13, .inl (ka0_5_13, 6, .inl (v217nfa0_5_13))), (a0_5_12, .inl (ka0_5_12, 6, .inl (v217nfa0_5_12)))]) hP hD hCc hk1 hFc hP1 hD1 [.inr 0, .inr 1, .inr 2, .inl 3, .inl 4, .inl 5, .inl 6, .inl 7, .inl 8, .inr 3, .inr 4] (by decide +kernel) rfl (fun hP hD => ?_)
                  obtain ⟨hw, hfr217⟩ := hw
                  have hc217 : Ff_X3_readSeen a0_1.toInt a0_2.toInt a0_7.toInt a0_8.toInt a0_9.toInt a0_10.toInt a0_11.toInt a0_12.toInt a0_13.toInt a0_5_0.toInt a0_5_9.toInt (fl_A fa0_3) (fl_A fa0_5_13) (fl_A fa0_5_12) = (r217.toInt, v217na0_1.toInt, v217na0_2.toInt, v217na0_8.toInt, v217na0_9.toInt, v217na0_10.toInt, v217na0_11.toInt, v217na0_12.toInt, v217na0_13.toInt, v217na0_5_9.toInt, (fl_A v217nfa0_5_13), (fl_A v217nfa0_5_12)) := Prod.ext hfr217.symm hraw217_0
                  have hF0 := hF0.trans (fl_c12_eq hc217)
                  rcases hw with hw | hw
                  · subst hw
                    have hF0 := hF0.trans (if_pos (by decide))
                    have hFe : FX = (1, v217na0_1.toInt, v217na0_2.toInt, a0_6.toInt, v217na0_8.toInt, v217na0_9.toInt, v217na0_10.toInt, v217na0_11.toInt, v217na0_12.toInt, v217na0_13.toInt, a0_5_0.toInt, a0_5_1.toInt, a0_5_2.toInt, a0_5_3.toInt, a0_5_4.toInt, a0_5_5.toInt, a0_5_6.toInt, a0_5_7.toInt, a0_5_8.toInt, v217na0_5_9.toInt, (fl_L fa0_4), (fl_A fa0_5_10), (fl_A fa0_5_11), a0_5_14_0.toInt, (fl_A fa0_5_14_2), (fl_A fa0_5_14_3), (fl_A v217nfa0_5_13), (fl_A v217nfa0_5_12)) := hF0
                    exact W.zret (v := 1) hx hb hr rfl (fun t ht hW => ⟨⟨1, (), rfl, ⟨(Or.inl (rfl)), (congrArg Prod.fst hFe).symm⟩, v217na0_1, v217na0_2, a0_6, v217na0_8, v217na0_9, v217na0_10, v217na0_11, v217na0_12, v217na0_13, a0_5_0, a0_5_1, a0_5_2, a0_5_3, a0_5_4, a0_5_5, a0_5_6, a0_5_7, a0_5_8, v217na0_5_9, fa0_4, fa0_5_10, fa0_5_11, a0_5_14_0, fa0_5_14_2, fa0_5_14_3, v217nfa0_5_13, v217nfa0_5_12, ⟨ba0_6_l, ba0_6_u⟩, ⟨bv217na0_8.1, bv217na0_8.2⟩, ⟨bv217na0_9.1, bv217na0_9.2⟩, ⟨bv217na0_10.1, bv217na0_10.2⟩, ⟨Int.le_trans (by decide) l81t_a0_5_0, ba0_5_0_u⟩, ⟨ba0_5_4_l, ba0_5_4_u⟩, ⟨ba0_5_5_l, ba0_5_5_u⟩, ⟨ba0_5_6_l, ba0_5_6_u⟩, ⟨ba0_5_7_l, ba0_5_7_u⟩, ⟨bv217na0_5_9.1, bv217na0_5_9.2⟩, ⟨ba0_5_14_0_l, ba0_5_14_0_u⟩, bfa0_5_14_2, bfa0_5_14_3, bv217nfa0_5_13, (congrArg Prod.snd hFe), by rw [ht]; exact hP, va_K.moved hW.alike hK, hD⟩, hS.F ht⟩) hS.2.2 dX3_readLine_220
                  · subst hw
                    have hF0 := hF0.trans (if_neg (by decide))
                    have hFe : FX = (0, v217na0_1.toInt, v217na0_2.toInt, a0_6.toInt, v217na0_8.toInt, v217na0_9.toInt, v217na0_10.toInt, v217na0_11.toInt, v217na0_12.toInt, v217na0_13.toInt, a0_5_0.toInt, a0_5_1.toInt, a0_5_2.toInt, a0_5_3.toInt, a0_5_4.toInt, a0_5_5.toInt, a0_5_6.toInt, a0_5_7.toInt, a0_5_8.toInt, v217na0_5_9.toInt, (fl_L fa0_4), (fl_A fa0_5_10), (fl_A fa0_5_11), a0_5_14_0.toInt, (fl_A fa0_5_14_2), (fl_A fa0_5_14_3), (fl_A v217nfa0_5_13), (fl_A v217nfa0_5_12)) := hF0
                    exact W.zret (v := 0) hx hb hr rfl (fun t ht hW => ⟨⟨0, (), rfl, ⟨(Or.inr (rfl)), (congrArg Prod.fst hFe).symm⟩, v217na0_1, v217na0_2, a0_6, v217na0_8, v217na0_9, v217na0_10, v217na0_11, v217na0_12, v217na0_13, a0_5_0, a0_5_1, a0_5_2, a0_5_3, a0_5_4, a0_5_5, a0_5_6, a0_5_7, a0_5_8, v217na0_5_9, fa0_4, fa0_5_10, fa0_5_11, a0_5_14_0, fa0_5_14_2, fa0_5_14_3, v217nfa0_5_13, v217nfa0_5_12, ⟨ba0_6_l, ba0_6_u⟩, ⟨bv217na0_8.1, bv217na0_8.2⟩, ⟨bv217na0_9.1, bv217na0_9.2⟩, ⟨bv217na0_10.1, bv217na0_10.2⟩, ⟨Int.le_trans (by decide) l81t_a0_5_0, ba0_5_0_u⟩, ⟨ba0_5_4_l, ba0_5_4_u⟩, ⟨ba0_5_5_l, ba0_5_5_u⟩, ⟨ba0_5_6_l, ba0_5_6_u⟩, ⟨ba0_5_7_l, ba0_5_7_u⟩, ⟨bv217na0_5_9.1, bv217na0_5_9.2⟩, ⟨ba0_5_14_0_l, ba0_5_14_0_u⟩, bfa0_5_14_2, bfa0_5_14_3, bv217nfa0_5_13, (congrArg Prod.snd hFe), by rw [ht]; exact hP, va_K.moved hW.alike hK, hD⟩, hS.F ht⟩) hS.2.2 dX3_readLine_220
                · have gc205 := ai_nlt c205
                  have l205f_a0_5_9 : (6 : Int) ≤ a0_5_9.toInt := Int.le_trans zq15 gc205
                  have hF0 := hF0.trans (if_neg (show ¬ (a0_5_9.toInt < 6) from Int.not_lt.mpr gc205))
                  refine lv_aload_n hx hb dX3_readLine_208 rfl (lv_at hl 0 rfl) ?_
                  refine lv_iconst (v := 5) hx hb dX3_readLine_209 zk_iconst_5 ?_
                  refine va_calli (va_runV (As := [.int 5]) (rest := []) ⟨hx, hb, hml, hown, hts⟩ (f_X3_fails l dC dI H.size a0 5 a0g_0 (.ref a0_3) (.ref a0_4) (.ref a0_5) (.int a0_6) (.int a0_7) (.int a0_9) (.int a0_10) (.long a0_11) (.int a0_12) (.int a0_13) a0_1 a0_2 a0_8 ba0_8_l ba0_8_u) (cwV 1 hts gX3_readLine_X3_fails rfl rfl rfl zd_X3_fails ⟨Nat.le_of_ble_eq_true rfl, Nat.le_of_ble_eq_true rfl⟩) ⟨ax_blind (fun _ _ _ _ _ => trivial), zr_3 (zp_K hK) (zp_P1 hP) (q0 := 0) rfl, ax_pre (zp_P1 hP) (zp_K hK) (zp_D1 hD) (fun _ _ => trivial)⟩ rfl rfl hl.1 rfl (lv_room (Nat.le_of_ble_eq_true rfl)) dX3_readLine_210 ⟨Nat.le_of_ble_eq_true rfl, Nat.le_of_ble_eq_true rfl⟩) hS (fun q _ h => zp_F1 hD hS hA q h) (zp_F1 hD hS hA) (fun r210 u t H locs ht hvm hw => zx_2 (fun v210na0_1 v210na0_2 => zy_1 (fun hraw210_0 hB hz1 hk1 hS1 => zo1 hB ht hP hD hk1 (zp_F1 hD hS hA) hS1 (fun hP hK1 hD hS => ?_))))
                  obtain ⟨hw, hfr210⟩ := hw
                  rw [show (5 : Int32).toInt = 5 from by decide] at hfr210 hraw210_0
                  have hc210 : Ff_X3_fails 5 a0_8.toInt = (r210.toInt, v210na0_1.toInt, v210na0_2.toInt) := Prod.ext hfr210.symm hraw210_0
                  have hF0 := hF0.trans (fl_c3_eq hc210)
                  have hw : r210 = 0 := hw
                  have hw := hw.symm
                  subst hw
                  refine lv_goto (tgt := 220) hx hb dX3_readLine_213 (by decide) ?_
                  have hFe : FX = (0, v210na0_1.toInt, v210na0_2.toInt, a0_6.toInt, a0_8.toInt, a0_9.toInt, a0_10.toInt, a0_11.toInt, a0_12.toInt, a0_13.toInt, a0_5_0.toInt, a0_5_1.toInt, a0_5_2.toInt, a0_5_3.toInt, a0_5_4.toInt, a0_5_5.toInt, a0_5_6.toInt, a0_5_7.toInt, a0_5_8.toInt, a0_5_9.toInt, (fl_L fa0_4), (fl_A fa0_5_10), (fl_A fa0_5_11), a0_5_14_0.toInt, (fl_A fa0_5_14_2), (fl_A fa0_5_14_3), (fl_A fa0_5_13), (fl_A fa0_5_12)) := hF0
                  exact W.zret (v := 0) hx hb hr rfl (fun t ht hW => ⟨⟨0, (), rfl, ⟨(Or.inr (rfl)), (congrArg Prod.fst hFe).symm⟩, v210na0_1, v210na0_2, a0_6, a0_8, a0_9, a0_10, a0_11, a0_12, a0_13, a0_5_0, a0_5_1, a0_5_2, a0_5_3, a0_5_4, a0_5_5, a0_5_6, a0_5_7, a0_5_8, a0_5_9, fa0_4, fa0_5_10, fa0_5_11, a0_5_14_0, fa0_5_14_2, fa0_5_14_3, fa0_5_13, fa0_5_12, ⟨ba0_6_l, ba0_6_u⟩, ⟨ba0_8_l, ba0_8_u⟩, ⟨ba0_9_l, ba0_9_u⟩, ⟨ba0_10_l, ba0_10_u⟩, ⟨Int.le_trans (by decide) l81t_a0_5_0, ba0_5_0_u⟩, ⟨ba0_5_4_l, ba0_5_4_u⟩, ⟨ba0_5_5_l, ba0_5_5_u⟩, ⟨ba0_5_6_l, ba0_5_6_u⟩, ⟨ba0_5_7_l, ba0_5_7_u⟩, ⟨Int.le_trans (by decide) l205f_a0_5_9, ba0_5_9_u⟩, ⟨ba0_5_14_0_l, ba0_5_14_0_u⟩, bfa0_5_14_2, bfa0_5_14_3, bfa0_5_13, (congrArg Prod.snd hFe), by rw [ht]; exact hP, va_K.moved hW.alike hK, hD⟩, hS.F ht⟩) hS.2.2 dX3_readLine_220
        · have gc81 := ai_eq c81
          have u81f_a0_5_0 : a0_5_0.toInt ≤ (0 : Int) := Int.le_trans (Int.le_of_eq gc81) zq6
          have l81f_a0_5_0 : (0 : Int) ≤ a0_5_0.toInt := ba0_5_0_l
          have hF0 := hF0.trans (if_pos (show a0_5_0.toInt = 0 from gc81))
          refine lv_aload_n hx hb dX3_readLine_84 rfl (lv_at hl 0 rfl) ?_
          refine lv_bipush (v := 6) hx hb dX3_readLine_85 zk_bipush_6 ?_
          refine va_calli (va_runV (As := [.int 6]) (rest := []) ⟨hx, hb, hml, hown, hts⟩ (f_X3_fails l dC dI H.size a0 6 a0g_0 (.ref a0_3) (.ref a0_4) (.ref a0_5) (.int a0_6) (.int a0_7) (.int a0_9) (.int a0_10) (.long a0_11) (.int a0_12) (.int a0_13) a0_1 a0_2 a0_8 ba0_8_l ba0_8_u) (cwV 1 hts gX3_readLine_X3_fails rfl rfl rfl zd_X3_fails ⟨Nat.le_of_ble_eq_true rfl, Nat.le_of_ble_eq_true rfl⟩) ⟨ax_blind (fun _ _ _ _ _ => trivial), zr_3 (zp_K hK) (zp_P1 hP) (q0 := 0) rfl, ax_pre (zp_P1 hP) (zp_K hK) (zp_D1 hD) (fun _ _ => trivial)⟩ rfl rfl hl.1 rfl (lv_room (Nat.le_of_ble_eq_true rfl)) dX3_readLine_87 ⟨Nat.le_of_ble_eq_true rfl, Nat.le_of_ble_eq_true rfl⟩) hS (fun q _ h => zp_F1 hD hS hA q h) (zp_F1 hD hS hA) (fun r87 u t H locs ht hvm hw => zx_2 (fun v87na0_1 v87na0_2 => zy_1 (fun hraw87_0 hB hz1 hk1 hS1 => zo1 hB ht hP hD hk1 (zp_F1 hD hS hA) hS1 (fun hP hK1 hD hS => ?_))))
          obtain ⟨hw, hfr87⟩ := hw
          rw [show (6 : Int32).toInt = 6 from by decide] at hfr87 hraw87_0
          have hc87 : Ff_X3_fails 6 a0_8.toInt = (r87.toInt, v87na0_1.toInt, v87na0_2.toInt) := Prod.ext hfr87.symm hraw87_0
          have hF0 := hF0.trans (fl_c3_eq hc87)
          have hw : r87 = 0 := hw
          have hw := hw.symm
          subst hw
          have hFe : FX = (0, v87na0_1.toInt, v87na0_2.toInt, a0_6.toInt, a0_8.toInt, a0_9.toInt, a0_10.toInt, a0_11.toInt, a0_12.toInt, a0_13.toInt, a0_5_0.toInt, a0_5_1.toInt, a0_5_2.toInt, a0_5_3.toInt, a0_5_4.toInt, a0_5_5.toInt, a0_5_6.toInt, a0_5_7.toInt, a0_5_8.toInt, a0_5_9.toInt, (fl_L fa0_4), (fl_A fa0_5_10), (fl_A fa0_5_11), a0_5_14_0.toInt, (fl_A fa0_5_14_2), (fl_A fa0_5_14_3), (fl_A fa0_5_13), (fl_A fa0_5_12)) := hF0
          exact W.zret (v := 0) hx hb hr rfl (fun t ht hW => ⟨⟨0, (), rfl, ⟨(Or.inr (rfl)), (congrArg Prod.fst hFe).symm⟩, v87na0_1, v87na0_2, a0_6, a0_8, a0_9, a0_10, a0_11, a0_12, a0_13, a0_5_0, a0_5_1, a0_5_2, a0_5_3, a0_5_4, a0_5_5, a0_5_6, a0_5_7, a0_5_8, a0_5_9, fa0_4, fa0_5_10, fa0_5_11, a0_5_14_0, fa0_5_14_2, fa0_5_14_3, fa0_5_13, fa0_5_12, ⟨ba0_6_l, ba0_6_u⟩, ⟨ba0_8_l, ba0_8_u⟩, ⟨ba0_9_l, ba0_9_u⟩, ⟨ba0_10_l, ba0_10_u⟩, ⟨l81f_a0_5_0, Int.le_trans u81f_a0_5_0 (by decide)⟩, ⟨ba0_5_4_l, ba0_5_4_u⟩, ⟨ba0_5_5_l, ba0_5_5_u⟩, ⟨ba0_5_6_l, ba0_5_6_u⟩, ⟨ba0_5_7_l, ba0_5_7_u⟩, ⟨ba0_5_9_l, ba0_5_9_u⟩, ⟨ba0_5_14_0_l, ba0_5_14_0_u⟩, bfa0_5_14_2, bfa0_5_14_3, bfa0_5_13, (congrArg Prod.snd hFe), by rw [ht]; exact hP, va_K.moved hW.alike hK, hD⟩, hS.F ht⟩) hS.2.2 dX3_readLine_90
      refine lv_aload_n hx hb dX3_readLine_41 rfl (lv_at hl 0 rfl) ?_
      refine va_ldcS hx hb hown (sxc_R2 hE0) dX3_readLine_42 ?_
      refine va_calli (va_runV (As := [.ref (ad 2)]) (rest := []) ⟨hx, hb, hml, hown, hts⟩ (f_X3_isWord l dC dI H.size a0 (ad 2) a0g_0 (.int a0_1) (.int a0_2) (.ref a0_3) (.ref a0_4) (.ref a0_5) (.int a0_6) (.int a0_7) (.int a0_8) (.int a0_9) (.int a0_12) (.int a0_13) a0_10 a0_11 6 (sxc 2) ba0_10_l ba0_10_u) (cwV 1 hts gX3_readLine_X3_isWord rfl rfl rfl zd_X3_isWord ⟨Nat.le_of_ble_eq_true rfl, Nat.le_of_ble_eq_true rfl⟩) ⟨ax_blind (fun _ _ _ _ hq => sxc_W_same _ _ _ _ (hq)), zr_3 (zp_K hK) (zp_P1 hP) (q0 := 0) rfl, ax_preE (zp_P1 hP) (zp_K hK) (zp_D1 hD) (fun U hU hW => sxc_W_to (sxc_T_w hE0 (i := 2) (by decide)) hS.2.1 (zp_F1 hD hS hA) hU hW)⟩ rfl rfl hl.1 rfl (lv_room (Nat.le_of_ble_eq_true rfl)) dX3_readLine_44 ⟨Nat.le_of_ble_eq_true rfl, Nat.le_of_ble_eq_true rfl⟩) hS (fun q _ h => zp_F1 hD hS hA q h) (zp_F1 hD hS hA) (fun r44 u t H locs ht hvm hw hB hz1 hk1 hS1 => zo1 hB ht hP hD hk1 (zp_F1 hD hS hA) hS1 (fun hP hK1 hD hS => ?_))
      obtain ⟨hw, hfr44⟩ := hw
      rw [show ((6 : Nat) : Int) = 6 from rfl] at hfr44
      have hc44 : Ff_X3_isWord a0_10.toInt a0_11.toInt 6 (fl_A (sxc 2)) = r44.toInt := hfr44.symm
      have hF0 := hF0.trans (fl_lt_eq hc44.symm)
      rcases hw with hw | hw
      · obtain ⟨hw, h44_0, h44_1⟩ := hw
        subst hw
        have l44k0_a0_10 : (1 : Int) ≤ a0_10.toInt := h44_0
        have u44k0_a0_10 : a0_10.toInt ≤ (1 : Int) := h44_1
        have hF0 := hF0.trans (if_pos (by decide))
        refine lv_if_ne (tgt := 74) hx hb dX3_readLine_47 (by decide) (fun _ => ?_) (fun c47 => absurd c47 (by decide +kernel))
        exact (hK0 _ _ _).mp (J74  _ _ _   hF0 hP hD hS (lv_sub hl [0] rfl))
      · subst hw
        have hF0 := hF0.trans (if_neg (by decide))
        refine lv_if_ne (tgt := 74) hx hb dX3_readLine_47 (by decide) (fun c47 => absurd (by decide +kernel) c47) (fun _ => ?_)
        refine lv_aload_n hx hb dX3_readLine_50 rfl (lv_at hl 0 rfl) ?_
        refine va_ldcS hx hb hown (sxc_R3 hE0) dX3_readLine_51 ?_
        refine va_calli (va_runV (As := [.ref (ad 3)]) (rest := []) ⟨hx, hb, hml, hown, hts⟩ (f_X3_isWord l dC dI H.size a0 (ad 3) a0g_0 (.int a0_1) (.int a0_2) (.ref a0_3) (.ref a0_4) (.ref a0_5) (.int a0_6) (.int a0_7) (.int a0_8) (.int a0_9) (.int a0_12) (.int a0_13) a0_10 a0_11 7 (sxc 3) ba0_10_l ba0_10_u) (cwV 1 hts gX3_readLine_X3_isWord rfl rfl rfl zd_X3_isWord ⟨Nat.le_of_ble_eq_true rfl, Nat.le_of_ble_eq_true rfl⟩) ⟨ax_blind (fun _ _ _ _ hq => sxc_W_same _ _ _ _ (hq)), zr_3 (zp_K hK) (zp_P1 hP) (q0 := 0) rfl, ax_preE (zp_P1 hP) (zp_K hK) (zp_D1 hD) (fun U hU hW => sxc_W_to (sxc_T_w hE0 (i := 3) (by decide)) hS.2.1 (zp_F1 hD hS hA) hU hW)⟩ rfl rfl hl.1 rfl (lv_room (Nat.le_of_ble_eq_true rfl)) dX3_readLine_53 ⟨Nat.le_of_ble_eq_true rfl, Nat.le_of_ble_eq_true rfl⟩) hS (fun q _ h => zp_F1 hD hS hA q h) (zp_F1 hD hS hA) (fun r53 u t H locs ht hvm hw hB hz1 hk1 hS1 => zo1 hB ht hP hD hk1 (zp_F1 hD hS hA) hS1 (fun hP hK1 hD hS => ?_))
        obtain ⟨hw, hfr53⟩ := hw
        rw [show ((7 : Nat) : Int) = 7 from rfl] at hfr53
        have hc53 : Ff_X3_isWord a0_10.toInt a0_11.toInt 7 (fl_A (sxc 3)) = r53.toInt := hfr53.symm
        have hF0 := hF0.trans (fl_lt_eq hc53.symm)
        rcases hw with hw | hw
        · obtain ⟨hw, h53_0, h53_1⟩ := hw
          subst hw
          have l53k0_a0_10 : (1 : Int) ≤ a0_10.toInt := h53_0
          have u53k0_a0_10 : a0_10.toInt ≤ (1 : Int) := h53_1
          have hF0 := hF0.trans (if_pos (by decide))
          refine lv_if_ne (tgt := 74) hx hb dX3_readLine_56 (by decide) (fun _ => ?_) (fun c56 => absurd c56 (by decide +kernel))
          exact (hK0 _ _ _).mp (J74  _ _ _   hF0 hP hD hS (lv_sub hl [0] rfl))
        · subst hw
          have hF0 := hF0.trans (if_neg (by decide))
          refine lv_if_ne (tgt := 74) hx hb dX3_readLine_56 (by decide) (fun c56 => absurd (by decide +kernel) c56) (fun _ => ?_)
          refine lv_aload_n hx hb dX3_readLine_59 rfl (lv_at hl 0 rfl) ?_
          refine va_ldcS hx hb hown (sxc_R4 hE0) dX3_readLine_60 ?_
          refine va_calli (va_runV (As := [.ref (ad 4)]) (rest := []) ⟨hx, hb, hml, hown, hts⟩ (f_X3_isWord l dC dI H.size a0 (ad 4) a0g_0 (.int a0_1) (.int a0_2) (.ref a0_3) (.ref a0_4) (.ref a0_5) (.int a0_6) (.int a0_7) (.int a0_8) (.int a0_9) (.int a0_12) (.int a0_13) a0_10 a0_11 4 (sxc 4) ba0_10_l ba0_10_u) (cwV 1 hts gX3_readLine_X3_isWord rfl rfl rfl zd_X3_isWord ⟨Nat.le_of_ble_eq_true rfl, Nat.le_of_ble_eq_true rfl⟩) ⟨ax_blind (fun _ _ _ _ hq => sxc_W_same _ _ _ _ (hq)), zr_3 (zp_K hK) (zp_P1 hP) (q0 := 0) rfl, ax_preE (zp_P1 hP) (zp_K hK) (zp_D1 hD) (fun U hU hW => sxc_W_to (sxc_T_w hE0 (i := 4) (by decide)) hS.2.1 (zp_F1 hD hS hA) hU hW)⟩ rfl rfl hl.1 rfl (lv_room (Nat.le_of_ble_eq_true rfl)) dX3_readLine_62 ⟨Nat.le_of_ble_eq_true rfl, Nat.le_of_ble_eq_true rfl⟩) hS (fun q _ h => zp_F1 hD hS hA q h) (zp_F1 hD hS hA) (fun r62 u t H locs ht hvm hw hB hz1 hk1 hS1 => zo1 hB ht hP hD hk1 (zp_F1 hD hS hA) hS1 (fun hP hK1 hD hS => ?_))
          obtain ⟨hw, hfr62⟩ := hw
          rw [show ((4 : Nat) : Int) = 4 from rfl] at hfr62
          have hc62 : Ff_X3_isWord a0_10.toInt a0_11.toInt 4 (fl_A (sxc 4)) = r62.toInt := hfr62.symm
          have hF0 := hF0.trans (fl_lt_eq hc62.symm)
          rcases hw with hw | hw
          · obtain ⟨hw, h62_0, h62_1⟩ := hw
            subst hw
            have l62k0_a0_10 : (1 : Int) ≤ a0_10.toInt := h62_0
            have u62k0_a0_10 : a0_10.toInt ≤ (1 : Int) := h62_1
            have hF0 := hF0.trans (if_pos (by decide))
            refine lv_if_ne (tgt := 74) hx hb dX3_readLine_65 (by decide) (fun _ => ?_) (fun c65 => absurd c65 (by decide +kernel))
            exact (hK0 _ _ _).mp (J74  _ _ _   hF0 hP hD hS (lv_sub hl [0] rfl))
          · subst hw
            have hF0 := hF0.trans (if_neg (by decide))
            refine lv_if_ne (tgt := 74) hx hb dX3_readLine_65 (by decide) (fun c65 => absurd (by decide +kernel) c65) (fun _ => ?_)
            refine lv_aload_n hx hb dX3_readLine_68 rfl (lv_at hl 0 rfl) ?_
            refine lv_iconst (v := 1) hx hb dX3_readLine_69 zk_iconst_1 ?_
            refine va_calli (va_runV (As := [.int 1]) (rest := []) ⟨hx, hb, hml, hown, hts⟩ (f_X3_fails l dC dI H.size a0 1 a0g_0 (.ref a0_3) (.ref a0_4) (.ref a0_5) (.int a0_6) (.int a0_7) (.int a0_9) (.int a0_10) (.long a0_11) (.int a0_12) (.int a0_13) a0_1 a0_2 a0_8 ba0_8_l ba0_8_u) (cwV 1 hts gX3_readLine_X3_fails rfl rfl rfl zd_X3_fails ⟨Nat.le_of_ble_eq_true rfl, Nat.le_of_ble_eq_true rfl⟩) ⟨ax_blind (fun _ _ _ _ _ => trivial), zr_3 (zp_K hK) (zp_P1 hP) (q0 := 0) rfl, ax_pre (zp_P1 hP) (zp_K hK) (zp_D1 hD) (fun _ _ => trivial)⟩ rfl rfl hl.1 rfl (lv_room (Nat.le_of_ble_eq_true rfl)) dX3_readLine_70 ⟨Nat.le_of_ble_eq_true rfl, Nat.le_of_ble_eq_true rfl⟩) hS (fun q _ h => zp_F1 hD hS hA q h) (zp_F1 hD hS hA) (fun r70 u t H locs ht hvm hw => zx_2 (fun v70na0_1 v70na0_2 => zy_1 (fun hraw70_0 hB hz1 hk1 hS1 => zo1 hB ht hP hD hk1 (zp_F1 hD hS hA) hS1 (fun hP hK1 hD hS => ?_))))
            obtain ⟨hw, hfr70⟩ := hw
            rw [show (1 : Int32).toInt = 1 from by decide] at hfr70 hraw70_0
            have hc70 : Ff_X3_fails 1 a0_8.toInt = (r70.toInt, v70na0_1.toInt, v70na0_2.toInt) := Prod.ext hfr70.symm hraw70_0
            have hF0 := hF0.trans (fl_c3_eq hc70)
            have hw : r70 = 0 := hw
            have hw := hw.symm
            subst hw
            have hFe : FX = (0, v70na0_1.toInt, v70na0_2.toInt, a0_6.toInt, a0_8.toInt, a0_9.toInt, a0_10.toInt, a0_11.toInt, a0_12.toInt, a0_13.toInt, a0_5_0.toInt, a0_5_1.toInt, a0_5_2.toInt, a0_5_3.toInt, a0_5_4.toInt, a0_5_5.toInt, a0_5_6.toInt, a0_5_7.toInt, a0_5_8.toInt, a0_5_9.toInt, (fl_L fa0_4), (fl_A fa0_5_10), (fl_A fa0_5_11), a0_5_14_0.toInt, (fl_A fa0_5_14_2), (fl_A fa0_5_14_3), (fl_A fa0_5_13), (fl_A fa0_5_12)) := hF0
            exact W.zret (v := 0) hx hb hr rfl (fun t ht hW => ⟨⟨0, (), rfl, ⟨(Or.inr (rfl)), (congrArg Prod.fst hFe).symm⟩, v70na0_1, v70na0_2, a0_6, a0_8, a0_9, a0_10, a0_11, a0_12, a0_13, a0_5_0, a0_5_1, a0_5_2, a0_5_3, a0_5_4, a0_5_5, a0_5_6, a0_5_7, a0_5_8, a0_5_9, fa0_4, fa0_5_10, fa0_5_11, a0_5_14_0, fa0_5_14_2, fa0_5_14_3, fa0_5_13, fa0_5_12, ⟨ba0_6_l, ba0_6_u⟩, ⟨ba0_8_l, ba0_8_u⟩, ⟨ba0_9_l, ba0_9_u⟩, ⟨ba0_10_l, ba0_10_u⟩, ⟨ba0_5_0_l, ba0_5_0_u⟩, ⟨ba0_5_4_l, ba0_5_4_u⟩, ⟨ba0_5_5_l, ba0_5_5_u⟩, ⟨ba0_5_6_l, ba0_5_6_u⟩, ⟨ba0_5_7_l, ba0_5_7_u⟩, ⟨ba0_5_9_l, ba0_5_9_u⟩, ⟨ba0_5_14_0_l, ba0_5_14_0_u⟩, bfa0_5_14_2, bfa0_5_14_3, bfa0_5_13, (congrArg Prod.snd hFe), by rw [ht]; exact hP, va_K.moved hW.alike hK, hD⟩, hS.F ht⟩) hS.2.2 dX3_readLine_73
end P311_03_f
