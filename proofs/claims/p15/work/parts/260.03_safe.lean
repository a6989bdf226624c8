section P260_03_safe
set_option maxHeartbeats 4000000 in
set_option maxRecDepth 100000 in
theorem c_X8_rests (l : Launch) (dC : Nat → ClassId) (dI : Nat → Nat → Nat) (sz : Nat) (a0 : Nat) (a1 : Int32) (a0_0 : Int32) (a0g_1 a0g_2 a0g_3 a0g_4 a0g_5 a0g_6 a0g_7 a0g_8 a0g_9 a0g_10 a0g_12 a0g_13 a0g_15 a0g_16 a0g_17 a0g_18 a0g_19 a0g_20 a0g_21 a0g_22 a0g_23 a0g_24 a0g_25 a0g_26 a0g_27 a0g_28 a0g_29 a0g_30 a0g_31 a0g_32 a0g_33 a0g_34 a0g_35 a0g_36 a0g_38 a0g_39 : Value) (a0_11 : Int32) (a0_14 : Int32) (a0_37 : Int32) (ba0_14_l : (1 : Int) ≤ a0_14.toInt) (ba0_14_u : a0_14.toInt ≤ (1 : Int)) : zm l yX8_rests wsX8_rests ({ frames := 2, cells := 0, slots := 0, locals := 47 }) [.ref a0, .int a1] dC dI sz [(a0, .inr (8, [Value.int a0_0, a0g_1, a0g_2, a0g_3, a0g_4, a0g_5, a0g_6, a0g_7, a0g_8, a0g_9, a0g_10, Value.int a0_11, a0g_12, a0g_13, Value.int a0_14, a0g_15, a0g_16, a0g_17, a0g_18, a0g_19, a0g_20, a0g_21, a0g_22, a0g_23, a0g_24, a0g_25, a0g_26, a0g_27, a0g_28, a0g_29, a0g_30, a0g_31, a0g_32, a0g_33, a0g_34, a0g_35, a0g_36, Value.int a0_37, a0g_38, a0g_39]))] [] (fun A _ => True) (fun A => va_Qi (fun (r : Int32) (_ : Unit) => True) (fun (_ : Unit) (t : State) => ∃ na0_0 : Int32, ∃ na0_11 : Int32, ∃ na0_37 : Int32, ax_B dC dI A [(a0, .inr (8, [Value.int na0_0, a0g_1, a0g_2, a0g_3, a0g_4, a0g_5, a0g_6, a0g_7, a0g_8, a0g_9, a0g_10, Value.int na0_11, a0g_12, a0g_13, Value.int a0_14, a0g_15, a0g_16, a0g_17, a0g_18, a0g_19, a0g_20, a0g_21, a0g_22, a0g_23, a0g_24, a0g_25, a0g_26, a0g_27, a0g_28, a0g_29, a0g_30, a0g_31, a0g_32, a0g_33, a0g_34, a0g_35, a0g_36, Value.int na0_37, a0g_38, a0g_39]))] [] t) A) := by
  refine zh (cc := cX8_rests) (maxL := 3) (ret := (some .int)) zn_RX8 rfl (Nat.le_of_ble_eq_true rfl) (fun p e s m below meth c A ls hx hb hml hr hts (hown : s.vm.findClass RX8 = some m.cls) hlocks hA hS hP hK hD hE (hl : lv_has ls 3 [(0, .ref a0), (1, .int a1)]) => ?_)
  refine lv_aload_n hx hb dX8_rests_0 rfl (lv_at hl 0 rfl) ?_
  refine va_callv (va_runV (As := []) (rest := []) ⟨hx, hb, hml, hown, hts⟩ (c_X8_good l dC dI s.heap.size a0 a0_0 a0g_1 a0g_2 a0g_3 a0g_4 a0g_5 a0g_6 a0g_7 a0g_8 a0g_9 a0g_10 a0g_12 a0g_13 (Value.int a0_14) a0g_15 a0g_16 a0g_17 a0g_18 a0g_19 a0g_20 a0g_21 a0g_22 a0g_23 a0g_24 a0g_25 a0g_26 a0g_27 a0g_28 a0g_29 a0g_30 a0g_31 a0g_32 a0g_33 a0g_34 a0g_35 a0g_36 (Value.int a0_37) a0g_38 a0g_39 a0_11 ) (cwV 0 hts gX8_rests_X8_good rfl rfl rfl zd_X8_good ⟨Nat.le_of_ble_eq_true rfl, Nat.le_of_ble_eq_true rfl⟩) ⟨ax_blind (fun _ _ _ _ _ => trivial), zr_8 (zp_K hK) (zp_P1 hP) (q0 := 0) rfl, ax_pre (zp_P1 hP) (zp_K hK) (zp_D1 hD) (fun _ _ => trivial)⟩ rfl rfl hl.1 rfl (lv_room (Nat.le_of_ble_eq_true rfl)) dX8_rests_1 ⟨Nat.le_of_ble_eq_true rfl, Nat.le_of_ble_eq_true rfl⟩) hS (fun q _ h => zp_F1 hD hS hA q h) (zp_F1 hD hS hA) (fun u t H locs ht hvm hw => zx_2 (fun v1na0_0 v1na0_11 hB hz1 hk1 hS1 => zo1 hB ht hP hD hk1 (zp_F1 hD hS hA) hS1 (fun hP hK1 hD hS => ?_)))
  refine lv_aload_n hx hb dX8_rests_4 rfl (lv_at hl 0 rfl) ?_
  refine lv_aload_n hx hb dX8_rests_5 rfl (lv_at hl 0 rfl) ?_
  refine va_get (D := (dC, dI)) (ci := 8) (v := .int a0_14) (C := RX8) (T := TX8) (N := 40) hx hb hts zi_X8_rests_8 hown hK hP 0 rfl rfl 14 (by decide) (hts (.fieldLink RX8 173 "WaxTurnsModel" "hasGallery" "Z") (zm_X8_rests_r1 (List.mem_of_getElem? (i := 0) rfl))) (fun _ h9 => h9) rfl dX8_rests_6 ?_
  refine lv_iload_n hx hb dX8_rests_9 rfl (lv_at hl 1 rfl) ?_
  refine lv_iconst (v := 0) hx hb dX8_rests_10 zk_iconst_0 ?_
  refine lv_bipush (v := 9) hx hb dX8_rests_11 zk_bipush_9 ?_
  refine va_calli (va_runS (As := [.int a1, .int 0, .int 9]) (rest := [.int a0_14, .ref a0]) ⟨hx, hb, hml, hown, hts⟩ (c_X8_in l dC dI H.size a1 0 9 ) (va_cwS 3 hts gX8_rests_X8_in rfl rfl rfl zd_X8_in.2 ⟨Nat.le_of_ble_eq_true rfl, Nat.le_of_ble_eq_true rfl⟩) ⟨ax_blind (fun _ _ _ _ _ => trivial), ax_pre (zp_P0 hP) (zp_K hK) (zp_D0 hD) (fun _ _ => trivial)⟩ rfl rfl hl.1 rfl (lv_room (Nat.le_of_ble_eq_true rfl)) dX8_rests_13 ⟨Nat.le_of_ble_eq_true rfl, Nat.le_of_ble_eq_true rfl⟩) hS (fun q _ h => zp_F0 hD hS hA q h) (zp_F0 hD hS hA) (fun r13 u t H locs ht hvm hw hB hz1 hk1 hS1 => zo0 hB ht hP hD hk1 (zp_F0 hD hS hA) hS1 (fun hP hK1 hD hS => ?_))
  rcases hw with hw | hw
  · obtain ⟨hw, h13⟩ := hw
    subst hw
    have l13k0_a1 : (0 : Int) ≤ a1.toInt := Int.le_trans zq5 h13.1
    have u13k0_a1 : a1.toInt ≤ (9 : Int) := Int.le_trans h13.2 zq3
    refine va_calli (va_runV (As := [.int a0_14, .int 1]) (rest := []) ⟨hx, hb, hml, hown, hts⟩ (c_X8_whyB l dC dI H.size a0 a0_14 1 (Value.int v1na0_0) a0g_1 a0g_2 a0g_3 a0g_4 a0g_5 a0g_6 a0g_7 a0g_8 a0g_9 a0g_10 (Value.int v1na0_11) a0g_12 a0g_13 (Value.int a0_14) a0g_15 a0g_16 a0g_17 a0g_18 a0g_19 a0g_20 a0g_21 a0g_22 a0g_23 a0g_24 a0g_25 a0g_26 a0g_27 a0g_28 a0g_29 a0g_30 a0g_31 a0g_32 a0g_33 a0g_34 a0g_35 a0g_36 (Value.int a0_37) a0g_38 a0g_39 (Int.le_trans zq4 ba0_14_l) ba0_14_u (Int.le_trans zq4 zq1) zq0) (cwV 2 hts gX8_rests_X8_why rfl rfl rfl zd_X8_why ⟨Nat.le_of_ble_eq_true rfl, Nat.le_of_ble_eq_true rfl⟩) ⟨ax_blind (fun _ _ _ _ _ => trivial), zr_8 (zp_K hK) (zp_P1 hP) (q0 := 0) rfl, ax_pre (zp_P1 hP) (zp_K hK) (zp_D1 hD) (fun _ _ => trivial)⟩ rfl rfl hl.1 rfl (lv_room (Nat.le_of_ble_eq_true rfl)) dX8_rests_16 ⟨Nat.le_of_ble_eq_true rfl, Nat.le_of_ble_eq_true rfl⟩) hS (fun q _ h => zp_F1 hD hS hA q h) (zp_F1 hD hS hA) (fun r16 u t H locs ht hvm hw hB hz1 hk1 hS1 => zo1 hB ht hP hD hk1 (zp_F1 hD hS hA) hS1 (fun hP hK1 hD hS => ?_))
    rcases hw with hw | hw | hw
    · obtain ⟨hw, h16_0, h16_1, h16_2, h16_3⟩ := hw
      subst hw
      have l16k0_a0_14 : (1 : Int) ≤ a0_14.toInt := ba0_14_l
      have u16k0_a0_14 : a0_14.toInt ≤ (1 : Int) := ba0_14_u
      exact absurd h16_3 (by decide)
    · obtain ⟨hw, h16_0, h16_1⟩ := hw
      subst hw
      have l16k1_a0_14 : (1 : Int) ≤ a0_14.toInt := ba0_14_l
      have u16k1_a0_14 : a0_14.toInt ≤ (0 : Int) := h16_1
      exact absurd (Int.le_trans l16k1_a0_14 u16k1_a0_14) (by decide)
    · obtain ⟨hw, h16_0, h16_1, h16_2, h16_3⟩ := hw
      subst hw
      have l16k2_a0_14 : (1 : Int) ≤ a0_14.toInt := ba0_14_l
      have u16k2_a0_14 : a0_14.toInt ≤ (1 : Int) := ba0_14_u
      refine lv_istore_n (lv' := [(2, .int 0), (0, .ref a0), (1, .int a1)]) hx hb dX8_rests_19 rfl hl (by decide) rfl (fun ls hl => ?_)
      refine lv_iload_n hx hb dX8_rests_20 rfl (lv_at hl 0 rfl) ?_
      refine lv_if_eq (tgt := 32) hx hb dX8_rests_21 (by decide) (fun _ => ?_) (fun c21 => absurd (by decide +kernel) c21)
      refine lv_aload_n hx hb dX8_rests_32 rfl (lv_at hl 1 rfl) ?_
      refine lv_iload_n hx hb dX8_rests_33 rfl (lv_at hl 2 rfl) ?_
      refine va_calli (va_runV (As := [.int a1]) (rest := []) ⟨hx, hb, hml, hown, hts⟩ (c_X8_seekRests l dC dI H.size a0 a1 (Value.int v1na0_0) a0g_1 a0g_2 a0g_3 a0g_4 a0g_5 a0g_6 a0g_7 a0g_8 a0g_9 a0g_10 (Value.int v1na0_11) a0g_12 a0g_13 (Value.int a0_14) a0g_15 a0g_16 a0g_17 a0g_18 a0g_19 a0g_20 a0g_21 a0g_22 a0g_23 a0g_24 a0g_25 a0g_26 a0g_27 a0g_28 a0g_29 a0g_30 a0g_31 a0g_32 a0g_33 a0g_34 a0g_35 a0g_36 a0g_38 a0g_39 a0_37 ) (cwV 1 hts gX8_rests_X8_seekRests rfl rfl rfl zd_X8_seekRests ⟨Nat.le_of_ble_eq_true rfl, Nat.le_of_ble_eq_true rfl⟩) ⟨ax_blind (fun _ _ _ _ _ => trivial), zr_8 (zp_K hK) (zp_P1 hP) (q0 := 0) rfl, ax_pre (zp_P1 hP) (zp_K hK) (zp_D1 hD) (fun _ _ => trivial)⟩ rfl rfl hl.1 rfl (lv_room (Nat.le_of_ble_eq_true rfl)) dX8_rests_34 ⟨Nat.le_of_ble_eq_true rfl, Nat.le_of_ble_eq_true rfl⟩) hS (fun q _ h => zp_F1 hD hS hA q h) (zp_F1 hD hS hA) (fun r34 u t H locs ht hvm hw => zx_1 (fun v34na0_37 hB hz1 hk1 hS1 => zo1 hB ht hP hD hk1 (zp_F1 hD hS hA) hS1 (fun hP hK1 hD hS => ?_)))
      exact W.iret (v := r34) hx hb hr (fun t ht hW => ⟨⟨r34, (), rfl, trivial, v1na0_0, v1na0_11, v34na0_37, by rw [ht]; exact hP, va_K.moved hW.alike hK, hD⟩, hS.F ht⟩) hS.2.2 dX8_rests_37
  · obtain ⟨hw, h13⟩ := hw
    subst hw
    refine va_calli (va_runV (As := [.int a0_14, .int 0]) (rest := []) ⟨hx, hb, hml, hown, hts⟩ (c_X8_whyB l dC dI H.size a0 a0_14 0 (Value.int v1na0_0) a0g_1 a0g_2 a0g_3 a0g_4 a0g_5 a0g_6 a0g_7 a0g_8 a0g_9 a0g_10 (Value.int v1na0_11) a0g_12 a0g_13 (Value.int a0_14) a0g_15 a0g_16 a0g_17 a0g_18 a0g_19 a0g_20 a0g_21 a0g_22 a0g_23 a0g_24 a0g_25 a0g_26 a0g_27 a0g_28 a0g_29 a0g_30 a0g_31 a0g_32 a0g_33 a0g_34 a0g_35 a0g_36 (Value.int a0_37) a0g_38 a0g_39 (Int.le_trans zq4 ba0_14_l) ba0_14_u zq5 (Int.le_trans zq6 zq4)) (cwV 2 hts gX8_rests_X8_why rfl rfl rfl zd_X8_why ⟨Nat.le_of_ble_eq_true rfl, Nat.le_of_ble_eq_true rfl⟩) ⟨ax_blind (fun _ _ _ _ _ => trivial), zr_8 (zp_K hK) (zp_P1 hP) (q0 := 0) rfl, ax_pre (zp_P1 hP) (zp_K hK) (zp_D1 hD) (fun _ _ => trivial)⟩ rfl rfl hl.1 rfl (lv_room (Nat.le_of_ble_eq_true rfl)) dX8_rests_16 ⟨Nat.le_of_ble_eq_true rfl, Nat.le_of_ble_eq_true rfl⟩) hS (fun q _ h => zp_F1 hD hS hA q h) (zp_F1 hD hS hA) (fun r16 u t H locs ht hvm hw hB hz1 hk1 hS1 => zo1 hB ht hP hD hk1 (zp_F1 hD hS hA) hS1 (fun hP hK1 hD hS => ?_))
    rcases hw with hw | hw | hw
    · obtain ⟨hw, h16_0, h16_1, h16_2, h16_3⟩ := hw
      subst hw
      have l16k0_a0_14 : (1 : Int) ≤ a0_14.toInt := ba0_14_l
      have u16k0_a0_14 : a0_14.toInt ≤ (1 : Int) := ba0_14_u
      refine lv_istore_n (lv' := [(2, .int 2), (0, .ref a0), (1, .int a1)]) hx hb dX8_rests_19 rfl hl (by decide) rfl (fun ls hl => ?_)
      refine lv_iload_n hx hb dX8_rests_20 rfl (lv_at hl 0 rfl) ?_
      refine lv_if_eq (tgt := 32) hx hb dX8_rests_21 (by decide) (fun c21 => absurd c21 (by decide +kernel)) (fun _ => ?_)
      refine lv_aload_n hx hb dX8_rests_24 rfl (lv_at hl 1 rfl) ?_
      refine lv_iload_n hx hb dX8_rests_25 rfl (lv_at hl 0 rfl) ?_
      refine va_calli (va_runV (As := [.int 2]) (rest := []) ⟨hx, hb, hml, hown, hts⟩ (c_X8_no l dC dI H.size a0 2 (Value.int v1na0_0) a0g_1 a0g_2 a0g_3 a0g_4 a0g_5 a0g_6 a0g_7 a0g_8 a0g_9 a0g_10 a0g_12 a0g_13 (Value.int a0_14) a0g_15 a0g_16 a0g_17 a0g_18 a0g_19 a0g_20 a0g_21 a0g_22 a0g_23 a0g_24 a0g_25 a0g_26 a0g_27 a0g_28 a0g_29 a0g_30 a0g_31 a0g_32 a0g_33 a0g_34 a0g_35 a0g_36 (Value.int a0_37) a0g_38 a0g_39 v1na0_11 ) (cwV 1 hts gX8_rests_X8_no rfl rfl rfl zd_X8_no ⟨Nat.le_of_ble_eq_true rfl, Nat.le_of_ble_eq_true rfl⟩) ⟨ax_blind (fun _ _ _ _ _ => trivial), zr_8 (zp_K hK) (zp_P1 hP) (q0 := 0) rfl, ax_pre (zp_P1 hP) (zp_K hK) (zp_D1 hD) (fun _ _ => trivial)⟩ rfl rfl hl.1 rfl (lv_room (Nat.le_of_ble_eq_true rfl)) dX8_rests_26 ⟨Nat.le_of_ble_eq_true rfl, Nat.le_of_ble_eq_true rfl⟩) hS (fun q _ h => zp_F1 hD hS hA q h) (zp_F1 hD hS hA) (fun r26 u t H locs ht hvm hw => zx_1 (fun v26na0_11 hB hz1 hk1 hS1 => zo1 hB ht hP hD hk1 (zp_F1 hD hS hA) hS1 (fun hP hK1 hD hS => ?_)))
      have hw : r26 = (-1) := hw
      have hw := hw.symm
      subst hw
      refine lv_goto (tgt := 37) hx hb dX8_rests_29 (by decide) ?_
      exact W.iret (v := (-1)) hx hb hr (fun t ht hW => ⟨⟨(-1), (), rfl, trivial, v1na0_0, v26na0_11, a0_37, by rw [ht]; exact hP, va_K.moved hW.alike hK, hD⟩, hS.F ht⟩) hS.2.2 dX8_rests_37
    · obtain ⟨hw, h16_0, h16_1⟩ := hw
      subst hw
      have l16k1_a0_14 : (1 : Int) ≤ a0_14.toInt := ba0_14_l
      have u16k1_a0_14 : a0_14.toInt ≤ (0 : Int) := h16_1
      exact absurd (Int.le_trans l16k1_a0_14 u16k1_a0_14) (by decide)
    · obtain ⟨hw, h16_0, h16_1, h16_2, h16_3⟩ := hw
      subst hw
      have l16k2_a0_14 : (1 : Int) ≤ a0_14.toInt := ba0_14_l
      have u16k2_a0_14 : a0_14.toInt ≤ (1 : Int) := ba0_14_u
      exact absurd h16_2 (by decide)

set_option maxHeartbeats 4000000 in
set_option maxRecDepth 100000 in
theorem c_X8_rest (l : Launch) (dC : Nat → ClassId) (dI : Nat → Nat → Nat) (sz : Nat) (a0 : Nat) (a1 : Int32) (a0_0 : Int32) (a0g_1 a0g_2 a0g_3 a0g_4 a0g_5 a0g_6 a0g_7 a0g_8 a0g_9 a0g_10 a0g_12 a0g_13 a0g_15 a0g_16 a0g_17 a0g_18 a0g_19 a0g_20 a0g_21 a0g_22 a0g_23 a0g_24 a0g_25 a0g_26 a0g_27 a0g_28 a0g_29 a0g_30 a0g_31 a0g_32 a0g_33 a0g_34 a0g_35 a0g_36 a0g_38 a0g_39 : Value) (a0_11 : Int32) (a0_14 : Int32) (a0_37 : Int32) (ba0_14_l : (1 : Int) ≤ a0_14.toInt) (ba0_14_u : a0_14.toInt ≤ (1 : Int)) : zm l yX8_rest wsX8_rest ({ frames := 2, cells := 0, slots := 0, locals := 47 }) [.ref a0, .int a1] dC dI sz [(a0, .inr (8, [Value.int a0_0, a0g_1, a0g_2, a0g_3, a0g_4, a0g_5, a0g_6, a0g_7, a0g_8, a0g_9, a0g_10, Value.int a0_11, a0g_12, a0g_13, Value.int a0_14, a0g_15, a0g_16, a0g_17, a0g_18, a0g_19, a0g_20, a0g_21, a0g_22, a0g_23, a0g_24, a0g_25, a0g_26, a0g_27, a0g_28, a0g_29, a0g_30, a0g_31, a0g_32, a0g_33, a0g_34, a0g_35, a0g_36, Value.int a0_37, a0g_38, a0g_39]))] [] (fun A _ => True) (fun A => va_Qi (fun (r : Int32) (_ : Unit) => True) (fun (_ : Unit) (t : State) => ∃ na0_0 : Int32, ∃ na0_11 : Int32, ∃ na0_37 : Int32, ax_B dC dI A [(a0, .inr (8, [Value.int na0_0, a0g_1, a0g_2, a0g_3, a0g_4, a0g_5, a0g_6, a0g_7, a0g_8, a0g_9, a0g_10, Value.int na0_11, a0g_12, a0g_13, Value.int a0_14, a0g_15, a0g_16, a0g_17, a0g_18, a0g_19, a0g_20, a0g_21, a0g_22, a0g_23, a0g_24, a0g_25, a0g_26, a0g_27, a0g_28, a0g_29, a0g_30, a0g_31, a0g_32, a0g_33, a0g_34, a0g_35, a0g_36, Value.int na0_37, a0g_38, a0g_39]))] [] t) A) := by
  refine zh (cc := cX8_rest) (maxL := 3) (ret := (some .int)) zn_RX8 rfl (Nat.le_of_ble_eq_true rfl) (fun p e s m below meth c A ls hx hb hml hr hts (hown : s.vm.findClass RX8 = some m.cls) hlocks hA hS hP hK hD hE (hl : lv_has ls 3 [(0, .ref a0), (1, .int a1)]) => ?_)
  refine lv_aload_n hx hb dX8_rest_0 rfl (lv_at hl 0 rfl) ?_
  refine va_callv (va_runV (As := []) (rest := []) ⟨hx, hb, hml, hown, hts⟩ (c_X8_good l dC dI s.heap.size a0 a0_0 a0g_1 a0g_2 a0g_3 a0g_4 a0g_5 a0g_6 a0g_7 a0g_8 a0g_9 a0g_10 a0g_12 a0g_13 (Value.int a0_14) a0g_15 a0g_16 a0g_17 a0g_18 a0g_19 a0g_20 a0g_21 a0g_22 a0g_23 a0g_24 a0g_25 a0g_26 a0g_27 a0g_28 a0g_29 a0g_30 a0g_31 a0g_32 a0g_33 a0g_34 a0g_35 a0g_36 (Value.int a0_37) a0g_38 a0g_39 a0_11 ) (cwV 0 hts gX8_rest_X8_good rfl rfl rfl zd_X8_good ⟨Nat.le_of_ble_eq_true rfl, Nat.le_of_ble_eq_true rfl⟩) ⟨ax_blind (fun _ _ _ _ _ => trivial), zr_8 (zp_K hK) (zp_P1 hP) (q0 := 0) rfl, ax_pre (zp_P1 hP) (zp_K hK) (zp_D1 hD) (fun _ _ => trivial)⟩ rfl rfl hl.1 rfl (lv_room (Nat.le_of_ble_eq_true rfl)) dX8_rest_1 ⟨Nat.le_of_ble_eq_true rfl, Nat.le_of_ble_eq_true rfl⟩) hS (fun q _ h => zp_F1 hD hS hA q h) (zp_F1 hD hS hA) (fun u t H locs ht hvm hw => zx_2 (fun v1na0_0 v1na0_11 hB hz1 hk1 hS1 => zo1 hB ht hP hD hk1 (zp_F1 hD hS hA) hS1 (fun hP hK1 hD hS => ?_)))
  refine lv_aload_n hx hb dX8_rest_4 rfl (lv_at hl 0 rfl) ?_
  refine lv_aload_n hx hb dX8_rest_5 rfl (lv_at hl 0 rfl) ?_
  refine va_get (D := (dC, dI)) (ci := 8) (v := .int a0_14) (C := RX8) (T := TX8) (N := 40) hx hb hts zi_X8_rest_8 hown hK hP 0 rfl rfl 14 (by decide) (hts (.fieldLink RX8 173 "WaxTurnsModel" "hasGallery" "Z") (zm_X8_rest_r1 (List.mem_of_getElem? (i := 0) rfl))) (fun _ h9 => h9) rfl dX8_rest_6 ?_
  refine lv_iload_n hx hb dX8_rest_9 rfl (lv_at hl 1 rfl) ?_
  refine lv_iconst (v := 0) hx hb dX8_rest_10 zk_iconst_0 ?_
  refine lv_bipush (v := 9) hx hb dX8_rest_11 zk_bipush_9 ?_
  refine va_calli (va_runS (As := [.int a1, .int 0, .int 9]) (rest := [.int a0_14, .ref a0]) ⟨hx, hb, hml, hown, hts⟩ (c_X8_in l dC dI H.size a1 0 9 ) (va_cwS 3 hts gX8_rest_X8_in rfl rfl rfl zd_X8_in.2 ⟨Nat.le_of_ble_eq_true rfl, Nat.le_of_ble_eq_true rfl⟩) ⟨ax_blind (fun _ _ _ _ _ => trivial), ax_pre (zp_P0 hP) (zp_K hK) (zp_D0 hD) (fun _ _ => trivial)⟩ rfl rfl hl.1 rfl (lv_room (Nat.le_of_ble_eq_true rfl)) dX8_rest_13 ⟨Nat.le_of_ble_eq_true rfl, Nat.le_of_ble_eq_true rfl⟩) hS (fun q _ h => zp_F0 hD hS hA q h) (zp_F0 hD hS hA) (fun r13 u t H locs ht hvm hw hB hz1 hk1 hS1 => zo0 hB ht hP hD hk1 (zp_F0 hD hS hA) hS1 (fun hP hK1 hD hS => ?_))
  rcases hw with hw | hw
  · obtain ⟨hw, h13⟩ := hw
    subst hw
    have l13k0_a1 : (0 : Int) ≤ a1.toInt := Int.le_trans zq5 h13.1
    have u13k0_a1 : a1.toInt ≤ (9 : Int) := Int.le_trans h13.2 zq3
    refine va_calli (va_runV (As := [.int a0_14, .int 1]) (rest := []) ⟨hx, hb, hml, hown, hts⟩ (c_X8_whyB l dC dI H.size a0 a0_14 1 (Value.int v1na0_0) a0g_1 a0g_2 a0g_3 a0g_4 a0g_5 a0g_6 a0g_7 a0g_8 a0g_9 a0g_10 (Value.int v1na0_11) a0g_12 a0g_13 (Value.int a0_14) a0g_15 a0g_16 a0g_17 a0g_18 a0g_19 a0g_20 a0g_21 a0g_22 a0g_23 a0g_24 a0g_25 a0g_26 a0g_27 a0g_28 a0g_29 a0g_30 a0g_31 a0g_32 a0g_33 a0g_34 a0g_35 a0g_36 (Value.int a0_37) a0g_38 a0g_39 (Int.le_trans zq4 ba0_14_l) ba0_14_u (Int.le_trans zq4 zq1) zq0) (cwV 2 hts gX8_rest_X8_why rfl rfl rfl zd_X8_why ⟨Nat.le_of_ble_eq_true rfl, Nat.le_of_ble_eq_true rfl⟩) ⟨ax_blind (fun _ _ _ _ _ => trivial), zr_8 (zp_K hK) (zp_P1 hP) (q0 := 0) rfl, ax_pre (zp_P1 hP) (zp_K hK) (zp_D1 hD) (fun _ _ => trivial)⟩ rfl rfl hl.1 rfl (lv_room (Nat.le_of_ble_eq_true rfl)) dX8_rest_16 ⟨Nat.le_of_ble_eq_true rfl, Nat.le_of_ble_eq_true rfl⟩) hS (fun q _ h => zp_F1 hD hS hA q h) (zp_F1 hD hS hA) (fun r16 u t H locs ht hvm hw hB hz1 hk1 hS1 => zo1 hB ht hP hD hk1 (zp_F1 hD hS hA) hS1 (fun hP hK1 hD hS => ?_))
    rcases hw with hw | hw | hw
    · obtain ⟨hw, h16_0, h16_1, h16_2, h16_3⟩ := hw
      subst hw
      have l16k0_a0_14 : (1 : Int) ≤ a0_14.toInt := ba0_14_l
      have u16k0_a0_14 : a0_14.toInt ≤ (1 : Int) := ba0_14_u
      exact absurd h16_3 (by decide)
    · obtain ⟨hw, h16_0, h16_1⟩ := hw
      subst hw
      have l16k1_a0_14 : (1 : Int) ≤ a0_14.toInt := ba0_14_l
      have u16k1_a0_14 : a0_14.toInt ≤ (0 : Int) := h16_1
      exact absurd (Int.le_trans l16k1_a0_14 u16k1_a0_14) (by decide)
    · obtain ⟨hw, h16_0, h16_1, h16_2, h16_3⟩ := hw
      subst hw
      have l16k2_a0_14 : (1 : Int) ≤ a0_14.toInt := ba0_14_l
      have u16k2_a0_14 : a0_14.toInt ≤ (1 : Int) := ba0_14_u
      refine lv_istore_n (lv' := [(2, .int 0), (0, .ref a0), (1, .int a1)]) hx hb dX8_rest_19 rfl hl (by decide) rfl (fun ls hl => ?_)
      refine lv_iload_n hx hb dX8_rest_20 rfl (lv_at hl 0 rfl) ?_
      refine lv_if_eq (tgt := 30) hx hb dX8_rest_21 (by decide) (fun _ => ?_) (fun c21 => absurd (by decide +kernel) c21)
      refine lv_aload_n hx hb dX8_rest_30 rfl (lv_at hl 1 rfl) ?_
      refine lv_iload_n hx hb dX8_rest_31 rfl (lv_at hl 2 rfl) ?_
      refine va_calli (va_runV (As := [.int a1]) (rest := []) ⟨hx, hb, hml, hown, hts⟩ (c_X8_seekRests l dC dI H.size a0 a1 (Value.int v1na0_0) a0g_1 a0g_2 a0g_3 a0g_4 a0g_5 a0g_6 a0g_7 a0g_8 a0g_9 a0g_10 (Value.int v1na0_11) a0g_12 a0g_13 (Value.int a0_14) a0g_15 a0g_16 a0g_17 a0g_18 a0g_19 a0g_20 a0g_21 a0g_22 a0g_23 a0g_24 a0g_25 a0g_26 a0g_27 a0g_28 a0g_29 a0g_30 a0g_31 a0g_32 a0g_33 a0g_34 a0g_35 a0g_36 a0g_38 a0g_39 a0_37 ) (cwV 1 hts gX8_rest_X8_seekRests rfl rfl rfl zd_X8_seekRests ⟨Nat.le_of_ble_eq_true rfl, Nat.le_of_ble_eq_true rfl⟩) ⟨ax_blind (fun _ _ _ _ _ => trivial), zr_8 (zp_K hK) (zp_P1 hP) (q0 := 0) rfl, ax_pre (zp_P1 hP) (zp_K hK) (zp_D1 hD) (fun _ _ => trivial)⟩ rfl rfl hl.1 rfl (lv_room (Nat.le_of_ble_eq_true rfl)) dX8_rest_32 ⟨Nat.le_of_ble_eq_true rfl, Nat.le_of_ble_eq_true rfl⟩) hS (fun q _ h => zp_F1 hD hS hA q h) (zp_F1 hD hS hA) (fun r32 u t H locs ht hvm hw => zx_1 (fun v32na0_37 hB hz1 hk1 hS1 => zo1 hB ht hP hD hk1 (zp_F1 hD hS hA) hS1 (fun hP hK1 hD hS => ?_)))
      refine lv_pop hx hb dX8_rest_35 rfl ?_
      refine lv_aload_n hx hb dX8_rest_36 rfl (lv_at hl 1 rfl) ?_
      refine va_get (D := (dC, dI)) (ci := 8) (v := .int v32na0_37) (C := RX8) (T := TX8) (N := 40) hx hb hts zi_X8_rest_8 hown hK hP 0 rfl rfl 37 (by decide) (hts (.fieldLink RX8 359 "WaxTurnsModel" "firstRest" "I") (zm_X8_rest_r1 (List.mem_of_getElem? (i := 1) rfl))) (fun _ h9 => h9) rfl dX8_rest_37 ?_
      exact W.iret (v := v32na0_37) hx hb hr (fun t ht hW => ⟨⟨v32na0_37, (), rfl, trivial, v1na0_0, v1na0_11, v32na0_37, by rw [ht]; exact hP, va_K.moved hW.alike hK, hD⟩, hS.F ht⟩) hS.2.2 dX8_rest_40
  · obtain ⟨hw, h13⟩ := hw
    subst hw
    refine va_calli (va_runV (As := [.int a0_14, .int 0]) (rest := []) ⟨hx, hb, hml, hown, hts⟩ (c_X8_whyB l dC dI H.size a0 a0_14 0 (Value.int v1na0_0) a0g_1 a0g_2 a0g_3 a0g_4 a0g_5 a0g_6 a0g_7 a0g_8 a0g_9 a0g_10 (Value.int v1na0_11) a0g_12 a0g_13 (Value.int a0_14) a0g_15 a0g_16 a0g_17 a0g_18 a0g_19 a0g_20 a0g_21 a0g_22 a0g_23 a0g_24 a0g_25 a0g_26 a0g_27 a0g_28 a0g_29 a0g_30 a0g_31 a0g_32 a0g_33 a0g_34 a0g_35 a0g_36 (Value.int a0_37) a0g_38 a0g_39 (Int.le_trans zq4 ba0_14_l) ba0_14_u zq5 (Int.le_trans zq6 zq4)) (cwV 2 hts gX8_rest_X8_why rfl rfl rfl zd_X8_why ⟨Nat.le_of_ble_eq_true rfl, Nat.le_of_ble_eq_true rfl⟩) ⟨ax_blind (fun _ _ _ _ _ => trivial), zr_8 (zp_K hK) (zp_P1 hP) (q0 := 0) rfl, ax_pre (zp_P1 hP) (zp_K hK) (zp_D1 hD) (fun _ _ => trivial)⟩ rfl rfl hl.1 rfl (lv_room (Nat.le_of_ble_eq_true rfl)) dX8_rest_16 ⟨Nat.le_of_ble_eq_true rfl, Nat.le_of_ble_eq_true rfl⟩) hS (fun q _ h => zp_F1 hD hS hA q h) (zp_F1 hD hS hA) (fun r16 u t H locs ht hvm hw hB hz1 hk1 hS1 => zo1 hB ht hP hD hk1 (zp_F1 hD hS hA) hS1 (fun hP hK1 hD hS => ?_))
    rcases hw with hw | hw | hw
    · obtain ⟨hw, h16_0, h16_1, h16_2, h16_3⟩ := hw
      subst hw
      have l16k0_a0_14 : (1 : Int) ≤ a0_14.toInt := ba0_14_l
      have u16k0_a0_14 : a0_14.toInt ≤ (1 : Int) := ba0_14_u
      refine lv_istore_n (lv' := [(2, .int 2), (0, .ref a0), (1, .int a1)]) hx hb dX8_rest_19 rfl hl (by decide) rfl (fun ls hl => ?_)
      refine lv_iload_n hx hb dX8_rest_20 rfl (lv_at hl 0 rfl) ?_
      refine lv_if_eq (tgt := 30) hx hb dX8_rest_21 (by decide) (fun c21 => absurd c21 (by decide +kernel)) (fun _ => ?_)
      refine lv_aload_n hx hb dX8_rest_24 rfl (lv_at hl 1 rfl) ?_
      refine lv_iload_n hx hb dX8_rest_25 rfl (lv_at hl 0 rfl) ?_
      refine va_calli (va_runV (As := [.int 2]) (rest := []) ⟨hx, hb, hml, hown, hts⟩ (c_X8_no l dC dI H.size a0 2 (Value.int v1na0_0) a0g_1 a0g_2 a0g_3 a0g_4 a0g_5 a0g_6 a0g_7 a0g_8 a0g_9 a0g_10 a0g_12 a0g_13 (Value.int a0_14) a0g_15 a0g_16 a0g_17 a0g_18 a0g_19 a0g_20 a0g_21 a0g_22 a0g_23 a0g_24 a0g_25 a0g_26 a0g_27 a0g_28 a0g_29 a0g_30 a0g_31 a0g_32 a0g_33 a0g_34 a0g_35 a0g_36 (Value.int a0_37) a0g_38 a0g_39 v1na0_11 ) (cwV 1 hts gX8_rest_X8_no rfl rfl rfl zd_X8_no ⟨Nat.le_of_ble_eq_true rfl, Nat.le_of_ble_eq_true rfl⟩) ⟨ax_blind (fun _ _ _ _ _ => trivial), zr_8 (zp_K hK) (zp_P1 hP) (q0 := 0) rfl, ax_pre (zp_P1 hP) (zp_K hK) (zp_D1 hD) (fun _ _ => trivial)⟩ rfl rfl hl.1 rfl (lv_room (Nat.le_of_ble_eq_true rfl)) dX8_rest_26 ⟨Nat.le_of_ble_eq_true rfl, Nat.le_of_ble_eq_true rfl⟩) hS (fun q _ h => zp_F1 hD hS hA q h) (zp_F1 hD hS hA) (fun r26 u t H locs ht hvm hw => zx_1 (fun v26na0_11 hB hz1 hk1 hS1 => zo1 hB ht hP hD hk1 (zp_F1 hD hS hA) hS1 (fun hP hK1 hD hS => ?_)))
      have hw : r26 = (-1) := hw
      have hw := hw.symm
      subst hw
      exact W.iret (v := (-1)) hx hb hr (fun t ht hW => ⟨⟨(-1), (), rfl, trivial, v1na0_0, v26na0_11, a0_37, by rw [ht]; exact hP, va_K.moved hW.alike hK, hD⟩, hS.F ht⟩) hS.2.2 dX8_rest_29
    · obtain ⟨hw, h16_0, h16_1⟩ := hw
      subst hw
      have l16k1_a0_14 : (1 : Int) ≤ a0_14.toInt := ba0_14_l
      have u16k1_a0_14 : a0_14.toInt ≤ (0 : Int) := h16_1
      exact absurd (Int.le_trans l16k1_a0_14 u16k1_a0_14) (by decide)
    · obtain ⟨hw, h16_0, h16_1, h16_2, h16_3⟩ := hw
      subst hw
      have l16k2_a0_14 : (1 : Int) ≤ a0_14.toInt := ba0_14_l
      have u16k2_a0_14 : a0_14.toInt ≤ (1 : Int) := ba0_14_u
      exact absurd h16_2 (by decide)

set_option maxHeartbeats 4000000 in
set_option maxRecDepth 100000 in
theorem c_X8_turnsOf (l : Launch) (dC : Nat → ClassId) (dI : Nat → Nat → Nat) (sz : Nat) (a0 : Nat) (a1 : Int32) (a2 : Int32) (a0g_0 a0g_1 a0g_2 a0g_3 a0g_4 a0g_5 a0g_6 a0g_7 a0g_8 a0g_9 a0g_10 a0g_11 a0g_12 a0g_13 a0g_14 a0g_16 a0g_18 a0g_19 a0g_20 a0g_21 a0g_22 a0g_23 a0g_24 a0g_25 a0g_26 a0g_27 a0g_28 a0g_32 a0g_33 a0g_34 a0g_35 a0g_36 a0g_37 a0g_38 a0g_39 : Value) (a0_15 : Nat) (a0_17 : Nat) (a0_29 : Nat) (a0_30 : Int32) (a0_31 : Int32) (ka0_17 : ClassId) (fa0_17 : Nat → Int32) (ka0_29 : ClassId) (fa0_29 : Nat → Int32) (ka0_15 : ClassId) (fa0_15 : Nat → Int32) (ba2_l : (0 : Int) ≤ a2.toInt) (ba2_u : a2.toInt ≤ (8 : Int)) (bfa0_17 : ((∀ k : Nat, 0 ≤ k → k ≤ 8 → (0 : Int) ≤ (fa0_17 k).toInt ∧ (fa0_17 k).toInt ≤ 8) ∧ (∀ k : Nat, 19 ≤ k → k ≤ 19 → (0 : Int) ≤ (fa0_17 k).toInt ∧ (fa0_17 k).toInt ≤ 8) ∧ (∀ k : Nat, 20 ≤ k → k ≤ 20 → (0 : Int) ≤ (fa0_17 k).toInt ∧ (fa0_17 k).toInt ≤ 19))) (bfa0_29 : (∀ k, (0 : Int) ≤ (fa0_29 k).toInt ∧ (fa0_29 k).toInt ≤ 8)) (bfa0_15 : ((∀ k : Nat, 0 ≤ k → k ≤ 0 → (2 : Int) ≤ (fa0_15 k).toInt ∧ (fa0_15 k).toInt ≤ 9) ∧ (∀ k : Nat, 1 ≤ k → k ≤ 1 → (1 : Int) ≤ (fa0_15 k).toInt ∧ (fa0_15 k).toInt ≤ 20) ∧ (∀ k : Nat, 2 ≤ k → k ≤ 2 → (0 : Int) ≤ (fa0_15 k).toInt ∧ (fa0_15 k).toInt ≤ 8) ∧ (∀ k : Nat, 3 ≤ k → k ≤ 3 → (0 : Int) ≤ (fa0_15 k).toInt ∧ (fa0_15 k).toInt ≤ 100) ∧ (∀ k : Nat, 4 ≤ k → k ≤ 4 → (0 : Int) ≤ (fa0_15 k).toInt ∧ (fa0_15 k).toInt ≤ 9) ∧ (∀ k : Nat, 5 ≤ k → k ≤ 5 → (0 : Int) ≤ (fa0_15 k).toInt ∧ (fa0_15 k).toInt ≤ 3) ∧ (∀ k : Nat, 6 ≤ k → k ≤ 6 → (0 : Int) ≤ (fa0_15 k).toInt ∧ (fa0_15 k).toInt ≤ 6) ∧ (∀ k : Nat, 7 ≤ k → k ≤ 9 → (0 : Int) ≤ (fa0_15 k).toInt ∧ (fa0_15 k).toInt ≤ 8) ∧ (∀ k : Nat, 12 ≤ k → k ≤ 29 → (0 : Int) ≤ (fa0_15 k).toInt ∧ (fa0_15 k).toInt ≤ 20) ∧ (∀ k : Nat, 30 ≤ k → k ≤ 35 → (0 : Int) ≤ (fa0_15 k).toInt ∧ (fa0_15 k).toInt ≤ 8) ∧ (∀ k : Nat, 36 ≤ k → k ≤ 47 → (0 : Int) ≤ (fa0_15 k).toInt ∧ (fa0_15 k).toInt ≤ 999))) : zm l yX8_turnsOf wsX8_turnsOf ({ frames := 2, cells := 0, slots := 0, locals := 44 }) [.ref a0, .int a1, .int a2] dC dI sz [(a0, .inr (8, [a0g_0, a0g_1, a0g_2, a0g_3, a0g_4, a0g_5, a0g_6, a0g_7, a0g_8, a0g_9, a0g_10, a0g_11, a0g_12, a0g_13, a0g_14, Value.ref a0_15, a0g_16, Value.ref a0_17, a0g_18, a0g_19, a0g_20, a0g_21, a0g_22, a0g_23, a0g_24, a0g_25, a0g_26, a0g_27, a0g_28, Value.ref a0_29, Value.int a0_30, Value.int a0_31, a0g_32, a0g_33, a0g_34, a0g_35, a0g_36, a0g_37, a0g_38, a0g_39])), (a0_17, .inl (ka0_17, 23, .inl (fa0_17))), (a0_29, .inl (ka0_29, 10, .inl (fa0_29))), (a0_15, .inl (ka0_15, 156, .inl (fa0_15)))] [(ka0_17, .int), (ka0_29, .int), (ka0_15, .int)] (fun A _ => True) (fun A => va_Qi (fun (r : Int32) (_ : Unit) => (0 : Int) ≤ r.toInt ∧ r.toInt ≤ (8 : Int)) (fun (_ : Unit) (t : State) => ∃ na0_30 : Int32, ∃ na0_31 : Int32, ∃ nfa0_29 : Nat → Int32, (∀ k, (0 : Int) ≤ (nfa0_29 k).toInt ∧ (nfa0_29 k).toInt ≤ 8) ∧ ax_B dC dI A [(a0, .inr (8, [a0g_0, a0g_1, a0g_2, a0g_3, a0g_4, a0g_5, a0g_6, a0g_7, a0g_8, a0g_9, a0g_10, a0g_11, a0g_12, a0g_13, a0g_14, Value.ref a0_15, a0g_16, Value.ref a0_17, a0g_18, a0g_19, a0g_20, a0g_21, a0g_22, a0g_23, a0g_24, a0g_25, a0g_26, a0g_27, a0g_28, Value.ref a0_29, Value.int na0_30, Value.int na0_31, a0g_32, a0g_33, a0g_34, a0g_35, a0g_36, a0g_37, a0g_38, a0g_39])), (a0_17, .inl (ka0_17, 23, .inl (fa0_17))), (a0_29, .inl (ka0_29, 10, .inl (nfa0_29))), (a0_15, .inl (ka0_15, 156, .inl (fa0_15)))] [(ka0_17, .int), (ka0_29, .int), (ka0_15, .int)] t) A) := by
  refine zh (cc := cX8_turnsOf) (maxL := 5) (ret := (some .int)) zn_RX8 rfl (Nat.le_of_ble_eq_true rfl) (fun p e s m below meth c A ls hx hb hml hr hts (hown : s.vm.findClass RX8 = some m.cls) hlocks hA hS hP hK hD hE (hl : lv_has ls 5 [(0, .ref a0), (1, .int a1), (2, .int a2)]) => ?_)
  refine ai_open (fun K hK0 => ?_)
  refine (hK0 _ _ _).mpr ?_
  refine lv_aload_n hx hb dX8_turnsOf_0 rfl (lv_at hl 0 rfl) ?_
  have hKc := hK.sub (tys' := [(ka0_17, .int), (ka0_29, .int), (ka0_15, .int)]) [0, 1, 2] rfl
  refine va_callv (va_runV (As := []) (rest := []) ⟨hx, hb, hml, hown, hts⟩ (c_X8_goRound l dC dI s.heap.size a0 a0g_0 a0g_1 a0g_2 a0g_3 a0g_4 a0g_5 a0g_6 a0g_7 a0g_8 a0g_9 a0g_10 a0g_11 a0g_12 a0g_13 a0g_14 a0g_16 a0g_18 a0g_19 a0g_20 a0g_21 a0g_22 a0g_23 a0g_24 a0g_25 a0g_26 a0g_27 a0g_28 a0g_32 a0g_33 a0g_34 a0g_35 a0g_36 a0g_37 a0g_38 a0g_39 a0_15 a0_17 a0_29 a0_30 a0_31 ka0_17 fa0_17 ka0_29 fa0_29 ka0_15 fa0_15 bfa0_17 bfa0_29 bfa0_15) (cwV 0 hts gX8_turnsOf_X8_goRound rfl rfl rfl zd_X8_goRound ⟨Nat.le_of_ble_eq_true rfl, Nat.le_of_ble_eq_true rfl⟩) ⟨ax_blind (fun _ _ _ _ _ => trivial), zr_8 hKc (zp_P4 hP) (q0 := 0) rfl, ax_pre (zp_P4 hP) hKc (zp_D4 hD) (fun _ _ => trivial)⟩ rfl rfl hl.1 rfl (lv_room (Nat.le_of_ble_eq_true rfl)) dX8_turnsOf_1 ⟨Nat.le_of_ble_eq_true rfl, Nat.le_of_ble_eq_true rfl⟩) hS (fun q _ h => zp_F4 hD hS hA q h) (zp_F4 hD hS hA) (fun u t H locs ht hvm hw => zx_3 (fun v1na0_30 v1na0_31 v1nfa0_29 => zy_2 (fun bv1nfa0_29 hraw1_0 hB hz1 hk1 hS1 => zo4 hB ht hP hD hk1 (zp_F4 hD hS hA) hS1 (fun hP hK1 hD hS => ?_))))
  refine lv_iconst (v := 0) hx hb dX8_turnsOf_4 zk_iconst_0 ?_
  refine lv_istore_n (lv' := [(3, .int 0), (0, .ref a0), (1, .int a1), (2, .int a2)]) hx hb dX8_turnsOf_5 rfl hl (by decide) rfl (fun ls hl => ?_)
  refine lv_iconst (v := 1) hx hb dX8_turnsOf_6 zk_iconst_1 ?_
  refine lv_istore (lv' := [(4, .int 1), (3, .int 0), (0, .ref a0), (1, .int a1), (2, .int a2)]) hx hb dX8_turnsOf_7 hl (by decide) rfl (fun ls hl => ?_)
  have J9 : ∀ (n : Nat) (j9l4 : Int32) (j9l3 : Int32) (H : Heap) (locs : List Loc) (ls : Array Slot), (10 : Int) - j9l4.toInt ≤ (n : Int) → (1 : Int) ≤ j9l4.toInt → j9l4.toInt ≤ (9 : Int) → (0 : Int) ≤ j9l3.toInt → j9l3.toInt ≤ (9 : Int) → ((0 : Int) ≤ j9l3.toInt ∧ j9l3.toInt < j9l4.toInt) → va_P (dC, dI) vwCl [(a0, .inr (8, [a0g_0, a0g_1, a0g_2, a0g_3, a0g_4, a0g_5, a0g_6, a0g_7, a0g_8, a0g_9, a0g_10, a0g_11, a0g_12, a0g_13, a0g_14, Value.ref a0_15, a0g_16, Value.ref a0_17, a0g_18, a0g_19, a0g_20, a0g_21, a0g_22, a0g_23, a0g_24, a0g_25, a0g_26, a0g_27, a0g_28, Value.ref a0_29, Value.int v1na0_30, Value.int v1na0_31, a0g_32, a0g_33, a0g_34, a0g_35, a0g_36, a0g_37, a0g_38, a0g_39])), (a0_17, .inl (ka0_17, 23, .inl (fa0_17))), (a0_29, .inl (ka0_29, 10, .inl (v1nfa0_29))), (a0_15, .inl (ka0_15, 156, .inl (fa0_15)))] H → va_D A [(a0, .inr (8, [a0g_0, a0g_1, a0g_2, a0g_3, a0g_4, a0g_5, a0g_6, a0g_7, a0g_8, a0g_9, a0g_10, a0g_11, a0g_12, a0g_13, a0g_14, Value.ref a0_15, a0g_16, Value.ref a0_17, a0g_18, a0g_19, a0g_20, a0g_21, a0g_22, a0g_23, a0g_24, a0g_25, a0g_26, a0g_27, a0g_28, Value.ref a0_29, Value.int v1na0_30, Value.int v1na0_31, a0g_32, a0g_33, a0g_34, a0g_35, a0g_36, a0g_37, a0g_38, a0g_39])), (a0_17, .inl (ka0_17, 23, .inl (fa0_17))), (a0_29, .inl (ka0_29, 10, .inl (v1nfa0_29))), (a0_15, .inl (ka0_15, 156, .inl (fa0_15)))] → va_S A s.heap H locs → lv_has ls 5 [(0, .ref a0), (1, .int a1), (2, .int a2), (3, .int j9l3), (4, .int j9l4)] → K H locs (F0 m 9 ls []) := by
    intro n
    induction n with
    | zero =>
      intro j9l4 j9l3 H locs ls hm bj9l4_l bj9l4_u bj9l3_l bj9l3_u ts9 hP hD hS hl
      first | exact zg_0 hm bj9l4_u (by decide) | (have h8 := ai_min j9l4; have h9 := ai_max j9l4; exact absurd hm (by omega))
    | succ n ih9 =>
      intro j9l4 j9l3 H locs ls hm bj9l4_l bj9l4_u bj9l3_l bj9l3_u ts9 hP hD hS hl
      refine (hK0 _ _ _).mpr ?_
      have hm9 := hm
      refine lv_iload hx hb dX8_turnsOf_9 (lv_at hl 4 rfl) ?_
      refine lv_iload_n hx hb dX8_turnsOf_11 rfl (lv_at hl 2 rfl) ?_
      refine lv_icmp_gt (tgt := 39) hx hb dX8_turnsOf_12 (by decide) (fun c12 => ?_) (fun c12 => ?_)
      · have gc12 := ai_lt c12
        have u12t_a2 : a2.toInt ≤ (8 : Int) := ba2_u
        have l12t_j9l4 : (1 : Int) ≤ j9l4.toInt := bj9l4_l
        refine lv_iload_n hx hb dX8_turnsOf_39 rfl (lv_at hl 3 rfl) ?_
        have u39z_j9l3 : j9l3.toInt ≤ (8 : Int) := by omega
        exact W.iret (v := j9l3) hx hb hr (fun t ht hW => ⟨⟨j9l3, (), rfl, ⟨bj9l3_l, u39z_j9l3⟩, v1na0_30, v1na0_31, v1nfa0_29, bv1nfa0_29, by rw [ht]; exact hP, va_K.moved hW.alike hK, hD⟩, hS.F ht⟩) hS.2.2 dX8_turnsOf_40
      · have gc12 := ai_nlt c12
        have u12f_j9l4 : j9l4.toInt ≤ (8 : Int) := Int.le_trans gc12 ba2_u
        have l12f_a2 : (1 : Int) ≤ a2.toInt := Int.le_trans bj9l4_l gc12
        refine lv_iload_n hx hb dX8_turnsOf_15 rfl (lv_at hl 3 rfl) ?_
        have u15z_j9l3 : j9l3.toInt ≤ (8 : Int) := by omega
        refine lv_aload_n hx hb dX8_turnsOf_16 rfl (lv_at hl 0 rfl) ?_
        refine lv_iload hx hb dX8_turnsOf_17 (lv_at hl 4 rfl) ?_
        refine zc_cutc (wc := [(a0, .inr (8, [a0g_0, a0g_1, a0g_2, a0g_3, a0g_4, a0g_5, a0g_6, a0g_7, a0g_8, a0g_9, a0g_10, a0g_11, a0g_12, a0g_13, a0g_14, Value.ref a0_15, a0g_16, Value.ref a0_17, a0g_18, a0g_19, a0g_20, a0g_21, a0g_22, a0g_23, a0g_24, a0g_25, a0g_26, a0g_27, a0g_28, Value.ref a0_29, Value.int v1na0_30, Value.int v1na0_31, a0g_32, a0g_33, a0g_34, a0g_35, a0g_36, a0g_37, a0g_38, a0g_39])), (a0_29, .inl (ka0_29, 10, .inl (v1nfa0_29)))]) hP hD hS hA [0, 2] (by decide +kernel) rfl (fun hPc hDc hFc hCc => ?_)
        have hKc := hK.sub (tys' := [(ka0_29, .int)]) [1] rfl
        refine va_calli (va_runV (As := [.int j9l4]) (rest := [.int j9l3]) ⟨hx, hb, hml, hown, hts⟩ (c_X8_turnAt l dC dI H.size a0 j9l4 a0g_0 a0g_1 a0g_2 a0g_3 a0g_4 a0g_5 a0g_6 a0g_7 a0g_8 a0g_9 a0g_10 a0g_11 a0g_12 a0g_13 a0g_14 (Value.ref a0_15) a0g_16 (Value.ref a0_17) a0g_18 a0g_19 a0g_20 a0g_21 a0g_22 a0g_23 a0g_24 a0g_25 a0g_26 a0g_27 a0g_28 a0g_32 a0g_33 a0g_34 a0g_35 a0g_36 a0g_37 a0g_38 a0g_39 a0_29 v1na0_30 v1na0_31 ka0_29 v1nfa0_29 (Int.le_trans zq4 bj9l4_l) (by omega : (0 : Int) ≤ v1na0_30.toInt) (by omega : v1na0_30.toInt ≤ (8 : Int)) (by omega : (1 : Int) ≤ v1na0_31.toInt) (by omega : v1na0_31.toInt ≤ (9 : Int)) bv1nfa0_29 (by omega)) (cwV 1 hts gX8_turnsOf_X8_turnAt rfl rfl rfl zd_X8_turnAt ⟨Nat.le_of_ble_eq_true rfl, Nat.le_of_ble_eq_true rfl⟩) ⟨ax_blind (fun _ _ _ _ _ => trivial), zr_8 hKc hPc (q0 := 0) rfl, ax_pre hPc hKc hDc (fun _ _ => trivial)⟩ rfl rfl hl.1 rfl (lv_room (Nat.le_of_ble_eq_true rfl)) dX8_turnsOf_19 ⟨Nat.le_of_ble_eq_true rfl, Nat.le_of_ble_eq_true rfl⟩) hS (fun q _ h => hFc q h) hFc (fun r19 u t H locs ht hvm hw hB hz1 hk1 hS1 => zo hB ht hS1 (fun hP1 hK1 hD1 hS => ?_))
        refine zc_backc (w := [(a0, .inr (8, [a0g_0, a0g_1, a0g_2, a0g_3, a0g_4, a0g_5, a0g_6, a0g_7, a0g_8, a0g_9, a0g_10, a0g_11, a0g_12, a0g_13, a0g_14, Value.ref a0_15, a0g_16, Value.ref a0_17, a0g_18, a0g_19, a0g_20, a0g_21, a0g_22, a0g_23, a0g_24, a0g_25, a0g_26, a0g_27, a0g_28, Value.ref a0_29, Value.int v1na0_30, Value.int v1na0_31, a0g_32, a0g_33, a0g_34, a0g_35, a0g_36, a0g_37, a0g_38, a0g_39])), (a0_17, .inl (ka0_17, 23, .inl (fa0_17))), (a0_29, .inl (ka0_29, 10, .inl (v1nfa0_29))), (a0_15, .inl (ka0_15, 156, .inl (fa0_15)))]) hP hD hCc hk1 hFc hP1 hD1 [.inr 0, .inl 1, .inr 1, .inl 3] (by decide +kernel) rfl (fun hP hD => ?_)
        have hw : (0 : Int) ≤ r19.toInt ∧ r19.toInt ≤ (8 : Int) := hw
        obtain ⟨h19_0, h19_1⟩ := hw
        refine lv_iload_n hx hb dX8_turnsOf_22 rfl (lv_at hl 1 rfl) ?_
        refine lv_icmp_ne (tgt := 30) hx hb dX8_turnsOf_23 (by decide) (fun c23 => ?_) (fun c23 => ?_)
        · have gc23 := ai_ne c23
          refine lv_iconst (v := 0) hx hb dX8_turnsOf_30 zk_iconst_0 ?_
          refine lv_iadd hx hb dX8_turnsOf_31 ?_
          refine lv_topi (fun x31 ex31 => ?_)
          have qx31 : x31.toInt = j9l3.toInt + (0 : Int32).toInt := ai_add ex31 ⟨bj9l3_l, u15z_j9l3⟩ ⟨zq5, zq6⟩ (by decide) (by decide)
          have bx31 : (0 : Int) ≤ x31.toInt ∧ x31.toInt ≤ 8 := ⟨by rw [qx31]; exact Int.add_le_add bj9l3_l zq5, by rw [qx31]; exact Int.add_le_add u15z_j9l3 zq6⟩
          have wx31 : x31.toInt = j9l3.toInt + 0 := qx31
          refine lv_istore_n (lv' := [(3, .int x31), (0, .ref a0), (1, .int a1), (2, .int a2), (4, .int j9l4)]) hx hb dX8_turnsOf_32 rfl hl (by decide) rfl (fun ls hl => ?_)
          obtain ⟨x33, ex33⟩ : ∃ y : Int32, y = j9l4 + Int32.ofInt 1 := ⟨_, rfl⟩
          have qx33 : x33.toInt = j9l4.toInt + 1 := ai_inc ex33 (by decide) (by decide) u12f_j9l4 (by decide)
          have bx33 : (2 : Int) ≤ x33.toInt ∧ x33.toInt ≤ 9 := ⟨by rw [qx33]; exact Int.add_le_add bj9l4_l (Int.le_refl _), by rw [qx33]; exact Int.add_le_add u12f_j9l4 (Int.le_refl _)⟩
          refine lv_iinc (v := x33) (lv' := [(4, .int x33), (3, .int x31), (0, .ref a0), (1, .int a1), (2, .int a2)]) hx hb dX8_turnsOf_33 hl (k := 4) rfl ex33.symm (by decide) rfl (fun ls hl => ?_)
          refine lv_goto (tgt := 9) hx hb dX8_turnsOf_36 (by decide) ?_
          exact (hK0 _ _ _).mp (ih9 x33 x31 _ _ _ (by first | exact zg_s hm9 qx33 | (have h0 := qx33; omega)) (Int.le_trans zq54 bx33.1) bx33.2 bx31.1 (Int.le_trans bx31.2 zq22) ⟨by omega, by omega⟩ hP hD hS (lv_sub hl [2, 3, 4, 1, 0] rfl))
        · have gc23 := ai_eq c23
          have u23f_a1 : a1.toInt ≤ (8 : Int) := Int.le_trans (Int.le_of_eq gc23.symm) h19_1
          have l23f_a1 : (0 : Int) ≤ a1.toInt := Int.le_trans h19_0 (Int.le_of_eq gc23)
          refine lv_iconst (v := 1) hx hb dX8_turnsOf_26 zk_iconst_1 ?_
          refine lv_goto (tgt := 31) hx hb dX8_turnsOf_27 (by decide) ?_
          refine lv_iadd hx hb dX8_turnsOf_31 ?_
          refine lv_topi (fun x31 ex31 => ?_)
          have qx31 : x31.toInt = j9l3.toInt + (1 : Int32).toInt := ai_add ex31 ⟨bj9l3_l, u15z_j9l3⟩ ⟨zq1, zq0⟩ (by decide) (by decide)
          have bx31 : (1 : Int) ≤ x31.toInt ∧ x31.toInt ≤ 9 := ⟨by rw [qx31]; exact Int.add_le_add bj9l3_l zq1, by rw [qx31]; exact Int.add_le_add u15z_j9l3 zq0⟩
          have wx31 : x31.toInt = j9l3.toInt + 1 := qx31
          refine lv_istore_n (lv' := [(3, .int x31), (0, .ref a0), (1, .int a1), (2, .int a2), (4, .int j9l4)]) hx hb dX8_turnsOf_32 rfl hl (by decide) rfl (fun ls hl => ?_)
          obtain ⟨x33, ex33⟩ : ∃ y : Int32, y = j9l4 + Int32.ofInt 1 := ⟨_, rfl⟩
          have qx33 : x33.toInt = j9l4.toInt + 1 := ai_inc ex33 (by decide) (by decide) u12f_j9l4 (by decide)
          have bx33 : (2 : Int) ≤ x33.toInt ∧ x33.toInt ≤ 9 := ⟨by rw [qx33]; exact Int.add_le_add bj9l4_l (Int.le_refl _), by rw [qx33]; exact Int.add_le_add u12f_j9l4 (Int.le_refl _)⟩
          refine lv_iinc (v := x33) (lv' := [(4, .int x33), (3, .int x31), (0, .ref a0), (1, .int a1), (2, .int a2)]) hx hb dX8_turnsOf_33 hl (k := 4) rfl ex33.symm (by decide) rfl (fun ls hl => ?_)
          refine lv_goto (tgt := 9) hx hb dX8_turnsOf_36 (by decide) ?_
          exact (hK0 _ _ _).mp (ih9 x33 x31 _ _ _ (by first | exact zg_s hm9 qx33 | (have h0 := qx33; omega)) (Int.le_trans zq54 bx33.1) bx33.2 (Int.le_trans zq4 bx31.1) bx31.2 ⟨by omega, by omega⟩ hP hD hS (lv_sub hl [2, 3, 4, 1, 0] rfl))
  exact (hK0 _ _ _).mp (J9 9 1 0 _ _ _ (by first | decide +kernel | (have h1 : (1 : Int) ≤ (1 : Int32).toInt := zq1; have h2 : (1 : Int32).toInt ≤ (1 : Int) := zq0; omega)) zq1 (Int.le_trans zq0 zq56) zq5 (Int.le_trans zq6 zq7) (by decide) hP hD hS (lv_sub hl [2, 3, 4, 1, 0] rfl))

set_option maxHeartbeats 4000000 in
set_option maxRecDepth 100000 in
theorem c_X8_lowest (l : Launch) (dC : Nat → ClassId) (dI : Nat → Nat → Nat) (sz : Nat) (a1 : Int64) (a2 : Int64) (a3 : Int32) (hd : ¬ a2 = 0) : zm l yX8_lowest wsX8_lowest ({ frames := 0, cells := 0, slots := 0, locals := 0 }) [.long a1, .long a2, .int a3] dC dI sz [] [] (fun A _ => True) (fun A => va_Ql (fun (r : Int64) (_ : Unit) => True) (fun (_ : Unit) (t : State) => ax_B dC dI A [] [] t) A) := by
  refine zh (cc := cX8_lowest) (maxL := 11) (ret := (some .long)) zn_RX8 rfl (Nat.le_of_ble_eq_true rfl) (fun p e s m below meth c A ls hx hb hml hr hts (hown : s.vm.findClass RX8 = some m.cls) hlocks hA hS hP hK hD hE (hl : lv_has ls 11 [(0, .long a1), (2, .long a2), (4, .int a3)]) => ?_)
  refine ai_open (fun K hK0 => ?_)
  refine (hK0 _ _ _).mpr ?_
  refine lv_lload_n hx hb dX8_lowest_0 rfl (lv_at hl 1 rfl) ?_
  refine lv_lstore (lv' := [(5, .long a2), (0, .long a1), (2, .long a2), (4, .int a3)]) hx hb dX8_lowest_1 hl (by decide) rfl (fun ls hl => ?_)
  refine lv_lload_n hx hb dX8_lowest_3 rfl (lv_at hl 1 rfl) ?_
  refine lv_lstore (lv' := [(7, .long a1), (5, .long a2), (0, .long a1), (2, .long a2), (4, .int a3)]) hx hb dX8_lowest_4 hl (by decide) rfl (fun ls hl => ?_)
  have J6 : ∀ (n : Nat) (j6l7 : Int64) (j6l5 : Int64) (H : Heap) (locs : List Loc) (ls : Array Slot), j6l7.toInt.natAbs < n → (¬ j6l5 = 0) → va_P (dC, dI) vwCl [] H → va_D A [] → va_S A s.heap H locs → lv_has ls 11 [(0, .long a1), (2, .long a2), (4, .int a3), (5, .long j6l5), (7, .long j6l7)] → K H locs (F0 m 6 ls []) := by
    intro n
    induction n with
    | zero =>
      intro j6l7 j6l5 H locs ls hm nz6 hP hD hS hl
      exact absurd hm (by omega)
    | succ n ih6 =>
      intro j6l7 j6l5 H locs ls hm nz6 hP hD hS hl
      refine (hK0 _ _ _).mpr ?_
      have hm6 := hm
      refine lv_lload hx hb dX8_lowest_6 (lv_at hl 4 rfl) ?_
      refine lv_lconst (v := 0) hx hb dX8_lowest_8 (by decide) ?_
      refine W.lcmp hx hb dX8_lowest_9 ?_
      refine lv_topi (fun x9 ex9 => ?_)
      refine lv_if_eq (tgt := 31) hx hb dX8_lowest_10 (by decide) (fun c10 => ?_) (fun c10 => ?_)
      · have gc10 := ai_eq c10
        have u10t_x9 : x9.toInt ≤ (0 : Int) := Int.le_trans (Int.le_of_eq gc10) zq6
        have l10t_x9 : (0 : Int) ≤ x9.toInt := Int.le_trans zq5 (Int.le_of_eq gc10.symm)
        refine lv_iload hx hb dX8_lowest_31 (lv_at hl 2 rfl) ?_
        have J41 : ∀ (j41s0 : Int64) (H : Heap) (locs : List Loc) (ls : Array Slot), va_P (dC, dI) vwCl [] H → va_D A [] → va_S A s.heap H locs → lv_has ls 11 [(5, .long j6l5)] → K H locs (F0 m 41 ls [.long j41s0]) := by
          intro j41s0 H locs ls   hP hD hS hl
          refine (hK0 _ _ _).mpr ?_
          refine lv_lload hx hb dX8_lowest_41 (lv_at hl 0 rfl) ?_
          refine lv_ldiv hx hb dX8_lowest_43 nz6 ?_
          refine lv_topl (fun x43 ex43 => ?_)
          exact W.lret (v := x43) hx hb hr (fun t ht hW => ⟨⟨x43, (), rfl, trivial, by rw [ht]; exact hP, va_K.moved hW.alike hK, hD⟩, hS.F ht⟩) hS.2.2 dX8_lowest_44
        refine lv_if_eq (tgt := 40) hx hb dX8_lowest_33 (by decide) (fun c33 => ?_) (fun c33 => ?_)
        · have gc33 := ai_eq c33
          have u33t_a3 : a3.toInt ≤ (0 : Int) := Int.le_trans (Int.le_of_eq gc33) zq6
          have l33t_a3 : (0 : Int) ≤ a3.toInt := Int.le_trans zq5 (Int.le_of_eq gc33.symm)
          refine lv_lload_n hx hb dX8_lowest_40 rfl (lv_at hl 0 rfl) ?_
          exact (hK0 _ _ _).mp (J41 a1 _ _ _   hP hD hS (lv_sub hl [3] rfl))
        · have gc33 := ai_ne c33
          refine lv_lload_n hx hb dX8_lowest_36 rfl (lv_at hl 1 rfl) ?_
          refine lv_goto (tgt := 41) hx hb dX8_lowest_37 (by decide) ?_
          exact (hK0 _ _ _).mp (J41 a2 _ _ _   hP hD hS (lv_sub hl [3] rfl))
      · have gc10 := ai_ne c10
        have zc10 : ¬ j6l7 = 0 := ai_lcne ex9 c10
        refine lv_lload hx hb dX8_lowest_13 (lv_at hl 3 rfl) ?_
        refine lv_lload hx hb dX8_lowest_15 (lv_at hl 4 rfl) ?_
        refine lv_lrem hx hb dX8_lowest_17 zc10 ?_
        refine lv_topl (fun x17 ex17 => ?_)
        refine lv_lstore (lv' := [(9, .long x17), (0, .long a1), (2, .long a2), (4, .int a3), (5, .long j6l5), (7, .long j6l7)]) hx hb dX8_lowest_18 hl (by decide) rfl (fun ls hl => ?_)
        refine lv_lload hx hb dX8_lowest_20 (lv_at hl 5 rfl) ?_
        refine lv_lstore (lv' := [(5, .long j6l7), (9, .long x17), (0, .long a1), (2, .long a2), (4, .int a3), (7, .long j6l7)]) hx hb dX8_lowest_22 hl (by decide) rfl (fun ls hl => ?_)
        refine lv_lload hx hb dX8_lowest_24 (lv_at hl 1 rfl) ?_
        refine lv_lstore (lv' := [(7, .long x17), (5, .long j6l7), (9, .long x17), (0, .long a1), (2, .long a2), (4, .int a3)]) hx hb dX8_lowest_26 hl (by decide) rfl (fun ls hl => ?_)
        refine lv_goto (tgt := 6) hx hb dX8_lowest_28 (by decide) ?_
        exact (hK0 _ _ _).mp (ih6 x17 j6l7 _ _ _ (by have h1 := lw_mod (x := j6l5) zc10; rw [← ex17] at h1; omega) zc10 hP hD hS (lv_sub hl [3, 4, 5, 1, 0] rfl))
  exact (hK0 _ _ _).mp (J6 9223372036854775809 a1 a2 _ _ _ (lw_b _) hd hP hD hS (lv_sub hl [2, 3, 4, 1, 0] rfl))

set_option maxHeartbeats 4000000 in
set_option maxRecDepth 100000 in
theorem c_X8_odds (l : Launch) (dC : Nat → ClassId) (dI : Nat → Nat → Nat) (sz : Nat) (a0 : Nat) (a1 : Int32) (a2 : Int32) (a3 : Int32) (a0_0 : Int32) (a0g_1 a0g_2 a0g_3 a0g_4 a0g_5 a0g_6 a0g_7 a0g_8 a0g_9 a0g_10 a0g_12 a0g_13 a0g_16 a0g_18 a0g_19 a0g_20 a0g_21 a0g_22 a0g_23 a0g_24 a0g_25 a0g_26 a0g_27 a0g_28 a0g_32 a0g_33 a0g_34 a0g_35 a0g_36 a0g_37 a0g_38 a0g_39 : Value) (a0_11 : Int32) (a0_14 : Int32) (a0_15 : Nat) (a0_17 : Nat) (a0_29 : Nat) (a0_30 : Int32) (a0_31 : Int32) (ka0_15 : ClassId) (fa0_15 : Nat → Int32) (ka0_17 : ClassId) (fa0_17 : Nat → Int32) (ka0_29 : ClassId) (fa0_29 : Nat → Int32) (ba0_14_l : (1 : Int) ≤ a0_14.toInt) (ba0_14_u : a0_14.toInt ≤ (1 : Int)) (bfa0_15 : ((∀ k : Nat, 0 ≤ k → k ≤ 0 → (2 : Int) ≤ (fa0_15 k).toInt ∧ (fa0_15 k).toInt ≤ 9) ∧ (∀ k : Nat, 1 ≤ k → k ≤ 1 → (1 : Int) ≤ (fa0_15 k).toInt ∧ (fa0_15 k).toInt ≤ 20) ∧ (∀ k : Nat, 2 ≤ k → k ≤ 2 → (0 : Int) ≤ (fa0_15 k).toInt ∧ (fa0_15 k).toInt ≤ 8) ∧ (∀ k : Nat, 3 ≤ k → k ≤ 3 → (0 : Int) ≤ (fa0_15 k).toInt ∧ (fa0_15 k).toInt ≤ 100) ∧ (∀ k : Nat, 4 ≤ k → k ≤ 4 → (0 : Int) ≤ (fa0_15 k).toInt ∧ (fa0_15 k).toInt ≤ 9) ∧ (∀ k : Nat, 5 ≤ k → k ≤ 5 → (0 : Int) ≤ (fa0_15 k).toInt ∧ (fa0_15 k).toInt ≤ 3) ∧ (∀ k : Nat, 6 ≤ k → k ≤ 6 → (0 : Int) ≤ (fa0_15 k).toInt ∧ (fa0_15 k).toInt ≤ 6) ∧ (∀ k : Nat, 7 ≤ k → k ≤ 9 → (0 : Int) ≤ (fa0_15 k).toInt ∧ (fa0_15 k).toInt ≤ 8) ∧ (∀ k : Nat, 12 ≤ k → k ≤ 29 → (0 : Int) ≤ (fa0_15 k).toInt ∧ (fa0_15 k).toInt ≤ 20) ∧ (∀ k : Nat, 30 ≤ k → k ≤ 35 → (0 : Int) ≤ (fa0_15 k).toInt ∧ (fa0_15 k).toInt ≤ 8) ∧ (∀ k : Nat, 36 ≤ k → k ≤ 47 → (0 : Int) ≤ (fa0_15 k).toInt ∧ (fa0_15 k).toInt ≤ 999))) (bfa0_17 : ((∀ k : Nat, 0 ≤ k → k ≤ 8 → (0 : Int) ≤ (fa0_17 k).toInt ∧ (fa0_17 k).toInt ≤ 8) ∧ (∀ k : Nat, 19 ≤ k → k ≤ 19 → (0 : Int) ≤ (fa0_17 k).toInt ∧ (fa0_17 k).toInt ≤ 8) ∧ (∀ k : Nat, 20 ≤ k → k ≤ 20 → (0 : Int) ≤ (fa0_17 k).toInt ∧ (fa0_17 k).toInt ≤ 19))) (bfa0_29 : (∀ k, (0 : Int) ≤ (fa0_29 k).toInt ∧ (fa0_29 k).toInt ≤ 8)) : zm l yX8_odds wsX8_odds ({ frames := 3, cells := 0, slots := 0, locals := 68 }) [.ref a0, .int a1, .int a2, .int a3] dC dI sz [(a0, .inr (8, [Value.int a0_0, a0g_1, a0g_2, a0g_3, a0g_4, a0g_5, a0g_6, a0g_7, a0g_8, a0g_9, a0g_10, Value.int a0_11, a0g_12, a0g_13, Value.int a0_14, Value.ref a0_15, a0g_16, Value.ref a0_17, a0g_18, a0g_19, a0g_20, a0g_21, a0g_22, a0g_23, a0g_24, a0g_25, a0g_26, a0g_27, a0g_28, Value.ref a0_29, Value.int a0_30, Value.int a0_31, a0g_32, a0g_33, a0g_34, a0g_35, a0g_36, a0g_37, a0g_38, a0g_39])), (a0_15, .inl (ka0_15, 156, .inl (fa0_15))), (a0_17, .inl (ka0_17, 23, .inl (fa0_17))), (a0_29, .inl (ka0_29, 10, .inl (fa0_29)))] [(ka0_15, .int), (ka0_17, .int), (ka0_29, .int)] (fun A _ => True) (fun A => va_Ql (fun (r : Int64) (_ : Unit) => True) (fun (_ : Unit) (t : State) => ∃ na0_0 : Int32, ∃ na0_11 : Int32, ∃ na0_30 : Int32, ∃ na0_31 : Int32, ∃ nfa0_29 : Nat → Int32, (∀ k, (0 : Int) ≤ (nfa0_29 k).toInt ∧ (nfa0_29 k).toInt ≤ 8) ∧ ax_B dC dI A [(a0, .inr (8, [Value.int na0_0, a0g_1, a0g_2, a0g_3, a0g_4, a0g_5, a0g_6, a0g_7, a0g_8, a0g_9, a0g_10, Value.int na0_11, a0g_12, a0g_13, Value.int a0_14, Value.ref a0_15, a0g_16, Value.ref a0_17, a0g_18, a0g_19, a0g_20, a0g_21, a0g_22, a0g_23, a0g_24, a0g_25, a0g_26, a0g_27, a0g_28, Value.ref a0_29, Value.int na0_30, Value.int na0_31, a0g_32, a0g_33, a0g_34, a0g_35, a0g_36, a0g_37, a0g_38, a0g_39])), (a0_15, .inl (ka0_15, 156, .inl (fa0_15))), (a0_17, .inl (ka0_17, 23, .inl (fa0_17))), (a0_29, .inl (ka0_29, 10, .inl (nfa0_29)))] [(ka0_15, .int), (ka0_17, .int), (ka0_29, .int)] t) A) := by
  refine zh (cc := cX8_odds) (maxL := 11) (ret := (some .long)) zn_RX8 rfl (Nat.le_of_ble_eq_true rfl) (fun p e s m below meth c A ls hx hb hml hr hts (hown : s.vm.findClass RX8 = some m.cls) hlocks hA hS hP hK hD hE (hl : lv_has ls 11 [(0, .ref a0), (1, .int a1), (2, .int a2), (3, .int a3)]) => ?_)
  refine lv_aload_n hx hb dX8_odds_0 rfl (lv_at hl 0 rfl) ?_
  refine va_callv (va_runV (As := []) (rest := []) ⟨hx, hb, hml, hown, hts⟩ (c_X8_good l dC dI s.heap.size a0 a0_0 a0g_1 a0g_2 a0g_3 a0g_4 a0g_5 a0g_6 a0g_7 a0g_8 a0g_9 a0g_10 a0g_12 a0g_13 (Value.int a0_14) (Value.ref a0_15) a0g_16 (Value.ref a0_17) a0g_18 a0g_19 a0g_20 a0g_21 a0g_22 a0g_23 a0g_24 a0g_25 a0g_26 a0g_27 a0g_28 (Value.ref a0_29) (Value.int a0_30) (Value.int a0_31) a0g_32 a0g_33 a0g_34 a0g_35 a0g_36 a0g_37 a0g_38 a0g_39 a0_11 ) (cwV 0 hts gX8_odds_X8_good rfl rfl rfl zd_X8_good ⟨Nat.le_of_ble_eq_true rfl, Nat.le_of_ble_eq_true rfl⟩) ⟨ax_blind (fun _ _ _ _ _ => trivial), zr_8 (zp_K hK) (zp_P1 hP) (q0 := 0) rfl, ax_pre (zp_P1 hP) (zp_K hK) (zp_D1 hD) (fun _ _ => trivial)⟩ rfl rfl hl.1 rfl (lv_room (Nat.le_of_ble_eq_true rfl)) dX8_odds_1 ⟨Nat.le_of_ble_eq_true rfl, Nat.le_of_ble_eq_true rfl⟩) hS (fun q _ h => zp_F1 hD hS hA q h) (zp_F1 hD hS hA) (fun u t H locs ht hvm hw => zx_2 (fun v1na0_0 v1na0_11 hB hz1 hk1 hS1 => zo1 hB ht hP hD hk1 (zp_F1 hD hS hA) hS1 (fun hP hK1 hD hS => ?_)))
  refine lv_aload_n hx hb dX8_odds_4 rfl (lv_at hl 0 rfl) ?_
  refine lv_aload_n hx hb dX8_odds_5 rfl (lv_at hl 0 rfl) ?_
  refine lv_iload_n hx hb dX8_odds_6 rfl (lv_at hl 1 rfl) ?_
  have hKc := hK.sub (tys' := [(ka0_15, .int)]) [0] rfl
  refine va_calli (va_runV (As := [.int a1]) (rest := [.ref a0]) ⟨hx, hb, hml, hown, hts⟩ (c_X8_isFigure l dC dI H.size a0 a1 (Value.int v1na0_0) a0g_1 a0g_2 a0g_3 a0g_4 a0g_5 a0g_6 a0g_7 a0g_8 a0g_9 a0g_10 (Value.int v1na0_11) a0g_12 a0g_13 a0g_16 (Value.ref a0_17) a0g_18 a0g_19 a0g_20 a0g_21 a0g_22 a0g_23 a0g_24 a0g_25 a0g_26 a0g_27 a0g_28 (Value.ref a0_29) (Value.int a0_30) (Value.int a0_31) a0g_32 a0g_33 a0g_34 a0g_35 a0g_36 a0g_37 a0g_38 a0g_39 a0_14 a0_15 ka0_15 fa0_15 ba0_14_l ba0_14_u bfa0_15) (cwV 1 hts gX8_odds_X8_isFigure rfl rfl rfl zd_X8_isFigure ⟨Nat.le_of_ble_eq_true rfl, Nat.le_of_ble_eq_true rfl⟩) ⟨ax_blind (fun _ _ _ _ _ => trivial), zr_8 hKc (zp_P2 hP) (q0 := 0) rfl, ax_pre (zp_P2 hP) hKc (zp_D2 hD) (fun _ _ => trivial)⟩ rfl rfl hl.1 rfl (lv_room (Nat.le_of_ble_eq_true rfl)) dX8_odds_7 ⟨Nat.le_of_ble_eq_true rfl, Nat.le_of_ble_eq_true rfl⟩) hS (fun q _ h => zp_F2 hD hS hA q h) (zp_F2 hD hS hA) (fun r7 u t H locs ht hvm hw hB hz1 hk1 hS1 => zo2 hB ht hP hD hk1 (zp_F2 hD hS hA) hS1 (fun hP hK1 hD hS => ?_))
  rcases hw with hw | hw
  · obtain ⟨hw, h7_0, h7_1⟩ := hw
    subst hw
    have l7k0_a1 : (0 : Int) ≤ a1.toInt := h7_0
    have u7k0_a1 : a1.toInt ≤ (8 : Int) := h7_1
    refine lv_iload_n hx hb dX8_odds_10 rfl (lv_at hl 2 rfl) ?_
    refine lv_iconst (v := 0) hx hb dX8_odds_11 zk_iconst_0 ?_
    refine lv_bipush (v := 8) hx hb dX8_odds_12 zk_bipush_8 ?_
    refine va_calli (va_runS (As := [.int a2, .int 0, .int 8]) (rest := [.int 1, .ref a0]) ⟨hx, hb, hml, hown, hts⟩ (c_X8_in l dC dI H.size a2 0 8 ) (va_cwS 3 hts gX8_odds_X8_in rfl rfl rfl zd_X8_in.2 ⟨Nat.le_of_ble_eq_true rfl, Nat.le_of_ble_eq_true rfl⟩) ⟨ax_blind (fun _ _ _ _ _ => trivial), ax_pre (zp_P0 hP) (zp_K hK) (zp_D0 hD) (fun _ _ => trivial)⟩ rfl rfl hl.1 rfl (lv_room (Nat.le_of_ble_eq_true rfl)) dX8_odds_14 ⟨Nat.le_of_ble_eq_true rfl, Nat.le_of_ble_eq_true rfl⟩) hS (fun q _ h => zp_F0 hD hS hA q h) (zp_F0 hD hS hA) (fun r14 u t H locs ht hvm hw hB hz1 hk1 hS1 => zo0 hB ht hP hD hk1 (zp_F0 hD hS hA) hS1 (fun hP hK1 hD hS => ?_))
    rcases hw with hw | hw
    · obtain ⟨hw, h14⟩ := hw
      subst hw
      have l14k0_a2 : (0 : Int) ≤ a2.toInt := Int.le_trans zq5 h14.1
      have u14k0_a2 : a2.toInt ≤ (8 : Int) := Int.le_trans h14.2 zq28
      refine va_calli (va_runV (As := [.int 1, .int 1]) (rest := []) ⟨hx, hb, hml, hown, hts⟩ (c_X8_whyB l dC dI H.size a0 1 1 (Value.int v1na0_0) a0g_1 a0g_2 a0g_3 a0g_4 a0g_5 a0g_6 a0g_7 a0g_8 a0g_9 a0g_10 (Value.int v1na0_11) a0g_12 a0g_13 (Value.int a0_14) (Value.ref a0_15) a0g_16 (Value.ref a0_17) a0g_18 a0g_19 a0g_20 a0g_21 a0g_22 a0g_23 a0g_24 a0g_25 a0g_26 a0g_27 a0g_28 (Value.ref a0_29) (Value.int a0_30) (Value.int a0_31) a0g_32 a0g_33 a0g_34 a0g_35 a0g_36 a0g_37 a0g_38 a0g_39 (Int.le_trans zq4 zq1) zq0 (Int.le_trans zq4 zq1) zq0) (cwV 2 hts gX8_odds_X8_why rfl rfl rfl zd_X8_why ⟨Nat.le_of_ble_eq_true rfl, Nat.le_of_ble_eq_true rfl⟩) ⟨ax_blind (fun _ _ _ _ _ => trivial), zr_8 (zp_K hK) (zp_P1 hP) (q0 := 0) rfl, ax_pre (zp_P1 hP) (zp_K hK) (zp_D1 hD) (fun _ _ => trivial)⟩ rfl rfl hl.1 rfl (lv_room (Nat.le_of_ble_eq_true rfl)) dX8_odds_17 ⟨Nat.le_of_ble_eq_true rfl, Nat.le_of_ble_eq_true rfl⟩) hS (fun q _ h => zp_F1 hD hS hA q h) (zp_F1 hD hS hA) (fun r17 u t H locs ht hvm hw hB hz1 hk1 hS1 => zo1 hB ht hP hD hk1 (zp_F1 hD hS hA) hS1 (fun hP hK1 hD hS => ?_))
      rcases hw with hw | hw | hw
      · obtain ⟨hw, h17_0, h17_1, h17_2, h17_3⟩ := hw
        subst hw
        exact absurd h17_3 (by decide)
      · obtain ⟨hw, h17_0, h17_1⟩ := hw
        subst hw
        exact absurd h17_1 (by decide)
      · obtain ⟨hw, h17_0, h17_1, h17_2, h17_3⟩ := hw
        subst hw
        refine lv_istore (lv' := [(4, .int 0), (0, .ref a0), (1, .int a1), (2, .int a2), (3, .int a3)]) hx hb dX8_odds_20 hl (by decide) rfl (fun ls hl => ?_)
        refine lv_iload hx hb dX8_odds_22 (lv_at hl 0 rfl) ?_
        refine lv_if_eq (tgt := 35) hx hb dX8_odds_24 (by decide) (fun _ => ?_) (fun c24 => absurd (by decide +kernel) c24)
        refine lv_aload_n hx hb dX8_odds_35 rfl (lv_at hl 1 rfl) ?_
        refine lv_iload_n hx hb dX8_odds_36 rfl (lv_at hl 2 rfl) ?_
        refine lv_iload_n hx hb dX8_odds_37 rfl (lv_at hl 3 rfl) ?_
        refine zc_cutc (wc := [(a0, .inr (8, [Value.int v1na0_0, a0g_1, a0g_2, a0g_3, a0g_4, a0g_5, a0g_6, a0g_7, a0g_8, a0g_9, a0g_10, Value.int v1na0_11, a0g_12, a0g_13, Value.int a0_14, Value.ref a0_15, a0g_16, Value.ref a0_17, a0g_18, a0g_19, a0g_20, a0g_21, a0g_22, a0g_23, a0g_24, a0g_25, a0g_26, a0g_27, a0g_28, Value.ref a0_29, Value.int a0_30, Value.int a0_31, a0g_32, a0g_33, a0g_34, a0g_35, a0g_36, a0g_37, a0g_38, a0g_39])), (a0_17, .inl (ka0_17, 23, .inl (fa0_17))), (a0_29, .inl (ka0_29, 10, .inl (fa0_29))), (a0_15, .inl (ka0_15, 156, .inl (fa0_15)))]) hP hD hS hA [0, 2, 3, 1] (by decide +kernel) rfl (fun hPc hDc hFc hCc => ?_)
        have hKc := hK.sub (tys' := [(ka0_17, .int), (ka0_29, .int), (ka0_15, .int)]) [1, 2, 0] rfl
        refine va_calli (va_runV (As := [.int a1, .int a2]) (rest := []) ⟨hx, hb, hml, hown, hts⟩ (c_X8_turnsOf l dC dI H.size a0 a1 a2 (Value.int v1na0_0) a0g_1 a0g_2 a0g_3 a0g_4 a0g_5 a0g_6 a0g_7 a0g_8 a0g_9 a0g_10 (Value.int v1na0_11) a0g_12 a0g_13 (Value.int a0_14) a0g_16 a0g_18 a0g_19 a0g_20 a0g_21 a0g_22 a0g_23 a0g_24 a0g_25 a0g_26 a0g_27 a0g_28 a0g_32 a0g_33 a0g_34 a0g_35 a0g_36 a0g_37 a0g_38 a0g_39 a0_15 a0_17 a0_29 a0_30 a0_31 ka0_17 fa0_17 ka0_29 fa0_29 ka0_15 fa0_15 l14k0_a2 u14k0_a2 bfa0_17 bfa0_29 bfa0_15) (cwV 2 hts gX8_odds_X8_turnsOf rfl rfl rfl zd_X8_turnsOf ⟨Nat.le_of_ble_eq_true rfl, Nat.le_of_ble_eq_true rfl⟩) ⟨ax_blind (fun _ _ _ _ _ => trivial), zr_8 hKc hPc (q0 := 0) rfl, ax_pre hPc hKc hDc (fun _ _ => trivial)⟩ rfl rfl hl.1 rfl (lv_room (Nat.le_of_ble_eq_true rfl)) dX8_odds_38 ⟨Nat.le_of_ble_eq_true rfl, Nat.le_of_ble_eq_true rfl⟩) hS (fun q _ h => hFc q h) hFc (fun r38 u t H locs ht hvm hw => zx_3 (fun v38na0_30 v38na0_31 v38nfa0_29 => zy_1 (fun bv38nfa0_29 hB hz1 hk1 hS1 => zo hB ht hS1 (fun hP1 hK1 hD1 hS => ?_))))
        refine zc_backc (w := [(a0, .inr (8, [Value.int v1na0_0, a0g_1, a0g_2, a0g_3, a0g_4, a0g_5, a0g_6, a0g_7, a0g_8, a0g_9, a0g_10, Value.int v1na0_11, a0g_12, a0g_13, Value.int a0_14, Value.ref a0_15, a0g_16, Value.ref a0_17, a0g_18, a0g_19, a0g_20, a0g_21, a0g_22, a0g_23, a0g_24, a0g_25, a0g_26, a0g_27, a0g_28, Value.ref a0_29, Value.int v38na0_30, Value.int v38na0_31, a0g_32, a0g_33, a0g_34, a0g_35, a0g_36, a0g_37, a0g_38, a0g_39])), (a0_15, .inl (ka0_15, 156, .inl (fa0_15))), (a0_17, .inl (ka0_17, 23, .inl (fa0_17))), (a0_29, .inl (ka0_29, 10, .inl (v38nfa0_29)))]) hP hD hCc hk1 hFc hP1 hD1 [.inr 0, .inr 3, .inr 1, .inr 2] (by decide +kernel) rfl (fun hP hD => ?_)
        have hw : (0 : Int) ≤ r38.toInt ∧ r38.toInt ≤ (8 : Int) := hw
        obtain ⟨h38_0, h38_1⟩ := hw
        refine lv_istore (lv' := [(5, .int r38), (4, .int 0), (0, .ref a0), (1, .int a1), (2, .int a2), (3, .int a3)]) hx hb dX8_odds_41 hl (by decide) rfl (fun ls hl => ?_)
        refine lv_lconst (v := 1) hx hb dX8_odds_43 (by decide) ?_
        refine lv_lstore (lv' := [(6, .long 1), (5, .int r38), (4, .int 0), (0, .ref a0), (1, .int a1), (2, .int a2), (3, .int a3)]) hx hb dX8_odds_44 hl (by decide) rfl (fun ls hl => ?_)
        refine lv_lconst (v := 1) hx hb dX8_odds_46 (by decide) ?_
        refine lv_lstore (lv' := [(8, .long 1), (6, .long 1), (5, .int r38), (4, .int 0), (0, .ref a0), (1, .int a1), (2, .int a2), (3, .int a3)]) hx hb dX8_odds_47 hl (by decide) rfl (fun ls hl => ?_)
        refine lv_iconst (v := 0) hx hb dX8_odds_49 zk_iconst_0 ?_
        refine lv_istore (lv' := [(10, .int 0), (8, .long 1), (6, .long 1), (5, .int r38), (4, .int 0), (0, .ref a0), (1, .int a1), (2, .int a2), (3, .int a3)]) hx hb dX8_odds_50 hl (by decide) rfl (fun ls hl => ?_)
        refine lv_iload hx hb dX8_odds_52 (lv_at hl 0 rfl) ?_
        refine lv_iload hx hb dX8_odds_54 (lv_at hl 3 rfl) ?_
        refine lv_icmp_ge (tgt := 85) hx hb dX8_odds_56 (by decide) (fun c56 => ?_) (fun c56 => ?_)
        · have gc56 := ai_le c56
          have u56t_r38 : r38.toInt ≤ (0 : Int) := Int.le_trans gc56 zq6
          refine lv_lload hx hb dX8_odds_85 (lv_at hl 2 rfl) ?_
          refine lv_lload hx hb dX8_odds_87 (lv_at hl 1 rfl) ?_
          refine lv_lsub hx hb dX8_odds_89 ?_
          refine lv_topl (fun x89 ex89 => ?_)
          refine lv_lload hx hb dX8_odds_90 (lv_at hl 2 rfl) ?_
          refine lv_iload_n hx hb dX8_odds_92 rfl (lv_at hl 8 rfl) ?_
          refine va_calll (va_runS (As := [.long x89, .long 1, .int a3]) (rest := []) ⟨hx, hb, hml, hown, hts⟩ (c_X8_lowest l dC dI H.size x89 1 a3 (by decide)) (va_cwS 3 hts gX8_odds_X8_lowest rfl rfl rfl zd_X8_lowest.2 ⟨Nat.le_of_ble_eq_true rfl, Nat.le_of_ble_eq_true rfl⟩) ⟨ax_blind (fun _ _ _ _ _ => trivial), ax_pre (zp_P0 hP) (zp_K hK) (zp_D0 hD) (fun _ _ => trivial)⟩ rfl rfl hl.1 rfl (lv_room (Nat.le_of_ble_eq_true rfl)) dX8_odds_93 ⟨Nat.le_of_ble_eq_true rfl, Nat.le_of_ble_eq_true rfl⟩) hS (fun q _ h => zp_F0 hD hS hA q h) (zp_F0 hD hS hA) (fun r93 u t H locs ht hvm hw hB hz1 hk1 hS1 => zo0 hB ht hP hD hk1 (zp_F0 hD hS hA) hS1 (fun hP hK1 hD hS => ?_))
          exact W.lret (v := r93) hx hb hr (fun t ht hW => ⟨⟨r93, (), rfl, trivial, v1na0_0, v1na0_11, v38na0_30, v38na0_31, v38nfa0_29, bv38nfa0_29, by rw [ht]; exact hP, va_K.moved hW.alike hK, hD⟩, hS.F ht⟩) hS.2.2 dX8_odds_96
        · have gc56 := ai_nle c56
          have l56f_r38 : (1 : Int) ≤ r38.toInt := ai_ltlo gc56 zq5
          refine lv_lload hx hb dX8_odds_59 (lv_at hl 2 rfl) ?_
          refine lv_ldc2 (v := 100) hx hb hown (hts (.constantLong RX8 368 (100)) (zm_X8_odds_r1 (List.mem_of_getElem? (i := 0) rfl))) dX8_odds_61 ?_
          refine lv_lmul hx hb dX8_odds_64 ?_
          refine ax_tv (.long 100) (by decide +kernel) ?_
          refine lv_lstore (lv' := [(6, .long 100), (10, .int 0), (8, .long 1), (5, .int r38), (4, .int 0), (0, .ref a0), (1, .int a1), (2, .int a2), (3, .int a3)]) hx hb dX8_odds_65 hl (by decide) rfl (fun ls hl => ?_)
          refine lv_lload hx hb dX8_odds_67 (lv_at hl 2 rfl) ?_
          refine lv_aload_n hx hb dX8_odds_69 rfl (lv_at hl 5 rfl) ?_
          refine va_get (D := (dC, dI)) (ci := 8) (v := .ref a0_15) (C := RX8) (T := TX8) (N := 40) hx hb hts zi_X8_odds_8 hown hK hP 0 rfl rfl 15 (by decide) (hts (.fieldLink RX8 20 "WaxTurnsModel" "\x72" "[I") (zm_X8_odds_r1 (List.mem_of_getElem? (i := 1) rfl))) (fun _ h9 => h9) rfl dX8_odds_70 ?_
          refine lv_iconst (v := 3) hx hb dX8_odds_73 zk_iconst_3 ?_
          refine va_iald hx hb hK hP 1 0 rfl rfl (by unfold vp_in; decide +kernel) dX8_odds_74 ?_
          refine lv_topi (fun x74 ex74 => ?_)
          have bx74 : (0 : Int) ≤ x74.toInt ∧ x74.toInt ≤ 100 := by rw [ex74]; exact ai_rd bfa0_15.2.2.2.1 zq8 zq9 (by decide) (by decide) (by decide)
          obtain ⟨x75, ex75⟩ : ∃ y : Int64, y = (x74 : Int32).toInt64 := ⟨_, rfl⟩
          refine lv_i2l (v := x75) hx hb dX8_odds_75 ex75.symm ?_
          refine lv_lmul hx hb dX8_odds_76 ?_
          refine lv_topl (fun x76 ex76 => ?_)
          refine lv_lstore (lv' := [(8, .long x76), (6, .long 100), (10, .int 0), (5, .int r38), (4, .int 0), (0, .ref a0), (1, .int a1), (2, .int a2), (3, .int a3)]) hx hb dX8_odds_77 hl (by decide) rfl (fun ls hl => ?_)
          refine lv_iinc (v := 1) (lv' := [(10, .int 1), (8, .long x76), (6, .long 100), (5, .int r38), (4, .int 0), (0, .ref a0), (1, .int a1), (2, .int a2), (3, .int a3)]) hx hb dX8_odds_79 hl (k := 2) rfl (by decide +kernel) (by decide) rfl (fun ls hl => ?_)
          refine lv_goto (tgt := 52) hx hb dX8_odds_82 (by decide) ?_
          refine lv_iload hx hb dX8_odds_52 (lv_at hl 0 rfl) ?_
          refine lv_iload hx hb dX8_odds_54 (lv_at hl 3 rfl) ?_
          refine lv_icmp_ge (tgt := 85) hx hb dX8_odds_56 (by decide) (fun c56 => ?_) (fun c56 => ?_)
          · have gc56 := ai_le c56
            have u56t_r38 : r38.toInt ≤ (1 : Int) := Int.le_trans gc56 zq0
            refine lv_lload hx hb dX8_odds_85 (lv_at hl 2 rfl) ?_
            refine lv_lload hx hb dX8_odds_87 (lv_at hl 1 rfl) ?_
            refine lv_lsub hx hb dX8_odds_89 ?_
            refine lv_topl (fun x89 ex89 => ?_)
            refine lv_lload hx hb dX8_odds_90 (lv_at hl 2 rfl) ?_
            refine lv_iload_n hx hb dX8_odds_92 rfl (lv_at hl 8 rfl) ?_
            refine va_calll (va_runS (As := [.long x89, .long 100, .int a3]) (rest := []) ⟨hx, hb, hml, hown, hts⟩ (c_X8_lowest l dC dI H.size x89 100 a3 (by decide)) (va_cwS 3 hts gX8_odds_X8_lowest rfl rfl rfl zd_X8_lowest.2 ⟨Nat.le_of_ble_eq_true rfl, Nat.le_of_ble_eq_true rfl⟩) ⟨ax_blind (fun _ _ _ _ _ => trivial), ax_pre (zp_P0 hP) (zp_K hK) (zp_D0 hD) (fun _ _ => trivial)⟩ rfl rfl hl.1 rfl (lv_room (Nat.le_of_ble_eq_true rfl)) dX8_odds_93 ⟨Nat.le_of_ble_eq_true rfl, Nat.le_of_ble_eq_true rfl⟩) hS (fun q _ h => zp_F0 hD hS hA q h) (zp_F0 hD hS hA) (fun r93 u t H locs ht hvm hw hB hz1 hk1 hS1 => zo0 hB ht hP hD hk1 (zp_F0 hD hS hA) hS1 (fun hP hK1 hD hS => ?_))
            exact W.lret (v := r93) hx hb hr (fun t ht hW => ⟨⟨r93, (), rfl, trivial, v1na0_0, v1na0_11, v38na0_30, v38na0_31, v38nfa0_29, bv38nfa0_29, by rw [ht]; exact hP, va_K.moved hW.alike hK, hD⟩, hS.F ht⟩) hS.2.2 dX8_odds_96
          · have gc56 := ai_nle c56
            have l56f_r38 : (2 : Int) ≤ r38.toInt := ai_ltlo gc56 zq1
            refine lv_lload hx hb dX8_odds_59 (lv_at hl 2 rfl) ?_
            refine lv_ldc2 (v := 100) hx hb hown (hts (.constantLong RX8 368 (100)) (zm_X8_odds_r1 (List.mem_of_getElem? (i := 0) rfl))) dX8_odds_61 ?_
            refine lv_lmul hx hb dX8_odds_64 ?_
            refine ax_tv (.long 10000) (by decide +kernel) ?_
            refine lv_lstore (lv' := [(6, .long 10000), (10, .int 1), (8, .long x76), (5, .int r38), (4, .int 0), (0, .ref a0), (1, .int a1), (2, .int a2), (3, .int a3)]) hx hb dX8_odds_65 hl (by decide) rfl (fun ls hl => ?_)
            refine lv_lload hx hb dX8_odds_67 (lv_at hl 2 rfl) ?_
            refine lv_aload_n hx hb dX8_odds_69 rfl (lv_at hl 5 rfl) ?_
            refine va_get (D := (dC, dI)) (ci := 8) (v := .ref a0_15) (C := RX8) (T := TX8) (N := 40) hx hb hts zi_X8_odds_8 hown hK hP 0 rfl rfl 15 (by decide) (hts (.fieldLink RX8 20 "WaxTurnsModel" "\x72" "[I") (zm_X8_odds_r1 (List.mem_of_getElem? (i := 1) rfl))) (fun _ h9 => h9) rfl dX8_odds_70 ?_
            refine lv_iconst (v := 3) hx hb dX8_odds_73 zk_iconst_3 ?_
            refine va_iald hx hb hK hP 1 0 rfl rfl (by unfold vp_in; decide +kernel) dX8_odds_74 ?_
            refine ax_ti x74 ex74.symm ?_
            obtain ⟨x75v2, ex75v2⟩ : ∃ y : Int64, y = (x74 : Int32).toInt64 := ⟨_, rfl⟩
            refine lv_i2l (v := x75v2) hx hb dX8_odds_75 ex75v2.symm ?_
            refine lv_lmul hx hb dX8_odds_76 ?_
            refine lv_topl (fun x76v2 ex76v2 => ?_)
            refine lv_lstore (lv' := [(8, .long x76v2), (6, .long 10000), (10, .int 1), (5, .int r38), (4, .int 0), (0, .ref a0), (1, .int a1), (2, .int a2), (3, .int a3)]) hx hb dX8_odds_77 hl (by decide) rfl (fun ls hl => ?_)
            refine lv_iinc (v := 2) (lv' := [(10, .int 2), (8, .long x76v2), (6, .long 10000), (5, .int r38), (4, .int 0), (0, .ref a0), (1, .int a1), (2, .int a2), (3, .int a3)]) hx hb dX8_odds_79 hl (k := 2) rfl (by decide +kernel) (by decide) rfl (fun ls hl => ?_)
            refine lv_goto (tgt := 52) hx hb dX8_odds_82 (by decide) ?_
            refine lv_iload hx hb dX8_odds_52 (lv_at hl 0 rfl) ?_
            refine lv_iload hx hb dX8_odds_54 (lv_at hl 3 rfl) ?_
            refine lv_icmp_ge (tgt := 85) hx hb dX8_odds_56 (by decide) (fun c56 => ?_) (fun c56 => ?_)
            · have gc56 := ai_le c56
              have u56t_r38 : r38.toInt ≤ (2 : Int) := Int.le_trans gc56 zq13
              refine lv_lload hx hb dX8_odds_85 (lv_at hl 2 rfl) ?_
              refine lv_lload hx hb dX8_odds_87 (lv_at hl 1 rfl) ?_
              refine lv_lsub hx hb dX8_odds_89 ?_
              refine lv_topl (fun x89 ex89 => ?_)
              refine lv_lload hx hb dX8_odds_90 (lv_at hl 2 rfl) ?_
              refine lv_iload_n hx hb dX8_odds_92 rfl (lv_at hl 8 rfl) ?_
              refine va_calll (va_runS (As := [.long x89, .long 10000, .int a3]) (rest := []) ⟨hx, hb, hml, hown, hts⟩ (c_X8_lowest l dC dI H.size x89 10000 a3 (by decide)) (va_cwS 3 hts gX8_odds_X8_lowest rfl rfl rfl zd_X8_lowest.2 ⟨Nat.le_of_ble_eq_true rfl, Nat.le_of_ble_eq_true rfl⟩) ⟨ax_blind (fun _ _ _ _ _ => trivial), ax_pre (zp_P0 hP) (zp_K hK) (zp_D0 hD) (fun _ _ => trivial)⟩ rfl rfl hl.1 rfl (lv_room (Nat.le_of_ble_eq_true rfl)) dX8_odds_93 ⟨Nat.le_of_ble_eq_true rfl, Nat.le_of_ble_eq_true rfl⟩) hS (fun q _ h => zp_F0 hD hS hA q h) (zp_F0 hD hS hA) (fun r93 u t H locs ht hvm hw hB hz1 hk1 hS1 => zo0 hB ht hP hD hk1 (zp_F0 hD hS hA) hS1 (fun hP hK1 hD hS => ?_))
              exact W.lret (v := r93) hx hb hr (fun t ht hW => ⟨⟨r93, (), rfl, trivial, v1na0_0, v1na0_11, v38na0_30, v38na0_31, v38nfa0_29, bv38nfa0_29, by rw [ht]; exact hP, va_K.moved hW.alike hK, hD⟩, hS.F ht⟩) hS.2.2 dX8_odds_96
            · have gc56 := ai_nle c56
              have l56f_r38 : (3 : Int) ≤ r38.toInt := ai_ltlo gc56 zq12
              refine lv_lload hx hb dX8_odds_59 (lv_at hl 2 rfl) ?_
              refine lv_ldc2 (v := 100) hx hb hown (hts (.constantLong RX8 368 (100)) (zm_X8_odds_r1 (List.mem_of_getElem? (i := 0) rfl))) dX8_odds_61 ?_
              refine lv_lmul hx hb dX8_odds_64 ?_
              refine ax_tv (.long 1000000) (by decide +kernel) ?_
              refine lv_lstore (lv' := [(6, .long 1000000), (10, .int 2), (8, .long x76v2), (5, .int r38), (4, .int 0), (0, .ref a0), (1, .int a1), (2, .int a2), (3, .int a3)]) hx hb dX8_odds_65 hl (by decide) rfl (fun ls hl => ?_)
              refine lv_lload hx hb dX8_odds_67 (lv_at hl 2 rfl) ?_
              refine lv_aload_n hx hb dX8_odds_69 rfl (lv_at hl 5 rfl) ?_
              refine va_get (D := (dC, dI)) (ci := 8) (v := .ref a0_15) (C := RX8) (T := TX8) (N := 40) hx hb hts zi_X8_odds_8 hown hK hP 0 rfl rfl 15 (by decide) (hts (.fieldLink RX8 20 "WaxTurnsModel" "\x72" "[I") (zm_X8_odds_r1 (List.mem_of_getElem? (i := 1) rfl))) (fun _ h9 => h9) rfl dX8_odds_70 ?_
              refine lv_iconst (v := 3) hx hb dX8_odds_73 zk_iconst_3 ?_
              refine va_iald hx hb hK hP 1 0 rfl rfl (by unfold vp_in; decide +kernel) dX8_odds_74 ?_
              refine ax_ti x74 ex74.symm ?_
              obtain ⟨x75v3, ex75v3⟩ : ∃ y : Int64, y = (x74 : Int32).toInt64 := ⟨_, rfl⟩
              refine lv_i2l (v := x75v3) hx hb dX8_odds_75 ex75v3.symm ?_
              refine lv_lmul hx hb dX8_odds_76 ?_
              refine lv_topl (fun x76v3 ex76v3 => ?_)
              refine lv_lstore (lv' := [(8, .long x76v3), (6, .long 1000000), (10, .int 2), (5, .int r38), (4, .int 0), (0, .ref a0), (1, .int a1), (2, .int a2), (3, .int a3)]) hx hb dX8_odds_77 hl (by decide) rfl (fun ls hl => ?_)
              refine lv_iinc (v := 3) (lv' := [(10, .int 3), (8, .long x76v3), (6, .long 1000000), (5, .int r38), (4, .int 0), (0, .ref a0), (1, .int a1), (2, .int a2), (3, .int a3)]) hx hb dX8_odds_79 hl (k := 2) rfl (by decide +kernel) (by decide) rfl (fun ls hl => ?_)
              refine lv_goto (tgt := 52) hx hb dX8_odds_82 (by decide) ?_
              refine lv_iload hx hb dX8_odds_52 (lv_at hl 0 rfl) ?_
              refine lv_iload hx hb dX8_odds_54 (lv_at hl 3 rfl) ?_
              refine lv_icmp_ge (tgt := 85) hx hb dX8_odds_56 (by decide) (fun c56 => ?_) (fun c56 => ?_)
              · have gc56 := ai_le c56
                have u56t_r38 : r38.toInt ≤ (3 : Int) := Int.le_trans gc56 zq9
                refine lv_lload hx hb dX8_odds_85 (lv_at hl 2 rfl) ?_
                refine lv_lload hx hb dX8_odds_87 (lv_at hl 1 rfl) ?_
                refine lv_lsub hx hb dX8_odds_89 ?_
                refine lv_topl (fun x89 ex89 => ?_)
                refine lv_lload hx hb dX8_odds_90 (lv_at hl 2 rfl) ?_
                refine lv_iload_n hx hb dX8_odds_92 rfl (lv_at hl 8 rfl) ?_
                refine va_calll (va_runS (As := [.long x89, .long 1000000, .int a3]) (rest := []) ⟨hx, hb, hml, hown, hts⟩ (c_X8_lowest l dC dI H.size x89 1000000 a3 (by decide)) (va_cwS 3 hts gX8_odds_X8_lowest rfl rfl rfl zd_X8_lowest.2 ⟨Nat.le_of_ble_eq_true rfl, Nat.le_of_ble_eq_true rfl⟩) ⟨ax_blind (fun _ _ _ _ _ => trivial), ax_pre (zp_P0 hP) (zp_K hK) (zp_D0 hD) (fun _ _ => trivial)⟩ rfl rfl hl.1 rfl (lv_room (Nat.le_of_ble_eq_true rfl)) dX8_odds_93 ⟨Nat.le_of_ble_eq_true rfl, Nat.le_of_ble_eq_true rfl⟩) hS (fun q _ h => zp_F0 hD hS hA q h) (zp_F0 hD hS hA) (fun r93 u t H locs ht hvm hw hB hz1 hk1 hS1 => zo0 hB ht hP hD hk1 (zp_F0 hD hS hA) hS1 (fun hP hK1 hD hS => ?_))
                exact W.lret (v := r93) hx hb hr (fun t ht hW => ⟨⟨r93, (), rfl, trivial, v1na0_0, v1na0_11, v38na0_30, v38na0_31, v38nfa0_29, bv38nfa0_29, by rw [ht]; exact hP, va_K.moved hW.alike hK, hD⟩, hS.F ht⟩) hS.2.2 dX8_odds_96
              · have gc56 := ai_nle c56
                have l56f_r38 : (4 : Int) ≤ r38.toInt := ai_ltlo gc56 zq8
                refine lv_lload hx hb dX8_odds_59 (lv_at hl 2 rfl) ?_
                refine lv_ldc2 (v := 100) hx hb hown (hts (.constantLong RX8 368 (100)) (zm_X8_odds_r1 (List.mem_of_getElem? (i := 0) rfl))) dX8_odds_61 ?_
                refine lv_lmul hx hb dX8_odds_64 ?_
                refine ax_tv (.long 100000000) (by decide +kernel) ?_
                refine lv_lstore (lv' := [(6, .long 100000000), (10, .int 3), (8, .long x76v3), (5, .int r38), (4, .int 0), (0, .ref a0), (1, .int a1), (2, .int a2), (3, .int a3)]) hx hb dX8_odds_65 hl (by decide) rfl (fun ls hl => ?_)
                refine lv_lload hx hb dX8_odds_67 (lv_at hl 2 rfl) ?_
                refine lv_aload_n hx hb dX8_odds_69 rfl (lv_at hl 5 rfl) ?_
                refine va_get (D := (dC, dI)) (ci := 8) (v := .ref a0_15) (C := RX8) (T := TX8) (N := 40) hx hb hts zi_X8_odds_8 hown hK hP 0 rfl rfl 15 (by decide) (hts (.fieldLink RX8 20 "WaxTurnsModel" "\x72" "[I") (zm_X8_odds_r1 (List.mem_of_getElem? (i := 1) rfl))) (fun _ h9 => h9) rfl dX8_odds_70 ?_
                refine lv_iconst (v := 3) hx hb dX8_odds_73 zk_iconst_3 ?_
                refine va_iald hx hb hK hP 1 0 rfl rfl (by unfold vp_in; decide +kernel) dX8_odds_74 ?_
                refine ax_ti x74 ex74.symm ?_
                obtain ⟨x75v4, ex75v4⟩ : ∃ y : Int64, y = (x74 : Int32).toInt64 := ⟨_, rfl⟩
                refine lv_i2l (v := x75v4) hx hb dX8_odds_75 ex75v4.symm ?_
                refine lv_lmul hx hb dX8_odds_76 ?_
                refine lv_topl (fun x76v4 ex76v4 => ?_)
                refine lv_lstore (lv' := [(8, .long x76v4), (6, .long 100000000), (10, .int 3), (5, .int r38), (4, .int 0), (0, .ref a0), (1, .int a1), (2, .int a2), (3, .int a3)]) hx hb dX8_odds_77 hl (by decide) rfl (fun ls hl => ?_)
                refine lv_iinc (v := 4) (lv' := [(10, .int 4), (8, .long x76v4), (6, .long 100000000), (5, .int r38), (4, .int 0), (0, .ref a0), (1, .int a1), (2, .int a2), (3, .int a3)]) hx hb dX8_odds_79 hl (k := 2) rfl (by decide +kernel) (by decide) rfl (fun ls hl => ?_)
                refine lv_goto (tgt := 52) hx hb dX8_odds_82 (by decide) ?_
                refine lv_iload hx hb dX8_odds_52 (lv_at hl 0 rfl) ?_
                refine lv_iload hx hb dX8_odds_54 (lv_at hl 3 rfl) ?_
                refine lv_icmp_ge (tgt := 85) hx hb dX8_odds_56 (by decide) (fun c56 => ?_) (fun c56 => ?_)
                · have gc56 := ai_le c56
                  have u56t_r38 : r38.toInt ≤ (4 : Int) := Int.le_trans gc56 zq67
                  refine lv_lload hx hb dX8_odds_85 (lv_at hl 2 rfl) ?_
                  refine lv_lload hx hb dX8_odds_87 (lv_at hl 1 rfl) ?_
                  refine lv_lsub hx hb dX8_odds_89 ?_
                  refine lv_topl (fun x89 ex89 => ?_)
                  refine lv_lload hx hb dX8_odds_90 (lv_at hl 2 rfl) ?_
                  refine lv_iload_n hx hb dX8_odds_92 rfl (lv_at hl 8 rfl) ?_
                  refine va_calll (va_runS (As := [.long x89, .long 100000000, .int a3]) (rest := []) ⟨hx, hb, hml, hown, hts⟩ (c_X8_lowest l dC dI H.size x89 100000000 a3 (by decide)) (va_cwS 3 hts gX8_odds_X8_lowest rfl rfl rfl zd_X8_lowest.2 ⟨Nat.le_of_ble_eq_true rfl, Nat.le_of_ble_eq_true rfl⟩) ⟨ax_blind (fun _ _ _ _ _ => trivial), ax_pre (zp_P0 hP) (zp_K hK) (zp_D0 hD) (fun _ _ => trivial)⟩ rfl rfl hl.1 rfl (lv_room (Nat.le_of_ble_eq_true rfl)) dX8_odds_93 ⟨Nat.le_of_ble_eq_true rfl, Nat.le_of_ble_eq_true rfl⟩) hS (fun q _ h => zp_F0 hD hS hA q h) (zp_F0 hD hS hA) (fun r93 u t H locs ht hvm hw hB hz1 hk1 hS1 => zo0 hB ht hP hD hk1 (zp_F0 hD hS hA) hS1 (fun hP hK1 hD hS => ?_))
                  exact W.lret (v := r93) hx hb hr (fun t ht hW => ⟨⟨r93, (), rfl, trivial, v1na0_0, v1na0_11, v38na0_30, v38na0_31, v38nfa0_29, bv38nfa0_29, by rw [ht]; exact hP, va_K.moved hW.alike hK, hD⟩, hS.F ht⟩) hS.2.2 dX8_odds_96
                · have gc56 := ai_nle c56
                  have l56f_r38 : (5 : Int) ≤ r38.toInt := ai_ltlo gc56 zq68
                  refine lv_lload hx hb dX8_odds_59 (lv_at hl 2 rfl) ?_
                  refine lv_ldc2 (v := 100) hx hb hown (hts (.constantLong RX8 368 (100)) (zm_X8_odds_r1 (List.mem_of_getElem? (i := 0) rfl))) dX8_odds_61 ?_
                  refine lv_lmul hx hb dX8_odds_64 ?_
                  refine ax_tv (.long 10000000000) (by decide +kernel) ?_
                  refine lv_lstore (lv' := [(6, .long 10000000000), (10, .int 4), (8, .long x76v4), (5, .int r38), (4, .int 0), (0, .ref a0), (1, .int a1), (2, .int a2), (3, .int a3)]) hx hb dX8_odds_65 hl (by decide) rfl (fun ls hl => ?_)
                  refine lv_lload hx hb dX8_odds_67 (lv_at hl 2 rfl) ?_
                  refine lv_aload_n hx hb dX8_odds_69 rfl (lv_at hl 5 rfl) ?_
                  refine va_get (D := (dC, dI)) (ci := 8) (v := .ref a0_15) (C := RX8) (T := TX8) (N := 40) hx hb hts zi_X8_odds_8 hown hK hP 0 rfl rfl 15 (by decide) (hts (.fieldLink RX8 20 "WaxTurnsModel" "\x72" "[I") (zm_X8_odds_r1 (List.mem_of_getElem? (i := 1) rfl))) (fun _ h9 => h9) rfl dX8_odds_70 ?_
                  refine lv_iconst (v := 3) hx hb dX8_odds_73 zk_iconst_3 ?_
                  refine va_iald hx hb hK hP 1 0 rfl rfl (by unfold vp_in; decide +kernel) dX8_odds_74 ?_
                  refine ax_ti x74 ex74.symm ?_
                  obtain ⟨x75v5, ex75v5⟩ : ∃ y : Int64, y = (x74 : Int32).toInt64 := ⟨_, rfl⟩
                  refine lv_i2l (v := x75v5) hx hb dX8_odds_75 ex75v5.symm ?_
                  refine lv_lmul hx hb dX8_odds_76 ?_
                  refine lv_topl (fun x76v5 ex76v5 => ?_)
                  refine lv_lstore (lv' := [(8, .long x76v5), (6, .long 10000000000), (10, .int 4), (5, .int r38), (4, .int 0), (0, .ref a0), (1, .int a1), (2, .int a2), (3, .int a3)]) hx hb dX8_odds_77 hl (by decide) rfl (fun ls hl => ?_)
                  refine lv_iinc (v := 5) (lv' := [(10, .int 5), (8, .long x76v5), (6, .long 10000000000), (5, .int r38), (4, .int 0), (0, .ref a0), (1, .int a1), (2, .int a2), (3, .int a3)]) hx hb dX8_odds_79 hl (k := 2) rfl (by decide +kernel) (by decide) rfl (fun ls hl => ?_)
                  refine lv_goto (tgt := 52) hx hb dX8_odds_82 (by decide) ?_
                  refine lv_iload hx hb dX8_odds_52 (lv_at hl 0 rfl) ?_
                  refine lv_iload hx hb dX8_odds_54 (lv_at hl 3 rfl) ?_
                  refine lv_icmp_ge (tgt := 85) hx hb dX8_odds_56 (by decide) (fun c56 => ?_) (fun c56 => ?_)
                  · have gc56 := ai_le c56
                    have u56t_r38 : r38.toInt ≤ (5 : Int) := Int.le_trans gc56 zq113
                    refine lv_lload hx hb dX8_odds_85 (lv_at hl 2 rfl) ?_
                    refine lv_lload hx hb dX8_odds_87 (lv_at hl 1 rfl) ?_
                    refine lv_lsub hx hb dX8_odds_89 ?_
                    refine lv_topl (fun x89 ex89 => ?_)
                    refine lv_lload hx hb dX8_odds_90 (lv_at hl 2 rfl) ?_
                    refine lv_iload_n hx hb dX8_odds_92 rfl (lv_at hl 8 rfl) ?_
                    refine va_calll (va_runS (As := [.long x89, .long 10000000000, .int a3]) (rest := []) ⟨hx, hb, hml, hown, hts⟩ (c_X8_lowest l dC dI H.size x89 10000000000 a3 (by decide)) (va_cwS 3 hts gX8_odds_X8_lowest rfl rfl rfl zd_X8_lowest.2 ⟨Nat.le_of_ble_eq_true rfl, Nat.le_of_ble_eq_true rfl⟩) ⟨ax_blind (fun _ _ _ _ _ => trivial), ax_pre (zp_P0 hP) (zp_K hK) (zp_D0 hD) (fun _ _ => trivial)⟩ rfl rfl hl.1 rfl (lv_room (Nat.le_of_ble_eq_true rfl)) dX8_odds_93 ⟨Nat.le_of_ble_eq_true rfl, Nat.le_of_ble_eq_true rfl⟩) hS (fun q _ h => zp_F0 hD hS hA q h) (zp_F0 hD hS hA) (fun r93 u t H locs ht hvm hw hB hz1 hk1 hS1 => zo0 hB ht hP hD hk1 (zp_F0 hD hS hA) hS1 (fun hP hK1 hD hS => ?_))
                    exact W.lret (v := r93) hx hb hr (fun t ht hW => ⟨⟨r93, (), rfl, trivial, v1na0_0, v1na0_11, v38na0_30, v38na0_31, v38nfa0_29, bv38nfa0_29, by rw [ht]; exact hP, va_K.moved hW.alike hK, hD⟩, hS.F ht⟩) hS.2.2 dX8_odds_96
                  · have gc56 := ai_nle c56
                    have l56f_r38 : (6 : Int) ≤ r38.toInt := ai_ltlo gc56 zq112
                    refine lv_lload hx hb dX8_odds_59 (lv_at hl 2 rfl) ?_
                    refine lv_ldc2 (v := 100) hx hb hown (hts (.constantLong RX8 368 (100)) (zm_X8_odds_r1 (List.mem_of_getElem? (i := 0) rfl))) dX8_odds_61 ?_
                    refine lv_lmul hx hb dX8_odds_64 ?_
                    refine ax_tv (.long 1000000000000) (by decide +kernel) ?_
                    refine lv_lstore (lv' := [(6, .long 1000000000000), (10, .int 5), (8, .long x76v5), (5, .int r38), (4, .int 0), (0, .ref a0), (1, .int a1), (2, .int a2), (3, .int a3)]) hx hb dX8_odds_65 hl (by decide) rfl (fun ls hl => ?_)
                    refine lv_lload hx hb dX8_odds_67 (lv_at hl 2 rfl) ?_
                    refine lv_aload_n hx hb dX8_odds_69 rfl (lv_at hl 5 rfl) ?_
                    refine va_get (D := (dC, dI)) (ci := 8) (v := .ref a0_15) (C := RX8) (T := TX8) (N := 40) hx hb hts zi_X8_odds_8 hown hK hP 0 rfl rfl 15 (by decide) (hts (.fieldLink RX8 20 "WaxTurnsModel" "\x72" "[I") (zm_X8_odds_r1 (List.mem_of_getElem? (i := 1) rfl))) (fun _ h9 => h9) rfl dX8_odds_70 ?_
                    refine lv_iconst (v := 3) hx hb dX8_odds_73 zk_iconst_3 ?_
                    refine va_iald hx hb hK hP 1 0 rfl rfl (by unfold vp_in; decide +kernel) dX8_odds_74 ?_
                    refine ax_ti x74 ex74.symm ?_
                    obtain ⟨x75v6, ex75v6⟩ : ∃ y : Int64, y = (x74 : Int32).toInt64 := ⟨_, rfl⟩
                    refine lv_i2l (v := x75v6) hx hb dX8_odds_75 ex75v6.symm ?_
                    refine lv_lmul hx hb dX8_odds_76 ?_
                    refine lv_topl (fun x76v6 ex76v6 => ?_)
                    refine lv_lstore (lv' := [(8, .long x76v6), (6, .long 1000000000000), (10, .int 5), (5, .int r38), (4, .int 0), (0, .ref a0), (1, .int a1), (2, .int a2), (3, .int a3)]) hx hb dX8_odds_77 hl (by decide) rfl (fun ls hl => ?_)
                    refine lv_iinc (v := 6) (lv' := [(10, .int 6), (8, .long x76v6), (6, .long 1000000000000), (5, .int r38), (4, .int 0), (0, .ref a0), (1, .int a1), (2, .int a2), (3, .int a3)]) hx hb dX8_odds_79 hl (k := 2) rfl (by decide +kernel) (by decide) rfl (fun ls hl => ?_)
                    refine lv_goto (tgt := 52) hx hb dX8_odds_82 (by decide) ?_
                    refine lv_iload hx hb dX8_odds_52 (lv_at hl 0 rfl) ?_
                    refine lv_iload hx hb dX8_odds_54 (lv_at hl 3 rfl) ?_
                    refine lv_icmp_ge (tgt := 85) hx hb dX8_odds_56 (by decide) (fun c56 => ?_) (fun c56 => ?_)
                    · have gc56 := ai_le c56
                      have u56t_r38 : r38.toInt ≤ (6 : Int) := Int.le_trans gc56 zq16
                      refine lv_lload hx hb dX8_odds_85 (lv_at hl 2 rfl) ?_
                      refine lv_lload hx hb dX8_odds_87 (lv_at hl 1 rfl) ?_
                      refine lv_lsub hx hb dX8_odds_89 ?_
                      refine lv_topl (fun x89 ex89 => ?_)
                      refine lv_lload hx hb dX8_odds_90 (lv_at hl 2 rfl) ?_
                      refine lv_iload_n hx hb dX8_odds_92 rfl (lv_at hl 8 rfl) ?_
                      refine va_calll (va_runS (As := [.long x89, .long 1000000000000, .int a3]) (rest := []) ⟨hx, hb, hml, hown, hts⟩ (c_X8_lowest l dC dI H.size x89 1000000000000 a3 (by decide)) (va_cwS 3 hts gX8_odds_X8_lowest rfl rfl rfl zd_X8_lowest.2 ⟨Nat.le_of_ble_eq_true rfl, Nat.le_of_ble_eq_true rfl⟩) ⟨ax_blind (fun _ _ _ _ _ => trivial), ax_pre (zp_P0 hP) (zp_K hK) (zp_D0 hD) (fun _ _ => trivial)⟩ rfl rfl hl.1 rfl (lv_room (Nat.le_of_ble_eq_true rfl)) dX8_odds_93 ⟨Nat.le_of_ble_eq_true rfl, Nat.le_of_ble_eq_true rfl⟩) hS (fun q _ h => zp_F0 hD hS hA q h) (zp_F0 hD hS hA) (fun r93 u t H locs ht hvm hw hB hz1 hk1 hS1 => zo0 hB ht hP hD hk1 (zp_F0 hD hS hA) hS1 (fun hP hK1 hD hS => ?_))
                      exact W.lret (v := r93) hx hb hr (fun t ht hW => ⟨⟨r93, (), rfl, trivial, v1na0_0, v1na0_11, v38na0_30, v38na0_31, v38nfa0_29, bv38nfa0_29, by rw [ht]; exact hP, va_K.moved hW.alike hK, hD⟩, hS.F ht⟩) hS.2.2 dX8_odds_96
                    · have gc56 := ai_nle c56
                      have l56f_r38 : (7 : Int) ≤ r38.toInt := ai_ltlo gc56 zq15
                      refine lv_lload hx hb dX8_odds_59 (lv_at hl 2 rfl) ?_
                      refine lv_ldc2 (v := 100) hx hb hown (hts (.constantLong RX8 368 (100)) (zm_X8_odds_r1 (List.mem_of_getElem? (i := 0) rfl))) dX8_odds_61 ?_
                      refine lv_lmul hx hb dX8_odds_64 ?_
                      refine ax_tv (.long 100000000000000) (by decide +kernel) ?_
                      refine lv_lstore (lv' := [(6, .long 100000000000000), (10, .int 6), (8, .long x76v6), (5, .int r38), (4, .int 0), (0, .ref a0), (1, .int a1), (2, .int a2), (3, .int a3)]) hx hb dX8_odds_65 hl (by decide) rfl (fun ls hl => ?_)
                      refine lv_lload hx hb dX8_odds_67 (lv_at hl 2 rfl) ?_
                      refine lv_aload_n hx hb dX8_odds_69 rfl (lv_at hl 5 rfl) ?_
                      refine va_get (D := (dC, dI)) (ci := 8) (v := .ref a0_15) (C := RX8) (T := TX8) (N := 40) hx hb hts zi_X8_odds_8 hown hK hP 0 rfl rfl 15 (by decide) (hts (.fieldLink RX8 20 "WaxTurnsModel" "\x72" "[I") (zm_X8_odds_r1 (List.mem_of_getElem? (i := 1) rfl))) (fun _ h9 => h9) rfl dX8_odds_70 ?_
                      refine lv_iconst (v := 3) hx hb dX8_odds_73 zk_iconst_3 ?_
                      refine va_iald hx hb hK hP 1 0 rfl rfl (by unfold vp_in; decide +kernel) dX8_odds_74 ?_
                      refine ax_ti x74 ex74.symm ?_
                      obtain ⟨x75v7, ex75v7⟩ : ∃ y : Int64, y = (x74 : Int32).toInt64 := ⟨_, rfl⟩
                      refine lv_i2l (v := x75v7) hx hb dX8_odds_75 ex75v7.symm ?_
                      refine lv_lmul hx hb dX8_odds_76 ?_
                      refine lv_topl (fun x76v7 ex76v7 => ?_)
                      refine lv_lstore (lv' := [(8, .long x76v7), (6, .long 100000000000000), (10, .int 6), (5, .int r38), (4, .int 0), (0, .ref a0), (1, .int a1), (2, .int a2), (3, .int a3)]) hx hb dX8_odds_77 hl (by decide) rfl (fun ls hl => ?_)
                      refine lv_iinc (v := 7) (lv' := [(10, .int 7), (8, .long x76v7), (6, .long 100000000000000), (5, .int r38), (4, .int 0), (0, .ref a0), (1, .int a1), (2, .int a2), (3, .int a3)]) hx hb dX8_odds_79 hl (k := 2) rfl (by decide +kernel) (by decide) rfl (fun ls hl => ?_)
                      refine lv_goto (tgt := 52) hx hb dX8_odds_82 (by decide) ?_
                      refine lv_iload hx hb dX8_odds_52 (lv_at hl 0 rfl) ?_
                      refine lv_iload hx hb dX8_odds_54 (lv_at hl 3 rfl) ?_
                      refine lv_icmp_ge (tgt := 85) hx hb dX8_odds_56 (by decide) (fun c56 => ?_) (fun c56 => ?_)
                      · have gc56 := ai_le c56
                        have u56t_r38 : r38.toInt ≤ (7 : Int) := Int.le_trans gc56 zq115
                        refine lv_lload hx hb dX8_odds_85 (lv_at hl 2 rfl) ?_
                        refine lv_lload hx hb dX8_odds_87 (lv_at hl 1 rfl) ?_
                        refine lv_lsub hx hb dX8_odds_89 ?_
                        refine lv_topl (fun x89 ex89 => ?_)
                        refine lv_lload hx hb dX8_odds_90 (lv_at hl 2 rfl) ?_
                        refine lv_iload_n hx hb dX8_odds_92 rfl (lv_at hl 8 rfl) ?_
                        refine va_calll (va_runS (As := [.long x89, .long 100000000000000, .int a3]) (rest := []) ⟨hx, hb, hml, hown, hts⟩ (c_X8_lowest l dC dI H.size x89 100000000000000 a3 (by decide)) (va_cwS 3 hts gX8_odds_X8_lowest rfl rfl rfl zd_X8_lowest.2 ⟨Nat.le_of_ble_eq_true rfl, Nat.le_of_ble_eq_true rfl⟩) ⟨ax_blind (fun _ _ _ _ _ => trivial), ax_pre (zp_P0 hP) (zp_K hK) (zp_D0 hD) (fun _ _ => trivial)⟩ rfl rfl hl.1 rfl (lv_room (Nat.le_of_ble_eq_true rfl)) dX8_odds_93 ⟨Nat.le_of_ble_eq_true rfl, Nat.le_of_ble_eq_true rfl⟩) hS (fun q _ h => zp_F0 hD hS hA q h) (zp_F0 hD hS hA) (fun r93 u t H locs ht hvm hw hB hz1 hk1 hS1 => zo0 hB ht hP hD hk1 (zp_F0 hD hS hA) hS1 (fun hP hK1 hD hS => ?_))
                        exact W.lret (v := r93) hx hb hr (fun t ht hW => ⟨⟨r93, (), rfl, trivial, v1na0_0, v1na0_11, v38na0_30, v38na0_31, v38nfa0_29, bv38nfa0_29, by rw [ht]; exact hP, va_K.moved hW.alike hK, hD⟩, hS.F ht⟩) hS.2.2 dX8_odds_96
                      · have gc56 := ai_nle c56
                        have l56f_r38 : (8 : Int) ≤ r38.toInt := ai_ltlo gc56 zq114
                        refine lv_lload hx hb dX8_odds_59 (lv_at hl 2 rfl) ?_
                        refine lv_ldc2 (v := 100) hx hb hown (hts (.constantLong RX8 368 (100)) (zm_X8_odds_r1 (List.mem_of_getElem? (i := 0) rfl))) dX8_odds_61 ?_
                        refine lv_lmul hx hb dX8_odds_64 ?_
                        refine ax_tv (.long 10000000000000000) (by decide +kernel) ?_
                        refine lv_lstore (lv' := [(6, .long 10000000000000000), (10, .int 7), (8, .long x76v7), (5, .int r38), (4, .int 0), (0, .ref a0), (1, .int a1), (2, .int a2), (3, .int a3)]) hx hb dX8_odds_65 hl (by decide) rfl (fun ls hl => ?_)
                        refine lv_lload hx hb dX8_odds_67 (lv_at hl 2 rfl) ?_
                        refine lv_aload_n hx hb dX8_odds_69 rfl (lv_at hl 5 rfl) ?_
                        refine va_get (D := (dC, dI)) (ci := 8) (v := .ref a0_15) (C := RX8) (T := TX8) (N := 40) hx hb hts zi_X8_odds_8 hown hK hP 0 rfl rfl 15 (by decide) (hts (.fieldLink RX8 20 "WaxTurnsModel" "\x72" "[I") (zm_X8_odds_r1 (List.mem_of_getElem? (i := 1) rfl))) (fun _ h9 => h9) rfl dX8_odds_70 ?_
                        refine lv_iconst (v := 3) hx hb dX8_odds_73 zk_iconst_3 ?_
                        refine va_iald hx hb hK hP 1 0 rfl rfl (by unfold vp_in; decide +kernel) dX8_odds_74 ?_
                        refine ax_ti x74 ex74.symm ?_
                        obtain ⟨x75v8, ex75v8⟩ : ∃ y : Int64, y = (x74 : Int32).toInt64 := ⟨_, rfl⟩
                        refine lv_i2l (v := x75v8) hx hb dX8_odds_75 ex75v8.symm ?_
                        refine lv_lmul hx hb dX8_odds_76 ?_
                        refine lv_topl (fun x76v8 ex76v8 => ?_)
                        refine lv_lstore (lv' := [(8, .long x76v8), (6, .long 10000000000000000), (10, .int 7), (5, .int r38), (4, .int 0), (0, .ref a0), (1, .int a1), (2, .int a2), (3, .int a3)]) hx hb dX8_odds_77 hl (by decide) rfl (fun ls hl => ?_)
                        refine lv_iinc (v := 8) (lv' := [(10, .int 8), (8, .long x76v8), (6, .long 10000000000000000), (5, .int r38), (4, .int 0), (0, .ref a0), (1, .int a1), (2, .int a2), (3, .int a3)]) hx hb dX8_odds_79 hl (k := 2) rfl (by decide +kernel) (by decide) rfl (fun ls hl => ?_)
                        refine lv_goto (tgt := 52) hx hb dX8_odds_82 (by decide) ?_
                        refine lv_iload hx hb dX8_odds_52 (lv_at hl 0 rfl) ?_
                        refine lv_iload hx hb dX8_odds_54 (lv_at hl 3 rfl) ?_
                        refine lv_icmp_ge (tgt := 85) hx hb dX8_odds_56 (by decide) (fun c56 => ?_) (fun c56 => ?_)
                        · have gc56 := ai_le c56
                          have u56t_r38 : r38.toInt ≤ (8 : Int) := h38_1
                          refine lv_lload hx hb dX8_odds_85 (lv_at hl 2 rfl) ?_
                          refine lv_lload hx hb dX8_odds_87 (lv_at hl 1 rfl) ?_
                          refine lv_lsub hx hb dX8_odds_89 ?_
                          refine lv_topl (fun x89 ex89 => ?_)
                          refine lv_lload hx hb dX8_odds_90 (lv_at hl 2 rfl) ?_
                          refine lv_iload_n hx hb dX8_odds_92 rfl (lv_at hl 8 rfl) ?_
                          refine va_calll (va_runS (As := [.long x89, .long 10000000000000000, .int a3]) (rest := []) ⟨hx, hb, hml, hown, hts⟩ (c_X8_lowest l dC dI H.size x89 10000000000000000 a3 (by decide)) (va_cwS 3 hts gX8_odds_X8_lowest rfl rfl rfl zd_X8_lowest.2 ⟨Nat.le_of_ble_eq_true rfl, Nat.le_of_ble_eq_true rfl⟩) ⟨ax_blind (fun _ _ _ _ _ => trivial), ax_pre (zp_P0 hP) (zp_K hK) (zp_D0 hD) (fun _ _ => trivial)⟩ rfl rfl hl.1 rfl (lv_room (Nat.le_of_ble_eq_true rfl)) dX8_odds_93 ⟨Nat.le_of_ble_eq_true rfl, Nat.le_of_ble_eq_true rfl⟩) hS (fun q _ h => zp_F0 hD hS hA q h) (zp_F0 hD hS hA) (fun r93 u t H locs ht hvm hw hB hz1 hk1 hS1 => zo0 hB ht hP hD hk1 (zp_F0 hD hS hA) hS1 (fun hP hK1 hD hS => ?_))
                          exact W.lret (v := r93) hx hb hr (fun t ht hW => ⟨⟨r93, (), rfl, trivial, v1na0_0, v1na0_11, v38na0_30, v38na0_31, v38nfa0_29, bv38nfa0_29, by rw [ht]; exact hP, va_K.moved hW.alike hK, hD⟩, hS.F ht⟩) hS.2.2 dX8_odds_96
                        · have gc56 := ai_nle c56
                          have l56f_r38 : (9 : Int) ≤ r38.toInt := ai_ltlo gc56 zq116
                          exact absurd (Int.le_trans l56f_r38 h38_1) (by decide)
    · obtain ⟨hw, h14⟩ := hw
      subst hw
      refine va_calli (va_runV (As := [.int 1, .int 0]) (rest := []) ⟨hx, hb, hml, hown, hts⟩ (c_X8_whyB l dC dI H.size a0 1 0 (Value.int v1na0_0) a0g_1 a0g_2 a0g_3 a0g_4 a0g_5 a0g_6 a0g_7 a0g_8 a0g_9 a0g_10 (Value.int v1na0_11) a0g_12 a0g_13 (Value.int a0_14) (Value.ref a0_15) a0g_16 (Value.ref a0_17) a0g_18 a0g_19 a0g_20 a0g_21 a0g_22 a0g_23 a0g_24 a0g_25 a0g_26 a0g_27 a0g_28 (Value.ref a0_29) (Value.int a0_30) (Value.int a0_31) a0g_32 a0g_33 a0g_34 a0g_35 a0g_36 a0g_37 a0g_38 a0g_39 (Int.le_trans zq4 zq1) zq0 zq5 (Int.le_trans zq6 zq4)) (cwV 2 hts gX8_odds_X8_why rfl rfl rfl zd_X8_why ⟨Nat.le_of_ble_eq_true rfl, Nat.le_of_ble_eq_true rfl⟩) ⟨ax_blind (fun _ _ _ _ _ => trivial), zr_8 (zp_K hK) (zp_P1 hP) (q0 := 0) rfl, ax_pre (zp_P1 hP) (zp_K hK) (zp_D1 hD) (fun _ _ => trivial)⟩ rfl rfl hl.1 rfl (lv_room (Nat.le_of_ble_eq_true rfl)) dX8_odds_17 ⟨Nat.le_of_ble_eq_true rfl, Nat.le_of_ble_eq_true rfl⟩) hS (fun q _ h => zp_F1 hD hS hA q h) (zp_F1 hD hS hA) (fun r17 u t H locs ht hvm hw hB hz1 hk1 hS1 => zo1 hB ht hP hD hk1 (zp_F1 hD hS hA) hS1 (fun hP hK1 hD hS => ?_))
      rcases hw with hw | hw | hw
      · obtain ⟨hw, h17_0, h17_1, h17_2, h17_3⟩ := hw
        subst hw
        refine lv_istore (lv' := [(4, .int 2), (0, .ref a0), (1, .int a1), (2, .int a2), (3, .int a3)]) hx hb dX8_odds_20 hl (by decide) rfl (fun ls hl => ?_)
        refine lv_iload hx hb dX8_odds_22 (lv_at hl 0 rfl) ?_
        refine lv_if_eq (tgt := 35) hx hb dX8_odds_24 (by decide) (fun c24 => absurd c24 (by decide +kernel)) (fun _ => ?_)
        refine lv_aload_n hx hb dX8_odds_27 rfl (lv_at hl 1 rfl) ?_
        refine lv_iload hx hb dX8_odds_28 (lv_at hl 0 rfl) ?_
        refine va_calli (va_runV (As := [.int 2]) (rest := []) ⟨hx, hb, hml, hown, hts⟩ (c_X8_no l dC dI H.size a0 2 (Value.int v1na0_0) a0g_1 a0g_2 a0g_3 a0g_4 a0g_5 a0g_6 a0g_7 a0g_8 a0g_9 a0g_10 a0g_12 a0g_13 (Value.int a0_14) (Value.ref a0_15) a0g_16 (Value.ref a0_17) a0g_18 a0g_19 a0g_20 a0g_21 a0g_22 a0g_23 a0g_24 a0g_25 a0g_26 a0g_27 a0g_28 (Value.ref a0_29) (Value.int a0_30) (Value.int a0_31) a0g_32 a0g_33 a0g_34 a0g_35 a0g_36 a0g_37 a0g_38 a0g_39 v1na0_11 ) (cwV 1 hts gX8_odds_X8_no rfl rfl rfl zd_X8_no ⟨Nat.le_of_ble_eq_true rfl, Nat.le_of_ble_eq_true rfl⟩) ⟨ax_blind (fun _ _ _ _ _ => trivial), zr_8 (zp_K hK) (zp_P1 hP) (q0 := 0) rfl, ax_pre (zp_P1 hP) (zp_K hK) (zp_D1 hD) (fun _ _ => trivial)⟩ rfl rfl hl.1 rfl (lv_room (Nat.le_of_ble_eq_true rfl)) dX8_odds_30 ⟨Nat.le_of_ble_eq_true rfl, Nat.le_of_ble_eq_true rfl⟩) hS (fun q _ h => zp_F1 hD hS hA q h) (zp_F1 hD hS hA) (fun r30 u t H locs ht hvm hw => zx_1 (fun v30na0_11 hB hz1 hk1 hS1 => zo1 hB ht hP hD hk1 (zp_F1 hD hS hA) hS1 (fun hP hK1 hD hS => ?_)))
        have hw : r30 = (-1) := hw
        have hw := hw.symm
        subst hw
        obtain ⟨x33, ex33⟩ : ∃ y : Int64, y = ((-1) : Int32).toInt64 := ⟨_, rfl⟩
        refine lv_i2l (v := x33) hx hb dX8_odds_33 ex33.symm ?_
        exact W.lret (v := x33) hx hb hr (fun t ht hW => ⟨⟨x33, (), rfl, trivial, v1na0_0, v30na0_11, a0_30, a0_31, fa0_29, bfa0_29, by rw [ht]; exact hP, va_K.moved hW.alike hK, hD⟩, hS.F ht⟩) hS.2.2 dX8_odds_34
      · obtain ⟨hw, h17_0, h17_1⟩ := hw
        subst hw
        exact absurd h17_1 (by decide)
      · obtain ⟨hw, h17_0, h17_1, h17_2, h17_3⟩ := hw
        subst hw
        exact absurd h17_2 (by decide)
  · subst hw
    refine lv_iload_n hx hb dX8_odds_10 rfl (lv_at hl 2 rfl) ?_
    refine lv_iconst (v := 0) hx hb dX8_odds_11 zk_iconst_0 ?_
    refine lv_bipush (v := 8) hx hb dX8_odds_12 zk_bipush_8 ?_
    refine va_calli (va_runS (As := [.int a2, .int 0, .int 8]) (rest := [.int 0, .ref a0]) ⟨hx, hb, hml, hown, hts⟩ (c_X8_in l dC dI H.size a2 0 8 ) (va_cwS 3 hts gX8_odds_X8_in rfl rfl rfl zd_X8_in.2 ⟨Nat.le_of_ble_eq_true rfl, Nat.le_of_ble_eq_true rfl⟩) ⟨ax_blind (fun _ _ _ _ _ => trivial), ax_pre (zp_P0 hP) (zp_K hK) (zp_D0 hD) (fun _ _ => trivial)⟩ rfl rfl hl.1 rfl (lv_room (Nat.le_of_ble_eq_true rfl)) dX8_odds_14 ⟨Nat.le_of_ble_eq_true rfl, Nat.le_of_ble_eq_true rfl⟩) hS (fun q _ h => zp_F0 hD hS hA q h) (zp_F0 hD hS hA) (fun r14 u t H locs ht hvm hw hB hz1 hk1 hS1 => zo0 hB ht hP hD hk1 (zp_F0 hD hS hA) hS1 (fun hP hK1 hD hS => ?_))
    rcases hw with hw | hw
    · obtain ⟨hw, h14⟩ := hw
      subst hw
      have l14k0_a2 : (0 : Int) ≤ a2.toInt := Int.le_trans zq5 h14.1
      have u14k0_a2 : a2.toInt ≤ (8 : Int) := Int.le_trans h14.2 zq28
      refine va_calli (va_runV (As := [.int 0, .int 1]) (rest := []) ⟨hx, hb, hml, hown, hts⟩ (c_X8_whyB l dC dI H.size a0 0 1 (Value.int v1na0_0) a0g_1 a0g_2 a0g_3 a0g_4 a0g_5 a0g_6 a0g_7 a0g_8 a0g_9 a0g_10 (Value.int v1na0_11) a0g_12 a0g_13 (Value.int a0_14) (Value.ref a0_15) a0g_16 (Value.ref a0_17) a0g_18 a0g_19 a0g_20 a0g_21 a0g_22 a0g_23 a0g_24 a0g_25 a0g_26 a0g_27 a0g_28 (Value.ref a0_29) (Value.int a0_30) (Value.int a0_31) a0g_32 a0g_33 a0g_34 a0g_35 a0g_36 a0g_37 a0g_38 a0g_39 zq5 (Int.le_trans zq6 zq4) (Int.le_trans zq4 zq1) zq0) (cwV 2 hts gX8_odds_X8_why rfl rfl rfl zd_X8_why ⟨Nat.le_of_ble_eq_true rfl, Nat.le_of_ble_eq_true rfl⟩) ⟨ax_blind (fun _ _ _ _ _ => trivial), zr_8 (zp_K hK) (zp_P1 hP) (q0 := 0) rfl, ax_pre (zp_P1 hP) (zp_K hK) (zp_D1 hD) (fun _ _ => trivial)⟩ rfl rfl hl.1 rfl (lv_room (Nat.le_of_ble_eq_true rfl)) dX8_odds_17 ⟨Nat.le_of_ble_eq_true rfl, Nat.le_of_ble_eq_true rfl⟩) hS (fun q _ h => zp_F1 hD hS hA q h) (zp_F1 hD hS hA) (fun r17 u t H locs ht hvm hw hB hz1 hk1 hS1 => zo1 hB ht hP hD hk1 (zp_F1 hD hS hA) hS1 (fun hP hK1 hD hS => ?_))
      rcases hw with hw | hw | hw
      · obtain ⟨hw, h17_0, h17_1, h17_2, h17_3⟩ := hw
        subst hw
        exact absurd h17_0 (by decide)
      · obtain ⟨hw, h17_0, h17_1⟩ := hw
        subst hw
        refine lv_istore (lv' := [(4, .int 1), (0, .ref a0), (1, .int a1), (2, .int a2), (3, .int a3)]) hx hb dX8_odds_20 hl (by decide) rfl (fun ls hl => ?_)
        refine lv_iload hx hb dX8_odds_22 (lv_at hl 0 rfl) ?_
        refine lv_if_eq (tgt := 35) hx hb dX8_odds_24 (by decide) (fun c24 => absurd c24 (by decide +kernel)) (fun _ => ?_)
        refine lv_aload_n hx hb dX8_odds_27 rfl (lv_at hl 1 rfl) ?_
        refine lv_iload hx hb dX8_odds_28 (lv_at hl 0 rfl) ?_
        refine va_calli (va_runV (As := [.int 1]) (rest := []) ⟨hx, hb, hml, hown, hts⟩ (c_X8_no l dC dI H.size a0 1 (Value.int v1na0_0) a0g_1 a0g_2 a0g_3 a0g_4 a0g_5 a0g_6 a0g_7 a0g_8 a0g_9 a0g_10 a0g_12 a0g_13 (Value.int a0_14) (Value.ref a0_15) a0g_16 (Value.ref a0_17) a0g_18 a0g_19 a0g_20 a0g_21 a0g_22 a0g_23 a0g_24 a0g_25 a0g_26 a0g_27 a0g_28 (Value.ref a0_29) (Value.int a0_30) (Value.int a0_31) a0g_32 a0g_33 a0g_34 a0g_35 a0g_36 a0g_37 a0g_38 a0g_39 v1na0_11 ) (cwV 1 hts gX8_odds_X8_no rfl rfl rfl zd_X8_no ⟨Nat.le_of_ble_eq_true rfl, Nat.le_of_ble_eq_true rfl⟩) ⟨ax_blind (fun _ _ _ _ _ => trivial), zr_8 (zp_K hK) (zp_P1 hP) (q0 := 0) rfl, ax_pre (zp_P1 hP) (zp_K hK) (zp_D1 hD) (fun _ _ => trivial)⟩ rfl rfl hl.1 rfl (lv_room (Nat.le_of_ble_eq_true rfl)) dX8_odds_30 ⟨Nat.le_of_ble_eq_true rfl, Nat.le_of_ble_eq_true rfl⟩) hS (fun q _ h => zp_F1 hD hS hA q h) (zp_F1 hD hS hA) (fun r30 u t H locs ht hvm hw => zx_1 (fun v30na0_11 hB hz1 hk1 hS1 => zo1 hB ht hP hD hk1 (zp_F1 hD hS hA) hS1 (fun hP hK1 hD hS => ?_)))
        have hw : r30 = (-1) := hw
        have hw := hw.symm
        subst hw
        obtain ⟨x33, ex33⟩ : ∃ y : Int64, y = ((-1) : Int32).toInt64 := ⟨_, rfl⟩
        refine lv_i2l (v := x33) hx hb dX8_odds_33 ex33.symm ?_
        exact W.lret (v := x33) hx hb hr (fun t ht hW => ⟨⟨x33, (), rfl, trivial, v1na0_0, v30na0_11, a0_30, a0_31, fa0_29, bfa0_29, by rw [ht]; exact hP, va_K.moved hW.alike hK, hD⟩, hS.F ht⟩) hS.2.2 dX8_odds_34
      · obtain ⟨hw, h17_0, h17_1, h17_2, h17_3⟩ := hw
        subst hw
        exact absurd h17_0 (by decide)
    · obtain ⟨hw, h14⟩ := hw
      subst hw
      refine va_calli (va_runV (As := [.int 0, .int 0]) (rest := []) ⟨hx, hb, hml, hown, hts⟩ (c_X8_whyB l dC dI H.size a0 0 0 (Value.int v1na0_0) a0g_1 a0g_2 a0g_3 a0g_4 a0g_5 a0g_6 a0g_7 a0g_8 a0g_9 a0g_10 (Value.int v1na0_11) a0g_12 a0g_13 (Value.int a0_14) (Value.ref a0_15) a0g_16 (Value.ref a0_17) a0g_18 a0g_19 a0g_20 a0g_21 a0g_22 a0g_23 a0g_24 a0g_25 a0g_26 a0g_27 a0g_28 (Value.ref a0_29) (Value.int a0_30) (Value.int a0_31) a0g_32 a0g_33 a0g_34 a0g_35 a0g_36 a0g_37 a0g_38 a0g_39 zq5 (Int.le_trans zq6 zq4) zq5 (Int.le_trans zq6 zq4)) (cwV 2 hts gX8_odds_X8_why rfl rfl rfl zd_X8_why ⟨Nat.le_of_ble_eq_true rfl, Nat.le_of_ble_eq_true rfl⟩) ⟨ax_blind (fun _ _ _ _ _ => trivial), zr_8 (zp_K hK) (zp_P1 hP) (q0 := 0) rfl, ax_pre (zp_P1 hP) (zp_K hK) (zp_D1 hD) (fun _ _ => trivial)⟩ rfl rfl hl.1 rfl (lv_room (Nat.le_of_ble_eq_true rfl)) dX8_odds_17 ⟨Nat.le_of_ble_eq_true rfl, Nat.le_of_ble_eq_true rfl⟩) hS (fun q _ h => zp_F1 hD hS hA q h) (zp_F1 hD hS hA) (fun r17 u t H locs ht hvm hw hB hz1 hk1 hS1 => zo1 hB ht hP hD hk1 (zp_F1 hD hS hA) hS1 (fun hP hK1 hD hS => ?_))
      rcases hw with hw | hw | hw
      · obtain ⟨hw, h17_0, h17_1, h17_2, h17_3⟩ := hw
        subst hw
        exact absurd h17_0 (by decide)
      · obtain ⟨hw, h17_0, h17_1⟩ := hw
        subst hw
        refine lv_istore (lv' := [(4, .int 1), (0, .ref a0), (1, .int a1), (2, .int a2), (3, .int a3)]) hx hb dX8_odds_20 hl (by decide) rfl (fun ls hl => ?_)
        refine lv_iload hx hb dX8_odds_22 (lv_at hl 0 rfl) ?_
        refine lv_if_eq (tgt := 35) hx hb dX8_odds_24 (by decide) (fun c24 => absurd c24 (by decide +kernel)) (fun _ => ?_)
        refine lv_aload_n hx hb dX8_odds_27 rfl (lv_at hl 1 rfl) ?_
        refine lv_iload hx hb dX8_odds_28 (lv_at hl 0 rfl) ?_
        refine va_calli (va_runV (As := [.int 1]) (rest := []) ⟨hx, hb, hml, hown, hts⟩ (c_X8_no l dC dI H.size a0 1 (Value.int v1na0_0) a0g_1 a0g_2 a0g_3 a0g_4 a0g_5 a0g_6 a0g_7 a0g_8 a0g_9 a0g_10 a0g_12 a0g_13 (Value.int a0_14) (Value.ref a0_15) a0g_16 (Value.ref a0_17) a0g_18 a0g_19 a0g_20 a0g_21 a0g_22 a0g_23 a0g_24 a0g_25 a0g_26 a0g_27 a0g_28 (Value.ref a0_29) (Value.int a0_30) (Value.int a0_31) a0g_32 a0g_33 a0g_34 a0g_35 a0g_36 a0g_37 a0g_38 a0g_39 v1na0_11 ) (cwV 1 hts gX8_odds_X8_no rfl rfl rfl zd_X8_no ⟨Nat.le_of_ble_eq_true rfl, Nat.le_of_ble_eq_true rfl⟩) ⟨ax_blind (fun _ _ _ _ _ => trivial), zr_8 (zp_K hK) (zp_P1 hP) (q0 := 0) rfl, ax_pre (zp_P1 hP) (zp_K hK) (zp_D1 hD) (fun _ _ => trivial)⟩ rfl rfl hl.1 rfl (lv_room (Nat.le_of_ble_eq_true rfl)) dX8_odds_30 ⟨Nat.le_of_ble_eq_true rfl, Nat.le_of_ble_eq_true rfl⟩) hS (fun q _ h => zp_F1 hD hS hA q h) (zp_F1 hD hS hA) (fun r30 u t H locs ht hvm hw => zx_1 (fun v30na0_11 hB hz1 hk1 hS1 => zo1 hB ht hP hD hk1 (zp_F1 hD hS hA) hS1 (fun hP hK1 hD hS => ?_)))
        have hw : r30 = (-1) := hw
        have hw := hw.symm
        subst hw
        obtain ⟨x33, ex33⟩ : ∃ y : Int64, y = ((-1) : Int32).toInt64 := ⟨_, rfl⟩
        refine lv_i2l (v := x33) hx hb dX8_odds_33 ex33.symm ?_
        exact W.lret (v := x33) hx hb hr (fun t ht hW => ⟨⟨x33, (), rfl, trivial, v1na0_0, v30na0_11, a0_30, a0_31, fa0_29, bfa0_29, by rw [ht]; exact hP, va_K.moved hW.alike hK, hD⟩, hS.F ht⟩) hS.2.2 dX8_odds_34
      · obtain ⟨hw, h17_0, h17_1, h17_2, h17_3⟩ := hw
        subst hw
        exact absurd h17_0 (by decide)
end P260_03_safe
section P260_04_safe
set_option maxHeartbeats 4000000 in
set_option maxRecDepth 100000 in
theorem c_X8_mean (l : Launch) (dC : Nat → ClassId) (dI : Nat → Nat → Nat) (sz : Nat) (a0 : Nat) (a1 : Int32) (a2 : Int32) (a3 : Int32) (a0_0 : Int32) (a0g_1 a0g_2 a0g_3 a0g_4 a0g_5 a0g_6 a0g_7 a0g_8 a0g_9 a0g_10 a0g_12 a0g_13 a0g_16 a0g_18 a0g_19 a0g_20 a0g_21 a0g_22 a0g_23 a0g_24 a0g_25 a0g_26 a0g_27 a0g_28 a0g_32 a0g_33 a0g_34 a0g_35 a0g_36 a0g_37 a0g_38 a0g_39 : Value) (a0_11 : Int32) (a0_14 : Int32) (a0_15 : Nat) (a0_17 : Nat) (a0_29 : Nat) (a0_30 : Int32) (a0_31 : Int32) (ka0_15 : ClassId) (fa0_15 : Nat → Int32) (ka0_17 : ClassId) (fa0_17 : Nat → Int32) (ka0_29 : ClassId) (fa0_29 : Nat → Int32) (ba0_14_l : (1 : Int) ≤ a0_14.toInt) (ba0_14_u : a0_14.toInt ≤ (1 : Int)) (bfa0_15 : ((∀ k : Nat, 0 ≤ k → k ≤ 0 → (2 : Int) ≤ (fa0_15 k).toInt ∧ (fa0_15 k).toInt ≤ 9) ∧ (∀ k : Nat, 1 ≤ k → k ≤ 1 → (1 : Int) ≤ (fa0_15 k).toInt ∧ (fa0_15 k).toInt ≤ 20) ∧ (∀ k : Nat, 2 ≤ k → k ≤ 2 → (0 : Int) ≤ (fa0_15 k).toInt ∧ (fa0_15 k).toInt ≤ 8) ∧ (∀ k : Nat, 3 ≤ k → k ≤ 3 → (0 : Int) ≤ (fa0_15 k).toInt ∧ (fa0_15 k).toInt ≤ 100) ∧ (∀ k : Nat, 4 ≤ k → k ≤ 4 → (0 : Int) ≤ (fa0_15 k).toInt ∧ (fa0_15 k).toInt ≤ 9) ∧ (∀ k : Nat, 5 ≤ k → k ≤ 5 → (0 : Int) ≤ (fa0_15 k).toInt ∧ (fa0_15 k).toInt ≤ 3) ∧ (∀ k : Nat, 6 ≤ k → k ≤ 6 → (0 : Int) ≤ (fa0_15 k).toInt ∧ (fa0_15 k).toInt ≤ 6) ∧ (∀ k : Nat, 7 ≤ k → k ≤ 9 → (0 : Int) ≤ (fa0_15 k).toInt ∧ (fa0_15 k).toInt ≤ 8) ∧ (∀ k : Nat, 12 ≤ k → k ≤ 29 → (0 : Int) ≤ (fa0_15 k).toInt ∧ (fa0_15 k).toInt ≤ 20) ∧ (∀ k : Nat, 30 ≤ k → k ≤ 35 → (0 : Int) ≤ (fa0_15 k).toInt ∧ (fa0_15 k).toInt ≤ 8) ∧ (∀ k : Nat, 36 ≤ k → k ≤ 47 → (0 : Int) ≤ (fa0_15 k).toInt ∧ (fa0_15 k).toInt ≤ 999))) (bfa0_17 : ((∀ k : Nat, 0 ≤ k → k ≤ 8 → (0 : Int) ≤ (fa0_17 k).toInt ∧ (fa0_17 k).toInt ≤ 8) ∧ (∀ k : Nat, 19 ≤ k → k ≤ 19 → (0 : Int) ≤ (fa0_17 k).toInt ∧ (fa0_17 k).toInt ≤ 8) ∧ (∀ k : Nat, 20 ≤ k → k ≤ 20 → (0 : Int) ≤ (fa0_17 k).toInt ∧ (fa0_17 k).toInt ≤ 19))) (bfa0_29 : (∀ k, (0 : Int) ≤ (fa0_29 k).toInt ∧ (fa0_29 k).toInt ≤ 8)) : zm l yX8_mean wsX8_mean ({ frames := 3, cells := 0, slots := 0, locals := 68 }) [.ref a0, .int a1, .int a2, .int a3] dC dI sz [(a0, .inr (8, [Value.int a0_0, a0g_1, a0g_2, a0g_3, a0g_4, a0g_5, a0g_6, a0g_7, a0g_8, a0g_9, a0g_10, Value.int a0_11, a0g_12, a0g_13, Value.int a0_14, Value.ref a0_15, a0g_16, Value.ref a0_17, a0g_18, a0g_19, a0g_20, a0g_21, a0g_22, a0g_23, a0g_24, a0g_25, a0g_26, a0g_27, a0g_28, Value.ref a0_29, Value.int a0_30, Value.int a0_31, a0g_32, a0g_33, a0g_34, a0g_35, a0g_36, a0g_37, a0g_38, a0g_39])), (a0_15, .inl (ka0_15, 156, .inl (fa0_15))), (a0_17, .inl (ka0_17, 23, .inl (fa0_17))), (a0_29, .inl (ka0_29, 10, .inl (fa0_29)))] [(ka0_15, .int), (ka0_17, .int), (ka0_29, .int)] (fun A _ => True) (fun A => va_Ql (fun (r : Int64) (_ : Unit) => True) (fun (_ : Unit) (t : State) => ∃ na0_0 : Int32, ∃ na0_11 : Int32, ∃ na0_30 : Int32, ∃ na0_31 : Int32, ∃ nfa0_29 : Nat → Int32, (∀ k, (0 : Int) ≤ (nfa0_29 k).toInt ∧ (nfa0_29 k).toInt ≤ 8) ∧ ax_B dC dI A [(a0, .inr (8, [Value.int na0_0, a0g_1, a0g_2, a0g_3, a0g_4, a0g_5, a0g_6, a0g_7, a0g_8, a0g_9, a0g_10, Value.int na0_11, a0g_12, a0g_13, Value.int a0_14, Value.ref a0_15, a0g_16, Value.ref a0_17, a0g_18, a0g_19, a0g_20, a0g_21, a0g_22, a0g_23, a0g_24, a0g_25, a0g_26, a0g_27, a0g_28, Value.ref a0_29, Value.int na0_30, Value.int na0_31, a0g_32, a0g_33, a0g_34, a0g_35, a0g_36, a0g_37, a0g_38, a0g_39])), (a0_15, .inl (ka0_15, 156, .inl (fa0_15))), (a0_17, .inl (ka0_17, 23, .inl (fa0_17))), (a0_29, .inl (ka0_29, 10, .inl (nfa0_29)))] [(ka0_15, .int), (ka0_17, .int), (ka0_29, .int)] t) A) := by
  refine zh (cc := cX8_mean) (maxL := 5) (ret := (some .long)) zn_RX8 rfl (Nat.le_of_ble_eq_true rfl) (fun p e s m below meth c A ls hx hb hml hr hts (hown : s.vm.findClass RX8 = some m.cls) hlocks hA hS hP hK hD hE (hl : lv_has ls 5 [(0, .ref a0), (1, .int a1), (2, .int a2), (3, .int a3)]) => ?_)
  refine lv_aload_n hx hb dX8_mean_0 rfl (lv_at hl 0 rfl) ?_
  refine va_callv (va_runV (As := []) (rest := []) ⟨hx, hb, hml, hown, hts⟩ (c_X8_good l dC dI s.heap.size a0 a0_0 a0g_1 a0g_2 a0g_3 a0g_4 a0g_5 a0g_6 a0g_7 a0g_8 a0g_9 a0g_10 a0g_12 a0g_13 (Value.int a0_14) (Value.ref a0_15) a0g_16 (Value.ref a0_17) a0g_18 a0g_19 a0g_20 a0g_21 a0g_22 a0g_23 a0g_24 a0g_25 a0g_26 a0g_27 a0g_28 (Value.ref a0_29) (Value.int a0_30) (Value.int a0_31) a0g_32 a0g_33 a0g_34 a0g_35 a0g_36 a0g_37 a0g_38 a0g_39 a0_11 ) (cwV 0 hts gX8_mean_X8_good rfl rfl rfl zd_X8_good ⟨Nat.le_of_ble_eq_true rfl, Nat.le_of_ble_eq_true rfl⟩) ⟨ax_blind (fun _ _ _ _ _ => trivial), zr_8 (zp_K hK) (zp_P1 hP) (q0 := 0) rfl, ax_pre (zp_P1 hP) (zp_K hK) (zp_D1 hD) (fun _ _ => trivial)⟩ rfl rfl hl.1 rfl (lv_room (Nat.le_of_ble_eq_true rfl)) dX8_mean_1 ⟨Nat.le_of_ble_eq_true rfl, Nat.le_of_ble_eq_true rfl⟩) hS (fun q _ h => zp_F1 hD hS hA q h) (zp_F1 hD hS hA) (fun u t H locs ht hvm hw => zx_2 (fun v1na0_0 v1na0_11 hB hz1 hk1 hS1 => zo1 hB ht hP hD hk1 (zp_F1 hD hS hA) hS1 (fun hP hK1 hD hS => ?_)))
  refine lv_aload_n hx hb dX8_mean_4 rfl (lv_at hl 0 rfl) ?_
  refine lv_aload_n hx hb dX8_mean_5 rfl (lv_at hl 0 rfl) ?_
  refine lv_iload_n hx hb dX8_mean_6 rfl (lv_at hl 1 rfl) ?_
  have hKc := hK.sub (tys' := [(ka0_15, .int)]) [0] rfl
  refine va_calli (va_runV (As := [.int a1]) (rest := [.ref a0]) ⟨hx, hb, hml, hown, hts⟩ (c_X8_isFigure l dC dI H.size a0 a1 (Value.int v1na0_0) a0g_1 a0g_2 a0g_3 a0g_4 a0g_5 a0g_6 a0g_7 a0g_8 a0g_9 a0g_10 (Value.int v1na0_11) a0g_12 a0g_13 a0g_16 (Value.ref a0_17) a0g_18 a0g_19 a0g_20 a0g_21 a0g_22 a0g_23 a0g_24 a0g_25 a0g_26 a0g_27 a0g_28 (Value.ref a0_29) (Value.int a0_30) (Value.int a0_31) a0g_32 a0g_33 a0g_34 a0g_35 a0g_36 a0g_37 a0g_38 a0g_39 a0_14 a0_15 ka0_15 fa0_15 ba0_14_l ba0_14_u bfa0_15) (cwV 1 hts gX8_mean_X8_isFigure rfl rfl rfl zd_X8_isFigure ⟨Nat.le_of_ble_eq_true rfl, Nat.le_of_ble_eq_true rfl⟩) ⟨ax_blind (fun _ _ _ _ _ => trivial), zr_8 hKc (zp_P2 hP) (q0 := 0) rfl, ax_pre (zp_P2 hP) hKc (zp_D2 hD) (fun _ _ => trivial)⟩ rfl rfl hl.1 rfl (lv_room (Nat.le_of_ble_eq_true rfl)) dX8_mean_7 ⟨Nat.le_of_ble_eq_true rfl, Nat.le_of_ble_eq_true rfl⟩) hS (fun q _ h => zp_F2 hD hS hA q h) (zp_F2 hD hS hA) (fun r7 u t H locs ht hvm hw hB hz1 hk1 hS1 => zo2 hB ht hP hD hk1 (zp_F2 hD hS hA) hS1 (fun hP hK1 hD hS => ?_))
  rcases hw with hw | hw
  · obtain ⟨hw, h7_0, h7_1⟩ := hw
    subst hw
    have l7k0_a1 : (0 : Int) ≤ a1.toInt := h7_0
    have u7k0_a1 : a1.toInt ≤ (8 : Int) := h7_1
    refine lv_iload_n hx hb dX8_mean_10 rfl (lv_at hl 2 rfl) ?_
    refine lv_iconst (v := 0) hx hb dX8_mean_11 zk_iconst_0 ?_
    refine lv_bipush (v := 8) hx hb dX8_mean_12 zk_bipush_8 ?_
    refine va_calli (va_runS (As := [.int a2, .int 0, .int 8]) (rest := [.int 1, .ref a0]) ⟨hx, hb, hml, hown, hts⟩ (c_X8_in l dC dI H.size a2 0 8 ) (va_cwS 3 hts gX8_mean_X8_in rfl rfl rfl zd_X8_in.2 ⟨Nat.le_of_ble_eq_true rfl, Nat.le_of_ble_eq_true rfl⟩) ⟨ax_blind (fun _ _ _ _ _ => trivial), ax_pre (zp_P0 hP) (zp_K hK) (zp_D0 hD) (fun _ _ => trivial)⟩ rfl rfl hl.1 rfl (lv_room (Nat.le_of_ble_eq_true rfl)) dX8_mean_14 ⟨Nat.le_of_ble_eq_true rfl, Nat.le_of_ble_eq_true rfl⟩) hS (fun q _ h => zp_F0 hD hS hA q h) (zp_F0 hD hS hA) (fun r14 u t H locs ht hvm hw hB hz1 hk1 hS1 => zo0 hB ht hP hD hk1 (zp_F0 hD hS hA) hS1 (fun hP hK1 hD hS => ?_))
    rcases hw with hw | hw
    · obtain ⟨hw, h14⟩ := hw
      subst hw
      have l14k0_a2 : (0 : Int) ≤ a2.toInt := Int.le_trans zq5 h14.1
      have u14k0_a2 : a2.toInt ≤ (8 : Int) := Int.le_trans h14.2 zq28
      refine va_calli (va_runV (As := [.int 1, .int 1]) (rest := []) ⟨hx, hb, hml, hown, hts⟩ (c_X8_whyB l dC dI H.size a0 1 1 (Value.int v1na0_0) a0g_1 a0g_2 a0g_3 a0g_4 a0g_5 a0g_6 a0g_7 a0g_8 a0g_9 a0g_10 (Value.int v1na0_11) a0g_12 a0g_13 (Value.int a0_14) (Value.ref a0_15) a0g_16 (Value.ref a0_17) a0g_18 a0g_19 a0g_20 a0g_21 a0g_22 a0g_23 a0g_24 a0g_25 a0g_26 a0g_27 a0g_28 (Value.ref a0_29) (Value.int a0_30) (Value.int a0_31) a0g_32 a0g_33 a0g_34 a0g_35 a0g_36 a0g_37 a0g_38 a0g_39 (Int.le_trans zq4 zq1) zq0 (Int.le_trans zq4 zq1) zq0) (cwV 2 hts gX8_mean_X8_why rfl rfl rfl zd_X8_why ⟨Nat.le_of_ble_eq_true rfl, Nat.le_of_ble_eq_true rfl⟩) ⟨ax_blind (fun _ _ _ _ _ => trivial), zr_8 (zp_K hK) (zp_P1 hP) (q0 := 0) rfl, ax_pre (zp_P1 hP) (zp_K hK) (zp_D1 hD) (fun _ _ => trivial)⟩ rfl rfl hl.1 rfl (lv_room (Nat.le_of_ble_eq_true rfl)) dX8_mean_17 ⟨Nat.le_of_ble_eq_true rfl, Nat.le_of_ble_eq_true rfl⟩) hS (fun q _ h => zp_F1 hD hS hA q h) (zp_F1 hD hS hA) (fun r17 u t H locs ht hvm hw hB hz1 hk1 hS1 => zo1 hB ht hP hD hk1 (zp_F1 hD hS hA) hS1 (fun hP hK1 hD hS => ?_))
      rcases hw with hw | hw | hw
      · obtain ⟨hw, h17_0, h17_1, h17_2, h17_3⟩ := hw
        subst hw
        exact absurd h17_3 (by decide)
      · obtain ⟨hw, h17_0, h17_1⟩ := hw
        subst hw
        exact absurd h17_1 (by decide)
      · obtain ⟨hw, h17_0, h17_1, h17_2, h17_3⟩ := hw
        subst hw
        refine lv_istore (lv' := [(4, .int 0), (0, .ref a0), (1, .int a1), (2, .int a2), (3, .int a3)]) hx hb dX8_mean_20 hl (by decide) rfl (fun ls hl => ?_)
        refine lv_iload hx hb dX8_mean_22 (lv_at hl 0 rfl) ?_
        refine lv_if_eq (tgt := 35) hx hb dX8_mean_24 (by decide) (fun _ => ?_) (fun c24 => absurd (by decide +kernel) c24)
        refine lv_aload_n hx hb dX8_mean_35 rfl (lv_at hl 1 rfl) ?_
        refine lv_iload_n hx hb dX8_mean_36 rfl (lv_at hl 2 rfl) ?_
        refine lv_iload_n hx hb dX8_mean_37 rfl (lv_at hl 3 rfl) ?_
        refine zc_cutc (wc := [(a0, .inr (8, [Value.int v1na0_0, a0g_1, a0g_2, a0g_3, a0g_4, a0g_5, a0g_6, a0g_7, a0g_8, a0g_9, a0g_10, Value.int v1na0_11, a0g_12, a0g_13, Value.int a0_14, Value.ref a0_15, a0g_16, Value.ref a0_17, a0g_18, a0g_19, a0g_20, a0g_21, a0g_22, a0g_23, a0g_24, a0g_25, a0g_26, a0g_27, a0g_28, Value.ref a0_29, Value.int a0_30, Value.int a0_31, a0g_32, a0g_33, a0g_34, a0g_35, a0g_36, a0g_37, a0g_38, a0g_39])), (a0_17, .inl (ka0_17, 23, .inl (fa0_17))), (a0_29, .inl (ka0_29, 10, .inl (fa0_29))), (a0_15, .inl (ka0_15, 156, .inl (fa0_15)))]) hP hD hS hA [0, 2, 3, 1] (by decide +kernel) rfl (fun hPc hDc hFc hCc => ?_)
        have hKc := hK.sub (tys' := [(ka0_17, .int), (ka0_29, .int), (ka0_15, .int)]) [1, 2, 0] rfl
        refine va_calli (va_runV (As := [.int a1, .int a2]) (rest := []) ⟨hx, hb, hml, hown, hts⟩ (c_X8_turnsOf l dC dI H.size a0 a1 a2 (Value.int v1na0_0) a0g_1 a0g_2 a0g_3 a0g_4 a0g_5 a0g_6 a0g_7 a0g_8 a0g_9 a0g_10 (Value.int v1na0_11) a0g_12 a0g_13 (Value.int a0_14) a0g_16 a0g_18 a0g_19 a0g_20 a0g_21 a0g_22 a0g_23 a0g_24 a0g_25 a0g_26 a0g_27 a0g_28 a0g_32 a0g_33 a0g_34 a0g_35 a0g_36 a0g_37 a0g_38 a0g_39 a0_15 a0_17 a0_29 a0_30 a0_31 ka0_17 fa0_17 ka0_29 fa0_29 ka0_15 fa0_15 l14k0_a2 u14k0_a2 bfa0_17 bfa0_29 bfa0_15) (cwV 2 hts gX8_mean_X8_turnsOf rfl rfl rfl zd_X8_turnsOf ⟨Nat.le_of_ble_eq_true rfl, Nat.le_of_ble_eq_true rfl⟩) ⟨ax_blind (fun _ _ _ _ _ => trivial), zr_8 hKc hPc (q0 := 0) rfl, ax_pre hPc hKc hDc (fun _ _ => trivial)⟩ rfl rfl hl.1 rfl (lv_room (Nat.le_of_ble_eq_true rfl)) dX8_mean_38 ⟨Nat.le_of_ble_eq_true rfl, Nat.le_of_ble_eq_true rfl⟩) hS (fun q _ h => hFc q h) hFc (fun r38 u t H locs ht hvm hw => zx_3 (fun v38na0_30 v38na0_31 v38nfa0_29 => zy_1 (fun bv38nfa0_29 hB hz1 hk1 hS1 => zo hB ht hS1 (fun hP1 hK1 hD1 hS => ?_))))
        refine zc_backc (w := [(a0, .inr (8, [Value.int v1na0_0, a0g_1, a0g_2, a0g_3, a0g_4, a0g_5, a0g_6, a0g_7, a0g_8, a0g_9, a0g_10, Value.int v1na0_11, a0g_12, a0g_13, Value.int a0_14, Value.ref a0_15, a0g_16, Value.ref a0_17, a0g_18, a0g_19, a0g_20, a0g_21, a0g_22, a0g_23, a0g_24, a0g_25, a0g_26, a0g_27, a0g_28, Value.ref a0_29, Value.int v38na0_30, Value.int v38na0_31, a0g_32, a0g_33, a0g_34, a0g_35, a0g_36, a0g_37, a0g_38, a0g_39])), (a0_15, .inl (ka0_15, 156, .inl (fa0_15))), (a0_17, .inl (ka0_17, 23, .inl (fa0_17))), (a0_29, .inl (ka0_29, 10, .inl (v38nfa0_29)))]) hP hD hCc hk1 hFc hP1 hD1 [.inr 0, .inr 3, .inr 1, .inr 2] (by decide +kernel) rfl (fun hP hD => ?_)
        have hw : (0 : Int) ≤ r38.toInt ∧ r38.toInt ≤ (8 : Int) := hw
        obtain ⟨h38_0, h38_1⟩ := hw
        obtain ⟨x41, ex41⟩ : ∃ y : Int64, y = (r38 : Int32).toInt64 := ⟨_, rfl⟩
        refine lv_i2l (v := x41) hx hb dX8_mean_41 ex41.symm ?_
        refine lv_bipush (v := 100) hx hb dX8_mean_42 zk_bipush_100 ?_
        refine lv_aload_n hx hb dX8_mean_44 rfl (lv_at hl 1 rfl) ?_
        refine va_get (D := (dC, dI)) (ci := 8) (v := .ref a0_15) (C := RX8) (T := TX8) (N := 40) hx hb hts zi_X8_mean_8 hown hK hP 0 rfl rfl 15 (by decide) (hts (.fieldLink RX8 20 "WaxTurnsModel" "\x72" "[I") (zm_X8_mean_r1 (List.mem_of_getElem? (i := 0) rfl))) (fun _ h9 => h9) rfl dX8_mean_45 ?_
        refine lv_iconst (v := 3) hx hb dX8_mean_48 zk_iconst_3 ?_
        refine va_iald hx hb hK hP 1 0 rfl rfl (by unfold vp_in; decide +kernel) dX8_mean_49 ?_
        refine lv_topi (fun x49 ex49 => ?_)
        have bx49 : (0 : Int) ≤ x49.toInt ∧ x49.toInt ≤ 100 := by rw [ex49]; exact ai_rd bfa0_15.2.2.2.1 zq8 zq9 (by decide) (by decide) (by decide)
        refine lv_isub hx hb dX8_mean_50 ?_
        refine lv_topi (fun x50 ex50 => ?_)
        have qx50 : x50.toInt = (100 : Int32).toInt - x49.toInt := ai_sub ex50 ⟨zq24, zq32⟩ ⟨bx49.1, bx49.2⟩ (by decide) (by decide)
        have bx50 : (0 : Int) ≤ x50.toInt ∧ x50.toInt ≤ 100 := ⟨by rw [qx50]; exact Int.sub_le_sub zq24 bx49.2, by rw [qx50]; exact Int.sub_le_sub zq32 bx49.1⟩
        obtain ⟨x51, ex51⟩ : ∃ y : Int64, y = (x50 : Int32).toInt64 := ⟨_, rfl⟩
        refine lv_i2l (v := x51) hx hb dX8_mean_51 ex51.symm ?_
        refine lv_lmul hx hb dX8_mean_52 ?_
        refine lv_topl (fun x52 ex52 => ?_)
        refine lv_ldc2 (v := 100) hx hb hown (hts (.constantLong RX8 368 (100)) (zm_X8_mean_r1 (List.mem_of_getElem? (i := 1) rfl))) dX8_mean_53 ?_
        refine lv_iload_n hx hb dX8_mean_56 rfl (lv_at hl 4 rfl) ?_
        refine va_calll (va_runS (As := [.long x52, .long 100, .int a3]) (rest := []) ⟨hx, hb, hml, hown, hts⟩ (c_X8_lowest l dC dI H.size x52 100 a3 (by decide)) (va_cwS 3 hts gX8_mean_X8_lowest rfl rfl rfl zd_X8_lowest.2 ⟨Nat.le_of_ble_eq_true rfl, Nat.le_of_ble_eq_true rfl⟩) ⟨ax_blind (fun _ _ _ _ _ => trivial), ax_pre (zp_P0 hP) (zp_K hK) (zp_D0 hD) (fun _ _ => trivial)⟩ rfl rfl hl.1 rfl (lv_room (Nat.le_of_ble_eq_true rfl)) dX8_mean_57 ⟨Nat.le_of_ble_eq_true rfl, Nat.le_of_ble_eq_true rfl⟩) hS (fun q _ h => zp_F0 hD hS hA q h) (zp_F0 hD hS hA) (fun r57 u t H locs ht hvm hw hB hz1 hk1 hS1 => zo0 hB ht hP hD hk1 (zp_F0 hD hS hA) hS1 (fun hP hK1 hD hS => ?_))
        exact W.lret (v := r57) hx hb hr (fun t ht hW => ⟨⟨r57, (), rfl, trivial, v1na0_0, v1na0_11, v38na0_30, v38na0_31, v38nfa0_29, bv38nfa0_29, by rw [ht]; exact hP, va_K.moved hW.alike hK, hD⟩, hS.F ht⟩) hS.2.2 dX8_mean_60
    · obtain ⟨hw, h14⟩ := hw
      subst hw
      refine va_calli (va_runV (As := [.int 1, .int 0]) (rest := []) ⟨hx, hb, hml, hown, hts⟩ (c_X8_whyB l dC dI H.size a0 1 0 (Value.int v1na0_0) a0g_1 a0g_2 a0g_3 a0g_4 a0g_5 a0g_6 a0g_7 a0g_8 a0g_9 a0g_10 (Value.int v1na0_11) a0g_12 a0g_13 (Value.int a0_14) (Value.ref a0_15) a0g_16 (Value.ref a0_17) a0g_18 a0g_19 a0g_20 a0g_21 a0g_22 a0g_23 a0g_24 a0g_25 a0g_26 a0g_27 a0g_28 (Value.ref a0_29) (Value.int a0_30) (Value.int a0_31) a0g_32 a0g_33 a0g_34 a0g_35 a0g_36 a0g_37 a0g_38 a0g_39 (Int.le_trans zq4 zq1) zq0 zq5 (Int.le_trans zq6 zq4)) (cwV 2 hts gX8_mean_X8_why rfl rfl rfl zd_X8_why ⟨Nat.le_of_ble_eq_true rfl, Nat.le_of_ble_eq_true rfl⟩) ⟨ax_blind (fun _ _ _ _ _ => trivial), zr_8 (zp_K hK) (zp_P1 hP) (q0 := 0) rfl, ax_pre (zp_P1 hP) (zp_K hK) (zp_D1 hD) (fun _ _ => trivial)⟩ rfl rfl hl.1 rfl (lv_room (Nat.le_of_ble_eq_true rfl)) dX8_mean_17 ⟨Nat.le_of_ble_eq_true rfl, Nat.le_of_ble_eq_true rfl⟩) hS (fun q _ h => zp_F1 hD hS hA q h) (zp_F1 hD hS hA) (fun r17 u t H locs ht hvm hw hB hz1 hk1 hS1 => zo1 hB ht hP hD hk1 (zp_F1 hD hS hA) hS1 (fun hP hK1 hD hS => ?_))
      rcases hw with hw | hw | hw
      · obtain ⟨hw, h17_0, h17_1, h17_2, h17_3⟩ := hw
        subst hw
        refine lv_istore (lv' := [(4, .int 2), (0, .ref a0), (1, .int a1), (2, .int a2), (3, .int a3)]) hx hb dX8_mean_20 hl (by decide) rfl (fun ls hl => ?_)
        refine lv_iload hx hb dX8_mean_22 (lv_at hl 0 rfl) ?_
        refine lv_if_eq (tgt := 35) hx hb dX8_mean_24 (by decide) (fun c24 => absurd c24 (by decide +kernel)) (fun _ => ?_)
        refine lv_aload_n hx hb dX8_mean_27 rfl (lv_at hl 1 rfl) ?_
        refine lv_iload hx hb dX8_mean_28 (lv_at hl 0 rfl) ?_
        refine va_calli (va_runV (As := [.int 2]) (rest := []) ⟨hx, hb, hml, hown, hts⟩ (c_X8_no l dC dI H.size a0 2 (Value.int v1na0_0) a0g_1 a0g_2 a0g_3 a0g_4 a0g_5 a0g_6 a0g_7 a0g_8 a0g_9 a0g_10 a0g_12 a0g_13 (Value.int a0_14) (Value.ref a0_15) a0g_16 (Value.ref a0_17) a0g_18 a0g_19 a0g_20 a0g_21 a0g_22 a0g_23 a0g_24 a0g_25 a0g_26 a0g_27 a0g_28 (Value.ref a0_29) (Value.int a0_30) (Value.int a0_31) a0g_32 a0g_33 a0g_34 a0g_35 a0g_36 a0g_37 a0g_38 a0g_39 v1na0_11 ) (cwV 1 hts gX8_mean_X8_no rfl rfl rfl zd_X8_no ⟨Nat.le_of_ble_eq_true rfl, Nat.le_of_ble_eq_true rfl⟩) ⟨ax_blind (fun _ _ _ _ _ => trivial), zr_8 (zp_K hK) (zp_P1 hP) (q0 := 0) rfl, ax_pre (zp_P1 hP) (zp_K hK) (zp_D1 hD) (fun _ _ => trivial)⟩ rfl rfl hl.1 rfl (lv_room (Nat.le_of_ble_eq_true rfl)) dX8_mean_30 ⟨Nat.le_of_ble_eq_true rfl, Nat.le_of_ble_eq_true rfl⟩) hS (fun q _ h => zp_F1 hD hS hA q h) (zp_F1 hD hS hA) (fun r30 u t H locs ht hvm hw => zx_1 (fun v30na0_11 hB hz1 hk1 hS1 => zo1 hB ht hP hD hk1 (zp_F1 hD hS hA) hS1 (fun hP hK1 hD hS => ?_)))
        have hw : r30 = (-1) := hw
        have hw := hw.symm
        subst hw
        obtain ⟨x33, ex33⟩ : ∃ y : Int64, y = ((-1) : Int32).toInt64 := ⟨_, rfl⟩
        refine lv_i2l (v := x33) hx hb dX8_mean_33 ex33.symm ?_
        exact W.lret (v := x33) hx hb hr (fun t ht hW => ⟨⟨x33, (), rfl, trivial, v1na0_0, v30na0_11, a0_30, a0_31, fa0_29, bfa0_29, by rw [ht]; exact hP, va_K.moved hW.alike hK, hD⟩, hS.F ht⟩) hS.2.2 dX8_mean_34
      · obtain ⟨hw, h17_0, h17_1⟩ := hw
        subst hw
        exact absurd h17_1 (by decide)
      · obtain ⟨hw, h17_0, h17_1, h17_2, h17_3⟩ := hw
        subst hw
        exact absurd h17_2 (by decide)
  · subst hw
    refine lv_iload_n hx hb dX8_mean_10 rfl (lv_at hl 2 rfl) ?_
    refine lv_iconst (v := 0) hx hb dX8_mean_11 zk_iconst_0 ?_
    refine lv_bipush (v := 8) hx hb dX8_mean_12 zk_bipush_8 ?_
    refine va_calli (va_runS (As := [.int a2, .int 0, .int 8]) (rest := [.int 0, .ref a0]) ⟨hx, hb, hml, hown, hts⟩ (c_X8_in l dC dI H.size a2 0 8 ) (va_cwS 3 hts gX8_mean_X8_in rfl rfl rfl zd_X8_in.2 ⟨Nat.le_of_ble_eq_true rfl, Nat.le_of_ble_eq_true rfl⟩) ⟨ax_blind (fun _ _ _ _ _ => trivial), ax_pre (zp_P0 hP) (zp_K hK) (zp_D0 hD) (fun _ _ => trivial)⟩ rfl rfl hl.1 rfl (lv_room (Nat.le_of_ble_eq_true rfl)) dX8_mean_14 ⟨Nat.le_of_ble_eq_true rfl, Nat.le_of_ble_eq_true rfl⟩) hS (fun q _ h => zp_F0 hD hS hA q h) (zp_F0 hD hS hA) (fun r14 u t H locs ht hvm hw hB hz1 hk1 hS1 => zo0 hB ht hP hD hk1 (zp_F0 hD hS hA) hS1 (fun hP hK1 hD hS => ?_))
    rcases hw with hw | hw
    · obtain ⟨hw, h14⟩ := hw
      subst hw
      have l14k0_a2 : (0 : Int) ≤ a2.toInt := Int.le_trans zq5 h14.1
      have u14k0_a2 : a2.toInt ≤ (8 : Int) := Int.le_trans h14.2 zq28
      refine va_calli (va_runV (As := [.int 0, .int 1]) (rest := []) ⟨hx, hb, hml, hown, hts⟩ (c_X8_whyB l dC dI H.size a0 0 1 (Value.int v1na0_0) a0g_1 a0g_2 a0g_3 a0g_4 a0g_5 a0g_6 a0g_7 a0g_8 a0g_9 a0g_10 (Value.int v1na0_11) a0g_12 a0g_13 (Value.int a0_14) (Value.ref a0_15) a0g_16 (Value.ref a0_17) a0g_18 a0g_19 a0g_20 a0g_21 a0g_22 a0g_23 a0g_24 a0g_25 a0g_26 a0g_27 a0g_28 (Value.ref a0_29) (Value.int a0_30) (Value.int a0_31) a0g_32 a0g_33 a0g_34 a0g_35 a0g_36 a0g_37 a0g_38 a0g_39 zq5 (Int.le_trans zq6 zq4) (Int.le_trans zq4 zq1) zq0) (cwV 2 hts gX8_mean_X8_why rfl rfl rfl zd_X8_why ⟨Nat.le_of_ble_eq_true rfl, Nat.le_of_ble_eq_true rfl⟩) ⟨ax_blind (fun _ _ _ _ _ => trivial), zr_8 (zp_K hK) (zp_P1 hP) (q0 := 0) rfl, ax_pre (zp_P1 hP) (zp_K hK) (zp_D1 hD) (fun _ _ => trivial)⟩ rfl rfl hl.1 rfl (lv_room (Nat.le_of_ble_eq_true rfl)) dX8_mean_17 ⟨Nat.le_of_ble_eq_true rfl, Nat.le_of_ble_eq_true rfl⟩) hS (fun q _ h => zp_F1 hD hS hA q h) (zp_F1 hD hS hA) (fun r17 u t H locs ht hvm hw hB hz1 hk1 hS1 => zo1 hB ht hP hD hk1 (zp_F1 hD hS hA) hS1 (fun hP hK1 hD hS => ?_))
      rcases hw with hw | hw | hw
      · obtain ⟨hw, h17_0, h17_1, h17_2, h17_3⟩ := hw
        subst hw
        exact absurd h17_0 (by decide)
      · obtain ⟨hw, h17_0, h17_1⟩ := hw
        subst hw
        refine lv_istore (lv' := [(4, .int 1), (0, .ref a0), (1, .int a1), (2, .int a2), (3, .int a3)]) hx hb dX8_mean_20 hl (by decide) rfl (fun ls hl => ?_)
        refine lv_iload hx hb dX8_mean_22 (lv_at hl 0 rfl) ?_
        refine lv_if_eq (tgt := 35) hx hb dX8_mean_24 (by decide) (fun c24 => absurd c24 (by decide +kernel)) (fun _ => ?_)
        refine lv_aload_n hx hb dX8_mean_27 rfl (lv_at hl 1 rfl) ?_
        refine lv_iload hx hb dX8_mean_28 (lv_at hl 0 rfl) ?_
        refine va_calli (va_runV (As := [.int 1]) (rest := []) ⟨hx, hb, hml, hown, hts⟩ (c_X8_no l dC dI H.size a0 1 (Value.int v1na0_0) a0g_1 a0g_2 a0g_3 a0g_4 a0g_5 a0g_6 a0g_7 a0g_8 a0g_9 a0g_10 a0g_12 a0g_13 (Value.int a0_14) (Value.ref a0_15) a0g_16 (Value.ref a0_17) a0g_18 a0g_19 a0g_20 a0g_21 a0g_22 a0g_23 a0g_24 a0g_25 a0g_26 a0g_27 a0g_28 (Value.ref a0_29) (Value.int a0_30) (Value.int a0_31) a0g_32 a0g_33 a0g_34 a0g_35 a0g_36 a0g_37 a0g_38 a0g_39 v1na0_11 ) (cwV 1 hts gX8_mean_X8_no rfl rfl rfl zd_X8_no ⟨Nat.le_of_ble_eq_true rfl, Nat.le_of_ble_eq_true rfl⟩) ⟨ax_blind (fun _ _ _ _ _ => trivial), zr_8 (zp_K hK) (zp_P1 hP) (q0 := 0) rfl, ax_pre (zp_P1 hP) (zp_K hK) (zp_D1 hD) (fun _ _ => trivial)⟩ rfl rfl hl.1 rfl (lv_room (Nat.le_of_ble_eq_true rfl)) dX8_mean_30 ⟨Nat.le_of_ble_eq_true rfl, Nat.le_of_ble_eq_true rfl⟩) hS (fun q _ h => zp_F1 hD hS hA q h) (zp_F1 hD hS hA) (fun r30 u t H locs ht hvm hw => zx_1 (fun v30na0_11 hB hz1 hk1 hS1 => zo1 hB ht hP hD hk1 (zp_F1 hD hS hA) hS1 (fun hP hK1 hD hS => ?_)))
        have hw : r30 = (-1) := hw
        have hw := hw.symm
        subst hw
        obtain ⟨x33, ex33⟩ : ∃ y : Int64, y = ((-1) : Int32).toInt64 := ⟨_, rfl⟩
        refine lv_i2l (v := x33) hx hb dX8_mean_33 ex33.symm ?_
        exact W.lret (v := x33) hx hb hr (fun t ht hW => ⟨⟨x33, (), rfl, trivial, v1na0_0, v30na0_11, a0_30, a0_31, fa0_29, bfa0_29, by rw [ht]; exact hP, va_K.moved hW.alike hK, hD⟩, hS.F ht⟩) hS.2.2 dX8_mean_34
      · obtain ⟨hw, h17_0, h17_1, h17_2, h17_3⟩ := hw
        subst hw
        exact absurd h17_0 (by decide)
    · obtain ⟨hw, h14⟩ := hw
      subst hw
      refine va_calli (va_runV (As := [.int 0, .int 0]) (rest := []) ⟨hx, hb, hml, hown, hts⟩ (c_X8_whyB l dC dI H.size a0 0 0 (Value.int v1na0_0) a0g_1 a0g_2 a0g_3 a0g_4 a0g_5 a0g_6 a0g_7 a0g_8 a0g_9 a0g_10 (Value.int v1na0_11) a0g_12 a0g_13 (Value.int a0_14) (Value.ref a0_15) a0g_16 (Value.ref a0_17) a0g_18 a0g_19 a0g_20 a0g_21 a0g_22 a0g_23 a0g_24 a0g_25 a0g_26 a0g_27 a0g_28 (Value.ref a0_29) (Value.int a0_30) (Value.int a0_31) a0g_32 a0g_33 a0g_34 a0g_35 a0g_36 a0g_37 a0g_38 a0g_39 zq5 (Int.le_trans zq6 zq4) zq5 (Int.le_trans zq6 zq4)) (cwV 2 hts gX8_mean_X8_why rfl rfl rfl zd_X8_why ⟨Nat.le_of_ble_eq_true rfl, Nat.le_of_ble_eq_true rfl⟩) ⟨ax_blind (fun _ _ _ _ _ => trivial), zr_8 (zp_K hK) (zp_P1 hP) (q0 := 0) rfl, ax_pre (zp_P1 hP) (zp_K hK) (zp_D1 hD) (fun _ _ => trivial)⟩ rfl rfl hl.1 rfl (lv_room (Nat.le_of_ble_eq_true rfl)) dX8_mean_17 ⟨Nat.le_of_ble_eq_true rfl, Nat.le_of_ble_eq_true rfl⟩) hS (fun q _ h => zp_F1 hD hS hA q h) (zp_F1 hD hS hA) (fun r17 u t H locs ht hvm hw hB hz1 hk1 hS1 => zo1 hB ht hP hD hk1 (zp_F1 hD hS hA) hS1 (fun hP hK1 hD hS => ?_))
      rcases hw with hw | hw | hw
      · obtain ⟨hw, h17_0, h17_1, h17_2, h17_3⟩ := hw
        subst hw
        exact absurd h17_0 (by decide)
      · obtain ⟨hw, h17_0, h17_1⟩ := hw
        subst hw
        refine lv_istore (lv' := [(4, .int 1), (0, .ref a0), (1, .int a1), (2, .int a2), (3, .int a3)]) hx hb dX8_mean_20 hl (by decide) rfl (fun ls hl => ?_)
        refine lv_iload hx hb dX8_mean_22 (lv_at hl 0 rfl) ?_
        refine lv_if_eq (tgt := 35) hx hb dX8_mean_24 (by decide) (fun c24 => absurd c24 (by decide +kernel)) (fun _ => ?_)
        refine lv_aload_n hx hb dX8_mean_27 rfl (lv_at hl 1 rfl) ?_
        refine lv_iload hx hb dX8_mean_28 (lv_at hl 0 rfl) ?_
        refine va_calli (va_runV (As := [.int 1]) (rest := []) ⟨hx, hb, hml, hown, hts⟩ (c_X8_no l dC dI H.size a0 1 (Value.int v1na0_0) a0g_1 a0g_2 a0g_3 a0g_4 a0g_5 a0g_6 a0g_7 a0g_8 a0g_9 a0g_10 a0g_12 a0g_13 (Value.int a0_14) (Value.ref a0_15) a0g_16 (Value.ref a0_17) a0g_18 a0g_19 a0g_20 a0g_21 a0g_22 a0g_23 a0g_24 a0g_25 a0g_26 a0g_27 a0g_28 (Value.ref a0_29) (Value.int a0_30) (Value.int a0_31) a0g_32 a0g_33 a0g_34 a0g_35 a0g_36 a0g_37 a0g_38 a0g_39 v1na0_11 ) (cwV 1 hts gX8_mean_X8_no rfl rfl rfl zd_X8_no ⟨Nat.le_of_ble_eq_true rfl, Nat.le_of_ble_eq_true rfl⟩) ⟨ax_blind (fun _ _ _ _ _ => trivial), zr_8 (zp_K hK) (zp_P1 hP) (q0 := 0) rfl, ax_pre (zp_P1 hP) (zp_K hK) (zp_D1 hD) (fun _ _ => trivial)⟩ rfl rfl hl.1 rfl (lv_room (Nat.le_of_ble_eq_true rfl)) dX8_mean_30 ⟨Nat.le_of_ble_eq_true rfl, Nat.le_of_ble_eq_true rfl⟩) hS (fun q _ h => zp_F1 hD hS hA q h) (zp_F1 hD hS hA) (fun r30 u t H locs ht hvm hw => zx_1 (fun v30na0_11 hB hz1 hk1 hS1 => zo1 hB ht hP hD hk1 (zp_F1 hD hS hA) hS1 (fun hP hK1 hD hS => ?_)))
        have hw : r30 = (-1) := hw
        have hw := hw.symm
        subst hw
        obtain ⟨x33, ex33⟩ : ∃ y : Int64, y = ((-1) : Int32).toInt64 := ⟨_, rfl⟩
        refine lv_i2l (v := x33) hx hb dX8_mean_33 ex33.symm ?_
        exact W.lret (v := x33) hx hb hr (fun t ht hW => ⟨⟨x33, (), rfl, trivial, v1na0_0, v30na0_11, a0_30, a0_31, fa0_29, bfa0_29, by rw [ht]; exact hP, va_K.moved hW.alike hK, hD⟩, hS.F ht⟩) hS.2.2 dX8_mean_34
      · obtain ⟨hw, h17_0, h17_1, h17_2, h17_3⟩ := hw
        subst hw
        exact absurd h17_0 (by decide)

set_option maxHeartbeats 4000000 in
set_option maxRecDepth 100000 in
theorem c_X8_drawWhy (l : Launch) (dC : Nat → ClassId) (dI : Nat → Nat → Nat) (sz : Nat) (a0 : Nat) (a1 : Int32) (a2 : Int32) (a3 : Int32) (a4 : Int32) (a0g_0 a0g_1 a0g_2 a0g_3 a0g_4 a0g_5 a0g_6 a0g_7 a0g_8 a0g_9 a0g_10 a0g_11 a0g_12 a0g_13 a0g_14 a0g_16 a0g_18 a0g_19 a0g_20 a0g_21 a0g_22 a0g_23 a0g_24 a0g_25 a0g_26 a0g_27 a0g_28 a0g_32 a0g_33 a0g_34 a0g_35 a0g_36 a0g_37 : Value) (a0_15 : Nat) (a0_17 : Nat) (a0_29 : Nat) (a0_30 : Int32) (a0_31 : Int32) (a0_38 : Int32) (a0_39 : Int32) (ka0_17 : ClassId) (fa0_17 : Nat → Int32) (ka0_29 : ClassId) (fa0_29 : Nat → Int32) (ka0_15 : ClassId) (fa0_15 : Nat → Int32) (ba1_l : (0 : Int) ≤ a1.toInt) (ba1_u : a1.toInt ≤ (1 : Int)) (bfa0_17 : ((∀ k : Nat, 0 ≤ k → k ≤ 8 → (0 : Int) ≤ (fa0_17 k).toInt ∧ (fa0_17 k).toInt ≤ 8) ∧ (∀ k : Nat, 19 ≤ k → k ≤ 19 → (0 : Int) ≤ (fa0_17 k).toInt ∧ (fa0_17 k).toInt ≤ 8) ∧ (∀ k : Nat, 20 ≤ k → k ≤ 20 → (0 : Int) ≤ (fa0_17 k).toInt ∧ (fa0_17 k).toInt ≤ 19))) (bfa0_29 : (∀ k, (0 : Int) ≤ (fa0_29 k).toInt ∧ (fa0_29 k).toInt ≤ 8)) (bfa0_15 : ((∀ k : Nat, 0 ≤ k → k ≤ 0 → (2 : Int) ≤ (fa0_15 k).toInt ∧ (fa0_15 k).toInt ≤ 9) ∧ (∀ k : Nat, 1 ≤ k → k ≤ 1 → (1 : Int) ≤ (fa0_15 k).toInt ∧ (fa0_15 k).toInt ≤ 20) ∧ (∀ k : Nat, 2 ≤ k → k ≤ 2 → (0 : Int) ≤ (fa0_15 k).toInt ∧ (fa0_15 k).toInt ≤ 8) ∧ (∀ k : Nat, 3 ≤ k → k ≤ 3 → (0 : Int) ≤ (fa0_15 k).toInt ∧ (fa0_15 k).toInt ≤ 100) ∧ (∀ k : Nat, 4 ≤ k → k ≤ 4 → (0 : Int) ≤ (fa0_15 k).toInt ∧ (fa0_15 k).toInt ≤ 9) ∧ (∀ k : Nat, 5 ≤ k → k ≤ 5 → (0 : Int) ≤ (fa0_15 k).toInt ∧ (fa0_15 k).toInt ≤ 3) ∧ (∀ k : Nat, 6 ≤ k → k ≤ 6 → (0 : Int) ≤ (fa0_15 k).toInt ∧ (fa0_15 k).toInt ≤ 6) ∧ (∀ k : Nat, 7 ≤ k → k ≤ 9 → (0 : Int) ≤ (fa0_15 k).toInt ∧ (fa0_15 k).toInt ≤ 8) ∧ (∀ k : Nat, 12 ≤ k → k ≤ 29 → (0 : Int) ≤ (fa0_15 k).toInt ∧ (fa0_15 k).toInt ≤ 20) ∧ (∀ k : Nat, 30 ≤ k → k ≤ 35 → (0 : Int) ≤ (fa0_15 k).toInt ∧ (fa0_15 k).toInt ≤ 8) ∧ (∀ k : Nat, 36 ≤ k → k ≤ 47 → (0 : Int) ≤ (fa0_15 k).toInt ∧ (fa0_15 k).toInt ≤ 999))) : zm l yX8_drawWhy wsX8_drawWhy ({ frames := 2, cells := 0, slots := 0, locals := 44 }) [.ref a0, .int a1, .int a2, .int a3, .int a4] dC dI sz [(a0, .inr (8, [a0g_0, a0g_1, a0g_2, a0g_3, a0g_4, a0g_5, a0g_6, a0g_7, a0g_8, a0g_9, a0g_10, a0g_11, a0g_12, a0g_13, a0g_14, Value.ref a0_15, a0g_16, Value.ref a0_17, a0g_18, a0g_19, a0g_20, a0g_21, a0g_22, a0g_23, a0g_24, a0g_25, a0g_26, a0g_27, a0g_28, Value.ref a0_29, Value.int a0_30, Value.int a0_31, a0g_32, a0g_33, a0g_34, a0g_35, a0g_36, a0g_37, Value.int a0_38, Value.int a0_39])), (a0_17, .inl (ka0_17, 23, .inl (fa0_17))), (a0_29, .inl (ka0_29, 10, .inl (fa0_29))), (a0_15, .inl (ka0_15, 156, .inl (fa0_15)))] [(ka0_17, .int), (ka0_29, .int), (ka0_15, .int)] (fun A _ => True) (fun A => va_Qi (fun (r : Int32) (_ : Unit) => (r = 2 ∧ (1 : Int) ≤ a1.toInt ∧ a1.toInt ≤ (1 : Int)) ∨ (r = 1 ∧ (0 : Int) ≤ a1.toInt ∧ a1.toInt ≤ (0 : Int)) ∨ (r = 0 ∧ (1 : Int) ≤ a1.toInt ∧ a1.toInt ≤ (1 : Int) ∧ (0 : Int) ≤ a3.toInt ∧ a3.toInt ≤ (65536 : Int) ∧ (0 : Int) ≤ a4.toInt ∧ a4.toInt ≤ (200 : Int))) (fun (_ : Unit) (t : State) => ∃ na0_30 : Int32, ∃ na0_31 : Int32, ∃ na0_38 : Int32, ∃ na0_39 : Int32, ∃ nfa0_29 : Nat → Int32, (∀ k, (0 : Int) ≤ (nfa0_29 k).toInt ∧ (nfa0_29 k).toInt ≤ 8) ∧ ax_B dC dI A [(a0, .inr (8, [a0g_0, a0g_1, a0g_2, a0g_3, a0g_4, a0g_5, a0g_6, a0g_7, a0g_8, a0g_9, a0g_10, a0g_11, a0g_12, a0g_13, a0g_14, Value.ref a0_15, a0g_16, Value.ref a0_17, a0g_18, a0g_19, a0g_20, a0g_21, a0g_22, a0g_23, a0g_24, a0g_25, a0g_26, a0g_27, a0g_28, Value.ref a0_29, Value.int na0_30, Value.int na0_31, a0g_32, a0g_33, a0g_34, a0g_35, a0g_36, a0g_37, Value.int na0_38, Value.int na0_39])), (a0_17, .inl (ka0_17, 23, .inl (fa0_17))), (a0_29, .inl (ka0_29, 10, .inl (nfa0_29))), (a0_15, .inl (ka0_15, 156, .inl (fa0_15)))] [(ka0_17, .int), (ka0_29, .int), (ka0_15, .int)] t) A) := by
  refine zh (cc := cX8_drawWhy) (maxL := 9) (ret := (some .int)) zn_RX8 rfl (Nat.le_of_ble_eq_true rfl) (fun p e s m below meth c A ls hx hb hml hr hts (hown : s.vm.findClass RX8 = some m.cls) hlocks hA hS hP hK hD hE (hl : lv_has ls 9 [(0, .ref a0), (1, .int a1), (2, .int a2), (3, .int a3), (4, .int a4)]) => ?_)
  refine ai_open (fun K hK0 => ?_)
  refine (hK0 _ _ _).mpr ?_
  refine lv_aload_n hx hb dX8_drawWhy_0 rfl (lv_at hl 0 rfl) ?_
  refine lv_iload_n hx hb dX8_drawWhy_1 rfl (lv_at hl 1 rfl) ?_
  refine lv_iload_n hx hb dX8_drawWhy_2 rfl (lv_at hl 3 rfl) ?_
  refine lv_iconst (v := 0) hx hb dX8_drawWhy_3 zk_iconst_0 ?_
  refine lv_ldcw (v := 65536) hx hb hown (hts (.constant RX8 374 (65536)) (zm_X8_drawWhy_r1 (List.mem_of_getElem? (i := 0) rfl))) dX8_drawWhy_4 ?_
  refine va_calli (va_runS (As := [.int a3, .int 0, .int 65536]) (rest := [.int a1, .ref a0]) ⟨hx, hb, hml, hown, hts⟩ (c_X8_in l dC dI s.heap.size a3 0 65536 ) (va_cwS 3 hts gX8_drawWhy_X8_in rfl rfl rfl zd_X8_in.2 ⟨Nat.le_of_ble_eq_true rfl, Nat.le_of_ble_eq_true rfl⟩) ⟨ax_blind (fun _ _ _ _ _ => trivial), ax_pre (zp_P0 hP) (zp_K hK) (zp_D0 hD) (fun _ _ => trivial)⟩ rfl rfl hl.1 rfl (lv_room (Nat.le_of_ble_eq_true rfl)) dX8_drawWhy_7 ⟨Nat.le_of_ble_eq_true rfl, Nat.le_of_ble_eq_true rfl⟩) hS (fun q _ h => zp_F0 hD hS hA q h) (zp_F0 hD hS hA) (fun r7 u t H locs ht hvm hw hB hz1 hk1 hS1 => zo0 hB ht hP hD hk1 (zp_F0 hD hS hA) hS1 (fun hP hK1 hD hS => ?_))
  rcases hw with hw | hw
  · obtain ⟨hw, h7⟩ := hw
    subst hw
    have l7k0_a3 : (0 : Int) ≤ a3.toInt := Int.le_trans zq5 h7.1
    have u7k0_a3 : a3.toInt ≤ (65536 : Int) := Int.le_trans h7.2 zq105
    refine lv_if_eq (tgt := 29) hx hb dX8_drawWhy_10 (by decide) (fun c10 => absurd c10 (by decide +kernel)) (fun _ => ?_)
    refine lv_iload hx hb dX8_drawWhy_13 (lv_at hl 4 rfl) ?_
    refine lv_iconst (v := 0) hx hb dX8_drawWhy_15 zk_iconst_0 ?_
    refine lv_sipush (v := 200) hx hb dX8_drawWhy_16 zk_sipush_200 ?_
    refine va_calli (va_runS (As := [.int a4, .int 0, .int 200]) (rest := [.int a1, .ref a0]) ⟨hx, hb, hml, hown, hts⟩ (c_X8_in l dC dI H.size a4 0 200 ) (va_cwS 3 hts gX8_drawWhy_X8_in rfl rfl rfl zd_X8_in.2 ⟨Nat.le_of_ble_eq_true rfl, Nat.le_of_ble_eq_true rfl⟩) ⟨ax_blind (fun _ _ _ _ _ => trivial), ax_pre (zp_P0 hP) (zp_K hK) (zp_D0 hD) (fun _ _ => trivial)⟩ rfl rfl hl.1 rfl (lv_room (Nat.le_of_ble_eq_true rfl)) dX8_drawWhy_19 ⟨Nat.le_of_ble_eq_true rfl, Nat.le_of_ble_eq_true rfl⟩) hS (fun q _ h => zp_F0 hD hS hA q h) (zp_F0 hD hS hA) (fun r19 u t H locs ht hvm hw hB hz1 hk1 hS1 => zo0 hB ht hP hD hk1 (zp_F0 hD hS hA) hS1 (fun hP hK1 hD hS => ?_))
    rcases hw with hw | hw
    · obtain ⟨hw, h19⟩ := hw
      subst hw
      have l19k0_a4 : (0 : Int) ≤ a4.toInt := Int.le_trans zq5 h19.1
      have u19k0_a4 : a4.toInt ≤ (200 : Int) := Int.le_trans h19.2 zq65
      refine lv_if_eq (tgt := 29) hx hb dX8_drawWhy_22 (by decide) (fun c22 => absurd c22 (by decide +kernel)) (fun _ => ?_)
      refine lv_iconst (v := 1) hx hb dX8_drawWhy_25 zk_iconst_1 ?_
      refine lv_goto (tgt := 30) hx hb dX8_drawWhy_26 (by decide) ?_
      refine va_calli (va_runV (As := [.int a1, .int 1]) (rest := []) ⟨hx, hb, hml, hown, hts⟩ (c_X8_whyB l dC dI H.size a0 a1 1 a0g_0 a0g_1 a0g_2 a0g_3 a0g_4 a0g_5 a0g_6 a0g_7 a0g_8 a0g_9 a0g_10 a0g_11 a0g_12 a0g_13 a0g_14 (Value.ref a0_15) a0g_16 (Value.ref a0_17) a0g_18 a0g_19 a0g_20 a0g_21 a0g_22 a0g_23 a0g_24 a0g_25 a0g_26 a0g_27 a0g_28 (Value.ref a0_29) (Value.int a0_30) (Value.int a0_31) a0g_32 a0g_33 a0g_34 a0g_35 a0g_36 a0g_37 (Value.int a0_38) (Value.int a0_39) ba1_l ba1_u (Int.le_trans zq4 zq1) zq0) (cwV 2 hts gX8_drawWhy_X8_why rfl rfl rfl zd_X8_why ⟨Nat.le_of_ble_eq_true rfl, Nat.le_of_ble_eq_true rfl⟩) ⟨ax_blind (fun _ _ _ _ _ => trivial), zr_8 (zp_K hK) (zp_P1 hP) (q0 := 0) rfl, ax_pre (zp_P1 hP) (zp_K hK) (zp_D1 hD) (fun _ _ => trivial)⟩ rfl rfl hl.1 rfl (lv_room (Nat.le_of_ble_eq_true rfl)) dX8_drawWhy_30 ⟨Nat.le_of_ble_eq_true rfl, Nat.le_of_ble_eq_true rfl⟩) hS (fun q _ h => zp_F1 hD hS hA q h) (zp_F1 hD hS hA) (fun r30 u t H locs ht hvm hw hB hz1 hk1 hS1 => zo1 hB ht hP hD hk1 (zp_F1 hD hS hA) hS1 (fun hP hK1 hD hS => ?_))
      rcases hw with hw | hw | hw
      · obtain ⟨hw, h30_0, h30_1, h30_2, h30_3⟩ := hw
        subst hw
        have l30k0_a1 : (1 : Int) ≤ a1.toInt := h30_0
        have u30k0_a1 : a1.toInt ≤ (1 : Int) := ba1_u
        exact absurd h30_3 (by decide)
      · obtain ⟨hw, h30_0, h30_1⟩ := hw
        subst hw
        have l30k1_a1 : (0 : Int) ≤ a1.toInt := ba1_l
        have u30k1_a1 : a1.toInt ≤ (0 : Int) := h30_1
        refine lv_istore (lv' := [(5, .int 1), (0, .ref a0), (1, .int a1), (2, .int a2), (3, .int a3), (4, .int a4)]) hx hb dX8_drawWhy_33 hl (by decide) rfl (fun ls hl => ?_)
        refine lv_iload hx hb dX8_drawWhy_35 (lv_at hl 0 rfl) ?_
        refine lv_if_eq (tgt := 43) hx hb dX8_drawWhy_37 (by decide) (fun c37 => absurd c37 (by decide +kernel)) (fun _ => ?_)
        refine lv_iload hx hb dX8_drawWhy_40 (lv_at hl 0 rfl) ?_
        exact W.iret (v := 1) hx hb hr (fun t ht hW => ⟨⟨1, (), rfl, (Or.inr (Or.inl ⟨rfl, l30k1_a1, u30k1_a1⟩)), a0_30, a0_31, a0_38, a0_39, fa0_29, bfa0_29, by rw [ht]; exact hP, va_K.moved hW.alike hK, hD⟩, hS.F ht⟩) hS.2.2 dX8_drawWhy_42
      · obtain ⟨hw, h30_0, h30_1, h30_2, h30_3⟩ := hw
        subst hw
        have l30k2_a1 : (1 : Int) ≤ a1.toInt := h30_0
        have u30k2_a1 : a1.toInt ≤ (1 : Int) := ba1_u
        refine lv_istore (lv' := [(5, .int 0), (0, .ref a0), (1, .int a1), (2, .int a2), (3, .int a3), (4, .int a4)]) hx hb dX8_drawWhy_33 hl (by decide) rfl (fun ls hl => ?_)
        refine lv_iload hx hb dX8_drawWhy_35 (lv_at hl 0 rfl) ?_
        refine lv_if_eq (tgt := 43) hx hb dX8_drawWhy_37 (by decide) (fun _ => ?_) (fun c37 => absurd (by decide +kernel) c37)
        refine lv_iload_n hx hb dX8_drawWhy_43 rfl (lv_at hl 4 rfl) ?_
        refine lv_istore (lv' := [(6, .int a3), (5, .int 0), (0, .ref a0), (1, .int a1), (2, .int a2), (3, .int a3), (4, .int a4)]) hx hb dX8_drawWhy_44 hl (by decide) rfl (fun ls hl => ?_)
        refine lv_aload_n hx hb dX8_drawWhy_46 rfl (lv_at hl 2 rfl) ?_
        refine lv_bipush (v := (-2)) hx hb dX8_drawWhy_47 zk_bipush_n2 ?_
        refine va_put (D := (dC, dI)) (ci := 8) (v := .int (-2)) (ty := .int) (C := RX8) (T := TX8) (N := 40) hx hb hts zi_X8_drawWhy_8 tyX8 tyX8_ok nmX8 hown hK hP hD hS 0 rfl rfl 38 (by decide) (hts (.fieldLink RX8 375 "WaxTurnsModel" "shutFirst" "I") (zm_X8_drawWhy_r1 (List.mem_of_getElem? (i := 1) rfl))) (fun _ h9 => h9) rfl (tyX8_ok 38 (by decide)) rfl rfl (Nat.le_of_ble_eq_true rfl) dX8_drawWhy_49 (fun H locs hP hD hS => ?_)
        refine zs_0 (y := (a0, .inr (8, [a0g_0, a0g_1, a0g_2, a0g_3, a0g_4, a0g_5, a0g_6, a0g_7, a0g_8, a0g_9, a0g_10, a0g_11, a0g_12, a0g_13, a0g_14, Value.ref a0_15, a0g_16, Value.ref a0_17, a0g_18, a0g_19, a0g_20, a0g_21, a0g_22, a0g_23, a0g_24, a0g_25, a0g_26, a0g_27, a0g_28, Value.ref a0_29, Value.int a0_30, Value.int a0_31, a0g_32, a0g_33, a0g_34, a0g_35, a0g_36, a0g_37, Value.int (-2), Value.int a0_39]))) hP hD rfl (fun hP hD => ?_)
        refine lv_aload_n hx hb dX8_drawWhy_52 rfl (lv_at hl 2 rfl) ?_
        refine lv_iconst (v := 0) hx hb dX8_drawWhy_53 zk_iconst_0 ?_
        refine va_put (D := (dC, dI)) (ci := 8) (v := .int 0) (ty := .int) (C := RX8) (T := TX8) (N := 40) hx hb hts zi_X8_drawWhy_8 tyX8 tyX8_ok nmX8 hown hK hP hD hS 0 rfl rfl 39 (by decide) (hts (.fieldLink RX8 378 "WaxTurnsModel" "aliveOften" "I") (zm_X8_drawWhy_r1 (List.mem_of_getElem? (i := 2) rfl))) (fun _ h9 => h9) rfl (tyX8_ok 39 (by decide)) rfl rfl (Nat.le_of_ble_eq_true rfl) dX8_drawWhy_54 (fun H locs hP hD hS => ?_)
        refine zs_0 (y := (a0, .inr (8, [a0g_0, a0g_1, a0g_2, a0g_3, a0g_4, a0g_5, a0g_6, a0g_7, a0g_8, a0g_9, a0g_10, a0g_11, a0g_12, a0g_13, a0g_14, Value.ref a0_15, a0g_16, Value.ref a0_17, a0g_18, a0g_19, a0g_20, a0g_21, a0g_22, a0g_23, a0g_24, a0g_25, a0g_26, a0g_27, a0g_28, Value.ref a0_29, Value.int a0_30, Value.int a0_31, a0g_32, a0g_33, a0g_34, a0g_35, a0g_36, a0g_37, Value.int (-2), Value.int 0]))) hP hD rfl (fun hP hD => ?_)
        refine lv_aload_n hx hb dX8_drawWhy_57 rfl (lv_at hl 2 rfl) ?_
        have hKc := hK.sub (tys' := [(ka0_17, .int), (ka0_29, .int), (ka0_15, .int)]) [0, 1, 2] rfl
        refine va_callv (va_runV (As := []) (rest := []) ⟨hx, hb, hml, hown, hts⟩ (c_X8_goRound l dC dI H.size a0 a0g_0 a0g_1 a0g_2 a0g_3 a0g_4 a0g_5 a0g_6 a0g_7 a0g_8 a0g_9 a0g_10 a0g_11 a0g_12 a0g_13 a0g_14 a0g_16 a0g_18 a0g_19 a0g_20 a0g_21 a0g_22 a0g_23 a0g_24 a0g_25 a0g_26 a0g_27 a0g_28 a0g_32 a0g_33 a0g_34 a0g_35 a0g_36 a0g_37 (Value.int (-2)) (Value.int 0) a0_15 a0_17 a0_29 a0_30 a0_31 ka0_17 fa0_17 ka0_29 fa0_29 ka0_15 fa0_15 bfa0_17 bfa0_29 bfa0_15) (cwV 0 hts gX8_drawWhy_X8_goRound rfl rfl rfl zd_X8_goRound ⟨Nat.le_of_ble_eq_true rfl, Nat.le_of_ble_eq_true rfl⟩) ⟨ax_blind (fun _ _ _ _ _ => trivial), zr_8 hKc (zp_P4 hP) (q0 := 0) rfl, ax_pre (zp_P4 hP) hKc (zp_D4 hD) (fun _ _ => trivial)⟩ rfl rfl hl.1 rfl (lv_room (Nat.le_of_ble_eq_true rfl)) dX8_drawWhy_58 ⟨Nat.le_of_ble_eq_true rfl, Nat.le_of_ble_eq_true rfl⟩) hS (fun q _ h => zp_F4 hD hS hA q h) (zp_F4 hD hS hA) (fun u t H locs ht hvm hw => zx_3 (fun v58na0_30 v58na0_31 v58nfa0_29 => zy_2 (fun bv58nfa0_29 hraw58_0 hB hz1 hk1 hS1 => zo4 hB ht hP hD hk1 (zp_F4 hD hS hA) hS1 (fun hP hK1 hD hS => ?_))))
        refine lv_iconst (v := 1) hx hb dX8_drawWhy_61 zk_iconst_1 ?_
        refine lv_istore (lv' := [(7, .int 1), (6, .int a3), (5, .int 0), (0, .ref a0), (1, .int a1), (2, .int a2), (3, .int a3), (4, .int a4)]) hx hb dX8_drawWhy_62 hl (by decide) rfl (fun ls hl => ?_)
        have J64 : ∀ (n : Nat) (j64l7 : Int32) (j64l6 : Int32) (j64a0_38 : Int32) (j64a0_39 : Int32) (H : Heap) (locs : List Loc) (ls : Array Slot), (202 : Int) - j64l7.toInt ≤ (n : Int) → (1 : Int) ≤ j64l7.toInt → j64l7.toInt ≤ (201 : Int) → (0 : Int) ≤ j64l6.toInt → j64l6.toInt ≤ (65536 : Int) → va_P (dC, dI) vwCl [(a0, .inr (8, [a0g_0, a0g_1, a0g_2, a0g_3, a0g_4, a0g_5, a0g_6, a0g_7, a0g_8, a0g_9, a0g_10, a0g_11, a0g_12, a0g_13, a0g_14, Value.ref a0_15, a0g_16, Value.ref a0_17, a0g_18, a0g_19, a0g_20, a0g_21, a0g_22, a0g_23, a0g_24, a0g_25, a0g_26, a0g_27, a0g_28, Value.ref a0_29, Value.int v58na0_30, Value.int v58na0_31, a0g_32, a0g_33, a0g_34, a0g_35, a0g_36, a0g_37, Value.int j64a0_38, Value.int j64a0_39])), (a0_17, .inl (ka0_17, 23, .inl (fa0_17))), (a0_29, .inl (ka0_29, 10, .inl (v58nfa0_29))), (a0_15, .inl (ka0_15, 156, .inl (fa0_15)))] H → va_D A [(a0, .inr (8, [a0g_0, a0g_1, a0g_2, a0g_3, a0g_4, a0g_5, a0g_6, a0g_7, a0g_8, a0g_9, a0g_10, a0g_11, a0g_12, a0g_13, a0g_14, Value.ref a0_15, a0g_16, Value.ref a0_17, a0g_18, a0g_19, a0g_20, a0g_21, a0g_22, a0g_23, a0g_24, a0g_25, a0g_26, a0g_27, a0g_28, Value.ref a0_29, Value.int v58na0_30, Value.int v58na0_31, a0g_32, a0g_33, a0g_34, a0g_35, a0g_36, a0g_37, Value.int j64a0_38, Value.int j64a0_39])), (a0_17, .inl (ka0_17, 23, .inl (fa0_17))), (a0_29, .inl (ka0_29, 10, .inl (v58nfa0_29))), (a0_15, .inl (ka0_15, 156, .inl (fa0_15)))] → va_S A s.heap H locs → lv_has ls 9 [(0, .ref a0), (2, .int a2), (4, .int a4), (6, .int j64l6), (7, .int j64l7)] → K H locs (F0 m 64 ls []) := by
          intro n
          induction n with
          | zero =>
            intro j64l7 j64l6 j64a0_38 j64a0_39 H locs ls hm bj64l7_l bj64l7_u bj64l6_l bj64l6_u hP hD hS hl
            first | exact zg_0 hm bj64l7_u (by decide) | (have h8 := ai_min j64l7; have h9 := ai_max j64l7; exact absurd hm (by omega))
          | succ n ih64 =>
            intro j64l7 j64l6 j64a0_38 j64a0_39 H locs ls hm bj64l7_l bj64l7_u bj64l6_l bj64l6_u hP hD hS hl
            refine (hK0 _ _ _).mpr ?_
            have hm64 := hm
            refine lv_iload hx hb dX8_drawWhy_64 (lv_at hl 4 rfl) ?_
            refine lv_iload hx hb dX8_drawWhy_66 (lv_at hl 2 rfl) ?_
            refine lv_icmp_gt (tgt := 159) hx hb dX8_drawWhy_68 (by decide) (fun c68 => ?_) (fun c68 => ?_)
            · have gc68 := ai_lt c68
              have u68t_a4 : a4.toInt ≤ (200 : Int) := u19k0_a4
              have l68t_j64l7 : (1 : Int) ≤ j64l7.toInt := bj64l7_l
              refine lv_iconst (v := 0) hx hb dX8_drawWhy_159 zk_iconst_0 ?_
              exact W.iret (v := 0) hx hb hr (fun t ht hW => ⟨⟨0, (), rfl, (Or.inr (Or.inr (⟨rfl, l30k2_a1, u30k2_a1, l7k0_a3, u7k0_a3, l19k0_a4, u68t_a4⟩))), v58na0_30, v58na0_31, j64a0_38, j64a0_39, v58nfa0_29, bv58nfa0_29, by rw [ht]; exact hP, va_K.moved hW.alike hK, hD⟩, hS.F ht⟩) hS.2.2 dX8_drawWhy_160
            · have gc68 := ai_nlt c68
              have u68f_j64l7 : j64l7.toInt ≤ (200 : Int) := Int.le_trans gc68 u19k0_a4
              have l68f_a4 : (1 : Int) ≤ a4.toInt := Int.le_trans bj64l7_l gc68
              refine lv_bipush (v := 75) hx hb dX8_drawWhy_71 zk_bipush_75 ?_
              refine lv_iload hx hb dX8_drawWhy_73 (lv_at hl 3 rfl) ?_
              refine lv_imul hx hb dX8_drawWhy_75 ?_
              refine lv_topi (fun x75 ex75 => ?_)
              have qx75 : x75.toInt = (75 : Int32).toInt * j64l6.toInt ∧ (0 : Int) ≤ x75.toInt ∧ x75.toInt ≤ 4915200 := ai_mul ex75 ⟨zq202, zq203⟩ ⟨bj64l6_l, bj64l6_u⟩ (by decide) (by decide) zq204
              have wx75 : x75.toInt = 75 * j64l6.toInt := qx75.1
              refine lv_bipush (v := 74) hx hb dX8_drawWhy_76 zk_bipush_74 ?_
              refine lv_iadd hx hb dX8_drawWhy_78 ?_
              refine lv_topi (fun x78 ex78 => ?_)
              have qx78 : x78.toInt = x75.toInt + (74 : Int32).toInt := ai_add ex78 ⟨qx75.2.1, qx75.2.2⟩ ⟨zq205, zq206⟩ (by decide) (by decide)
              have bx78 : (74 : Int) ≤ x78.toInt ∧ x78.toInt ≤ 4915274 := ⟨by rw [qx78]; exact Int.add_le_add qx75.2.1 zq205, by rw [qx78]; exact Int.add_le_add qx75.2.2 zq206⟩
              have wx78 : x78.toInt = x75.toInt + 74 := qx78
              refine lv_ldcw (v := 65537) hx hb hown (hts (.constant RX8 381 (65537)) (zm_X8_drawWhy_r1 (List.mem_of_getElem? (i := 3) rfl))) dX8_drawWhy_79 ?_
              refine lv_irem hx hb dX8_drawWhy_82 (by decide +kernel) ?_
              refine lv_topi (fun x82 ex82 => ?_)
              have qx82 := ai_rem2 ex82 (Int.le_trans zq207 bx78.1) (Int.lt_of_lt_of_le zq208 zq209) zq210
              have wx82 : x82.toInt = x78.toInt % 65537 := qx82.1
              refine lv_istore (lv' := [(6, .int x82), (0, .ref a0), (2, .int a2), (4, .int a4), (7, .int j64l7)]) hx hb dX8_drawWhy_83 hl (by decide) rfl (fun ls hl => ?_)
              refine lv_iload hx hb dX8_drawWhy_85 (lv_at hl 0 rfl) ?_
              refine lv_bipush (v := 100) hx hb dX8_drawWhy_87 zk_bipush_100 ?_
              refine lv_irem hx hb dX8_drawWhy_89 (by decide +kernel) ?_
              refine lv_topi (fun x89 ex89 => ?_)
              have qx89 := ai_rem2 ex89 qx82.2.1 (Int.lt_of_lt_of_le zq23 zq24) zq32
              have wx89 : x89.toInt = x82.toInt % 100 := qx89.1
              refine lv_aload_n hx hb dX8_drawWhy_90 rfl (lv_at hl 1 rfl) ?_
              refine va_get (D := (dC, dI)) (ci := 8) (v := .ref a0_15) (C := RX8) (T := TX8) (N := 40) hx hb hts zi_X8_drawWhy_8 hown hK hP 0 rfl rfl 15 (by decide) (hts (.fieldLink RX8 20 "WaxTurnsModel" "\x72" "[I") (zm_X8_drawWhy_r1 (List.mem_of_getElem? (i := 4) rfl))) (fun _ h9 => h9) rfl dX8_drawWhy_91 ?_
              refine lv_iconst (v := 3) hx hb dX8_drawWhy_94 zk_iconst_3 ?_
              refine va_iald hx hb hK hP 3 2 rfl rfl (by unfold vp_in; decide +kernel) dX8_drawWhy_95 ?_
              refine lv_topi (fun x95 ex95 => ?_)
              have bx95 : (0 : Int) ≤ x95.toInt ∧ x95.toInt ≤ 100 := by rw [ex95]; exact ai_rd bfa0_15.2.2.2.1 zq8 zq9 (by decide) (by decide) (by decide)
              have J104 : ∀ (j104s0 : Int32) (H : Heap) (locs : List Loc) (ls : Array Slot), (0 : Int) ≤ j104s0.toInt → j104s0.toInt ≤ (1 : Int) → va_P (dC, dI) vwCl [(a0, .inr (8, [a0g_0, a0g_1, a0g_2, a0g_3, a0g_4, a0g_5, a0g_6, a0g_7, a0g_8, a0g_9, a0g_10, a0g_11, a0g_12, a0g_13, a0g_14, Value.ref a0_15, a0g_16, Value.ref a0_17, a0g_18, a0g_19, a0g_20, a0g_21, a0g_22, a0g_23, a0g_24, a0g_25, a0g_26, a0g_27, a0g_28, Value.ref a0_29, Value.int v58na0_30, Value.int v58na0_31, a0g_32, a0g_33, a0g_34, a0g_35, a0g_36, a0g_37, Value.int j64a0_38, Value.int j64a0_39])), (a0_17, .inl (ka0_17, 23, .inl (fa0_17))), (a0_29, .inl (ka0_29, 10, .inl (v58nfa0_29))), (a0_15, .inl (ka0_15, 156, .inl (fa0_15)))] H → va_D A [(a0, .inr (8, [a0g_0, a0g_1, a0g_2, a0g_3, a0g_4, a0g_5, a0g_6, a0g_7, a0g_8, a0g_9, a0g_10, a0g_11, a0g_12, a0g_13, a0g_14, Value.ref a0_15, a0g_16, Value.ref a0_17, a0g_18, a0g_19, a0g_20, a0g_21, a0g_22, a0g_23, a0g_24, a0g_25, a0g_26, a0g_27, a0g_28, Value.ref a0_29, Value.int v58na0_30, Value.int v58na0_31, a0g_32, a0g_33, a0g_34, a0g_35, a0g_36, a0g_37, Value.int j64a0_38, Value.int j64a0_39])), (a0_17, .inl (ka0_17, 23, .inl (fa0_17))), (a0_29, .inl (ka0_29, 10, .inl (v58nfa0_29))), (a0_15, .inl (ka0_15, 156, .inl (fa0_15)))] → va_S A s.heap H locs → lv_has ls 9 [(0, .ref a0), (2, .int a2), (4, .int a4), (6, .int x82), (7, .int j64l7)] → K H locs (F0 m 104 ls [.int j104s0]) := by
                intro j104s0 H locs ls  bj104s0_l bj104s0_u hP hD hS hl
                refine (hK0 _ _ _).mpr ?_
                refine lv_istore (lv' := [(8, .int j104s0), (0, .ref a0), (2, .int a2), (4, .int a4), (6, .int x82), (7, .int j64l7)]) hx hb dX8_drawWhy_104 hl (by decide) rfl (fun ls hl => ?_)
                refine lv_iload hx hb dX8_drawWhy_106 (lv_at hl 0 rfl) ?_
                have J124 : ∀ (j124a0_38 : Int32) (H : Heap) (locs : List Loc) (ls : Array Slot), va_P (dC, dI) vwCl [(a0, .inr (8, [a0g_0, a0g_1, a0g_2, a0g_3, a0g_4, a0g_5, a0g_6, a0g_7, a0g_8, a0g_9, a0g_10, a0g_11, a0g_12, a0g_13, a0g_14, Value.ref a0_15, a0g_16, Value.ref a0_17, a0g_18, a0g_19, a0g_20, a0g_21, a0g_22, a0g_23, a0g_24, a0g_25, a0g_26, a0g_27, a0g_28, Value.ref a0_29, Value.int v58na0_30, Value.int v58na0_31, a0g_32, a0g_33, a0g_34, a0g_35, a0g_36, a0g_37, Value.int j124a0_38, Value.int j64a0_39])), (a0_17, .inl (ka0_17, 23, .inl (fa0_17))), (a0_29, .inl (ka0_29, 10, .inl (v58nfa0_29))), (a0_15, .inl (ka0_15, 156, .inl (fa0_15)))] H → va_D A [(a0, .inr (8, [a0g_0, a0g_1, a0g_2, a0g_3, a0g_4, a0g_5, a0g_6, a0g_7, a0g_8, a0g_9, a0g_10, a0g_11, a0g_12, a0g_13, a0g_14, Value.ref a0_15, a0g_16, Value.ref a0_17, a0g_18, a0g_19, a0g_20, a0g_21, a0g_22, a0g_23, a0g_24, a0g_25, a0g_26, a0g_27, a0g_28, Value.ref a0_29, Value.int v58na0_30, Value.int v58na0_31, a0g_32, a0g_33, a0g_34, a0g_35, a0g_36, a0g_37, Value.int j124a0_38, Value.int j64a0_39])), (a0_17, .inl (ka0_17, 23, .inl (fa0_17))), (a0_29, .inl (ka0_29, 10, .inl (v58nfa0_29))), (a0_15, .inl (ka0_15, 156, .inl (fa0_15)))] → va_S A s.heap H locs → lv_has ls 9 [(0, .ref a0), (2, .int a2), (4, .int a4), (6, .int x82), (7, .int j64l7), (8, .int j104s0)] → K H locs (F0 m 124 ls []) := by
                  intro j124a0_38 H locs ls   hP hD hS hl
                  refine (hK0 _ _ _).mpr ?_
                  refine lv_aload_n hx hb dX8_drawWhy_124 rfl (lv_at hl 0 rfl) ?_
                  refine lv_dup hx hb dX8_drawWhy_125 rfl ?_
                  refine va_get (D := (dC, dI)) (ci := 8) (v := .int j64a0_39) (C := RX8) (T := TX8) (N := 40) hx hb hts zi_X8_drawWhy_8 hown hK hP 0 rfl rfl 39 (by decide) (hts (.fieldLink RX8 378 "WaxTurnsModel" "aliveOften" "I") (zm_X8_drawWhy_r1 (List.mem_of_getElem? (i := 2) rfl))) (fun _ h9 => h9) rfl dX8_drawWhy_126 ?_
                  refine lv_iload hx hb dX8_drawWhy_129 (lv_at hl 5 rfl) ?_
                  have J149 : ∀ (j149s0 : Int32) (H : Heap) (locs : List Loc) (ls : Array Slot), (0 : Int) ≤ j149s0.toInt → j149s0.toInt ≤ (1 : Int) → va_P (dC, dI) vwCl [(a0, .inr (8, [a0g_0, a0g_1, a0g_2, a0g_3, a0g_4, a0g_5, a0g_6, a0g_7, a0g_8, a0g_9, a0g_10, a0g_11, a0g_12, a0g_13, a0g_14, Value.ref a0_15, a0g_16, Value.ref a0_17, a0g_18, a0g_19, a0g_20, a0g_21, a0g_22, a0g_23, a0g_24, a0g_25, a0g_26, a0g_27, a0g_28, Value.ref a0_29, Value.int v58na0_30, Value.int v58na0_31, a0g_32, a0g_33, a0g_34, a0g_35, a0g_36, a0g_37, Value.int j124a0_38, Value.int j64a0_39])), (a0_17, .inl (ka0_17, 23, .inl (fa0_17))), (a0_29, .inl (ka0_29, 10, .inl (v58nfa0_29))), (a0_15, .inl (ka0_15, 156, .inl (fa0_15)))] H → va_D A [(a0, .inr (8, [a0g_0, a0g_1, a0g_2, a0g_3, a0g_4, a0g_5, a0g_6, a0g_7, a0g_8, a0g_9, a0g_10, a0g_11, a0g_12, a0g_13, a0g_14, Value.ref a0_15, a0g_16, Value.ref a0_17, a0g_18, a0g_19, a0g_20, a0g_21, a0g_22, a0g_23, a0g_24, a0g_25, a0g_26, a0g_27, a0g_28, Value.ref a0_29, Value.int v58na0_30, Value.int v58na0_31, a0g_32, a0g_33, a0g_34, a0g_35, a0g_36, a0g_37, Value.int j124a0_38, Value.int j64a0_39])), (a0_17, .inl (ka0_17, 23, .inl (fa0_17))), (a0_29, .inl (ka0_29, 10, .inl (v58nfa0_29))), (a0_15, .inl (ka0_15, 156, .inl (fa0_15)))] → va_S A s.heap H locs → lv_has ls 9 [(0, .ref a0), (2, .int a2), (4, .int a4), (6, .int x82), (7, .int j64l7)] → K H locs (F0 m 149 ls [.int j149s0, .int j64a0_39, .ref a0]) := by
                    intro j149s0 H locs ls  bj149s0_l bj149s0_u hP hD hS hl
                    refine (hK0 _ _ _).mpr ?_
                    refine lv_iadd hx hb dX8_drawWhy_149 ?_
                    refine lv_topi (fun x149 ex149 => ?_)
                    refine va_put (D := (dC, dI)) (ci := 8) (v := .int x149) (ty := .int) (C := RX8) (T := TX8) (N := 40) hx hb hts zi_X8_drawWhy_8 tyX8 tyX8_ok nmX8 hown hK hP hD hS 0 rfl rfl 39 (by decide) (hts (.fieldLink RX8 378 "WaxTurnsModel" "aliveOften" "I") (zm_X8_drawWhy_r1 (List.mem_of_getElem? (i := 2) rfl))) (fun _ h9 => h9) rfl (tyX8_ok 39 (by decide)) rfl rfl (Nat.le_of_ble_eq_true rfl) dX8_drawWhy_150 (fun H locs hP hD hS => ?_)
                    refine zs_0 (y := (a0, .inr (8, [a0g_0, a0g_1, a0g_2, a0g_3, a0g_4, a0g_5, a0g_6, a0g_7, a0g_8, a0g_9, a0g_10, a0g_11, a0g_12, a0g_13, a0g_14, Value.ref a0_15, a0g_16, Value.ref a0_17, a0g_18, a0g_19, a0g_20, a0g_21, a0g_22, a0g_23, a0g_24, a0g_25, a0g_26, a0g_27, a0g_28, Value.ref a0_29, Value.int v58na0_30, Value.int v58na0_31, a0g_32, a0g_33, a0g_34, a0g_35, a0g_36, a0g_37, Value.int j124a0_38, Value.int x149]))) hP hD rfl (fun hP hD => ?_)
                    obtain ⟨x153, ex153⟩ : ∃ y : Int32, y = j64l7 + Int32.ofInt 1 := ⟨_, rfl⟩
                    have qx153 : x153.toInt = j64l7.toInt + 1 := ai_inc ex153 (by decide) (by decide) u68f_j64l7 (by decide)
                    have bx153 : (2 : Int) ≤ x153.toInt ∧ x153.toInt ≤ 201 := ⟨by rw [qx153]; exact Int.add_le_add bj64l7_l (Int.le_refl _), by rw [qx153]; exact Int.add_le_add u68f_j64l7 (Int.le_refl _)⟩
                    refine lv_iinc (v := x153) (lv' := [(7, .int x153), (0, .ref a0), (2, .int a2), (4, .int a4), (6, .int x82)]) hx hb dX8_drawWhy_153 hl (k := 4) rfl ex153.symm (by decide) rfl (fun ls hl => ?_)
                    refine lv_goto (tgt := 64) hx hb dX8_drawWhy_156 (by decide) ?_
                    exact (hK0 _ _ _).mp (ih64 x153 x82 j124a0_38 x149 _ _ _ (by first | exact zg_s hm64 qx153 | (have h0 := qx153; omega)) (Int.le_trans zq54 bx153.1) bx153.2 qx82.2.1 qx82.2.2 hP hD hS (lv_sub hl [1, 2, 3, 4, 0] rfl))
                  have J148 : ∀ (H : Heap) (locs : List Loc) (ls : Array Slot), va_P (dC, dI) vwCl [(a0, .inr (8, [a0g_0, a0g_1, a0g_2, a0g_3, a0g_4, a0g_5, a0g_6, a0g_7, a0g_8, a0g_9, a0g_10, a0g_11, a0g_12, a0g_13, a0g_14, Value.ref a0_15, a0g_16, Value.ref a0_17, a0g_18, a0g_19, a0g_20, a0g_21, a0g_22, a0g_23, a0g_24, a0g_25, a0g_26, a0g_27, a0g_28, Value.ref a0_29, Value.int v58na0_30, Value.int v58na0_31, a0g_32, a0g_33, a0g_34, a0g_35, a0g_36, a0g_37, Value.int j124a0_38, Value.int j64a0_39])), (a0_17, .inl (ka0_17, 23, .inl (fa0_17))), (a0_29, .inl (ka0_29, 10, .inl (v58nfa0_29))), (a0_15, .inl (ka0_15, 156, .inl (fa0_15)))] H → va_D A [(a0, .inr (8, [a0g_0, a0g_1, a0g_2, a0g_3, a0g_4, a0g_5, a0g_6, a0g_7, a0g_8, a0g_9, a0g_10, a0g_11, a0g_12, a0g_13, a0g_14, Value.ref a0_15, a0g_16, Value.ref a0_17, a0g_18, a0g_19, a0g_20, a0g_21, a0g_22, a0g_23, a0g_24, a0g_25, a0g_26, a0g_27, a0g_28, Value.ref a0_29, Value.int v58na0_30, Value.int v58na0_31, a0g_32, a0g_33, a0g_34, a0g_35, a0g_36, a0g_37, Value.int j124a0_38, Value.int j64a0_39])), (a0_17, .inl (ka0_17, 23, .inl (fa0_17))), (a0_29, .inl (ka0_29, 10, .inl (v58nfa0_29))), (a0_15, .inl (ka0_15, 156, .inl (fa0_15)))] → va_S A s.heap H locs → lv_has ls 9 [(0, .ref a0), (2, .int a2), (4, .int a4), (6, .int x82), (7, .int j64l7)] → K H locs (F0 m 148 ls [.int j64a0_39, .ref a0]) := by
                    intro  H locs ls   hP hD hS hl
                    refine (hK0 _ _ _).mpr ?_
                    refine lv_iconst (v := 0) hx hb dX8_drawWhy_148 zk_iconst_0 ?_
                    exact (hK0 _ _ _).mp (J149 0 _ _ _  zq5 (Int.le_trans zq6 zq4) hP hD hS (lv_sub hl [0, 1, 2, 3, 4] rfl))
                  refine lv_if_ne (tgt := 148) hx hb dX8_drawWhy_131 (by decide) (fun c131 => ?_) (fun c131 => ?_)
                  · have gc131 := ai_ne c131
                    have l131t_j104s0 : (1 : Int) ≤ j104s0.toInt := (by first | exact zg_l bj104s0_l gc131 (by decide) (by decide) | (have h1 := bj104s0_l; have h2 : (0 : Int32).toInt = 0 := (by decide); rw [h2] at gc131; omega))
                    exact (hK0 _ _ _).mp (J148  _ _ _   hP hD hS (lv_sub hl [0, 1, 2, 3, 4] rfl))
                  · have gc131 := ai_eq c131
                    have u131f_j104s0 : j104s0.toInt ≤ (0 : Int) := Int.le_trans (Int.le_of_eq gc131) zq6
                    have l131f_j104s0 : (0 : Int) ≤ j104s0.toInt := bj104s0_l
                    refine lv_aload_n hx hb dX8_drawWhy_134 rfl (lv_at hl 0 rfl) ?_
                    refine lv_iload hx hb dX8_drawWhy_135 (lv_at hl 4 rfl) ?_
                    refine zc_cutc (wc := [(a0, .inr (8, [a0g_0, a0g_1, a0g_2, a0g_3, a0g_4, a0g_5, a0g_6, a0g_7, a0g_8, a0g_9, a0g_10, a0g_11, a0g_12, a0g_13, a0g_14, Value.ref a0_15, a0g_16, Value.ref a0_17, a0g_18, a0g_19, a0g_20, a0g_21, a0g_22, a0g_23, a0g_24, a0g_25, a0g_26, a0g_27, a0g_28, Value.ref a0_29, Value.int v58na0_30, Value.int v58na0_31, a0g_32, a0g_33, a0g_34, a0g_35, a0g_36, a0g_37, Value.int j124a0_38, Value.int j64a0_39])), (a0_29, .inl (ka0_29, 10, .inl (v58nfa0_29)))]) hP hD hS hA [0, 2] (by decide +kernel) rfl (fun hPc hDc hFc hCc => ?_)
                    have hKc := hK.sub (tys' := [(ka0_29, .int)]) [1] rfl
                    refine va_calli (va_runV (As := [.int j64l7]) (rest := [.int j64a0_39, .ref a0]) ⟨hx, hb, hml, hown, hts⟩ (c_X8_turnAt l dC dI H.size a0 j64l7 a0g_0 a0g_1 a0g_2 a0g_3 a0g_4 a0g_5 a0g_6 a0g_7 a0g_8 a0g_9 a0g_10 a0g_11 a0g_12 a0g_13 a0g_14 (Value.ref a0_15) a0g_16 (Value.ref a0_17) a0g_18 a0g_19 a0g_20 a0g_21 a0g_22 a0g_23 a0g_24 a0g_25 a0g_26 a0g_27 a0g_28 a0g_32 a0g_33 a0g_34 a0g_35 a0g_36 a0g_37 (Value.int j124a0_38) (Value.int j64a0_39) a0_29 v58na0_30 v58na0_31 ka0_29 v58nfa0_29 (Int.le_trans zq4 bj64l7_l) (by omega : (0 : Int) ≤ v58na0_30.toInt) (by omega : v58na0_30.toInt ≤ (8 : Int)) (by omega : (1 : Int) ≤ v58na0_31.toInt) (by omega : v58na0_31.toInt ≤ (9 : Int)) bv58nfa0_29 (by omega)) (cwV 1 hts gX8_drawWhy_X8_turnAt rfl rfl rfl zd_X8_turnAt ⟨Nat.le_of_ble_eq_true rfl, Nat.le_of_ble_eq_true rfl⟩) ⟨ax_blind (fun _ _ _ _ _ => trivial), zr_8 hKc hPc (q0 := 0) rfl, ax_pre hPc hKc hDc (fun _ _ => trivial)⟩ rfl rfl hl.1 rfl (lv_room (Nat.le_of_ble_eq_true rfl)) dX8_drawWhy_137 ⟨Nat.le_of_ble_eq_true rfl, Nat.le_of_ble_eq_true rfl⟩) hS (fun q _ h => hFc q h) hFc (fun r137 u t H locs ht hvm hw hB hz1 hk1 hS1 => zo hB ht hS1 (fun hP1 hK1 hD1 hS => ?_))
                    refine zc_backc (w := [(a0, .inr (8, [a0g_0, a0g_1, a0g_2, a0g_3, a0g_4, a0g_5, a0g_6, a0g_7, a0g_8, a0g_9, a0g_10, a0g_11, a0g_12, a0g_13, a0g_14, Value.ref a0_15, a0g_16, Value.ref a0_17, a0g_18, a0g_19, a0g_20, a0g_21, a0g_22, a0g_23, a0g_24, a0g_25, a0g_26, a0g_27, a0g_28, Value.ref a0_29, Value.int v58na0_30, Value.int v58na0_31, a0g_32, a0g_33, a0g_34, a0g_35, a0g_36, a0g_37, Value.int j124a0_38, Value.int j64a0_39])), (a0_17, .inl (ka0_17, 23, .inl (fa0_17))), (a0_29, .inl (ka0_29, 10, .inl (v58nfa0_29))), (a0_15, .inl (ka0_15, 156, .inl (fa0_15)))]) hP hD hCc hk1 hFc hP1 hD1 [.inr 0, .inl 1, .inr 1, .inl 3] (by decide +kernel) rfl (fun hP hD => ?_)
                    have hw : (0 : Int) ≤ r137.toInt ∧ r137.toInt ≤ (8 : Int) := hw
                    obtain ⟨h137_0, h137_1⟩ := hw
                    refine lv_iload_n hx hb dX8_drawWhy_140 rfl (lv_at hl 1 rfl) ?_
                    refine lv_icmp_ne (tgt := 148) hx hb dX8_drawWhy_141 (by decide) (fun c141 => ?_) (fun c141 => ?_)
                    · have gc141 := ai_ne c141
                      exact (hK0 _ _ _).mp (J148  _ _ _   hP hD hS (lv_sub hl [0, 1, 2, 3, 4] rfl))
                    · have gc141 := ai_eq c141
                      have u141f_a2 : a2.toInt ≤ (8 : Int) := Int.le_trans (Int.le_of_eq gc141.symm) h137_1
                      have l141f_a2 : (0 : Int) ≤ a2.toInt := Int.le_trans h137_0 (Int.le_of_eq gc141)
                      refine lv_iconst (v := 1) hx hb dX8_drawWhy_144 zk_iconst_1 ?_
                      refine lv_goto (tgt := 149) hx hb dX8_drawWhy_145 (by decide) ?_
                      exact (hK0 _ _ _).mp (J149 1 _ _ _  (Int.le_trans zq4 zq1) zq0 hP hD hS (lv_sub hl [0, 1, 2, 3, 4] rfl))
                refine lv_if_eq (tgt := 124) hx hb dX8_drawWhy_108 (by decide) (fun c108 => ?_) (fun c108 => ?_)
                · have gc108 := ai_eq c108
                  have u108t_j104s0 : j104s0.toInt ≤ (0 : Int) := Int.le_trans (Int.le_of_eq gc108) zq6
                  have l108t_j104s0 : (0 : Int) ≤ j104s0.toInt := bj104s0_l
                  exact (hK0 _ _ _).mp (J124 j64a0_38 _ _ _   hP hD hS (lv_sub hl [1, 2, 3, 4, 5, 0] rfl))
                · have gc108 := ai_ne c108
                  have l108f_j104s0 : (1 : Int) ≤ j104s0.toInt := (by first | exact zg_l bj104s0_l gc108 (by decide) (by decide) | (have h1 := bj104s0_l; have h2 : (0 : Int32).toInt = 0 := (by decide); rw [h2] at gc108; omega))
                  refine lv_aload_n hx hb dX8_drawWhy_111 rfl (lv_at hl 1 rfl) ?_
                  refine va_get (D := (dC, dI)) (ci := 8) (v := .int j64a0_38) (C := RX8) (T := TX8) (N := 40) hx hb hts zi_X8_drawWhy_8 hown hK hP 0 rfl rfl 38 (by decide) (hts (.fieldLink RX8 375 "WaxTurnsModel" "shutFirst" "I") (zm_X8_drawWhy_r1 (List.mem_of_getElem? (i := 1) rfl))) (fun _ h9 => h9) rfl dX8_drawWhy_112 ?_
                  refine lv_if_ge (tgt := 124) hx hb dX8_drawWhy_115 (by decide) (fun c115 => ?_) (fun c115 => ?_)
                  · have gc115 := ai_le c115
                    have l115t_j64a0_38 : (0 : Int) ≤ j64a0_38.toInt := Int.le_trans zq5 gc115
                    exact (hK0 _ _ _).mp (J124 j64a0_38 _ _ _   hP hD hS (lv_sub hl [1, 2, 3, 4, 5, 0] rfl))
                  · have gc115 := ai_nle c115
                    have u115f_j64a0_38 : j64a0_38.toInt ≤ (-1 : Int) := ai_lthi gc115 zq6
                    refine lv_aload_n hx hb dX8_drawWhy_118 rfl (lv_at hl 1 rfl) ?_
                    refine lv_iload hx hb dX8_drawWhy_119 (lv_at hl 5 rfl) ?_
                    refine va_put (D := (dC, dI)) (ci := 8) (v := .int j64l7) (ty := .int) (C := RX8) (T := TX8) (N := 40) hx hb hts zi_X8_drawWhy_8 tyX8 tyX8_ok nmX8 hown hK hP hD hS 0 rfl rfl 38 (by decide) (hts (.fieldLink RX8 375 "WaxTurnsModel" "shutFirst" "I") (zm_X8_drawWhy_r1 (List.mem_of_getElem? (i := 1) rfl))) (fun _ h9 => h9) rfl (tyX8_ok 38 (by decide)) rfl rfl (Nat.le_of_ble_eq_true rfl) dX8_drawWhy_121 (fun H locs hP hD hS => ?_)
                    refine zs_0 (y := (a0, .inr (8, [a0g_0, a0g_1, a0g_2, a0g_3, a0g_4, a0g_5, a0g_6, a0g_7, a0g_8, a0g_9, a0g_10, a0g_11, a0g_12, a0g_13, a0g_14, Value.ref a0_15, a0g_16, Value.ref a0_17, a0g_18, a0g_19, a0g_20, a0g_21, a0g_22, a0g_23, a0g_24, a0g_25, a0g_26, a0g_27, a0g_28, Value.ref a0_29, Value.int v58na0_30, Value.int v58na0_31, a0g_32, a0g_33, a0g_34, a0g_35, a0g_36, a0g_37, Value.int j64l7, Value.int j64a0_39]))) hP hD rfl (fun hP hD => ?_)
                    exact (hK0 _ _ _).mp (J124 j64l7 _ _ _   hP hD hS (lv_sub hl [1, 2, 3, 4, 5, 0] rfl))
              refine lv_icmp_ge (tgt := 103) hx hb dX8_drawWhy_96 (by decide) (fun c96 => ?_) (fun c96 => ?_)
              · have gc96 := ai_le c96
                have u96t_x95 : x95.toInt ≤ (99 : Int) := Int.le_trans gc96 qx89.2.2
                have l96t_x89 : (0 : Int) ≤ x89.toInt := qx89.2.1
                refine lv_iconst (v := 0) hx hb dX8_drawWhy_103 zk_iconst_0 ?_
                exact (hK0 _ _ _).mp (J104 0 _ _ _  zq5 (Int.le_trans zq6 zq4) hP hD hS (lv_sub hl [1, 2, 3, 0, 4] rfl))
              · have gc96 := ai_nle c96
                have u96f_x89 : x89.toInt ≤ (99 : Int) := qx89.2.2
                have l96f_x95 : (1 : Int) ≤ x95.toInt := ai_ltlo gc96 qx89.2.1
                refine lv_iconst (v := 1) hx hb dX8_drawWhy_99 zk_iconst_1 ?_
                refine lv_goto (tgt := 104) hx hb dX8_drawWhy_100 (by decide) ?_
                exact (hK0 _ _ _).mp (J104 1 _ _ _  (Int.le_trans zq4 zq1) zq0 hP hD hS (lv_sub hl [1, 2, 3, 0, 4] rfl))
        exact (hK0 _ _ _).mp (J64 201 1 a3 (-2) 0 _ _ _ (by first | decide +kernel | (have h1 : (1 : Int) ≤ (1 : Int32).toInt := zq1; have h2 : (1 : Int32).toInt ≤ (1 : Int) := zq0; omega)) zq1 (Int.le_trans zq0 zq106) l7k0_a3 u7k0_a3 hP hD hS (lv_sub hl [3, 5, 7, 1, 0] rfl))
    · obtain ⟨hw, h19⟩ := hw
      subst hw
      refine lv_if_eq (tgt := 29) hx hb dX8_drawWhy_22 (by decide) (fun _ => ?_) (fun c22 => absurd (by decide +kernel) c22)
      refine lv_iconst (v := 0) hx hb dX8_drawWhy_29 zk_iconst_0 ?_
      refine va_calli (va_runV (As := [.int a1, .int 0]) (rest := []) ⟨hx, hb, hml, hown, hts⟩ (c_X8_whyB l dC dI H.size a0 a1 0 a0g_0 a0g_1 a0g_2 a0g_3 a0g_4 a0g_5 a0g_6 a0g_7 a0g_8 a0g_9 a0g_10 a0g_11 a0g_12 a0g_13 a0g_14 (Value.ref a0_15) a0g_16 (Value.ref a0_17) a0g_18 a0g_19 a0g_20 a0g_21 a0g_22 a0g_23 a0g_24 a0g_25 a0g_26 a0g_27 a0g_28 (Value.ref a0_29) (Value.int a0_30) (Value.int a0_31) a0g_32 a0g_33 a0g_34 a0g_35 a0g_36 a0g_37 (Value.int a0_38) (Value.int a0_39) ba1_l ba1_u zq5 (Int.le_trans zq6 zq4)) (cwV 2 hts gX8_drawWhy_X8_why rfl rfl rfl zd_X8_why ⟨Nat.le_of_ble_eq_true rfl, Nat.le_of_ble_eq_true rfl⟩) ⟨ax_blind (fun _ _ _ _ _ => trivial), zr_8 (zp_K hK) (zp_P1 hP) (q0 := 0) rfl, ax_pre (zp_P1 hP) (zp_K hK) (zp_D1 hD) (fun _ _ => trivial)⟩ rfl rfl hl.1 rfl (lv_room (Nat.le_of_ble_eq_true rfl)) dX8_drawWhy_30 ⟨Nat.le_of_ble_eq_true rfl, Nat.le_of_ble_eq_true rfl⟩) hS (fun q _ h => zp_F1 hD hS hA q h) (zp_F1 hD hS hA) (fun r30 u t H locs ht hvm hw hB hz1 hk1 hS1 => zo1 hB ht hP hD hk1 (zp_F1 hD hS hA) hS1 (fun hP hK1 hD hS => ?_))
      rcases hw with hw | hw | hw
      · obtain ⟨hw, h30_0, h30_1, h30_2, h30_3⟩ := hw
        subst hw
        have l30k0_a1 : (1 : Int) ≤ a1.toInt := h30_0
        have u30k0_a1 : a1.toInt ≤ (1 : Int) := ba1_u
        refine lv_istore (lv' := [(5, .int 2), (0, .ref a0), (1, .int a1), (2, .int a2), (3, .int a3), (4, .int a4)]) hx hb dX8_drawWhy_33 hl (by decide) rfl (fun ls hl => ?_)
        refine lv_iload hx hb dX8_drawWhy_35 (lv_at hl 0 rfl) ?_
        refine lv_if_eq (tgt := 43) hx hb dX8_drawWhy_37 (by decide) (fun c37 => absurd c37 (by decide +kernel)) (fun _ => ?_)
        refine lv_iload hx hb dX8_drawWhy_40 (lv_at hl 0 rfl) ?_
        exact W.iret (v := 2) hx hb hr (fun t ht hW => ⟨⟨2, (), rfl, (Or.inl ⟨rfl, l30k0_a1, u30k0_a1⟩), a0_30, a0_31, a0_38, a0_39, fa0_29, bfa0_29, by rw [ht]; exact hP, va_K.moved hW.alike hK, hD⟩, hS.F ht⟩) hS.2.2 dX8_drawWhy_42
      · obtain ⟨hw, h30_0, h30_1⟩ := hw
        subst hw
        have l30k1_a1 : (0 : Int) ≤ a1.toInt := ba1_l
        have u30k1_a1 : a1.toInt ≤ (0 : Int) := h30_1
        refine lv_istore (lv' := [(5, .int 1), (0, .ref a0), (1, .int a1), (2, .int a2), (3, .int a3), (4, .int a4)]) hx hb dX8_drawWhy_33 hl (by decide) rfl (fun ls hl => ?_)
        refine lv_iload hx hb dX8_drawWhy_35 (lv_at hl 0 rfl) ?_
        refine lv_if_eq (tgt := 43) hx hb dX8_drawWhy_37 (by decide) (fun c37 => absurd c37 (by decide +kernel)) (fun _ => ?_)
        refine lv_iload hx hb dX8_drawWhy_40 (lv_at hl 0 rfl) ?_
        exact W.iret (v := 1) hx hb hr (fun t ht hW => ⟨⟨1, (), rfl, (Or.inr (Or.inl ⟨rfl, l30k1_a1, u30k1_a1⟩)), a0_30, a0_31, a0_38, a0_39, fa0_29, bfa0_29, by rw [ht]; exact hP, va_K.moved hW.alike hK, hD⟩, hS.F ht⟩) hS.2.2 dX8_drawWhy_42
      · obtain ⟨hw, h30_0, h30_1, h30_2, h30_3⟩ := hw
        subst hw
        have l30k2_a1 : (1 : Int) ≤ a1.toInt := h30_0
        have u30k2_a1 : a1.toInt ≤ (1 : Int) := ba1_u
        exact absurd h30_2 (by decide)
  · obtain ⟨hw, h7⟩ := hw
    subst hw
    refine lv_if_eq (tgt := 29) hx hb dX8_drawWhy_10 (by decide) (fun _ => ?_) (fun c10 => absurd (by decide +kernel) c10)
    refine lv_iconst (v := 0) hx hb dX8_drawWhy_29 zk_iconst_0 ?_
    refine va_calli (va_runV (As := [.int a1, .int 0]) (rest := []) ⟨hx, hb, hml, hown, hts⟩ (c_X8_whyB l dC dI H.size a0 a1 0 a0g_0 a0g_1 a0g_2 a0g_3 a0g_4 a0g_5 a0g_6 a0g_7 a0g_8 a0g_9 a0g_10 a0g_11 a0g_12 a0g_13 a0g_14 (Value.ref a0_15) a0g_16 (Value.ref a0_17) a0g_18 a0g_19 a0g_20 a0g_21 a0g_22 a0g_23 a0g_24 a0g_25 a0g_26 a0g_27 a0g_28 (Value.ref a0_29) (Value.int a0_30) (Value.int a0_31) a0g_32 a0g_33 a0g_34 a0g_35 a0g_36 a0g_37 (Value.int a0_38) (Value.int a0_39) ba1_l ba1_u zq5 (Int.le_trans zq6 zq4)) (cwV 2 hts gX8_drawWhy_X8_why rfl rfl rfl zd_X8_why ⟨Nat.le_of_ble_eq_true rfl, Nat.le_of_ble_eq_true rfl⟩) ⟨ax_blind (fun _ _ _ _ _ => trivial), zr_8 (zp_K hK) (zp_P1 hP) (q0 := 0) rfl, ax_pre (zp_P1 hP) (zp_K hK) (zp_D1 hD) (fun _ _ => trivial)⟩ rfl rfl hl.1 rfl (lv_room (Nat.le_of_ble_eq_true rfl)) dX8_drawWhy_30 ⟨Nat.le_of_ble_eq_true rfl, Nat.le_of_ble_eq_true rfl⟩) hS (fun q _ h => zp_F1 hD hS hA q h) (zp_F1 hD hS hA) (fun r30 u t H locs ht hvm hw hB hz1 hk1 hS1 => zo1 hB ht hP hD hk1 (zp_F1 hD hS hA) hS1 (fun hP hK1 hD hS => ?_))
    rcases hw with hw | hw | hw
    · obtain ⟨hw, h30_0, h30_1, h30_2, h30_3⟩ := hw
      subst hw
      have l30k0_a1 : (1 : Int) ≤ a1.toInt := h30_0
      have u30k0_a1 : a1.toInt ≤ (1 : Int) := ba1_u
      refine lv_istore (lv' := [(5, .int 2), (0, .ref a0), (1, .int a1), (2, .int a2), (3, .int a3), (4, .int a4)]) hx hb dX8_drawWhy_33 hl (by decide) rfl (fun ls hl => ?_)
      refine lv_iload hx hb dX8_drawWhy_35 (lv_at hl 0 rfl) ?_
      refine lv_if_eq (tgt := 43) hx hb dX8_drawWhy_37 (by decide) (fun c37 => absurd c37 (by decide +kernel)) (fun _ => ?_)
      refine lv_iload hx hb dX8_drawWhy_40 (lv_at hl 0 rfl) ?_
      exact W.iret (v := 2) hx hb hr (fun t ht hW => ⟨⟨2, (), rfl, (Or.inl ⟨rfl, l30k0_a1, u30k0_a1⟩), a0_30, a0_31, a0_38, a0_39, fa0_29, bfa0_29, by rw [ht]; exact hP, va_K.moved hW.alike hK, hD⟩, hS.F ht⟩) hS.2.2 dX8_drawWhy_42
    · obtain ⟨hw, h30_0, h30_1⟩ := hw
      subst hw
      have l30k1_a1 : (0 : Int) ≤ a1.toInt := ba1_l
      have u30k1_a1 : a1.toInt ≤ (0 : Int) := h30_1
      refine lv_istore (lv' := [(5, .int 1), (0, .ref a0), (1, .int a1), (2, .int a2), (3, .int a3), (4, .int a4)]) hx hb dX8_drawWhy_33 hl (by decide) rfl (fun ls hl => ?_)
      refine lv_iload hx hb dX8_drawWhy_35 (lv_at hl 0 rfl) ?_
      refine lv_if_eq (tgt := 43) hx hb dX8_drawWhy_37 (by decide) (fun c37 => absurd c37 (by decide +kernel)) (fun _ => ?_)
      refine lv_iload hx hb dX8_drawWhy_40 (lv_at hl 0 rfl) ?_
      exact W.iret (v := 1) hx hb hr (fun t ht hW => ⟨⟨1, (), rfl, (Or.inr (Or.inl ⟨rfl, l30k1_a1, u30k1_a1⟩)), a0_30, a0_31, a0_38, a0_39, fa0_29, bfa0_29, by rw [ht]; exact hP, va_K.moved hW.alike hK, hD⟩, hS.F ht⟩) hS.2.2 dX8_drawWhy_42
    · obtain ⟨hw, h30_0, h30_1, h30_2, h30_3⟩ := hw
      subst hw
      have l30k2_a1 : (1 : Int) ≤ a1.toInt := h30_0
      have u30k2_a1 : a1.toInt ≤ (1 : Int) := ba1_u
      exact absurd h30_2 (by decide)
end P260_04_safe
section P260_05_safe
set_option maxHeartbeats 4000000 in
set_option maxRecDepth 100000 in
theorem c_X8_drawn (l : Launch) (dC : Nat → ClassId) (dI : Nat → Nat → Nat) (sz : Nat) (a0 : Nat) (a1 : Int32) (a2 : Int32) (a3 : Int32) (a0_0 : Int32) (a0g_1 a0g_2 a0g_3 a0g_4 a0g_5 a0g_6 a0g_7 a0g_8 a0g_9 a0g_10 a0g_12 a0g_13 a0g_16 a0g_18 a0g_19 a0g_20 a0g_21 a0g_22 a0g_23 a0g_24 a0g_25 a0g_26 a0g_27 a0g_28 a0g_32 a0g_33 a0g_34 a0g_35 a0g_36 a0g_37 : Value) (a0_11 : Int32) (a0_14 : Int32) (a0_15 : Nat) (a0_17 : Nat) (a0_29 : Nat) (a0_30 : Int32) (a0_31 : Int32) (a0_38 : Int32) (a0_39 : Int32) (ka0_15 : ClassId) (fa0_15 : Nat → Int32) (ka0_17 : ClassId) (fa0_17 : Nat → Int32) (ka0_29 : ClassId) (fa0_29 : Nat → Int32) (ba0_14_l : (1 : Int) ≤ a0_14.toInt) (ba0_14_u : a0_14.toInt ≤ (1 : Int)) (bfa0_15 : ((∀ k : Nat, 0 ≤ k → k ≤ 0 → (2 : Int) ≤ (fa0_15 k).toInt ∧ (fa0_15 k).toInt ≤ 9) ∧ (∀ k : Nat, 1 ≤ k → k ≤ 1 → (1 : Int) ≤ (fa0_15 k).toInt ∧ (fa0_15 k).toInt ≤ 20) ∧ (∀ k : Nat, 2 ≤ k → k ≤ 2 → (0 : Int) ≤ (fa0_15 k).toInt ∧ (fa0_15 k).toInt ≤ 8) ∧ (∀ k : Nat, 3 ≤ k → k ≤ 3 → (0 : Int) ≤ (fa0_15 k).toInt ∧ (fa0_15 k).toInt ≤ 100) ∧ (∀ k : Nat, 4 ≤ k → k ≤ 4 → (0 : Int) ≤ (fa0_15 k).toInt ∧ (fa0_15 k).toInt ≤ 9) ∧ (∀ k : Nat, 5 ≤ k → k ≤ 5 → (0 : Int) ≤ (fa0_15 k).toInt ∧ (fa0_15 k).toInt ≤ 3) ∧ (∀ k : Nat, 6 ≤ k → k ≤ 6 → (0 : Int) ≤ (fa0_15 k).toInt ∧ (fa0_15 k).toInt ≤ 6) ∧ (∀ k : Nat, 7 ≤ k → k ≤ 9 → (0 : Int) ≤ (fa0_15 k).toInt ∧ (fa0_15 k).toInt ≤ 8) ∧ (∀ k : Nat, 12 ≤ k → k ≤ 29 → (0 : Int) ≤ (fa0_15 k).toInt ∧ (fa0_15 k).toInt ≤ 20) ∧ (∀ k : Nat, 30 ≤ k → k ≤ 35 → (0 : Int) ≤ (fa0_15 k).toInt ∧ (fa0_15 k).toInt ≤ 8) ∧ (∀ k : Nat, 36 ≤ k → k ≤ 47 → (0 : Int) ≤ (fa0_15 k).toInt ∧ (fa0_15 k).toInt ≤ 999))) (bfa0_17 : ((∀ k : Nat, 0 ≤ k → k ≤ 8 → (0 : Int) ≤ (fa0_17 k).toInt ∧ (fa0_17 k).toInt ≤ 8) ∧ (∀ k : Nat, 19 ≤ k → k ≤ 19 → (0 : Int) ≤ (fa0_17 k).toInt ∧ (fa0_17 k).toInt ≤ 8) ∧ (∀ k : Nat, 20 ≤ k → k ≤ 20 → (0 : Int) ≤ (fa0_17 k).toInt ∧ (fa0_17 k).toInt ≤ 19))) (bfa0_29 : (∀ k, (0 : Int) ≤ (fa0_29 k).toInt ∧ (fa0_29 k).toInt ≤ 8)) : zm l yX8_drawn wsX8_drawn ({ frames := 3, cells := 0, slots := 0, locals := 72 }) [.ref a0, .int a1, .int a2, .int a3] dC dI sz [(a0, .inr (8, [Value.int a0_0, a0g_1, a0g_2, a0g_3, a0g_4, a0g_5, a0g_6, a0g_7, a0g_8, a0g_9, a0g_10, Value.int a0_11, a0g_12, a0g_13, Value.int a0_14, Value.ref a0_15, a0g_16, Value.ref a0_17, a0g_18, a0g_19, a0g_20, a0g_21, a0g_22, a0g_23, a0g_24, a0g_25, a0g_26, a0g_27, a0g_28, Value.ref a0_29, Value.int a0_30, Value.int a0_31, a0g_32, a0g_33, a0g_34, a0g_35, a0g_36, a0g_37, Value.int a0_38, Value.int a0_39])), (a0_15, .inl (ka0_15, 156, .inl (fa0_15))), (a0_17, .inl (ka0_17, 23, .inl (fa0_17))), (a0_29, .inl (ka0_29, 10, .inl (fa0_29)))] [(ka0_15, .int), (ka0_17, .int), (ka0_29, .int)] (fun A _ => True) (fun A => va_Qi (fun (r : Int32) (_ : Unit) => True) (fun (_ : Unit) (t : State) => ∃ na0_0 : Int32, ∃ na0_11 : Int32, ∃ na0_30 : Int32, ∃ na0_31 : Int32, ∃ na0_38 : Int32, ∃ na0_39 : Int32, ∃ nfa0_29 : Nat → Int32, (∀ k, (0 : Int) ≤ (nfa0_29 k).toInt ∧ (nfa0_29 k).toInt ≤ 8) ∧ ax_B dC dI A [(a0, .inr (8, [Value.int na0_0, a0g_1, a0g_2, a0g_3, a0g_4, a0g_5, a0g_6, a0g_7, a0g_8, a0g_9, a0g_10, Value.int na0_11, a0g_12, a0g_13, Value.int a0_14, Value.ref a0_15, a0g_16, Value.ref a0_17, a0g_18, a0g_19, a0g_20, a0g_21, a0g_22, a0g_23, a0g_24, a0g_25, a0g_26, a0g_27, a0g_28, Value.ref a0_29, Value.int na0_30, Value.int na0_31, a0g_32, a0g_33, a0g_34, a0g_35, a0g_36, a0g_37, Value.int na0_38, Value.int na0_39])), (a0_15, .inl (ka0_15, 156, .inl (fa0_15))), (a0_17, .inl (ka0_17, 23, .inl (fa0_17))), (a0_29, .inl (ka0_29, 10, .inl (nfa0_29)))] [(ka0_15, .int), (ka0_17, .int), (ka0_29, .int)] t) A) := by
  refine zh (cc := cX8_drawn) (maxL := 5) (ret := (some .int)) zn_RX8 rfl (Nat.le_of_ble_eq_true rfl) (fun p e s m below meth c A ls hx hb hml hr hts (hown : s.vm.findClass RX8 = some m.cls) hlocks hA hS hP hK hD hE (hl : lv_has ls 5 [(0, .ref a0), (1, .int a1), (2, .int a2), (3, .int a3)]) => ?_)
  refine lv_aload_n hx hb dX8_drawn_0 rfl (lv_at hl 0 rfl) ?_
  refine va_callv (va_runV (As := []) (rest := []) ⟨hx, hb, hml, hown, hts⟩ (c_X8_good l dC dI s.heap.size a0 a0_0 a0g_1 a0g_2 a0g_3 a0g_4 a0g_5 a0g_6 a0g_7 a0g_8 a0g_9 a0g_10 a0g_12 a0g_13 (Value.int a0_14) (Value.ref a0_15) a0g_16 (Value.ref a0_17) a0g_18 a0g_19 a0g_20 a0g_21 a0g_22 a0g_23 a0g_24 a0g_25 a0g_26 a0g_27 a0g_28 (Value.ref a0_29) (Value.int a0_30) (Value.int a0_31) a0g_32 a0g_33 a0g_34 a0g_35 a0g_36 a0g_37 (Value.int a0_38) (Value.int a0_39) a0_11 ) (cwV 0 hts gX8_drawn_X8_good rfl rfl rfl zd_X8_good ⟨Nat.le_of_ble_eq_true rfl, Nat.le_of_ble_eq_true rfl⟩) ⟨ax_blind (fun _ _ _ _ _ => trivial), zr_8 (zp_K hK) (zp_P1 hP) (q0 := 0) rfl, ax_pre (zp_P1 hP) (zp_K hK) (zp_D1 hD) (fun _ _ => trivial)⟩ rfl rfl hl.1 rfl (lv_room (Nat.le_of_ble_eq_true rfl)) dX8_drawn_1 ⟨Nat.le_of_ble_eq_true rfl, Nat.le_of_ble_eq_true rfl⟩) hS (fun q _ h => zp_F1 hD hS hA q h) (zp_F1 hD hS hA) (fun u t H locs ht hvm hw => zx_2 (fun v1na0_0 v1na0_11 hB hz1 hk1 hS1 => zo1 hB ht hP hD hk1 (zp_F1 hD hS hA) hS1 (fun hP hK1 hD hS => ?_)))
  refine lv_aload_n hx hb dX8_drawn_4 rfl (lv_at hl 0 rfl) ?_
  refine lv_aload_n hx hb dX8_drawn_5 rfl (lv_at hl 0 rfl) ?_
  refine lv_iload_n hx hb dX8_drawn_6 rfl (lv_at hl 1 rfl) ?_
  have hKc := hK.sub (tys' := [(ka0_15, .int)]) [0] rfl
  refine va_calli (va_runV (As := [.int a1]) (rest := [.ref a0]) ⟨hx, hb, hml, hown, hts⟩ (c_X8_isFigure l dC dI H.size a0 a1 (Value.int v1na0_0) a0g_1 a0g_2 a0g_3 a0g_4 a0g_5 a0g_6 a0g_7 a0g_8 a0g_9 a0g_10 (Value.int v1na0_11) a0g_12 a0g_13 a0g_16 (Value.ref a0_17) a0g_18 a0g_19 a0g_20 a0g_21 a0g_22 a0g_23 a0g_24 a0g_25 a0g_26 a0g_27 a0g_28 (Value.ref a0_29) (Value.int a0_30) (Value.int a0_31) a0g_32 a0g_33 a0g_34 a0g_35 a0g_36 a0g_37 (Value.int a0_38) (Value.int a0_39) a0_14 a0_15 ka0_15 fa0_15 ba0_14_l ba0_14_u bfa0_15) (cwV 1 hts gX8_drawn_X8_isFigure rfl rfl rfl zd_X8_isFigure ⟨Nat.le_of_ble_eq_true rfl, Nat.le_of_ble_eq_true rfl⟩) ⟨ax_blind (fun _ _ _ _ _ => trivial), zr_8 hKc (zp_P2 hP) (q0 := 0) rfl, ax_pre (zp_P2 hP) hKc (zp_D2 hD) (fun _ _ => trivial)⟩ rfl rfl hl.1 rfl (lv_room (Nat.le_of_ble_eq_true rfl)) dX8_drawn_7 ⟨Nat.le_of_ble_eq_true rfl, Nat.le_of_ble_eq_true rfl⟩) hS (fun q _ h => zp_F2 hD hS hA q h) (zp_F2 hD hS hA) (fun r7 u t H locs ht hvm hw hB hz1 hk1 hS1 => zo2 hB ht hP hD hk1 (zp_F2 hD hS hA) hS1 (fun hP hK1 hD hS => ?_))
  rcases hw with hw | hw
  · obtain ⟨hw, h7_0, h7_1⟩ := hw
    subst hw
    have l7k0_a1 : (0 : Int) ≤ a1.toInt := h7_0
    have u7k0_a1 : a1.toInt ≤ (8 : Int) := h7_1
    refine lv_iload_n hx hb dX8_drawn_10 rfl (lv_at hl 1 rfl) ?_
    refine lv_iload_n hx hb dX8_drawn_11 rfl (lv_at hl 2 rfl) ?_
    refine lv_iload_n hx hb dX8_drawn_12 rfl (lv_at hl 3 rfl) ?_
    refine zc_cutc (wc := [(a0, .inr (8, [Value.int v1na0_0, a0g_1, a0g_2, a0g_3, a0g_4, a0g_5, a0g_6, a0g_7, a0g_8, a0g_9, a0g_10, Value.int v1na0_11, a0g_12, a0g_13, Value.int a0_14, Value.ref a0_15, a0g_16, Value.ref a0_17, a0g_18, a0g_19, a0g_20, a0g_21, a0g_22, a0g_23, a0g_24, a0g_25, a0g_26, a0g_27, a0g_28, Value.ref a0_29, Value.int a0_30, Value.int a0_31, a0g_32, a0g_33, a0g_34, a0g_35, a0g_36, a0g_37, Value.int a0_38, Value.int a0_39])), (a0_17, .inl (ka0_17, 23, .inl (fa0_17))), (a0_29, .inl (ka0_29, 10, .inl (fa0_29))), (a0_15, .inl (ka0_15, 156, .inl (fa0_15)))]) hP hD hS hA [0, 2, 3, 1] (by decide +kernel) rfl (fun hPc hDc hFc hCc => ?_)
    have hKc := hK.sub (tys' := [(ka0_17, .int), (ka0_29, .int), (ka0_15, .int)]) [1, 2, 0] rfl
    refine va_calli (va_runV (As := [.int 1, .int a1, .int a2, .int a3]) (rest := []) ⟨hx, hb, hml, hown, hts⟩ (c_X8_drawWhy l dC dI H.size a0 1 a1 a2 a3 (Value.int v1na0_0) a0g_1 a0g_2 a0g_3 a0g_4 a0g_5 a0g_6 a0g_7 a0g_8 a0g_9 a0g_10 (Value.int v1na0_11) a0g_12 a0g_13 (Value.int a0_14) a0g_16 a0g_18 a0g_19 a0g_20 a0g_21 a0g_22 a0g_23 a0g_24 a0g_25 a0g_26 a0g_27 a0g_28 a0g_32 a0g_33 a0g_34 a0g_35 a0g_36 a0g_37 a0_15 a0_17 a0_29 a0_30 a0_31 a0_38 a0_39 ka0_17 fa0_17 ka0_29 fa0_29 ka0_15 fa0_15 (Int.le_trans zq4 zq1) zq0 bfa0_17 bfa0_29 bfa0_15) (cwV 4 hts gX8_drawn_X8_drawWhy rfl rfl rfl zd_X8_drawWhy ⟨Nat.le_of_ble_eq_true rfl, Nat.le_of_ble_eq_true rfl⟩) ⟨ax_blind (fun _ _ _ _ _ => trivial), zr_8 hKc hPc (q0 := 0) rfl, ax_pre hPc hKc hDc (fun _ _ => trivial)⟩ rfl rfl hl.1 rfl (lv_room (Nat.le_of_ble_eq_true rfl)) dX8_drawn_13 ⟨Nat.le_of_ble_eq_true rfl, Nat.le_of_ble_eq_true rfl⟩) hS (fun q _ h => hFc q h) hFc (fun r13 u t H locs ht hvm hw => zx_5 (fun v13na0_30 v13na0_31 v13na0_38 v13na0_39 v13nfa0_29 => zy_1 (fun bv13nfa0_29 hB hz1 hk1 hS1 => zo hB ht hS1 (fun hP1 hK1 hD1 hS => ?_))))
    refine zc_backc (w := [(a0, .inr (8, [Value.int v1na0_0, a0g_1, a0g_2, a0g_3, a0g_4, a0g_5, a0g_6, a0g_7, a0g_8, a0g_9, a0g_10, Value.int v1na0_11, a0g_12, a0g_13, Value.int a0_14, Value.ref a0_15, a0g_16, Value.ref a0_17, a0g_18, a0g_19, a0g_20, a0g_21, a0g_22, a0g_23, a0g_24, a0g_25, a0g_26, a0g_27, a0g_28, Value.ref a0_29, Value.int v13na0_30, Value.int v13na0_31, a0g_32, a0g_33, a0g_34, a0g_35, a0g_36, a0g_37, Value.int v13na0_38, Value.int v13na0_39])), (a0_15, .inl (ka0_15, 156, .inl (fa0_15))), (a0_17, .inl (ka0_17, 23, .inl (fa0_17))), (a0_29, .inl (ka0_29, 10, .inl (v13nfa0_29)))]) hP hD hCc hk1 hFc hP1 hD1 [.inr 0, .inr 3, .inr 1, .inr 2] (by decide +kernel) rfl (fun hP hD => ?_)
    rcases hw with hw | hw | hw
    · obtain ⟨hw, h13_0, h13_1⟩ := hw
      subst hw
      refine lv_istore (lv' := [(4, .int 2), (0, .ref a0), (1, .int a1), (2, .int a2), (3, .int a3)]) hx hb dX8_drawn_16 hl (by decide) rfl (fun ls hl => ?_)
      refine lv_iload hx hb dX8_drawn_18 (lv_at hl 0 rfl) ?_
      refine lv_if_eq (tgt := 32) hx hb dX8_drawn_20 (by decide) (fun c20 => absurd c20 (by decide +kernel)) (fun _ => ?_)
      refine lv_aload_n hx hb dX8_drawn_23 rfl (lv_at hl 1 rfl) ?_
      refine lv_iload hx hb dX8_drawn_24 (lv_at hl 0 rfl) ?_
      refine va_calli (va_runV (As := [.int 2]) (rest := []) ⟨hx, hb, hml, hown, hts⟩ (c_X8_no l dC dI H.size a0 2 (Value.int v1na0_0) a0g_1 a0g_2 a0g_3 a0g_4 a0g_5 a0g_6 a0g_7 a0g_8 a0g_9 a0g_10 a0g_12 a0g_13 (Value.int a0_14) (Value.ref a0_15) a0g_16 (Value.ref a0_17) a0g_18 a0g_19 a0g_20 a0g_21 a0g_22 a0g_23 a0g_24 a0g_25 a0g_26 a0g_27 a0g_28 (Value.ref a0_29) (Value.int v13na0_30) (Value.int v13na0_31) a0g_32 a0g_33 a0g_34 a0g_35 a0g_36 a0g_37 (Value.int v13na0_38) (Value.int v13na0_39) v1na0_11 ) (cwV 1 hts gX8_drawn_X8_no rfl rfl rfl zd_X8_no ⟨Nat.le_of_ble_eq_true rfl, Nat.le_of_ble_eq_true rfl⟩) ⟨ax_blind (fun _ _ _ _ _ => trivial), zr_8 (zp_K hK) (zp_P1 hP) (q0 := 0) rfl, ax_pre (zp_P1 hP) (zp_K hK) (zp_D1 hD) (fun _ _ => trivial)⟩ rfl rfl hl.1 rfl (lv_room (Nat.le_of_ble_eq_true rfl)) dX8_drawn_26 ⟨Nat.le_of_ble_eq_true rfl, Nat.le_of_ble_eq_true rfl⟩) hS (fun q _ h => zp_F1 hD hS hA q h) (zp_F1 hD hS hA) (fun r26 u t H locs ht hvm hw => zx_1 (fun v26na0_11 hB hz1 hk1 hS1 => zo1 hB ht hP hD hk1 (zp_F1 hD hS hA) hS1 (fun hP hK1 hD hS => ?_)))
      have hw : r26 = (-1) := hw
      have hw := hw.symm
      subst hw
      refine lv_goto (tgt := 36) hx hb dX8_drawn_29 (by decide) ?_
      exact W.iret (v := (-1)) hx hb hr (fun t ht hW => ⟨⟨(-1), (), rfl, trivial, v1na0_0, v26na0_11, v13na0_30, v13na0_31, v13na0_38, v13na0_39, v13nfa0_29, bv13nfa0_29, by rw [ht]; exact hP, va_K.moved hW.alike hK, hD⟩, hS.F ht⟩) hS.2.2 dX8_drawn_36
    · obtain ⟨hw, h13_0, h13_1⟩ := hw
      subst hw
      exact absurd h13_1 (by decide)
    · obtain ⟨hw, h13_0, h13_1, h13_2, h13_3, h13_4, h13_5⟩ := hw
      subst hw
      have l13k2_a2 : (0 : Int) ≤ a2.toInt := h13_2
      have u13k2_a2 : a2.toInt ≤ (65536 : Int) := h13_3
      have l13k2_a3 : (0 : Int) ≤ a3.toInt := h13_4
      have u13k2_a3 : a3.toInt ≤ (200 : Int) := h13_5
      refine lv_istore (lv' := [(4, .int 0), (0, .ref a0), (1, .int a1), (2, .int a2), (3, .int a3)]) hx hb dX8_drawn_16 hl (by decide) rfl (fun ls hl => ?_)
      refine lv_iload hx hb dX8_drawn_18 (lv_at hl 0 rfl) ?_
      refine lv_if_eq (tgt := 32) hx hb dX8_drawn_20 (by decide) (fun _ => ?_) (fun c20 => absurd (by decide +kernel) c20)
      refine lv_aload_n hx hb dX8_drawn_32 rfl (lv_at hl 1 rfl) ?_
      refine va_get (D := (dC, dI)) (ci := 8) (v := .int v13na0_39) (C := RX8) (T := TX8) (N := 40) hx hb hts zi_X8_drawn_8 hown hK hP 0 rfl rfl 39 (by decide) (hts (.fieldLink RX8 378 "WaxTurnsModel" "aliveOften" "I") (zm_X8_drawn_r1 (List.mem_of_getElem? (i := 0) rfl))) (fun _ h9 => h9) rfl dX8_drawn_33 ?_
      exact W.iret (v := v13na0_39) hx hb hr (fun t ht hW => ⟨⟨v13na0_39, (), rfl, trivial, v1na0_0, v1na0_11, v13na0_30, v13na0_31, v13na0_38, v13na0_39, v13nfa0_29, bv13nfa0_29, by rw [ht]; exact hP, va_K.moved hW.alike hK, hD⟩, hS.F ht⟩) hS.2.2 dX8_drawn_36
  · subst hw
    refine lv_iload_n hx hb dX8_drawn_10 rfl (lv_at hl 1 rfl) ?_
    refine lv_iload_n hx hb dX8_drawn_11 rfl (lv_at hl 2 rfl) ?_
    refine lv_iload_n hx hb dX8_drawn_12 rfl (lv_at hl 3 rfl) ?_
    refine zc_cutc (wc := [(a0, .inr (8, [Value.int v1na0_0, a0g_1, a0g_2, a0g_3, a0g_4, a0g_5, a0g_6, a0g_7, a0g_8, a0g_9, a0g_10, Value.int v1na0_11, a0g_12, a0g_13, Value.int a0_14, Value.ref a0_15, a0g_16, Value.ref a0_17, a0g_18, a0g_19, a0g_20, a0g_21, a0g_22, a0g_23, a0g_24, a0g_25, a0g_26, a0g_27, a0g_28, Value.ref a0_29, Value.int a0_30, Value.int a0_31, a0g_32, a0g_33, a0g_34, a0g_35, a0g_36, a0g_37, Value.int a0_38, Value.int a0_39])), (a0_17, .inl (ka0_17, 23, .inl (fa0_17))), (a0_29, .inl (ka0_29, 10, .inl (fa0_29))), (a0_15, .inl (ka0_15, 156, .inl (fa0_15)))]) hP hD hS hA [0, 2, 3, 1] (by decide +kernel) rfl (fun hPc hDc hFc hCc => ?_)
    have hKc := hK.sub (tys' := [(ka0_17, .int), (ka0_29, .int), (ka0_15, .int)]) [1, 2, 0] rfl
    refine va_calli (va_runV (As := [.int 0, .int a1, .int a2, .int a3]) (rest := []) ⟨hx, hb, hml, hown, hts⟩ (c_X8_drawWhy l dC dI H.size a0 0 a1 a2 a3 (Value.int v1na0_0) a0g_1 a0g_2 a0g_3 a0g_4 a0g_5 a0g_6 a0g_7 a0g_8 a0g_9 a0g_10 (Value.int v1na0_11) a0g_12 a0g_13 (Value.int a0_14) a0g_16 a0g_18 a0g_19 a0g_20 a0g_21 a0g_22 a0g_23 a0g_24 a0g_25 a0g_26 a0g_27 a0g_28 a0g_32 a0g_33 a0g_34 a0g_35 a0g_36 a0g_37 a0_15 a0_17 a0_29 a0_30 a0_31 a0_38 a0_39 ka0_17 fa0_17 ka0_29 fa0_29 ka0_15 fa0_15 zq5 (Int.le_trans zq6 zq4) bfa0_17 bfa0_29 bfa0_15) (cwV 4 hts gX8_drawn_X8_drawWhy rfl rfl rfl zd_X8_drawWhy ⟨Nat.le_of_ble_eq_true rfl, Nat.le_of_ble_eq_true rfl⟩) ⟨ax_blind (fun _ _ _ _ _ => trivial), zr_8 hKc hPc (q0 := 0) rfl, ax_pre hPc hKc hDc (fun _ _ => trivial)⟩ rfl rfl hl.1 rfl (lv_room (Nat.le_of_ble_eq_true rfl)) dX8_drawn_13 ⟨Nat.le_of_ble_eq_true rfl, Nat.le_of_ble_eq_true rfl⟩) hS (fun q _ h => hFc q h) hFc (fun r13 u t H locs ht hvm hw => zx_5 (fun v13na0_30 v13na0_31 v13na0_38 v13na0_39 v13nfa0_29 => zy_1 (fun bv13nfa0_29 hB hz1 hk1 hS1 => zo hB ht hS1 (fun hP1 hK1 hD1 hS => ?_))))
    refine zc_backc (w := [(a0, .inr (8, [Value.int v1na0_0, a0g_1, a0g_2, a0g_3, a0g_4, a0g_5, a0g_6, a0g_7, a0g_8, a0g_9, a0g_10, Value.int v1na0_11, a0g_12, a0g_13, Value.int a0_14, Value.ref a0_15, a0g_16, Value.ref a0_17, a0g_18, a0g_19, a0g_20, a0g_21, a0g_22, a0g_23, a0g_24, a0g_25, a0g_26, a0g_27, a0g_28, Value.ref a0_29, Value.int v13na0_30, Value.int v13na0_31, a0g_32, a0g_33, a0g_34, a0g_35, a0g_36, a0g_37, Value.int v13na0_38, Value.int v13na0_39])), (a0_15, .inl (ka0_15, 156, .inl (fa0_15))), (a0_17, .inl (ka0_17, 23, .inl (fa0_17))), (a0_29, .inl (ka0_29, 10, .inl (v13nfa0_29)))]) hP hD hCc hk1 hFc hP1 hD1 [.inr 0, .inr 3, .inr 1, .inr 2] (by decide +kernel) rfl (fun hP hD => ?_)
    rcases hw with hw | hw | hw
    · obtain ⟨hw, h13_0, h13_1⟩ := hw
      subst hw
      exact absurd h13_0 (by decide)
    · obtain ⟨hw, h13_0, h13_1⟩ := hw
      subst hw
      refine lv_istore (lv' := [(4, .int 1), (0, .ref a0), (1, .int a1), (2, .int a2), (3, .int a3)]) hx hb dX8_drawn_16 hl (by decide) rfl (fun ls hl => ?_)
      refine lv_iload hx hb dX8_drawn_18 (lv_at hl 0 rfl) ?_
      refine lv_if_eq (tgt := 32) hx hb dX8_drawn_20 (by decide) (fun c20 => absurd c20 (by decide +kernel)) (fun _ => ?_)
      refine lv_aload_n hx hb dX8_drawn_23 rfl (lv_at hl 1 rfl) ?_
      refine lv_iload hx hb dX8_drawn_24 (lv_at hl 0 rfl) ?_
      refine va_calli (va_runV (As := [.int 1]) (rest := []) ⟨hx, hb, hml, hown, hts⟩ (c_X8_no l dC dI H.size a0 1 (Value.int v1na0_0) a0g_1 a0g_2 a0g_3 a0g_4 a0g_5 a0g_6 a0g_7 a0g_8 a0g_9 a0g_10 a0g_12 a0g_13 (Value.int a0_14) (Value.ref a0_15) a0g_16 (Value.ref a0_17) a0g_18 a0g_19 a0g_20 a0g_21 a0g_22 a0g_23 a0g_24 a0g_25 a0g_26 a0g_27 a0g_28 (Value.ref a0_29) (Value.int v13na0_30) (Value.int v13na0_31) a0g_32 a0g_33 a0g_34 a0g_35 a0g_36 a0g_37 (Value.int v13na0_38) (Value.int v13na0_39) v1na0_11 ) (cwV 1 hts gX8_drawn_X8_no rfl rfl rfl zd_X8_no ⟨Nat.le_of_ble_eq_true rfl, Nat.le_of_ble_eq_true rfl⟩) ⟨ax_blind (fun _ _ _ _ _ => trivial), zr_8 (zp_K hK) (zp_P1 hP) (q0 := 0) rfl, ax_pre (zp_P1 hP) (zp_K hK) (zp_D1 hD) (fun _ _ => trivial)⟩ rfl rfl hl.1 rfl (lv_room (Nat.le_of_ble_eq_true rfl)) dX8_drawn_26 ⟨Nat.le_of_ble_eq_true rfl, Nat.le_of_ble_eq_true rfl⟩) hS (fun q _ h => zp_F1 hD hS hA q h) (zp_F1 hD hS hA) (fun r26 u t H locs ht hvm hw => zx_1 (fun v26na0_11 hB hz1 hk1 hS1 => zo1 hB ht hP hD hk1 (zp_F1 hD hS hA) hS1 (fun hP hK1 hD hS => ?_)))
      have hw : r26 = (-1) := hw
      have hw := hw.symm
      subst hw
      refine lv_goto (tgt := 36) hx hb dX8_drawn_29 (by decide) ?_
      exact W.iret (v := (-1)) hx hb hr (fun t ht hW => ⟨⟨(-1), (), rfl, trivial, v1na0_0, v26na0_11, v13na0_30, v13na0_31, v13na0_38, v13na0_39, v13nfa0_29, bv13nfa0_29, by rw [ht]; exact hP, va_K.moved hW.alike hK, hD⟩, hS.F ht⟩) hS.2.2 dX8_drawn_36
    · obtain ⟨hw, h13_0, h13_1, h13_2, h13_3, h13_4, h13_5⟩ := hw
      subst hw
      exact absurd h13_0 (by decide)

set_option maxHeartbeats 4000000 in
set_option maxRecDepth 100000 in
theorem c_X8_firstShut (l : Launch) (dC : Nat → ClassId) (dI : Nat → Nat → Nat) (sz : Nat) (a0 : Nat) (a1 : Int32) (a2 : Int32) (a0_0 : Int32) (a0g_1 a0g_2 a0g_3 a0g_4 a0g_5 a0g_6 a0g_7 a0g_8 a0g_9 a0g_10 a0g_12 a0g_13 a0g_16 a0g_18 a0g_19 a0g_20 a0g_21 a0g_22 a0g_23 a0g_24 a0g_25 a0g_26 a0g_27 a0g_28 a0g_32 a0g_33 a0g_34 a0g_35 a0g_36 a0g_37 : Value) (a0_11 : Int32) (a0_14 : Int32) (a0_15 : Nat) (a0_17 : Nat) (a0_29 : Nat) (a0_30 : Int32) (a0_31 : Int32) (a0_38 : Int32) (a0_39 : Int32) (ka0_17 : ClassId) (fa0_17 : Nat → Int32) (ka0_29 : ClassId) (fa0_29 : Nat → Int32) (ka0_15 : ClassId) (fa0_15 : Nat → Int32) (ba0_14_l : (1 : Int) ≤ a0_14.toInt) (ba0_14_u : a0_14.toInt ≤ (1 : Int)) (bfa0_17 : ((∀ k : Nat, 0 ≤ k → k ≤ 8 → (0 : Int) ≤ (fa0_17 k).toInt ∧ (fa0_17 k).toInt ≤ 8) ∧ (∀ k : Nat, 19 ≤ k → k ≤ 19 → (0 : Int) ≤ (fa0_17 k).toInt ∧ (fa0_17 k).toInt ≤ 8) ∧ (∀ k : Nat, 20 ≤ k → k ≤ 20 → (0 : Int) ≤ (fa0_17 k).toInt ∧ (fa0_17 k).toInt ≤ 19))) (bfa0_29 : (∀ k, (0 : Int) ≤ (fa0_29 k).toInt ∧ (fa0_29 k).toInt ≤ 8)) (bfa0_15 : ((∀ k : Nat, 0 ≤ k → k ≤ 0 → (2 : Int) ≤ (fa0_15 k).toInt ∧ (fa0_15 k).toInt ≤ 9) ∧ (∀ k : Nat, 1 ≤ k → k ≤ 1 → (1 : Int) ≤ (fa0_15 k).toInt ∧ (fa0_15 k).toInt ≤ 20) ∧ (∀ k : Nat, 2 ≤ k → k ≤ 2 → (0 : Int) ≤ (fa0_15 k).toInt ∧ (fa0_15 k).toInt ≤ 8) ∧ (∀ k : Nat, 3 ≤ k → k ≤ 3 → (0 : Int) ≤ (fa0_15 k).toInt ∧ (fa0_15 k).toInt ≤ 100) ∧ (∀ k : Nat, 4 ≤ k → k ≤ 4 → (0 : Int) ≤ (fa0_15 k).toInt ∧ (fa0_15 k).toInt ≤ 9) ∧ (∀ k : Nat, 5 ≤ k → k ≤ 5 → (0 : Int) ≤ (fa0_15 k).toInt ∧ (fa0_15 k).toInt ≤ 3) ∧ (∀ k : Nat, 6 ≤ k → k ≤ 6 → (0 : Int) ≤ (fa0_15 k).toInt ∧ (fa0_15 k).toInt ≤ 6) ∧ (∀ k : Nat, 7 ≤ k → k ≤ 9 → (0 : Int) ≤ (fa0_15 k).toInt ∧ (fa0_15 k).toInt ≤ 8) ∧ (∀ k : Nat, 12 ≤ k → k ≤ 29 → (0 : Int) ≤ (fa0_15 k).toInt ∧ (fa0_15 k).toInt ≤ 20) ∧ (∀ k : Nat, 30 ≤ k → k ≤ 35 → (0 : Int) ≤ (fa0_15 k).toInt ∧ (fa0_15 k).toInt ≤ 8) ∧ (∀ k : Nat, 36 ≤ k → k ≤ 47 → (0 : Int) ≤ (fa0_15 k).toInt ∧ (fa0_15 k).toInt ≤ 999))) : zm l yX8_firstShut wsX8_firstShut ({ frames := 3, cells := 0, slots := 0, locals := 72 }) [.ref a0, .int a1, .int a2] dC dI sz [(a0, .inr (8, [Value.int a0_0, a0g_1, a0g_2, a0g_3, a0g_4, a0g_5, a0g_6, a0g_7, a0g_8, a0g_9, a0g_10, Value.int a0_11, a0g_12, a0g_13, Value.int a0_14, Value.ref a0_15, a0g_16, Value.ref a0_17, a0g_18, a0g_19, a0g_20, a0g_21, a0g_22, a0g_23, a0g_24, a0g_25, a0g_26, a0g_27, a0g_28, Value.ref a0_29, Value.int a0_30, Value.int a0_31, a0g_32, a0g_33, a0g_34, a0g_35, a0g_36, a0g_37, Value.int a0_38, Value.int a0_39])), (a0_17, .inl (ka0_17, 23, .inl (fa0_17))), (a0_29, .inl (ka0_29, 10, .inl (fa0_29))), (a0_15, .inl (ka0_15, 156, .inl (fa0_15)))] [(ka0_17, .int), (ka0_29, .int), (ka0_15, .int)] (fun A _ => True) (fun A => va_Qi (fun (r : Int32) (_ : Unit) => True) (fun (_ : Unit) (t : State) => ∃ na0_0 : Int32, ∃ na0_11 : Int32, ∃ na0_30 : Int32, ∃ na0_31 : Int32, ∃ na0_38 : Int32, ∃ na0_39 : Int32, ∃ nfa0_29 : Nat → Int32, (∀ k, (0 : Int) ≤ (nfa0_29 k).toInt ∧ (nfa0_29 k).toInt ≤ 8) ∧ ax_B dC dI A [(a0, .inr (8, [Value.int na0_0, a0g_1, a0g_2, a0g_3, a0g_4, a0g_5, a0g_6, a0g_7, a0g_8, a0g_9, a0g_10, Value.int na0_11, a0g_12, a0g_13, Value.int a0_14, Value.ref a0_15, a0g_16, Value.ref a0_17, a0g_18, a0g_19, a0g_20, a0g_21, a0g_22, a0g_23, a0g_24, a0g_25, a0g_26, a0g_27, a0g_28, Value.ref a0_29, Value.int na0_30, Value.int na0_31, a0g_32, a0g_33, a0g_34, a0g_35, a0g_36, a0g_37, Value.int na0_38, Value.int na0_39])), (a0_17, .inl (ka0_17, 23, .inl (fa0_17))), (a0_29, .inl (ka0_29, 10, .inl (nfa0_29))), (a0_15, .inl (ka0_15, 156, .inl (fa0_15)))] [(ka0_17, .int), (ka0_29, .int), (ka0_15, .int)] t) A) := by
  refine zh (cc := cX8_firstShut) (maxL := 4) (ret := (some .int)) zn_RX8 rfl (Nat.le_of_ble_eq_true rfl) (fun p e s m below meth c A ls hx hb hml hr hts (hown : s.vm.findClass RX8 = some m.cls) hlocks hA hS hP hK hD hE (hl : lv_has ls 4 [(0, .ref a0), (1, .int a1), (2, .int a2)]) => ?_)
  refine lv_aload_n hx hb dX8_firstShut_0 rfl (lv_at hl 0 rfl) ?_
  refine va_callv (va_runV (As := []) (rest := []) ⟨hx, hb, hml, hown, hts⟩ (c_X8_good l dC dI s.heap.size a0 a0_0 a0g_1 a0g_2 a0g_3 a0g_4 a0g_5 a0g_6 a0g_7 a0g_8 a0g_9 a0g_10 a0g_12 a0g_13 (Value.int a0_14) (Value.ref a0_15) a0g_16 (Value.ref a0_17) a0g_18 a0g_19 a0g_20 a0g_21 a0g_22 a0g_23 a0g_24 a0g_25 a0g_26 a0g_27 a0g_28 (Value.ref a0_29) (Value.int a0_30) (Value.int a0_31) a0g_32 a0g_33 a0g_34 a0g_35 a0g_36 a0g_37 (Value.int a0_38) (Value.int a0_39) a0_11 ) (cwV 0 hts gX8_firstShut_X8_good rfl rfl rfl zd_X8_good ⟨Nat.le_of_ble_eq_true rfl, Nat.le_of_ble_eq_true rfl⟩) ⟨ax_blind (fun _ _ _ _ _ => trivial), zr_8 (zp_K hK) (zp_P1 hP) (q0 := 0) rfl, ax_pre (zp_P1 hP) (zp_K hK) (zp_D1 hD) (fun _ _ => trivial)⟩ rfl rfl hl.1 rfl (lv_room (Nat.le_of_ble_eq_true rfl)) dX8_firstShut_1 ⟨Nat.le_of_ble_eq_true rfl, Nat.le_of_ble_eq_true rfl⟩) hS (fun q _ h => zp_F1 hD hS hA q h) (zp_F1 hD hS hA) (fun u t H locs ht hvm hw => zx_2 (fun v1na0_0 v1na0_11 hB hz1 hk1 hS1 => zo1 hB ht hP hD hk1 (zp_F1 hD hS hA) hS1 (fun hP hK1 hD hS => ?_)))
  refine lv_aload_n hx hb dX8_firstShut_4 rfl (lv_at hl 0 rfl) ?_
  refine lv_aload_n hx hb dX8_firstShut_5 rfl (lv_at hl 0 rfl) ?_
  refine va_get (D := (dC, dI)) (ci := 8) (v := .int a0_14) (C := RX8) (T := TX8) (N := 40) hx hb hts zi_X8_firstShut_8 hown hK hP 0 rfl rfl 14 (by decide) (hts (.fieldLink RX8 173 "WaxTurnsModel" "hasGallery" "Z") (zm_X8_firstShut_r1 (List.mem_of_getElem? (i := 0) rfl))) (fun _ h9 => h9) rfl dX8_firstShut_6 ?_
  refine lv_iconst (v := (-1)) hx hb dX8_firstShut_9 zk_iconst_n1 ?_
  refine lv_iload_n hx hb dX8_firstShut_10 rfl (lv_at hl 1 rfl) ?_
  refine lv_iload_n hx hb dX8_firstShut_11 rfl (lv_at hl 2 rfl) ?_
  have hKc := hK.sub (tys' := [(ka0_17, .int), (ka0_29, .int), (ka0_15, .int)]) [0, 1, 2] rfl
  refine va_calli (va_runV (As := [.int a0_14, .int (-1), .int a1, .int a2]) (rest := []) ⟨hx, hb, hml, hown, hts⟩ (c_X8_drawWhy l dC dI H.size a0 a0_14 (-1) a1 a2 (Value.int v1na0_0) a0g_1 a0g_2 a0g_3 a0g_4 a0g_5 a0g_6 a0g_7 a0g_8 a0g_9 a0g_10 (Value.int v1na0_11) a0g_12 a0g_13 (Value.int a0_14) a0g_16 a0g_18 a0g_19 a0g_20 a0g_21 a0g_22 a0g_23 a0g_24 a0g_25 a0g_26 a0g_27 a0g_28 a0g_32 a0g_33 a0g_34 a0g_35 a0g_36 a0g_37 a0_15 a0_17 a0_29 a0_30 a0_31 a0_38 a0_39 ka0_17 fa0_17 ka0_29 fa0_29 ka0_15 fa0_15 (Int.le_trans zq4 ba0_14_l) ba0_14_u bfa0_17 bfa0_29 bfa0_15) (cwV 4 hts gX8_firstShut_X8_drawWhy rfl rfl rfl zd_X8_drawWhy ⟨Nat.le_of_ble_eq_true rfl, Nat.le_of_ble_eq_true rfl⟩) ⟨ax_blind (fun _ _ _ _ _ => trivial), zr_8 hKc (zp_P4 hP) (q0 := 0) rfl, ax_pre (zp_P4 hP) hKc (zp_D4 hD) (fun _ _ => trivial)⟩ rfl rfl hl.1 rfl (lv_room (Nat.le_of_ble_eq_true rfl)) dX8_firstShut_12 ⟨Nat.le_of_ble_eq_true rfl, Nat.le_of_ble_eq_true rfl⟩) hS (fun q _ h => zp_F4 hD hS hA q h) (zp_F4 hD hS hA) (fun r12 u t H locs ht hvm hw => zx_5 (fun v12na0_30 v12na0_31 v12na0_38 v12na0_39 v12nfa0_29 => zy_1 (fun bv12nfa0_29 hB hz1 hk1 hS1 => zo4 hB ht hP hD hk1 (zp_F4 hD hS hA) hS1 (fun hP hK1 hD hS => ?_))))
  rcases hw with hw | hw | hw
  · obtain ⟨hw, h12_0, h12_1⟩ := hw
    subst hw
    have l12k0_a0_14 : (1 : Int) ≤ a0_14.toInt := ba0_14_l
    have u12k0_a0_14 : a0_14.toInt ≤ (1 : Int) := ba0_14_u
    refine lv_istore_n (lv' := [(3, .int 2), (0, .ref a0), (1, .int a1), (2, .int a2)]) hx hb dX8_firstShut_15 rfl hl (by decide) rfl (fun ls hl => ?_)
    refine lv_iload_n hx hb dX8_firstShut_16 rfl (lv_at hl 0 rfl) ?_
    refine lv_if_eq (tgt := 28) hx hb dX8_firstShut_17 (by decide) (fun c17 => absurd c17 (by decide +kernel)) (fun _ => ?_)
    refine lv_aload_n hx hb dX8_firstShut_20 rfl (lv_at hl 1 rfl) ?_
    refine lv_iload_n hx hb dX8_firstShut_21 rfl (lv_at hl 0 rfl) ?_
    refine va_calli (va_runV (As := [.int 2]) (rest := []) ⟨hx, hb, hml, hown, hts⟩ (c_X8_no l dC dI H.size a0 2 (Value.int v1na0_0) a0g_1 a0g_2 a0g_3 a0g_4 a0g_5 a0g_6 a0g_7 a0g_8 a0g_9 a0g_10 a0g_12 a0g_13 (Value.int a0_14) (Value.ref a0_15) a0g_16 (Value.ref a0_17) a0g_18 a0g_19 a0g_20 a0g_21 a0g_22 a0g_23 a0g_24 a0g_25 a0g_26 a0g_27 a0g_28 (Value.ref a0_29) (Value.int v12na0_30) (Value.int v12na0_31) a0g_32 a0g_33 a0g_34 a0g_35 a0g_36 a0g_37 (Value.int v12na0_38) (Value.int v12na0_39) v1na0_11 ) (cwV 1 hts gX8_firstShut_X8_no rfl rfl rfl zd_X8_no ⟨Nat.le_of_ble_eq_true rfl, Nat.le_of_ble_eq_true rfl⟩) ⟨ax_blind (fun _ _ _ _ _ => trivial), zr_8 (zp_K hK) (zp_P1 hP) (q0 := 0) rfl, ax_pre (zp_P1 hP) (zp_K hK) (zp_D1 hD) (fun _ _ => trivial)⟩ rfl rfl hl.1 rfl (lv_room (Nat.le_of_ble_eq_true rfl)) dX8_firstShut_22 ⟨Nat.le_of_ble_eq_true rfl, Nat.le_of_ble_eq_true rfl⟩) hS (fun q _ h => zp_F1 hD hS hA q h) (zp_F1 hD hS hA) (fun r22 u t H locs ht hvm hw => zx_1 (fun v22na0_11 hB hz1 hk1 hS1 => zo1 hB ht hP hD hk1 (zp_F1 hD hS hA) hS1 (fun hP hK1 hD hS => ?_)))
    have hw : r22 = (-1) := hw
    have hw := hw.symm
    subst hw
    refine lv_goto (tgt := 32) hx hb dX8_firstShut_25 (by decide) ?_
    exact W.iret (v := (-1)) hx hb hr (fun t ht hW => ⟨⟨(-1), (), rfl, trivial, v1na0_0, v22na0_11, v12na0_30, v12na0_31, v12na0_38, v12na0_39, v12nfa0_29, bv12nfa0_29, by rw [ht]; exact hP, va_K.moved hW.alike hK, hD⟩, hS.F ht⟩) hS.2.2 dX8_firstShut_32
  · obtain ⟨hw, h12_0, h12_1⟩ := hw
    subst hw
    have l12k1_a0_14 : (1 : Int) ≤ a0_14.toInt := ba0_14_l
    have u12k1_a0_14 : a0_14.toInt ≤ (0 : Int) := h12_1
    exact absurd (Int.le_trans l12k1_a0_14 u12k1_a0_14) (by decide)
  · obtain ⟨hw, h12_0, h12_1, h12_2, h12_3, h12_4, h12_5⟩ := hw
    subst hw
    have l12k2_a0_14 : (1 : Int) ≤ a0_14.toInt := ba0_14_l
    have u12k2_a0_14 : a0_14.toInt ≤ (1 : Int) := ba0_14_u
    have l12k2_a1 : (0 : Int) ≤ a1.toInt := h12_2
    have u12k2_a1 : a1.toInt ≤ (65536 : Int) := h12_3
    have l12k2_a2 : (0 : Int) ≤ a2.toInt := h12_4
    have u12k2_a2 : a2.toInt ≤ (200 : Int) := h12_5
    refine lv_istore_n (lv' := [(3, .int 0), (0, .ref a0), (1, .int a1), (2, .int a2)]) hx hb dX8_firstShut_15 rfl hl (by decide) rfl (fun ls hl => ?_)
    refine lv_iload_n hx hb dX8_firstShut_16 rfl (lv_at hl 0 rfl) ?_
    refine lv_if_eq (tgt := 28) hx hb dX8_firstShut_17 (by decide) (fun _ => ?_) (fun c17 => absurd (by decide +kernel) c17)
    refine lv_aload_n hx hb dX8_firstShut_28 rfl (lv_at hl 1 rfl) ?_
    refine va_get (D := (dC, dI)) (ci := 8) (v := .int v12na0_38) (C := RX8) (T := TX8) (N := 40) hx hb hts zi_X8_firstShut_8 hown hK hP 0 rfl rfl 38 (by decide) (hts (.fieldLink RX8 375 "WaxTurnsModel" "shutFirst" "I") (zm_X8_firstShut_r1 (List.mem_of_getElem? (i := 1) rfl))) (fun _ h9 => h9) rfl dX8_firstShut_29 ?_
    exact W.iret (v := v12na0_38) hx hb hr (fun t ht hW => ⟨⟨v12na0_38, (), rfl, trivial, v1na0_0, v1na0_11, v12na0_30, v12na0_31, v12na0_38, v12na0_39, v12nfa0_29, bv12nfa0_29, by rw [ht]; exact hP, va_K.moved hW.alike hK, hD⟩, hS.F ht⟩) hS.2.2 dX8_firstShut_32
end P260_05_safe
section P270_02_safe
set_option maxHeartbeats 4000000 in
set_option maxRecDepth 100000 in
theorem c_X8_led (l : Launch) (dC : Nat → ClassId) (dI : Nat → Nat → Nat) (sz : Nat) (a0 : Nat) (a1 : Int32) (a0_0 : Int32) (a0g_1 a0g_2 a0g_3 a0g_4 a0g_5 a0g_6 a0g_7 a0g_8 a0g_9 a0g_10 a0g_11 a0g_12 a0g_13 a0g_16 a0g_18 a0g_19 a0g_20 a0g_21 a0g_22 a0g_23 a0g_24 a0g_25 a0g_26 a0g_27 a0g_28 a0g_29 a0g_30 a0g_31 a0g_32 a0g_33 a0g_34 a0g_35 a0g_36 a0g_37 a0g_38 a0g_39 : Value) (a0_14 : Int32) (a0_15 : Nat) (a0_17 : Nat) (ka0_15 : ClassId) (fa0_15 : Nat → Int32) (ka0_17 : ClassId) (fa0_17 : Nat → Int32) (ba0_14_l : (1 : Int) ≤ a0_14.toInt) (ba0_14_u : a0_14.toInt ≤ (1 : Int)) (bfa0_15 : ((∀ k : Nat, 0 ≤ k → k ≤ 0 → (2 : Int) ≤ (fa0_15 k).toInt ∧ (fa0_15 k).toInt ≤ 9) ∧ (∀ k : Nat, 1 ≤ k → k ≤ 1 → (1 : Int) ≤ (fa0_15 k).toInt ∧ (fa0_15 k).toInt ≤ 20) ∧ (∀ k : Nat, 2 ≤ k → k ≤ 2 → (0 : Int) ≤ (fa0_15 k).toInt ∧ (fa0_15 k).toInt ≤ 8) ∧ (∀ k : Nat, 3 ≤ k → k ≤ 3 → (0 : Int) ≤ (fa0_15 k).toInt ∧ (fa0_15 k).toInt ≤ 100) ∧ (∀ k : Nat, 4 ≤ k → k ≤ 4 → (0 : Int) ≤ (fa0_15 k).toInt ∧ (fa0_15 k).toInt ≤ 9) ∧ (∀ k : Nat, 5 ≤ k → k ≤ 5 → (0 : Int) ≤ (fa0_15 k).toInt ∧ (fa0_15 k).toInt ≤ 3) ∧ (∀ k : Nat, 6 ≤ k → k ≤ 6 → (0 : Int) ≤ (fa0_15 k).toInt ∧ (fa0_15 k).toInt ≤ 6) ∧ (∀ k : Nat, 7 ≤ k → k ≤ 9 → (0 : Int) ≤ (fa0_15 k).toInt ∧ (fa0_15 k).toInt ≤ 8) ∧ (∀ k : Nat, 12 ≤ k → k ≤ 29 → (0 : Int) ≤ (fa0_15 k).toInt ∧ (fa0_15 k).toInt ≤ 20) ∧ (∀ k : Nat, 30 ≤ k → k ≤ 35 → (0 : Int) ≤ (fa0_15 k).toInt ∧ (fa0_15 k).toInt ≤ 8) ∧ (∀ k : Nat, 36 ≤ k → k ≤ 47 → (0 : Int) ≤ (fa0_15 k).toInt ∧ (fa0_15 k).toInt ≤ 999))) (bfa0_17 : ((∀ k : Nat, 0 ≤ k → k ≤ 8 → (0 : Int) ≤ (fa0_17 k).toInt ∧ (fa0_17 k).toInt ≤ 8) ∧ (∀ k : Nat, 19 ≤ k → k ≤ 19 → (0 : Int) ≤ (fa0_17 k).toInt ∧ (fa0_17 k).toInt ≤ 8) ∧ (∀ k : Nat, 20 ≤ k → k ≤ 20 → (0 : Int) ≤ (fa0_17 k).toInt ∧ (fa0_17 k).toInt ≤ 19))) : zm l yX8_led wsX8_led ({ frames := 0, cells := 0, slots := 0, locals := 0 }) [.ref a0, .int a1] dC dI sz [(a0, .inr (8, [Value.int a0_0, a0g_1, a0g_2, a0g_3, a0g_4, a0g_5, a0g_6, a0g_7, a0g_8, a0g_9, a0g_10, a0g_11, a0g_12, a0g_13, Value.int a0_14, Value.ref a0_15, a0g_16, Value.ref a0_17, a0g_18, a0g_19, a0g_20, a0g_21, a0g_22, a0g_23, a0g_24, a0g_25, a0g_26, a0g_27, a0g_28, a0g_29, a0g_30, a0g_31, a0g_32, a0g_33, a0g_34, a0g_35, a0g_36, a0g_37, a0g_38, a0g_39])), (a0_15, .inl (ka0_15, 156, .inl (fa0_15))), (a0_17, .inl (ka0_17, 23, .inl (fa0_17)))] [(ka0_15, .int), (ka0_17, .int)] (fun A _ => True) (fun A => va_Qi (fun (r : Int32) (_ : Unit) => (0 : Int) ≤ r.toInt ∧ r.toInt ≤ (8 : Int)) (fun (_ : Unit) (t : State) => ∃ na0_0 : Int32, ax_B dC dI A [(a0, .inr (8, [Value.int na0_0, a0g_1, a0g_2, a0g_3, a0g_4, a0g_5, a0g_6, a0g_7, a0g_8, a0g_9, a0g_10, a0g_11, a0g_12, a0g_13, Value.int a0_14, Value.ref a0_15, a0g_16, Value.ref a0_17, a0g_18, a0g_19, a0g_20, a0g_21, a0g_22, a0g_23, a0g_24, a0g_25, a0g_26, a0g_27, a0g_28, a0g_29, a0g_30, a0g_31, a0g_32, a0g_33, a0g_34, a0g_35, a0g_36, a0g_37, a0g_38, a0g_39])), (a0_15, .inl (ka0_15, 156, .inl (fa0_15))), (a0_17, .inl (ka0_17, 23, .inl (fa0_17)))] [(ka0_15, .int), (ka0_17, .int)] t) A) := by
  refine zh (cc := cX8_led) (maxL := 4) (ret := (some .int)) zn_RX8 rfl (Nat.le_of_ble_eq_true rfl) (fun p e s m below meth c A ls hx hb hml hr hts (hown : s.vm.findClass RX8 = some m.cls) hlocks hA hS hP hK hD hE (hl : lv_has ls 4 [(0, .ref a0), (1, .int a1)]) => ?_)
  refine ai_open (fun K hK0 => ?_)
  refine (hK0 _ _ _).mpr ?_
  refine lv_iconst (v := 0) hx hb dX8_led_0 zk_iconst_0 ?_
  refine lv_istore_n (lv' := [(2, .int 0), (0, .ref a0), (1, .int a1)]) hx hb dX8_led_1 rfl hl (by decide) rfl (fun ls hl => ?_)
  refine lv_iconst (v := 0) hx hb dX8_led_2 zk_iconst_0 ?_
  refine lv_istore_n (lv' := [(3, .int 0), (2, .int 0), (0, .ref a0), (1, .int a1)]) hx hb dX8_led_3 rfl hl (by decide) rfl (fun ls hl => ?_)
  have J4 : ∀ (n : Nat) (j4l3 : Int32) (j4l2 : Int32) (H : Heap) (locs : List Loc) (ls : Array Slot), (10 : Int) - j4l3.toInt ≤ (n : Int) → (0 : Int) ≤ j4l3.toInt → j4l3.toInt ≤ (9 : Int) → va_P (dC, dI) vwCl [(a0, .inr (8, [Value.int a0_0, a0g_1, a0g_2, a0g_3, a0g_4, a0g_5, a0g_6, a0g_7, a0g_8, a0g_9, a0g_10, a0g_11, a0g_12, a0g_13, Value.int a0_14, Value.ref a0_15, a0g_16, Value.ref a0_17, a0g_18, a0g_19, a0g_20, a0g_21, a0g_22, a0g_23, a0g_24, a0g_25, a0g_26, a0g_27, a0g_28, a0g_29, a0g_30, a0g_31, a0g_32, a0g_33, a0g_34, a0g_35, a0g_36, a0g_37, a0g_38, a0g_39])), (a0_15, .inl (ka0_15, 156, .inl (fa0_15))), (a0_17, .inl (ka0_17, 23, .inl (fa0_17)))] H → va_D A [(a0, .inr (8, [Value.int a0_0, a0g_1, a0g_2, a0g_3, a0g_4, a0g_5, a0g_6, a0g_7, a0g_8, a0g_9, a0g_10, a0g_11, a0g_12, a0g_13, Value.int a0_14, Value.ref a0_15, a0g_16, Value.ref a0_17, a0g_18, a0g_19, a0g_20, a0g_21, a0g_22, a0g_23, a0g_24, a0g_25, a0g_26, a0g_27, a0g_28, a0g_29, a0g_30, a0g_31, a0g_32, a0g_33, a0g_34, a0g_35, a0g_36, a0g_37, a0g_38, a0g_39])), (a0_15, .inl (ka0_15, 156, .inl (fa0_15))), (a0_17, .inl (ka0_17, 23, .inl (fa0_17)))] → va_S A s.heap H locs → lv_has ls 4 [(0, .ref a0), (1, .int a1), (2, .int j4l2), (3, .int j4l3)] → K H locs (F0 m 4 ls []) := by
    intro n
    induction n with
    | zero =>
      intro j4l3 j4l2 H locs ls hm bj4l3_l bj4l3_u hP hD hS hl
      first | exact zg_0 hm bj4l3_u (by decide) | (have h8 := ai_min j4l3; have h9 := ai_max j4l3; exact absurd hm (by omega))
    | succ n ih4 =>
      intro j4l3 j4l2 H locs ls hm bj4l3_l bj4l3_u hP hD hS hl
      refine (hK0 _ _ _).mpr ?_
      have hm4 := hm
      refine lv_aload_n hx hb dX8_led_4 rfl (lv_at hl 0 rfl) ?_
      refine va_get (D := (dC, dI)) (ci := 8) (v := .int a0_14) (C := RX8) (T := TX8) (N := 40) hx hb hts zi_X8_led_8 hown hK hP 0 rfl rfl 14 (by decide) (hts (.fieldLink RX8 173 "WaxTurnsModel" "hasGallery" "Z") (List.mem_cons_of_mem _ (List.mem_append_left _ (List.mem_of_getElem? (i := 0) rfl)))) (fun _ h9 => h9) rfl dX8_led_5 ?_
      have J55 : ∀ (H : Heap) (locs : List Loc) (ls : Array Slot), va_P (dC, dI) vwCl [(a0, .inr (8, [Value.int a0_0, a0g_1, a0g_2, a0g_3, a0g_4, a0g_5, a0g_6, a0g_7, a0g_8, a0g_9, a0g_10, a0g_11, a0g_12, a0g_13, Value.int a0_14, Value.ref a0_15, a0g_16, Value.ref a0_17, a0g_18, a0g_19, a0g_20, a0g_21, a0g_22, a0g_23, a0g_24, a0g_25, a0g_26, a0g_27, a0g_28, a0g_29, a0g_30, a0g_31, a0g_32, a0g_33, a0g_34, a0g_35, a0g_36, a0g_37, a0g_38, a0g_39])), (a0_15, .inl (ka0_15, 156, .inl (fa0_15))), (a0_17, .inl (ka0_17, 23, .inl (fa0_17)))] H → va_D A [(a0, .inr (8, [Value.int a0_0, a0g_1, a0g_2, a0g_3, a0g_4, a0g_5, a0g_6, a0g_7, a0g_8, a0g_9, a0g_10, a0g_11, a0g_12, a0g_13, Value.int a0_14, Value.ref a0_15, a0g_16, Value.ref a0_17, a0g_18, a0g_19, a0g_20, a0g_21, a0g_22, a0g_23, a0g_24, a0g_25, a0g_26, a0g_27, a0g_28, a0g_29, a0g_30, a0g_31, a0g_32, a0g_33, a0g_34, a0g_35, a0g_36, a0g_37, a0g_38, a0g_39])), (a0_15, .inl (ka0_15, 156, .inl (fa0_15))), (a0_17, .inl (ka0_17, 23, .inl (fa0_17)))] → va_S A s.heap H locs → lv_has ls 4 [(0, .ref a0)] → K H locs (F0 m 55 ls []) := by
        intro  H locs ls   hP hD hS hl
        refine (hK0 _ _ _).mpr ?_
        refine lv_aload_n hx hb dX8_led_55 rfl (lv_at hl 0 rfl) ?_
        refine lv_iconst (v := 1) hx hb dX8_led_56 zk_iconst_1 ?_
        refine va_put (D := (dC, dI)) (ci := 8) (v := .int 1) (ty := .int) (C := RX8) (T := TX8) (N := 40) hx hb hts zi_X8_led_8 tyX8 tyX8_ok nmX8 hown hK hP hD hS 0 rfl rfl 0 (by decide) (hts (.fieldLink RX8 59 "WaxTurnsModel" "thrown" "I") (List.mem_cons_of_mem _ (List.mem_append_left _ (List.mem_of_getElem? (i := 3) rfl)))) (fun _ h9 => h9) rfl (tyX8_ok 0 (by decide)) rfl rfl (Nat.le_of_ble_eq_true rfl) dX8_led_57 (fun H locs hP hD hS => ?_)
        refine zs_0 (y := (a0, .inr (8, [Value.int 1, a0g_1, a0g_2, a0g_3, a0g_4, a0g_5, a0g_6, a0g_7, a0g_8, a0g_9, a0g_10, a0g_11, a0g_12, a0g_13, Value.int a0_14, Value.ref a0_15, a0g_16, Value.ref a0_17, a0g_18, a0g_19, a0g_20, a0g_21, a0g_22, a0g_23, a0g_24, a0g_25, a0g_26, a0g_27, a0g_28, a0g_29, a0g_30, a0g_31, a0g_32, a0g_33, a0g_34, a0g_35, a0g_36, a0g_37, a0g_38, a0g_39]))) hP hD rfl (fun hP hD => ?_)
        refine lv_iconst (v := 0) hx hb dX8_led_60 zk_iconst_0 ?_
        exact W.iret (v := 0) hx hb hr (fun t ht hW => ⟨⟨0, (), rfl, ⟨zq5, (Int.le_trans zq6 zq20)⟩, 1, by rw [ht]; exact hP, va_K.moved hW.alike hK, hD⟩, hS.F ht⟩) hS.2.2 dX8_led_61
      refine lv_if_eq (tgt := 55) hx hb dX8_led_8 (by decide) (fun c8 => ?_) (fun c8 => ?_)
      · have gc8 := ai_eq c8
        have u8t_a0_14 : a0_14.toInt ≤ (0 : Int) := Int.le_trans (Int.le_of_eq gc8) zq6
        have l8t_a0_14 : (1 : Int) ≤ a0_14.toInt := ba0_14_l
        exact absurd (Int.le_trans l8t_a0_14 u8t_a0_14) (by decide)
      · have gc8 := ai_ne c8
        refine lv_iload_n hx hb dX8_led_11 rfl (lv_at hl 3 rfl) ?_
        refine lv_aload_n hx hb dX8_led_12 rfl (lv_at hl 0 rfl) ?_
        refine va_get (D := (dC, dI)) (ci := 8) (v := .ref a0_15) (C := RX8) (T := TX8) (N := 40) hx hb hts zi_X8_led_8 hown hK hP 0 rfl rfl 15 (by decide) (hts (.fieldLink RX8 20 "WaxTurnsModel" "\x72" "[I") (List.mem_cons_of_mem _ (List.mem_append_left _ (List.mem_of_getElem? (i := 1) rfl)))) (fun _ h9 => h9) rfl dX8_led_13 ?_
        refine lv_iconst (v := 0) hx hb dX8_led_16 zk_iconst_0 ?_
        refine va_iald hx hb hK hP 1 0 rfl rfl (by unfold vp_in; decide +kernel) dX8_led_17 ?_
        refine lv_topi (fun x17 ex17 => ?_)
        have bx17 : (2 : Int) ≤ x17.toInt ∧ x17.toInt ≤ 9 := by rw [ex17]; exact ai_rd bfa0_15.1 zq5 zq6 (by decide) (by decide) (by decide)
        refine lv_icmp_ge (tgt := 55) hx hb dX8_led_18 (by decide) (fun c18 => ?_) (fun c18 => ?_)
        · have gc18 := ai_le c18
          have u18t_x17 : x17.toInt ≤ (9 : Int) := bx17.2
          have l18t_j4l3 : (2 : Int) ≤ j4l3.toInt := Int.le_trans bx17.1 gc18
          exact (hK0 _ _ _).mp (J55  _ _ _   hP hD hS (lv_sub hl [0] rfl))
        · have gc18 := ai_nle c18
          have u18f_j4l3 : j4l3.toInt ≤ (8 : Int) := ai_lthi gc18 bx17.2
          have l18f_x17 : (2 : Int) ≤ x17.toInt := bx17.1
          refine lv_aload_n hx hb dX8_led_21 rfl (lv_at hl 0 rfl) ?_
          refine va_get (D := (dC, dI)) (ci := 8) (v := .ref a0_17) (C := RX8) (T := TX8) (N := 40) hx hb hts zi_X8_led_8 hown hK hP 0 rfl rfl 17 (by decide) (hts (.fieldLink RX8 26 "WaxTurnsModel" "st" "[I") (List.mem_cons_of_mem _ (List.mem_append_left _ (List.mem_of_getElem? (i := 2) rfl)))) (fun _ h9 => h9) rfl dX8_led_22 ?_
          refine lv_iload_n hx hb dX8_led_25 rfl (lv_at hl 3 rfl) ?_
          refine va_iald hx hb hK hP 2 1 rfl rfl (ai_in bj4l3_l u18f_j4l3 (by decide) (by decide)) dX8_led_26 ?_
          refine lv_topi (fun x26 ex26 => ?_)
          have bx26 : (0 : Int) ≤ x26.toInt ∧ x26.toInt ≤ 8 := by rw [ex26]; exact ai_rd bfa0_17.1 bj4l3_l u18f_j4l3 (by decide) (by decide) (by decide)
          refine lv_iload_n hx hb dX8_led_27 rfl (lv_at hl 3 rfl) ?_
          have J49 : ∀ (j49l2 : Int32) (H : Heap) (locs : List Loc) (ls : Array Slot), va_P (dC, dI) vwCl [(a0, .inr (8, [Value.int a0_0, a0g_1, a0g_2, a0g_3, a0g_4, a0g_5, a0g_6, a0g_7, a0g_8, a0g_9, a0g_10, a0g_11, a0g_12, a0g_13, Value.int a0_14, Value.ref a0_15, a0g_16, Value.ref a0_17, a0g_18, a0g_19, a0g_20, a0g_21, a0g_22, a0g_23, a0g_24, a0g_25, a0g_26, a0g_27, a0g_28, a0g_29, a0g_30, a0g_31, a0g_32, a0g_33, a0g_34, a0g_35, a0g_36, a0g_37, a0g_38, a0g_39])), (a0_15, .inl (ka0_15, 156, .inl (fa0_15))), (a0_17, .inl (ka0_17, 23, .inl (fa0_17)))] H → va_D A [(a0, .inr (8, [Value.int a0_0, a0g_1, a0g_2, a0g_3, a0g_4, a0g_5, a0g_6, a0g_7, a0g_8, a0g_9, a0g_10, a0g_11, a0g_12, a0g_13, Value.int a0_14, Value.ref a0_15, a0g_16, Value.ref a0_17, a0g_18, a0g_19, a0g_20, a0g_21, a0g_22, a0g_23, a0g_24, a0g_25, a0g_26, a0g_27, a0g_28, a0g_29, a0g_30, a0g_31, a0g_32, a0g_33, a0g_34, a0g_35, a0g_36, a0g_37, a0g_38, a0g_39])), (a0_15, .inl (ka0_15, 156, .inl (fa0_15))), (a0_17, .inl (ka0_17, 23, .inl (fa0_17)))] → va_S A s.heap H locs → lv_has ls 4 [(0, .ref a0), (1, .int a1), (2, .int j49l2), (3, .int j4l3)] → K H locs (F0 m 49 ls []) := by
            intro j49l2 H locs ls   hP hD hS hl
            refine (hK0 _ _ _).mpr ?_
            obtain ⟨x49, ex49⟩ : ∃ y : Int32, y = j4l3 + Int32.ofInt 1 := ⟨_, rfl⟩
            have qx49 : x49.toInt = j4l3.toInt + 1 := ai_inc ex49 (by decide) (by decide) u18f_j4l3 (by decide)
            have bx49 : (1 : Int) ≤ x49.toInt ∧ x49.toInt ≤ 9 := ⟨by rw [qx49]; exact Int.add_le_add bj4l3_l (Int.le_refl _), by rw [qx49]; exact Int.add_le_add u18f_j4l3 (Int.le_refl _)⟩
            refine lv_iinc (v := x49) (lv' := [(3, .int x49), (0, .ref a0), (1, .int a1), (2, .int j49l2)]) hx hb dX8_led_49 hl (k := 3) rfl ex49.symm (by decide) rfl (fun ls hl => ?_)
            refine lv_goto (tgt := 4) hx hb dX8_led_52 (by decide) ?_
            exact (hK0 _ _ _).mp (ih4 x49 j49l2 _ _ _ (by first | exact zg_s hm4 qx49 | (have h0 := qx49; omega)) (Int.le_trans zq4 bx49.1) bx49.2 hP hD hS (lv_sub hl [1, 2, 3, 0] rfl))
          refine lv_icmp_ne (tgt := 34) hx hb dX8_led_28 (by decide) (fun c28 => ?_) (fun c28 => ?_)
          · have gc28 := ai_ne c28
            refine lv_iload_n hx hb dX8_led_34 rfl (lv_at hl 2 rfl) ?_
            refine lv_iload_n hx hb dX8_led_35 rfl (lv_at hl 1 rfl) ?_
            refine lv_icmp_ne (tgt := 46) hx hb dX8_led_36 (by decide) (fun c36 => ?_) (fun c36 => ?_)
            · have gc36 := ai_ne c36
              obtain ⟨x46, ex46⟩ : ∃ y : Int32, y = j4l2 + Int32.ofInt 1 := ⟨_, rfl⟩
              refine lv_iinc (v := x46) (lv' := [(2, .int x46), (0, .ref a0), (1, .int a1), (3, .int j4l3)]) hx hb dX8_led_46 hl (k := 2) rfl ex46.symm (by decide) rfl (fun ls hl => ?_)
              exact (hK0 _ _ _).mp (J49 x46 _ _ _   hP hD hS (lv_sub hl [1, 2, 0, 3] rfl))
            · have gc36 := ai_eq c36
              refine lv_aload_n hx hb dX8_led_39 rfl (lv_at hl 0 rfl) ?_
              refine lv_iconst (v := 0) hx hb dX8_led_40 zk_iconst_0 ?_
              refine va_put (D := (dC, dI)) (ci := 8) (v := .int 0) (ty := .int) (C := RX8) (T := TX8) (N := 40) hx hb hts zi_X8_led_8 tyX8 tyX8_ok nmX8 hown hK hP hD hS 0 rfl rfl 0 (by decide) (hts (.fieldLink RX8 59 "WaxTurnsModel" "thrown" "I") (List.mem_cons_of_mem _ (List.mem_append_left _ (List.mem_of_getElem? (i := 3) rfl)))) (fun _ h9 => h9) rfl (tyX8_ok 0 (by decide)) rfl rfl (Nat.le_of_ble_eq_true rfl) dX8_led_41 (fun H locs hP hD hS => ?_)
              refine zs_0 (y := (a0, .inr (8, [Value.int 0, a0g_1, a0g_2, a0g_3, a0g_4, a0g_5, a0g_6, a0g_7, a0g_8, a0g_9, a0g_10, a0g_11, a0g_12, a0g_13, Value.int a0_14, Value.ref a0_15, a0g_16, Value.ref a0_17, a0g_18, a0g_19, a0g_20, a0g_21, a0g_22, a0g_23, a0g_24, a0g_25, a0g_26, a0g_27, a0g_28, a0g_29, a0g_30, a0g_31, a0g_32, a0g_33, a0g_34, a0g_35, a0g_36, a0g_37, a0g_38, a0g_39]))) hP hD rfl (fun hP hD => ?_)
              refine lv_iload_n hx hb dX8_led_44 rfl (lv_at hl 3 rfl) ?_
              exact W.iret (v := j4l3) hx hb hr (fun t ht hW => ⟨⟨j4l3, (), rfl, ⟨bj4l3_l, u18f_j4l3⟩, 0, by rw [ht]; exact hP, va_K.moved hW.alike hK, hD⟩, hS.F ht⟩) hS.2.2 dX8_led_45
          · have gc28 := ai_eq c28
            have u28f_x26 : x26.toInt ≤ (8 : Int) := bx26.2
            have l28f_x26 : (0 : Int) ≤ x26.toInt := bx26.1
            have u28f_j4l3 : j4l3.toInt ≤ (8 : Int) := u18f_j4l3
            have l28f_j4l3 : (0 : Int) ≤ j4l3.toInt := bj4l3_l
            refine lv_goto (tgt := 49) hx hb dX8_led_31 (by decide) ?_
            exact (hK0 _ _ _).mp (J49 j4l2 _ _ _   hP hD hS (lv_sub hl [0, 1, 2, 3] rfl))
  exact (hK0 _ _ _).mp (J4 10 0 0 _ _ _ (by first | decide +kernel | (have h1 : (0 : Int) ≤ (0 : Int32).toInt := zq5; have h2 : (0 : Int32).toInt ≤ (0 : Int) := zq6; omega)) zq5 (Int.le_trans zq6 zq7) hP hD hS (lv_sub hl [2, 3, 1, 0] rfl))

set_option maxHeartbeats 4000000 in
set_option maxRecDepth 100000 in
theorem c_X8_size (l : Launch) (dC : Nat → ClassId) (dI : Nat → Nat → Nat) (sz : Nat) (a0 : Nat) (a1 : Int32) (a0_0 : Int32) (a0g_1 a0g_3 a0g_4 a0g_5 a0g_6 a0g_7 a0g_8 a0g_9 a0g_10 a0g_11 a0g_12 a0g_13 a0g_16 a0g_18 a0g_19 a0g_20 a0g_23 a0g_24 a0g_25 a0g_26 a0g_27 a0g_28 a0g_29 a0g_30 a0g_31 a0g_32 a0g_33 a0g_34 a0g_35 a0g_36 a0g_37 a0g_38 a0g_39 : Value) (a0_2 : Int32) (a0_14 : Int32) (a0_15 : Nat) (a0_17 : Nat) (a0_21 : Int32) (a0_22 : Int32) (ka0_15 : ClassId) (fa0_15 : Nat → Int32) (ka0_17 : ClassId) (fa0_17 : Nat → Int32) (ba0_2_l : (0 : Int) ≤ a0_2.toInt) (ba0_2_u : a0_2.toInt ≤ (900 : Int)) (ba0_14_l : (1 : Int) ≤ a0_14.toInt) (ba0_14_u : a0_14.toInt ≤ (1 : Int)) (ba0_21_l : (0 : Int) ≤ a0_21.toInt) (ba0_21_u : a0_21.toInt ≤ (16 : Int)) (ba0_22_l : (0 : Int) ≤ a0_22.toInt) (ba0_22_u : a0_22.toInt ≤ (3 : Int)) (bfa0_15 : ((∀ k : Nat, 0 ≤ k → k ≤ 0 → (2 : Int) ≤ (fa0_15 k).toInt ∧ (fa0_15 k).toInt ≤ 9) ∧ (∀ k : Nat, 1 ≤ k → k ≤ 1 → (1 : Int) ≤ (fa0_15 k).toInt ∧ (fa0_15 k).toInt ≤ 20) ∧ (∀ k : Nat, 2 ≤ k → k ≤ 2 → (0 : Int) ≤ (fa0_15 k).toInt ∧ (fa0_15 k).toInt ≤ 8) ∧ (∀ k : Nat, 3 ≤ k → k ≤ 3 → (0 : Int) ≤ (fa0_15 k).toInt ∧ (fa0_15 k).toInt ≤ 100) ∧ (∀ k : Nat, 4 ≤ k → k ≤ 4 → (0 : Int) ≤ (fa0_15 k).toInt ∧ (fa0_15 k).toInt ≤ 9) ∧ (∀ k : Nat, 5 ≤ k → k ≤ 5 → (0 : Int) ≤ (fa0_15 k).toInt ∧ (fa0_15 k).toInt ≤ 3) ∧ (∀ k : Nat, 6 ≤ k → k ≤ 6 → (0 : Int) ≤ (fa0_15 k).toInt ∧ (fa0_15 k).toInt ≤ 6) ∧ (∀ k : Nat, 7 ≤ k → k ≤ 9 → (0 : Int) ≤ (fa0_15 k).toInt ∧ (fa0_15 k).toInt ≤ 8) ∧ (∀ k : Nat, 12 ≤ k → k ≤ 29 → (0 : Int) ≤ (fa0_15 k).toInt ∧ (fa0_15 k).toInt ≤ 20) ∧ (∀ k : Nat, 30 ≤ k → k ≤ 35 → (0 : Int) ≤ (fa0_15 k).toInt ∧ (fa0_15 k).toInt ≤ 8) ∧ (∀ k : Nat, 36 ≤ k → k ≤ 47 → (0 : Int) ≤ (fa0_15 k).toInt ∧ (fa0_15 k).toInt ≤ 999))) (bfa0_17 : ((∀ k : Nat, 0 ≤ k → k ≤ 8 → (0 : Int) ≤ (fa0_17 k).toInt ∧ (fa0_17 k).toInt ≤ 8) ∧ (∀ k : Nat, 19 ≤ k → k ≤ 19 → (0 : Int) ≤ (fa0_17 k).toInt ∧ (fa0_17 k).toInt ≤ 8) ∧ (∀ k : Nat, 20 ≤ k → k ≤ 20 → (0 : Int) ≤ (fa0_17 k).toInt ∧ (fa0_17 k).toInt ≤ 19))) : zm l yX8_size wsX8_size ({ frames := 1, cells := 0, slots := 0, locals := 22 }) [.ref a0, .int a1] dC dI sz [(a0, .inr (8, [Value.int a0_0, a0g_1, Value.int a0_2, a0g_3, a0g_4, a0g_5, a0g_6, a0g_7, a0g_8, a0g_9, a0g_10, a0g_11, a0g_12, a0g_13, Value.int a0_14, Value.ref a0_15, a0g_16, Value.ref a0_17, a0g_18, a0g_19, a0g_20, Value.int a0_21, Value.int a0_22, a0g_23, a0g_24, a0g_25, a0g_26, a0g_27, a0g_28, a0g_29, a0g_30, a0g_31, a0g_32, a0g_33, a0g_34, a0g_35, a0g_36, a0g_37, a0g_38, a0g_39])), (a0_15, .inl (ka0_15, 156, .inl (fa0_15))), (a0_17, .inl (ka0_17, 23, .inl (fa0_17)))] [(ka0_15, .int), (ka0_17, .int)] (fun A _ => True) (fun A => va_Qi (fun (r : Int32) (_ : Unit) => True) (fun (_ : Unit) (t : State) => ∃ na0_0 : Int32, ax_B dC dI A [(a0, .inr (8, [Value.int na0_0, a0g_1, Value.int a0_2, a0g_3, a0g_4, a0g_5, a0g_6, a0g_7, a0g_8, a0g_9, a0g_10, a0g_11, a0g_12, a0g_13, Value.int a0_14, Value.ref a0_15, a0g_16, Value.ref a0_17, a0g_18, a0g_19, a0g_20, Value.int a0_21, Value.int a0_22, a0g_23, a0g_24, a0g_25, a0g_26, a0g_27, a0g_28, a0g_29, a0g_30, a0g_31, a0g_32, a0g_33, a0g_34, a0g_35, a0g_36, a0g_37, a0g_38, a0g_39])), (a0_15, .inl (ka0_15, 156, .inl (fa0_15))), (a0_17, .inl (ka0_17, 23, .inl (fa0_17)))] [(ka0_15, .int), (ka0_17, .int)] t) A) := by
  refine zh (cc := cX8_size) (maxL := 2) (ret := (some .int)) zn_RX8 rfl (Nat.le_of_ble_eq_true rfl) (fun p e s m below meth c A ls hx hb hml hr hts (hown : s.vm.findClass RX8 = some m.cls) hlocks hA hS hP hK hD hE (hl : lv_has ls 2 [(0, .ref a0), (1, .int a1)]) => ?_)
  refine lv_aload_n hx hb dX8_size_0 rfl (lv_at hl 0 rfl) ?_
  refine lv_iconst (v := 0) hx hb dX8_size_1 zk_iconst_0 ?_
  refine va_put (D := (dC, dI)) (ci := 8) (v := .int 0) (ty := .int) (C := RX8) (T := TX8) (N := 40) hx hb hts zi_X8_size_8 tyX8 tyX8_ok nmX8 hown hK hP hD hS 0 rfl rfl 0 (by decide) (hts (.fieldLink RX8 59 "WaxTurnsModel" "thrown" "I") (List.mem_cons_of_mem _ (List.mem_append_left _ (List.mem_of_getElem? (i := 0) rfl)))) (fun _ h9 => h9) rfl (tyX8_ok 0 (by decide)) rfl rfl (Nat.le_of_ble_eq_true rfl) dX8_size_2 (fun H locs hP hD hS => ?_)
  refine zs_0 (y := (a0, .inr (8, [Value.int 0, a0g_1, Value.int a0_2, a0g_3, a0g_4, a0g_5, a0g_6, a0g_7, a0g_8, a0g_9, a0g_10, a0g_11, a0g_12, a0g_13, Value.int a0_14, Value.ref a0_15, a0g_16, Value.ref a0_17, a0g_18, a0g_19, a0g_20, Value.int a0_21, Value.int a0_22, a0g_23, a0g_24, a0g_25, a0g_26, a0g_27, a0g_28, a0g_29, a0g_30, a0g_31, a0g_32, a0g_33, a0g_34, a0g_35, a0g_36, a0g_37, a0g_38, a0g_39]))) hP hD rfl (fun hP hD => ?_)
  refine lv_iload_n hx hb dX8_size_5 rfl (lv_at hl 1 rfl) ?_
  refine lv_bipush (v := 13) hx hb dX8_size_6 zk_bipush_13 ?_
  refine lv_icmp_ne (tgt := 16) hx hb dX8_size_8 (by decide) (fun c8 => ?_) (fun c8 => ?_)
  · have gc8 := ai_ne c8
    refine lv_aload_n hx hb dX8_size_16 rfl (lv_at hl 0 rfl) ?_
    refine va_get (D := (dC, dI)) (ci := 8) (v := .int a0_14) (C := RX8) (T := TX8) (N := 40) hx hb hts zi_X8_size_8 hown hK hP 0 rfl rfl 14 (by decide) (hts (.fieldLink RX8 173 "WaxTurnsModel" "hasGallery" "Z") (List.mem_cons_of_mem _ (List.mem_append_left _ (List.mem_of_getElem? (i := 2) rfl)))) (fun _ h9 => h9) rfl dX8_size_17 ?_
    refine lv_if_ne (tgt := 39) hx hb dX8_size_20 (by decide) (fun c20 => ?_) (fun c20 => ?_)
    · have gc20 := ai_ne c20
      refine lv_iload_n hx hb dX8_size_39 rfl (lv_at hl 1 rfl) ?_
      refine lv_iconst (v := 0) hx hb dX8_size_40 zk_iconst_0 ?_
      refine lv_bipush (v := 9) hx hb dX8_size_41 zk_bipush_9 ?_
      refine va_calli (va_runS (As := [.int a1, .int 0, .int 9]) (rest := []) ⟨hx, hb, hml, hown, hts⟩ (c_X8_in l dC dI H.size a1 0 9 ) (va_cwS 3 hts gX8_size_X8_in rfl rfl rfl zd_X8_in.2 ⟨Nat.le_of_ble_eq_true rfl, Nat.le_of_ble_eq_true rfl⟩) ⟨ax_blind (fun _ _ _ _ _ => trivial), ax_pre (zp_P0 hP) (zp_K hK) (zp_D0 hD) (fun _ _ => trivial)⟩ rfl rfl hl.1 rfl (lv_room (Nat.le_of_ble_eq_true rfl)) dX8_size_43 ⟨Nat.le_of_ble_eq_true rfl, Nat.le_of_ble_eq_true rfl⟩) hS (fun q _ h => zp_F0 hD hS hA q h) (zp_F0 hD hS hA) (fun r43 u t H locs ht hvm hw hB hz1 hk1 hS1 => zo0 hB ht hP hD hk1 (zp_F0 hD hS hA) hS1 (fun hP hK1 hD hS => ?_))
      rcases hw with hw | hw
      · obtain ⟨hw, h43⟩ := hw
        subst hw
        have l43k0_a1 : (0 : Int) ≤ a1.toInt := Int.le_trans zq5 h43.1
        have u43k0_a1 : a1.toInt ≤ (9 : Int) := Int.le_trans h43.2 zq3
        refine lv_if_eq (tgt := 56) hx hb dX8_size_46 (by decide) (fun c46 => absurd c46 (by decide +kernel)) (fun _ => ?_)
        refine lv_aload_n hx hb dX8_size_49 rfl (lv_at hl 0 rfl) ?_
        refine va_get (D := (dC, dI)) (ci := 8) (v := .ref a0_15) (C := RX8) (T := TX8) (N := 40) hx hb hts zi_X8_size_8 hown hK hP 0 rfl rfl 15 (by decide) (hts (.fieldLink RX8 20 "WaxTurnsModel" "\x72" "[I") (List.mem_cons_of_mem _ (List.mem_append_left _ (List.mem_of_getElem? (i := 3) rfl)))) (fun _ h9 => h9) rfl dX8_size_50 ?_
        refine lv_iload_n hx hb dX8_size_53 rfl (lv_at hl 1 rfl) ?_
        refine va_iald hx hb hK hP 1 0 rfl rfl (ai_in l43k0_a1 u43k0_a1 (by decide) (by decide)) dX8_size_54 ?_
        refine lv_topi (fun x54 ex54 => ?_)
        exact W.iret (v := x54) hx hb hr (fun t ht hW => ⟨⟨x54, (), rfl, trivial, 0, by rw [ht]; exact hP, va_K.moved hW.alike hK, hD⟩, hS.F ht⟩) hS.2.2 dX8_size_55
      · obtain ⟨hw, h43⟩ := hw
        subst hw
        refine lv_if_eq (tgt := 56) hx hb dX8_size_46 (by decide) (fun _ => ?_) (fun c46 => absurd (by decide +kernel) c46)
        refine lv_iload_n hx hb dX8_size_56 rfl (lv_at hl 1 rfl) ?_
        refine lv_bipush (v := 10) hx hb dX8_size_57 zk_bipush_10 ?_
        refine lv_icmp_ne (tgt := 72) hx hb dX8_size_59 (by decide) (fun c59 => ?_) (fun c59 => ?_)
        · have gc59 := ai_ne c59
          refine lv_iload_n hx hb dX8_size_72 rfl (lv_at hl 1 rfl) ?_
          refine lv_bipush (v := 11) hx hb dX8_size_73 zk_bipush_11 ?_
          refine lv_icmp_ne (tgt := 85) hx hb dX8_size_75 (by decide) (fun c75 => ?_) (fun c75 => ?_)
          · have gc75 := ai_ne c75
            refine lv_iload_n hx hb dX8_size_85 rfl (lv_at hl 1 rfl) ?_
            refine lv_bipush (v := 12) hx hb dX8_size_86 zk_bipush_12 ?_
            refine lv_icmp_ne (tgt := 98) hx hb dX8_size_88 (by decide) (fun c88 => ?_) (fun c88 => ?_)
            · have gc88 := ai_ne c88
              refine lv_iconst (v := (-1)) hx hb dX8_size_98 zk_iconst_n1 ?_
              exact W.iret (v := (-1)) hx hb hr (fun t ht hW => ⟨⟨(-1), (), rfl, trivial, 0, by rw [ht]; exact hP, va_K.moved hW.alike hK, hD⟩, hS.F ht⟩) hS.2.2 dX8_size_99
            · have gc88 := ai_eq c88
              have u88f_a1 : a1.toInt ≤ (12 : Int) := Int.le_trans (Int.le_of_eq gc88) zq120
              have l88f_a1 : (12 : Int) ≤ a1.toInt := Int.le_trans zq119 (Int.le_of_eq gc88.symm)
              refine lv_aload_n hx hb dX8_size_91 rfl (lv_at hl 0 rfl) ?_
              refine va_get (D := (dC, dI)) (ci := 8) (v := .int a0_22) (C := RX8) (T := TX8) (N := 40) hx hb hts zi_X8_size_8 hown hK hP 0 rfl rfl 22 (by decide) (hts (.fieldLink RX8 179 "WaxTurnsModel" "images" "I") (List.mem_cons_of_mem _ (List.mem_append_left _ (List.mem_of_getElem? (i := 6) rfl)))) (fun _ h9 => h9) rfl dX8_size_92 ?_
              refine lv_goto (tgt := 99) hx hb dX8_size_95 (by decide) ?_
              exact W.iret (v := a0_22) hx hb hr (fun t ht hW => ⟨⟨a0_22, (), rfl, trivial, 0, by rw [ht]; exact hP, va_K.moved hW.alike hK, hD⟩, hS.F ht⟩) hS.2.2 dX8_size_99
          · have gc75 := ai_eq c75
            have u75f_a1 : a1.toInt ≤ (11 : Int) := Int.le_trans (Int.le_of_eq gc75) zq118
            have l75f_a1 : (11 : Int) ≤ a1.toInt := Int.le_trans zq117 (Int.le_of_eq gc75.symm)
            refine lv_aload_n hx hb dX8_size_78 rfl (lv_at hl 0 rfl) ?_
            refine va_get (D := (dC, dI)) (ci := 8) (v := .int a0_21) (C := RX8) (T := TX8) (N := 40) hx hb hts zi_X8_size_8 hown hK hP 0 rfl rfl 21 (by decide) (hts (.fieldLink RX8 176 "WaxTurnsModel" "undos" "I") (List.mem_cons_of_mem _ (List.mem_append_left _ (List.mem_of_getElem? (i := 5) rfl)))) (fun _ h9 => h9) rfl dX8_size_79 ?_
            refine lv_goto (tgt := 99) hx hb dX8_size_82 (by decide) ?_
            exact W.iret (v := a0_21) hx hb hr (fun t ht hW => ⟨⟨a0_21, (), rfl, trivial, 0, by rw [ht]; exact hP, va_K.moved hW.alike hK, hD⟩, hS.F ht⟩) hS.2.2 dX8_size_99
        · have gc59 := ai_eq c59
          have u59f_a1 : a1.toInt ≤ (10 : Int) := Int.le_trans (Int.le_of_eq gc59) zq27
          have l59f_a1 : (10 : Int) ≤ a1.toInt := Int.le_trans zq26 (Int.le_of_eq gc59.symm)
          refine lv_aload_n hx hb dX8_size_62 rfl (lv_at hl 0 rfl) ?_
          refine va_get (D := (dC, dI)) (ci := 8) (v := .ref a0_17) (C := RX8) (T := TX8) (N := 40) hx hb hts zi_X8_size_8 hown hK hP 0 rfl rfl 17 (by decide) (hts (.fieldLink RX8 26 "WaxTurnsModel" "st" "[I") (List.mem_cons_of_mem _ (List.mem_append_left _ (List.mem_of_getElem? (i := 4) rfl)))) (fun _ h9 => h9) rfl dX8_size_63 ?_
          refine lv_bipush (v := 21) hx hb dX8_size_66 zk_bipush_21 ?_
          refine va_iald hx hb hK hP 2 1 rfl rfl (by unfold vp_in; decide +kernel) dX8_size_68 ?_
          refine lv_topi (fun x68 ex68 => ?_)
          refine lv_goto (tgt := 99) hx hb dX8_size_69 (by decide) ?_
          exact W.iret (v := x68) hx hb hr (fun t ht hW => ⟨⟨x68, (), rfl, trivial, 0, by rw [ht]; exact hP, va_K.moved hW.alike hK, hD⟩, hS.F ht⟩) hS.2.2 dX8_size_99
    · have gc20 := ai_eq c20
      have u20f_a0_14 : a0_14.toInt ≤ (0 : Int) := Int.le_trans (Int.le_of_eq gc20) zq6
      have l20f_a0_14 : (1 : Int) ≤ a0_14.toInt := ba0_14_l
      exact absurd (Int.le_trans l20f_a0_14 u20f_a0_14) (by decide)
  · have gc8 := ai_eq c8
    have u8f_a1 : a1.toInt ≤ (13 : Int) := Int.le_trans (Int.le_of_eq gc8) zq122
    have l8f_a1 : (13 : Int) ≤ a1.toInt := Int.le_trans zq121 (Int.le_of_eq gc8.symm)
    refine lv_aload_n hx hb dX8_size_11 rfl (lv_at hl 0 rfl) ?_
    refine va_get (D := (dC, dI)) (ci := 8) (v := .int a0_2) (C := RX8) (T := TX8) (N := 40) hx hb hts zi_X8_size_8 hown hK hP 0 rfl rfl 2 (by decide) (hts (.fieldLink RX8 65 "WaxTurnsModel" "taped" "I") (List.mem_cons_of_mem _ (List.mem_append_left _ (List.mem_of_getElem? (i := 1) rfl)))) (fun _ h9 => h9) rfl dX8_size_12 ?_
    exact W.iret (v := a0_2) hx hb hr (fun t ht hW => ⟨⟨a0_2, (), rfl, trivial, 0, by rw [ht]; exact hP, va_K.moved hW.alike hK, hD⟩, hS.F ht⟩) hS.2.2 dX8_size_15

set_option maxHeartbeats 4000000 in
set_option maxRecDepth 100000 in
theorem c_X8_trouble (l : Launch) (dC : Nat → ClassId) (dI : Nat → Nat → Nat) (sz : Nat) (a0 : Nat) (a0_0 : Int32) (a0g_1 a0g_2 a0g_3 a0g_4 a0g_5 a0g_6 a0g_7 a0g_8 a0g_9 a0g_10 a0g_12 a0g_13 a0g_14 a0g_15 a0g_16 a0g_17 a0g_18 a0g_19 a0g_20 a0g_21 a0g_22 a0g_23 a0g_24 a0g_25 a0g_26 a0g_27 a0g_28 a0g_29 a0g_30 a0g_31 a0g_32 a0g_33 a0g_34 a0g_35 a0g_36 a0g_37 a0g_38 a0g_39 : Value) (a0_11 : Int32)  : zm l yX8_trouble wsX8_trouble ({ frames := 0, cells := 0, slots := 0, locals := 0 }) [.ref a0] dC dI sz [(a0, .inr (8, [Value.int a0_0, a0g_1, a0g_2, a0g_3, a0g_4, a0g_5, a0g_6, a0g_7, a0g_8, a0g_9, a0g_10, Value.int a0_11, a0g_12, a0g_13, a0g_14, a0g_15, a0g_16, a0g_17, a0g_18, a0g_19, a0g_20, a0g_21, a0g_22, a0g_23, a0g_24, a0g_25, a0g_26, a0g_27, a0g_28, a0g_29, a0g_30, a0g_31, a0g_32, a0g_33, a0g_34, a0g_35, a0g_36, a0g_37, a0g_38, a0g_39]))] [] (fun A _ => True) (fun A => va_Qi (fun (r : Int32) (_ : Unit) => True) (fun (_ : Unit) (t : State) => ∃ na0_0 : Int32, ax_B dC dI A [(a0, .inr (8, [Value.int na0_0, a0g_1, a0g_2, a0g_3, a0g_4, a0g_5, a0g_6, a0g_7, a0g_8, a0g_9, a0g_10, Value.int a0_11, a0g_12, a0g_13, a0g_14, a0g_15, a0g_16, a0g_17, a0g_18, a0g_19, a0g_20, a0g_21, a0g_22, a0g_23, a0g_24, a0g_25, a0g_26, a0g_27, a0g_28, a0g_29, a0g_30, a0g_31, a0g_32, a0g_33, a0g_34, a0g_35, a0g_36, a0g_37, a0g_38, a0g_39]))] [] t) A) := by
  refine zh (cc := cX8_trouble) (maxL := 1) (ret := (some .int)) zn_RX8 rfl (Nat.le_of_ble_eq_true rfl) (fun p e s m below meth c A ls hx hb hml hr hts (hown : s.vm.findClass RX8 = some m.cls) hlocks hA hS hP hK hD hE (hl : lv_has ls 1 [(0, .ref a0)]) => ?_)
  refine lv_aload_n hx hb dX8_trouble_0 rfl (lv_at hl 0 rfl) ?_
  refine lv_iconst (v := 0) hx hb dX8_trouble_1 zk_iconst_0 ?_
  refine va_put (D := (dC, dI)) (ci := 8) (v := .int 0) (ty := .int) (C := RX8) (T := TX8) (N := 40) hx hb hts zi_X8_trouble_8 tyX8 tyX8_ok nmX8 hown hK hP hD hS 0 rfl rfl 0 (by decide) (hts (.fieldLink RX8 59 "WaxTurnsModel" "thrown" "I") (List.mem_cons_of_mem _ (List.mem_append_left _ (List.mem_of_getElem? (i := 0) rfl)))) (fun _ h9 => h9) rfl (tyX8_ok 0 (by decide)) rfl rfl (Nat.le_of_ble_eq_true rfl) dX8_trouble_2 (fun H locs hP hD hS => ?_)
  refine zs_0 (y := (a0, .inr (8, [Value.int 0, a0g_1, a0g_2, a0g_3, a0g_4, a0g_5, a0g_6, a0g_7, a0g_8, a0g_9, a0g_10, Value.int a0_11, a0g_12, a0g_13, a0g_14, a0g_15, a0g_16, a0g_17, a0g_18, a0g_19, a0g_20, a0g_21, a0g_22, a0g_23, a0g_24, a0g_25, a0g_26, a0g_27, a0g_28, a0g_29, a0g_30, a0g_31, a0g_32, a0g_33, a0g_34, a0g_35, a0g_36, a0g_37, a0g_38, a0g_39]))) hP hD rfl (fun hP hD => ?_)
  refine lv_aload_n hx hb dX8_trouble_5 rfl (lv_at hl 0 rfl) ?_
  refine va_get (D := (dC, dI)) (ci := 8) (v := .int a0_11) (C := RX8) (T := TX8) (N := 40) hx hb hts zi_X8_trouble_8 hown hK hP 0 rfl rfl 11 (by decide) (hts (.fieldLink RX8 62 "WaxTurnsModel" "trouble" "I") (List.mem_cons_of_mem _ (List.mem_append_left _ (List.mem_of_getElem? (i := 1) rfl)))) (fun _ h9 => h9) rfl dX8_trouble_6 ?_
  exact W.iret (v := a0_11) hx hb hr (fun t ht hW => ⟨⟨a0_11, (), rfl, trivial, 0, by rw [ht]; exact hP, va_K.moved hW.alike hK, hD⟩, hS.F ht⟩) hS.2.2 dX8_trouble_9

set_option maxHeartbeats 4000000 in
set_option maxRecDepth 100000 in
theorem c_X8_fault (l : Launch) (dC : Nat → ClassId) (dI : Nat → Nat → Nat) (sz : Nat) (a0 : Nat) (a0_0 : Int32) (a0g_1 a0g_2 a0g_3 a0g_4 a0g_5 a0g_6 a0g_7 a0g_8 a0g_10 a0g_11 a0g_12 a0g_13 a0g_14 a0g_15 a0g_16 a0g_17 a0g_18 a0g_19 a0g_20 a0g_21 a0g_22 a0g_23 a0g_24 a0g_25 a0g_26 a0g_27 a0g_28 a0g_29 a0g_30 a0g_31 a0g_32 a0g_33 a0g_34 a0g_35 a0g_36 a0g_37 a0g_38 a0g_39 : Value) (a0_9 : Int32)  : zm l yX8_fault wsX8_fault ({ frames := 0, cells := 0, slots := 0, locals := 0 }) [.ref a0] dC dI sz [(a0, .inr (8, [Value.int a0_0, a0g_1, a0g_2, a0g_3, a0g_4, a0g_5, a0g_6, a0g_7, a0g_8, Value.int a0_9, a0g_10, a0g_11, a0g_12, a0g_13, a0g_14, a0g_15, a0g_16, a0g_17, a0g_18, a0g_19, a0g_20, a0g_21, a0g_22, a0g_23, a0g_24, a0g_25, a0g_26, a0g_27, a0g_28, a0g_29, a0g_30, a0g_31, a0g_32, a0g_33, a0g_34, a0g_35, a0g_36, a0g_37, a0g_38, a0g_39]))] [] (fun A _ => True) (fun A => va_Qi (fun (r : Int32) (_ : Unit) => True) (fun (_ : Unit) (t : State) => ∃ na0_0 : Int32, ax_B dC dI A [(a0, .inr (8, [Value.int na0_0, a0g_1, a0g_2, a0g_3, a0g_4, a0g_5, a0g_6, a0g_7, a0g_8, Value.int a0_9, a0g_10, a0g_11, a0g_12, a0g_13, a0g_14, a0g_15, a0g_16, a0g_17, a0g_18, a0g_19, a0g_20, a0g_21, a0g_22, a0g_23, a0g_24, a0g_25, a0g_26, a0g_27, a0g_28, a0g_29, a0g_30, a0g_31, a0g_32, a0g_33, a0g_34, a0g_35, a0g_36, a0g_37, a0g_38, a0g_39]))] [] t) A) := by
  refine zh (cc := cX8_fault) (maxL := 1) (ret := (some .int)) zn_RX8 rfl (Nat.le_of_ble_eq_true rfl) (fun p e s m below meth c A ls hx hb hml hr hts (hown : s.vm.findClass RX8 = some m.cls) hlocks hA hS hP hK hD hE (hl : lv_has ls 1 [(0, .ref a0)]) => ?_)
  refine lv_aload_n hx hb dX8_fault_0 rfl (lv_at hl 0 rfl) ?_
  refine lv_iconst (v := 0) hx hb dX8_fault_1 zk_iconst_0 ?_
  refine va_put (D := (dC, dI)) (ci := 8) (v := .int 0) (ty := .int) (C := RX8) (T := TX8) (N := 40) hx hb hts zi_X8_fault_8 tyX8 tyX8_ok nmX8 hown hK hP hD hS 0 rfl rfl 0 (by decide) (hts (.fieldLink RX8 59 "WaxTurnsModel" "thrown" "I") (List.mem_cons_of_mem _ (List.mem_append_left _ (List.mem_of_getElem? (i := 0) rfl)))) (fun _ h9 => h9) rfl (tyX8_ok 0 (by decide)) rfl rfl (Nat.le_of_ble_eq_true rfl) dX8_fault_2 (fun H locs hP hD hS => ?_)
  refine zs_0 (y := (a0, .inr (8, [Value.int 0, a0g_1, a0g_2, a0g_3, a0g_4, a0g_5, a0g_6, a0g_7, a0g_8, Value.int a0_9, a0g_10, a0g_11, a0g_12, a0g_13, a0g_14, a0g_15, a0g_16, a0g_17, a0g_18, a0g_19, a0g_20, a0g_21, a0g_22, a0g_23, a0g_24, a0g_25, a0g_26, a0g_27, a0g_28, a0g_29, a0g_30, a0g_31, a0g_32, a0g_33, a0g_34, a0g_35, a0g_36, a0g_37, a0g_38, a0g_39]))) hP hD rfl (fun hP hD => ?_)
  refine lv_aload_n hx hb dX8_fault_5 rfl (lv_at hl 0 rfl) ?_
  refine va_get (D := (dC, dI)) (ci := 8) (v := .int a0_9) (C := RX8) (T := TX8) (N := 40) hx hb hts zi_X8_fault_8 hown hK hP 0 rfl rfl 9 (by decide) (hts (.fieldLink RX8 101 "WaxTurnsModel" "fault" "I") (List.mem_cons_of_mem _ (List.mem_append_left _ (List.mem_of_getElem? (i := 1) rfl)))) (fun _ h9 => h9) rfl dX8_fault_6 ?_
  exact W.iret (v := a0_9) hx hb hr (fun t ht hW => ⟨⟨a0_9, (), rfl, trivial, 0, by rw [ht]; exact hP, va_K.moved hW.alike hK, hD⟩, hS.F ht⟩) hS.2.2 dX8_fault_9

set_option maxHeartbeats 4000000 in
set_option maxRecDepth 100000 in
theorem c_X8_where (l : Launch) (dC : Nat → ClassId) (dI : Nat → Nat → Nat) (sz : Nat) (a0 : Nat) (a0_0 : Int32) (a0g_1 a0g_2 a0g_3 a0g_4 a0g_5 a0g_6 a0g_7 a0g_8 a0g_9 a0g_12 a0g_13 a0g_14 a0g_15 a0g_16 a0g_17 a0g_18 a0g_19 a0g_20 a0g_21 a0g_22 a0g_23 a0g_24 a0g_25 a0g_26 a0g_27 a0g_28 a0g_29 a0g_30 a0g_31 a0g_32 a0g_33 a0g_34 a0g_35 a0g_36 a0g_37 a0g_38 a0g_39 : Value) (a0_10 : Int32) (a0_11 : Int32)  : zm l yX8_where wsX8_where ({ frames := 0, cells := 0, slots := 0, locals := 0 }) [.ref a0] dC dI sz [(a0, .inr (8, [Value.int a0_0, a0g_1, a0g_2, a0g_3, a0g_4, a0g_5, a0g_6, a0g_7, a0g_8, a0g_9, Value.int a0_10, Value.int a0_11, a0g_12, a0g_13, a0g_14, a0g_15, a0g_16, a0g_17, a0g_18, a0g_19, a0g_20, a0g_21, a0g_22, a0g_23, a0g_24, a0g_25, a0g_26, a0g_27, a0g_28, a0g_29, a0g_30, a0g_31, a0g_32, a0g_33, a0g_34, a0g_35, a0g_36, a0g_37, a0g_38, a0g_39]))] [] (fun A _ => True) (fun A => va_Qi (fun (r : Int32) (_ : Unit) => True) (fun (_ : Unit) (t : State) => ∃ na0_0 : Int32, ax_B dC dI A [(a0, .inr (8, [Value.int na0_0, a0g_1, a0g_2, a0g_3, a0g_4, a0g_5, a0g_6, a0g_7, a0g_8, a0g_9, Value.int a0_10, Value.int a0_11, a0g_12, a0g_13, a0g_14, a0g_15, a0g_16, a0g_17, a0g_18, a0g_19, a0g_20, a0g_21, a0g_22, a0g_23, a0g_24, a0g_25, a0g_26, a0g_27, a0g_28, a0g_29, a0g_30, a0g_31, a0g_32, a0g_33, a0g_34, a0g_35, a0g_36, a0g_37, a0g_38, a0g_39]))] [] t) A) := by
  refine zh (cc := cX8_where) (maxL := 1) (ret := (some .int)) zn_RX8 rfl (Nat.le_of_ble_eq_true rfl) (fun p e s m below meth c A ls hx hb hml hr hts (hown : s.vm.findClass RX8 = some m.cls) hlocks hA hS hP hK hD hE (hl : lv_has ls 1 [(0, .ref a0)]) => ?_)
  refine lv_aload_n hx hb dX8_where_0 rfl (lv_at hl 0 rfl) ?_
  refine lv_iconst (v := 0) hx hb dX8_where_1 zk_iconst_0 ?_
  refine va_put (D := (dC, dI)) (ci := 8) (v := .int 0) (ty := .int) (C := RX8) (T := TX8) (N := 40) hx hb hts zi_X8_where_8 tyX8 tyX8_ok nmX8 hown hK hP hD hS 0 rfl rfl 0 (by decide) (hts (.fieldLink RX8 59 "WaxTurnsModel" "thrown" "I") (List.mem_cons_of_mem _ (List.mem_append_left _ (List.mem_of_getElem? (i := 0) rfl)))) (fun _ h9 => h9) rfl (tyX8_ok 0 (by decide)) rfl rfl (Nat.le_of_ble_eq_true rfl) dX8_where_2 (fun H locs hP hD hS => ?_)
  refine zs_0 (y := (a0, .inr (8, [Value.int 0, a0g_1, a0g_2, a0g_3, a0g_4, a0g_5, a0g_6, a0g_7, a0g_8, a0g_9, Value.int a0_10, Value.int a0_11, a0g_12, a0g_13, a0g_14, a0g_15, a0g_16, a0g_17, a0g_18, a0g_19, a0g_20, a0g_21, a0g_22, a0g_23, a0g_24, a0g_25, a0g_26, a0g_27, a0g_28, a0g_29, a0g_30, a0g_31, a0g_32, a0g_33, a0g_34, a0g_35, a0g_36, a0g_37, a0g_38, a0g_39]))) hP hD rfl (fun hP hD => ?_)
  refine lv_aload_n hx hb dX8_where_5 rfl (lv_at hl 0 rfl) ?_
  refine va_get (D := (dC, dI)) (ci := 8) (v := .int a0_11) (C := RX8) (T := TX8) (N := 40) hx hb hts zi_X8_where_8 hown hK hP 0 rfl rfl 11 (by decide) (hts (.fieldLink RX8 62 "WaxTurnsModel" "trouble" "I") (List.mem_cons_of_mem _ (List.mem_append_left _ (List.mem_of_getElem? (i := 1) rfl)))) (fun _ h9 => h9) rfl dX8_where_6 ?_
  refine lv_iconst (v := 4) hx hb dX8_where_9 zk_iconst_4 ?_
  refine lv_icmp_ne (tgt := 20) hx hb dX8_where_10 (by decide) (fun c10 => ?_) (fun c10 => ?_)
  · have gc10 := ai_ne c10
    refine lv_iconst (v := (-1)) hx hb dX8_where_20 zk_iconst_n1 ?_
    exact W.iret (v := (-1)) hx hb hr (fun t ht hW => ⟨⟨(-1), (), rfl, trivial, 0, by rw [ht]; exact hP, va_K.moved hW.alike hK, hD⟩, hS.F ht⟩) hS.2.2 dX8_where_21
  · have gc10 := ai_eq c10
    have u10f_a0_11 : a0_11.toInt ≤ (4 : Int) := Int.le_trans (Int.le_of_eq gc10) zq67
    have l10f_a0_11 : (4 : Int) ≤ a0_11.toInt := Int.le_trans zq68 (Int.le_of_eq gc10.symm)
    refine lv_aload_n hx hb dX8_where_13 rfl (lv_at hl 0 rfl) ?_
    refine va_get (D := (dC, dI)) (ci := 8) (v := .int a0_10) (C := RX8) (T := TX8) (N := 40) hx hb hts zi_X8_where_8 hown hK hP 0 rfl rfl 10 (by decide) (hts (.fieldLink RX8 13 "WaxTurnsModel" "place" "I") (List.mem_cons_of_mem _ (List.mem_append_left _ (List.mem_of_getElem? (i := 2) rfl)))) (fun _ h9 => h9) rfl dX8_where_14 ?_
    refine lv_goto (tgt := 21) hx hb dX8_where_17 (by decide) ?_
    exact W.iret (v := a0_10) hx hb hr (fun t ht hW => ⟨⟨a0_10, (), rfl, trivial, 0, by rw [ht]; exact hP, va_K.moved hW.alike hK, hD⟩, hS.F ht⟩) hS.2.2 dX8_where_21
end P270_02_safe
section P280_00_safe
set_option maxHeartbeats 4000000 in
set_option maxRecDepth 100000 in
theorem c0_X8_isFigure (l : Launch) (dC : Nat → ClassId) (dI : Nat → Nat → Nat) (sz : Nat) (a0 : Nat) (a1 : Int32) (a0g_0 a0g_1 a0g_2 a0g_3 a0g_4 a0g_5 a0g_6 a0g_7 a0g_8 a0g_9 a0g_10 a0g_11 a0g_12 a0g_13 a0g_15 a0g_16 a0g_17 a0g_18 a0g_19 a0g_20 a0g_21 a0g_22 a0g_23 a0g_24 a0g_25 a0g_26 a0g_27 a0g_28 a0g_29 a0g_30 a0g_31 a0g_32 a0g_33 a0g_34 a0g_35 a0g_36 a0g_37 a0g_38 a0g_39 : Value) (a0_14 : Int32) (ba0_14_l : (0 : Int) ≤ a0_14.toInt) (ba0_14_u : a0_14.toInt ≤ (0 : Int)) : zm l yX8_isFigure wsX8_isFigure ({ frames := 0, cells := 0, slots := 0, locals := 0 }) [.ref a0, .int a1] dC dI sz [(a0, .inr (8, [a0g_0, a0g_1, a0g_2, a0g_3, a0g_4, a0g_5, a0g_6, a0g_7, a0g_8, a0g_9, a0g_10, a0g_11, a0g_12, a0g_13, Value.int a0_14, a0g_15, a0g_16, a0g_17, a0g_18, a0g_19, a0g_20, a0g_21, a0g_22, a0g_23, a0g_24, a0g_25, a0g_26, a0g_27, a0g_28, a0g_29, a0g_30, a0g_31, a0g_32, a0g_33, a0g_34, a0g_35, a0g_36, a0g_37, a0g_38, a0g_39]))] [] (fun A _ => True) (fun A => va_Qi (fun (r : Int32) (_ : Unit) => r = 0) (fun (_ : Unit) (t : State) => ax_B dC dI A [(a0, .inr (8, [a0g_0, a0g_1, a0g_2, a0g_3, a0g_4, a0g_5, a0g_6, a0g_7, a0g_8, a0g_9, a0g_10, a0g_11, a0g_12, a0g_13, Value.int a0_14, a0g_15, a0g_16, a0g_17, a0g_18, a0g_19, a0g_20, a0g_21, a0g_22, a0g_23, a0g_24, a0g_25, a0g_26, a0g_27, a0g_28, a0g_29, a0g_30, a0g_31, a0g_32, a0g_33, a0g_34, a0g_35, a0g_36, a0g_37, a0g_38, a0g_39]))] [] t) A) := by
  refine zh (cc := cX8_isFigure) (maxL := 2) (ret := (some .boolean)) zn_RX8 rfl (Nat.le_of_ble_eq_true rfl) (fun p e s m below meth c A ls hx hb hml hr hts (hown : s.vm.findClass RX8 = some m.cls) hlocks hA hS hP hK hD hE (hl : lv_has ls 2 [(0, .ref a0), (1, .int a1)]) => ?_)
  refine lv_aload_n hx hb dX8_isFigure_0 rfl (lv_at hl 0 rfl) ?_
  refine va_get (D := (dC, dI)) (ci := 8) (v := .int a0_14) (C := RX8) (T := TX8) (N := 40) hx hb hts zi_X8_isFigure_8 hown hK hP 0 rfl rfl 14 (by decide) (hts (.fieldLink RX8 173 "WaxTurnsModel" "hasGallery" "Z") (List.mem_cons_of_mem _ (List.mem_append_left _ (List.mem_of_getElem? (i := 0) rfl)))) (fun _ h9 => h9) rfl dX8_isFigure_1 ?_
  refine lv_if_eq (tgt := 27) hx hb dX8_isFigure_4 (by decide) (fun c4 => ?_) (fun c4 => ?_)
  · have gc4 := ai_eq c4
    have u4t_a0_14 : a0_14.toInt ≤ (0 : Int) := ba0_14_u
    have l4t_a0_14 : (0 : Int) ≤ a0_14.toInt := ba0_14_l
    refine lv_iconst (v := 0) hx hb dX8_isFigure_27 zk_iconst_0 ?_
    exact W.zret (v := 0) hx hb hr rfl (fun t ht hW => ⟨⟨0, (), rfl, rfl, by rw [ht]; exact hP, va_K.moved hW.alike hK, hD⟩, hS.F ht⟩) hS.2.2 dX8_isFigure_28
  · have gc4 := ai_ne c4
    have l4f_a0_14 : (1 : Int) ≤ a0_14.toInt := (by first | exact zg_l ba0_14_l gc4 (by decide) (by decide) | (have h1 := ba0_14_l; have h2 : (0 : Int32).toInt = 0 := (by decide); rw [h2] at gc4; omega))
    have u4f_a0_14 : a0_14.toInt ≤ (-1 : Int) := (by first | exact zg_u ba0_14_u gc4 (by decide) (by decide) | (have h1 := ba0_14_u; have h2 : (0 : Int32).toInt = 0 := (by decide); rw [h2] at gc4; omega))
    exact absurd (Int.le_trans l4f_a0_14 u4f_a0_14) (by decide)

set_option maxHeartbeats 4000000 in
set_option maxRecDepth 100000 in
theorem c0_X8_isWatcher (l : Launch) (dC : Nat → ClassId) (dI : Nat → Nat → Nat) (sz : Nat) (a0 : Nat) (a1 : Int32) (a0g_0 a0g_1 a0g_2 a0g_3 a0g_4 a0g_5 a0g_6 a0g_7 a0g_8 a0g_9 a0g_10 a0g_11 a0g_12 a0g_13 a0g_15 a0g_16 a0g_17 a0g_18 a0g_19 a0g_20 a0g_21 a0g_22 a0g_23 a0g_24 a0g_25 a0g_26 a0g_27 a0g_28 a0g_29 a0g_30 a0g_31 a0g_32 a0g_33 a0g_34 a0g_35 a0g_36 a0g_37 a0g_38 a0g_39 : Value) (a0_14 : Int32) (ba0_14_l : (0 : Int) ≤ a0_14.toInt) (ba0_14_u : a0_14.toInt ≤ (0 : Int)) : zm l yX8_isWatcher wsX8_isWatcher ({ frames := 0, cells := 0, slots := 0, locals := 0 }) [.ref a0, .int a1] dC dI sz [(a0, .inr (8, [a0g_0, a0g_1, a0g_2, a0g_3, a0g_4, a0g_5, a0g_6, a0g_7, a0g_8, a0g_9, a0g_10, a0g_11, a0g_12, a0g_13, Value.int a0_14, a0g_15, a0g_16, a0g_17, a0g_18, a0g_19, a0g_20, a0g_21, a0g_22, a0g_23, a0g_24, a0g_25, a0g_26, a0g_27, a0g_28, a0g_29, a0g_30, a0g_31, a0g_32, a0g_33, a0g_34, a0g_35, a0g_36, a0g_37, a0g_38, a0g_39]))] [] (fun A _ => True) (fun A => va_Qi (fun (r : Int32) (_ : Unit) => r = 0) (fun (_ : Unit) (t : State) => ax_B dC dI A [(a0, .inr (8, [a0g_0, a0g_1, a0g_2, a0g_3, a0g_4, a0g_5, a0g_6, a0g_7, a0g_8, a0g_9, a0g_10, a0g_11, a0g_12, a0g_13, Value.int a0_14, a0g_15, a0g_16, a0g_17, a0g_18, a0g_19, a0g_20, a0g_21, a0g_22, a0g_23, a0g_24, a0g_25, a0g_26, a0g_27, a0g_28, a0g_29, a0g_30, a0g_31, a0g_32, a0g_33, a0g_34, a0g_35, a0g_36, a0g_37, a0g_38, a0g_39]))] [] t) A) := by
  refine zh (cc := cX8_isWatcher) (maxL := 2) (ret := (some .boolean)) zn_RX8 rfl (Nat.le_of_ble_eq_true rfl) (fun p e s m below meth c A ls hx hb hml hr hts (hown : s.vm.findClass RX8 = some m.cls) hlocks hA hS hP hK hD hE (hl : lv_has ls 2 [(0, .ref a0), (1, .int a1)]) => ?_)
  refine lv_aload_n hx hb dX8_isWatcher_0 rfl (lv_at hl 0 rfl) ?_
  refine va_get (D := (dC, dI)) (ci := 8) (v := .int a0_14) (C := RX8) (T := TX8) (N := 40) hx hb hts zi_X8_isWatcher_8 hown hK hP 0 rfl rfl 14 (by decide) (hts (.fieldLink RX8 173 "WaxTurnsModel" "hasGallery" "Z") (List.mem_cons_of_mem _ (List.mem_append_left _ (List.mem_of_getElem? (i := 0) rfl)))) (fun _ h9 => h9) rfl dX8_isWatcher_1 ?_
  refine lv_if_eq (tgt := 27) hx hb dX8_isWatcher_4 (by decide) (fun c4 => ?_) (fun c4 => ?_)
  · have gc4 := ai_eq c4
    have u4t_a0_14 : a0_14.toInt ≤ (0 : Int) := ba0_14_u
    have l4t_a0_14 : (0 : Int) ≤ a0_14.toInt := ba0_14_l
    refine lv_iconst (v := 0) hx hb dX8_isWatcher_27 zk_iconst_0 ?_
    exact W.zret (v := 0) hx hb hr rfl (fun t ht hW => ⟨⟨0, (), rfl, rfl, by rw [ht]; exact hP, va_K.moved hW.alike hK, hD⟩, hS.F ht⟩) hS.2.2 dX8_isWatcher_28
  · have gc4 := ai_ne c4
    have l4f_a0_14 : (1 : Int) ≤ a0_14.toInt := (by first | exact zg_l ba0_14_l gc4 (by decide) (by decide) | (have h1 := ba0_14_l; have h2 : (0 : Int32).toInt = 0 := (by decide); rw [h2] at gc4; omega))
    have u4f_a0_14 : a0_14.toInt ≤ (-1 : Int) := (by first | exact zg_u ba0_14_u gc4 (by decide) (by decide) | (have h1 := ba0_14_u; have h2 : (0 : Int32).toInt = 0 := (by decide); rw [h2] at gc4; omega))
    exact absurd (Int.le_trans l4f_a0_14 u4f_a0_14) (by decide)

set_option maxHeartbeats 4000000 in
set_option maxRecDepth 100000 in
theorem c0_X8_routeWhy (l : Launch) (dC : Nat → ClassId) (dI : Nat → Nat → Nat) (sz : Nat) (a0 : Nat) (a1 : Int32) (a2 : Int32) (a0g_0 a0g_1 a0g_2 a0g_3 a0g_4 a0g_5 a0g_6 a0g_7 a0g_8 a0g_9 a0g_10 a0g_11 a0g_12 a0g_13 a0g_15 a0g_16 a0g_17 a0g_18 a0g_19 a0g_20 a0g_21 a0g_22 a0g_23 a0g_24 a0g_25 a0g_26 a0g_27 a0g_28 a0g_29 a0g_30 a0g_31 a0g_32 a0g_33 a0g_34 a0g_35 a0g_36 a0g_37 a0g_38 a0g_39 : Value) (a0_14 : Int32) (ba0_14_l : (0 : Int) ≤ a0_14.toInt) (ba0_14_u : a0_14.toInt ≤ (0 : Int)) : zm l yX8_routeWhy wsX8_routeWhy ({ frames := 1, cells := 0, slots := 0, locals := 22 }) [.ref a0, .int a1, .int a2] dC dI sz [(a0, .inr (8, [a0g_0, a0g_1, a0g_2, a0g_3, a0g_4, a0g_5, a0g_6, a0g_7, a0g_8, a0g_9, a0g_10, a0g_11, a0g_12, a0g_13, Value.int a0_14, a0g_15, a0g_16, a0g_17, a0g_18, a0g_19, a0g_20, a0g_21, a0g_22, a0g_23, a0g_24, a0g_25, a0g_26, a0g_27, a0g_28, a0g_29, a0g_30, a0g_31, a0g_32, a0g_33, a0g_34, a0g_35, a0g_36, a0g_37, a0g_38, a0g_39]))] [] (fun A _ => True) (fun A => va_Qi (fun (r : Int32) (_ : Unit) => r = 1) (fun (_ : Unit) (t : State) => ax_B dC dI A [(a0, .inr (8, [a0g_0, a0g_1, a0g_2, a0g_3, a0g_4, a0g_5, a0g_6, a0g_7, a0g_8, a0g_9, a0g_10, a0g_11, a0g_12, a0g_13, Value.int a0_14, a0g_15, a0g_16, a0g_17, a0g_18, a0g_19, a0g_20, a0g_21, a0g_22, a0g_23, a0g_24, a0g_25, a0g_26, a0g_27, a0g_28, a0g_29, a0g_30, a0g_31, a0g_32, a0g_33, a0g_34, a0g_35, a0g_36, a0g_37, a0g_38, a0g_39]))] [] t) A) := by
  refine zh (cc := cX8_routeWhy) (maxL := 3) (ret := (some .int)) zn_RX8 rfl (Nat.le_of_ble_eq_true rfl) (fun p e s m below meth c A ls hx hb hml hr hts (hown : s.vm.findClass RX8 = some m.cls) hlocks hA hS hP hK hD hE (hl : lv_has ls 3 [(0, .ref a0), (1, .int a1), (2, .int a2)]) => ?_)
  refine lv_aload_n hx hb dX8_routeWhy_0 rfl (lv_at hl 0 rfl) ?_
  refine lv_aload_n hx hb dX8_routeWhy_1 rfl (lv_at hl 0 rfl) ?_
  refine lv_iload_n hx hb dX8_routeWhy_2 rfl (lv_at hl 1 rfl) ?_
  refine va_calli (va_runV (As := [.int a1]) (rest := [.ref a0]) ⟨hx, hb, hml, hown, hts⟩ (c0_X8_isFigure l dC dI s.heap.size a0 a1 a0g_0 a0g_1 a0g_2 a0g_3 a0g_4 a0g_5 a0g_6 a0g_7 a0g_8 a0g_9 a0g_10 a0g_11 a0g_12 a0g_13 a0g_15 a0g_16 a0g_17 a0g_18 a0g_19 a0g_20 a0g_21 a0g_22 a0g_23 a0g_24 a0g_25 a0g_26 a0g_27 a0g_28 a0g_29 a0g_30 a0g_31 a0g_32 a0g_33 a0g_34 a0g_35 a0g_36 a0g_37 a0g_38 a0g_39 a0_14 ba0_14_l ba0_14_u) (cwV 1 hts gX8_routeWhy_X8_isFigure rfl rfl rfl zd_X8_isFigure ⟨Nat.le_of_ble_eq_true rfl, Nat.le_of_ble_eq_true rfl⟩) ⟨ax_blind (fun _ _ _ _ _ => trivial), zr_8 (zp_K hK) (zp_P1 hP) (q0 := 0) rfl, ax_pre (zp_P1 hP) (zp_K hK) (zp_D1 hD) (fun _ _ => trivial)⟩ rfl rfl hl.1 rfl (lv_room (Nat.le_of_ble_eq_true rfl)) dX8_routeWhy_3 ⟨Nat.le_of_ble_eq_true rfl, Nat.le_of_ble_eq_true rfl⟩) hS (fun q _ h => zp_F1 hD hS hA q h) (zp_F1 hD hS hA) (fun r3 u t H locs ht hvm hw hB hz1 hk1 hS1 => zo1 hB ht hP hD hk1 (zp_F1 hD hS hA) hS1 (fun hP hK1 hD hS => ?_))
  have hw : r3 = 0 := hw
  have hw := hw.symm
  subst hw
  refine lv_iload_n hx hb dX8_routeWhy_6 rfl (lv_at hl 2 rfl) ?_
  refine lv_iconst (v := 1) hx hb dX8_routeWhy_7 zk_iconst_1 ?_
  refine lv_bipush (v := 60) hx hb dX8_routeWhy_8 zk_bipush_60 ?_
  refine va_calli (va_runS (As := [.int a2, .int 1, .int 60]) (rest := [.int 0, .ref a0]) ⟨hx, hb, hml, hown, hts⟩ (c_X8_in l dC dI H.size a2 1 60 ) (va_cwS 3 hts gX8_routeWhy_X8_in rfl rfl rfl zd_X8_in.2 ⟨Nat.le_of_ble_eq_true rfl, Nat.le_of_ble_eq_true rfl⟩) ⟨ax_blind (fun _ _ _ _ _ => trivial), ax_pre (zp_P0 hP) (zp_K hK) (zp_D0 hD) (fun _ _ => trivial)⟩ rfl rfl hl.1 rfl (lv_room (Nat.le_of_ble_eq_true rfl)) dX8_routeWhy_10 ⟨Nat.le_of_ble_eq_true rfl, Nat.le_of_ble_eq_true rfl⟩) hS (fun q _ h => zp_F0 hD hS hA q h) (zp_F0 hD hS hA) (fun r10 u t H locs ht hvm hw hB hz1 hk1 hS1 => zo0 hB ht hP hD hk1 (zp_F0 hD hS hA) hS1 (fun hP hK1 hD hS => ?_))
  rcases hw with hw | hw
  · obtain ⟨hw, h10⟩ := hw
    subst hw
    have l10k0_a2 : (1 : Int) ≤ a2.toInt := Int.le_trans zq1 h10.1
    have u10k0_a2 : a2.toInt ≤ (60 : Int) := Int.le_trans h10.2 zq46
    refine va_calli (va_runV (As := [.int 0, .int 1]) (rest := []) ⟨hx, hb, hml, hown, hts⟩ (c_X8_whyB l dC dI H.size a0 0 1 a0g_0 a0g_1 a0g_2 a0g_3 a0g_4 a0g_5 a0g_6 a0g_7 a0g_8 a0g_9 a0g_10 a0g_11 a0g_12 a0g_13 (Value.int a0_14) a0g_15 a0g_16 a0g_17 a0g_18 a0g_19 a0g_20 a0g_21 a0g_22 a0g_23 a0g_24 a0g_25 a0g_26 a0g_27 a0g_28 a0g_29 a0g_30 a0g_31 a0g_32 a0g_33 a0g_34 a0g_35 a0g_36 a0g_37 a0g_38 a0g_39 zq5 (Int.le_trans zq6 zq4) (Int.le_trans zq4 zq1) zq0) (cwV 2 hts gX8_routeWhy_X8_why rfl rfl rfl zd_X8_why ⟨Nat.le_of_ble_eq_true rfl, Nat.le_of_ble_eq_true rfl⟩) ⟨ax_blind (fun _ _ _ _ _ => trivial), zr_8 (zp_K hK) (zp_P1 hP) (q0 := 0) rfl, ax_pre (zp_P1 hP) (zp_K hK) (zp_D1 hD) (fun _ _ => trivial)⟩ rfl rfl hl.1 rfl (lv_room (Nat.le_of_ble_eq_true rfl)) dX8_routeWhy_13 ⟨Nat.le_of_ble_eq_true rfl, Nat.le_of_ble_eq_true rfl⟩) hS (fun q _ h => zp_F1 hD hS hA q h) (zp_F1 hD hS hA) (fun r13 u t H locs ht hvm hw hB hz1 hk1 hS1 => zo1 hB ht hP hD hk1 (zp_F1 hD hS hA) hS1 (fun hP hK1 hD hS => ?_))
    rcases hw with hw | hw | hw
    · obtain ⟨hw, h13_0, h13_1, h13_2, h13_3⟩ := hw
      subst hw
      exact absurd h13_0 (by decide)
    · obtain ⟨hw, h13_0, h13_1⟩ := hw
      subst hw
      exact W.iret (v := 1) hx hb hr (fun t ht hW => ⟨⟨1, (), rfl, rfl, by rw [ht]; exact hP, va_K.moved hW.alike hK, hD⟩, hS.F ht⟩) hS.2.2 dX8_routeWhy_16
    · obtain ⟨hw, h13_0, h13_1, h13_2, h13_3⟩ := hw
      subst hw
      exact absurd h13_0 (by decide)
  · obtain ⟨hw, h10⟩ := hw
    subst hw
    refine va_calli (va_runV (As := [.int 0, .int 0]) (rest := []) ⟨hx, hb, hml, hown, hts⟩ (c_X8_whyB l dC dI H.size a0 0 0 a0g_0 a0g_1 a0g_2 a0g_3 a0g_4 a0g_5 a0g_6 a0g_7 a0g_8 a0g_9 a0g_10 a0g_11 a0g_12 a0g_13 (Value.int a0_14) a0g_15 a0g_16 a0g_17 a0g_18 a0g_19 a0g_20 a0g_21 a0g_22 a0g_23 a0g_24 a0g_25 a0g_26 a0g_27 a0g_28 a0g_29 a0g_30 a0g_31 a0g_32 a0g_33 a0g_34 a0g_35 a0g_36 a0g_37 a0g_38 a0g_39 zq5 (Int.le_trans zq6 zq4) zq5 (Int.le_trans zq6 zq4)) (cwV 2 hts gX8_routeWhy_X8_why rfl rfl rfl zd_X8_why ⟨Nat.le_of_ble_eq_true rfl, Nat.le_of_ble_eq_true rfl⟩) ⟨ax_blind (fun _ _ _ _ _ => trivial), zr_8 (zp_K hK) (zp_P1 hP) (q0 := 0) rfl, ax_pre (zp_P1 hP) (zp_K hK) (zp_D1 hD) (fun _ _ => trivial)⟩ rfl rfl hl.1 rfl (lv_room (Nat.le_of_ble_eq_true rfl)) dX8_routeWhy_13 ⟨Nat.le_of_ble_eq_true rfl, Nat.le_of_ble_eq_true rfl⟩) hS (fun q _ h => zp_F1 hD hS hA q h) (zp_F1 hD hS hA) (fun r13 u t H locs ht hvm hw hB hz1 hk1 hS1 => zo1 hB ht hP hD hk1 (zp_F1 hD hS hA) hS1 (fun hP hK1 hD hS => ?_))
    rcases hw with hw | hw | hw
    · obtain ⟨hw, h13_0, h13_1, h13_2, h13_3⟩ := hw
      subst hw
      exact absurd h13_0 (by decide)
    · obtain ⟨hw, h13_0, h13_1⟩ := hw
      subst hw
      exact W.iret (v := 1) hx hb hr (fun t ht hW => ⟨⟨1, (), rfl, rfl, by rw [ht]; exact hP, va_K.moved hW.alike hK, hD⟩, hS.F ht⟩) hS.2.2 dX8_routeWhy_16
    · obtain ⟨hw, h13_0, h13_1, h13_2, h13_3⟩ := hw
      subst hw
      exact absurd h13_0 (by decide)

set_option maxHeartbeats 4000000 in
set_option maxRecDepth 100000 in
theorem c0_X8_drawWhy (l : Launch) (dC : Nat → ClassId) (dI : Nat → Nat → Nat) (sz : Nat) (a0 : Nat) (a1 : Int32) (a2 : Int32) (a3 : Int32) (a4 : Int32) (a0g_0 a0g_1 a0g_2 a0g_3 a0g_4 a0g_5 a0g_6 a0g_7 a0g_8 a0g_9 a0g_10 a0g_11 a0g_12 a0g_13 a0g_14 a0g_15 a0g_16 a0g_17 a0g_18 a0g_19 a0g_20 a0g_21 a0g_22 a0g_23 a0g_24 a0g_25 a0g_26 a0g_27 a0g_28 a0g_29 a0g_30 a0g_31 a0g_32 a0g_33 a0g_34 a0g_35 a0g_36 a0g_37 a0g_38 a0g_39 : Value) (ba1_l : (0 : Int) ≤ a1.toInt) (ba1_u : a1.toInt ≤ (0 : Int)) : zm l yX8_drawWhy wsX8_drawWhy ({ frames := 1, cells := 0, slots := 0, locals := 22 }) [.ref a0, .int a1, .int a2, .int a3, .int a4] dC dI sz [(a0, .inr (8, [a0g_0, a0g_1, a0g_2, a0g_3, a0g_4, a0g_5, a0g_6, a0g_7, a0g_8, a0g_9, a0g_10, a0g_11, a0g_12, a0g_13, a0g_14, a0g_15, a0g_16, a0g_17, a0g_18, a0g_19, a0g_20, a0g_21, a0g_22, a0g_23, a0g_24, a0g_25, a0g_26, a0g_27, a0g_28, a0g_29, a0g_30, a0g_31, a0g_32, a0g_33, a0g_34, a0g_35, a0g_36, a0g_37, a0g_38, a0g_39]))] [] (fun A _ => True) (fun A => va_Qi (fun (r : Int32) (_ : Unit) => r = 1) (fun (_ : Unit) (t : State) => ax_B dC dI A [(a0, .inr (8, [a0g_0, a0g_1, a0g_2, a0g_3, a0g_4, a0g_5, a0g_6, a0g_7, a0g_8, a0g_9, a0g_10, a0g_11, a0g_12, a0g_13, a0g_14, a0g_15, a0g_16, a0g_17, a0g_18, a0g_19, a0g_20, a0g_21, a0g_22, a0g_23, a0g_24, a0g_25, a0g_26, a0g_27, a0g_28, a0g_29, a0g_30, a0g_31, a0g_32, a0g_33, a0g_34, a0g_35, a0g_36, a0g_37, a0g_38, a0g_39]))] [] t) A) := by
  refine zh (cc := cX8_drawWhy) (maxL := 9) (ret := (some .int)) zn_RX8 rfl (Nat.le_of_ble_eq_true rfl) (fun p e s m below meth c A ls hx hb hml hr hts (hown : s.vm.findClass RX8 = some m.cls) hlocks hA hS hP hK hD hE (hl : lv_has ls 9 [(0, .ref a0), (1, .int a1), (2, .int a2), (3, .int a3), (4, .int a4)]) => ?_)
  refine ai_open (fun K hK0 => ?_)
  refine (hK0 _ _ _).mpr ?_
  refine lv_aload_n hx hb dX8_drawWhy_0 rfl (lv_at hl 0 rfl) ?_
  refine lv_iload_n hx hb dX8_drawWhy_1 rfl (lv_at hl 1 rfl) ?_
  refine lv_iload_n hx hb dX8_drawWhy_2 rfl (lv_at hl 3 rfl) ?_
  refine lv_iconst (v := 0) hx hb dX8_drawWhy_3 zk_iconst_0 ?_
  refine lv_ldcw (v := 65536) hx hb hown (hts (.constant RX8 374 (65536)) (zm_X8_drawWhy_r1 (List.mem_of_getElem? (i := 0) rfl))) dX8_drawWhy_4 ?_
  refine va_calli (va_runS (As := [.int a3, .int 0, .int 65536]) (rest := [.int a1, .ref a0]) ⟨hx, hb, hml, hown, hts⟩ (c_X8_in l dC dI s.heap.size a3 0 65536 ) (va_cwS 3 hts gX8_drawWhy_X8_in rfl rfl rfl zd_X8_in.2 ⟨Nat.le_of_ble_eq_true rfl, Nat.le_of_ble_eq_true rfl⟩) ⟨ax_blind (fun _ _ _ _ _ => trivial), ax_pre (zp_P0 hP) (zp_K hK) (zp_D0 hD) (fun _ _ => trivial)⟩ rfl rfl hl.1 rfl (lv_room (Nat.le_of_ble_eq_true rfl)) dX8_drawWhy_7 ⟨Nat.le_of_ble_eq_true rfl, Nat.le_of_ble_eq_true rfl⟩) hS (fun q _ h => zp_F0 hD hS hA q h) (zp_F0 hD hS hA) (fun r7 u t H locs ht hvm hw hB hz1 hk1 hS1 => zo0 hB ht hP hD hk1 (zp_F0 hD hS hA) hS1 (fun hP hK1 hD hS => ?_))
  rcases hw with hw | hw
  · obtain ⟨hw, h7⟩ := hw
    subst hw
    have l7k0_a3 : (0 : Int) ≤ a3.toInt := Int.le_trans zq5 h7.1
    have u7k0_a3 : a3.toInt ≤ (65536 : Int) := Int.le_trans h7.2 zq105
    refine lv_if_eq (tgt := 29) hx hb dX8_drawWhy_10 (by decide) (fun c10 => absurd c10 (by decide +kernel)) (fun _ => ?_)
    refine lv_iload hx hb dX8_drawWhy_13 (lv_at hl 4 rfl) ?_
    refine lv_iconst (v := 0) hx hb dX8_drawWhy_15 zk_iconst_0 ?_
    refine lv_sipush (v := 200) hx hb dX8_drawWhy_16 zk_sipush_200 ?_
    refine va_calli (va_runS (As := [.int a4, .int 0, .int 200]) (rest := [.int a1, .ref a0]) ⟨hx, hb, hml, hown, hts⟩ (c_X8_in l dC dI H.size a4 0 200 ) (va_cwS 3 hts gX8_drawWhy_X8_in rfl rfl rfl zd_X8_in.2 ⟨Nat.le_of_ble_eq_true rfl, Nat.le_of_ble_eq_true rfl⟩) ⟨ax_blind (fun _ _ _ _ _ => trivial), ax_pre (zp_P0 hP) (zp_K hK) (zp_D0 hD) (fun _ _ => trivial)⟩ rfl rfl hl.1 rfl (lv_room (Nat.le_of_ble_eq_true rfl)) dX8_drawWhy_19 ⟨Nat.le_of_ble_eq_true rfl, Nat.le_of_ble_eq_true rfl⟩) hS (fun q _ h => zp_F0 hD hS hA q h) (zp_F0 hD hS hA) (fun r19 u t H locs ht hvm hw hB hz1 hk1 hS1 => zo0 hB ht hP hD hk1 (zp_F0 hD hS hA) hS1 (fun hP hK1 hD hS => ?_))
    rcases hw with hw | hw
    · obtain ⟨hw, h19⟩ := hw
      subst hw
      have l19k0_a4 : (0 : Int) ≤ a4.toInt := Int.le_trans zq5 h19.1
      have u19k0_a4 : a4.toInt ≤ (200 : Int) := Int.le_trans h19.2 zq65
      refine lv_if_eq (tgt := 29) hx hb dX8_drawWhy_22 (by decide) (fun c22 => absurd c22 (by decide +kernel)) (fun _ => ?_)
      refine lv_iconst (v := 1) hx hb dX8_drawWhy_25 zk_iconst_1 ?_
      refine lv_goto (tgt := 30) hx hb dX8_drawWhy_26 (by decide) ?_
      refine va_calli (va_runV (As := [.int a1, .int 1]) (rest := []) ⟨hx, hb, hml, hown, hts⟩ (c_X8_whyB l dC dI H.size a0 a1 1 a0g_0 a0g_1 a0g_2 a0g_3 a0g_4 a0g_5 a0g_6 a0g_7 a0g_8 a0g_9 a0g_10 a0g_11 a0g_12 a0g_13 a0g_14 a0g_15 a0g_16 a0g_17 a0g_18 a0g_19 a0g_20 a0g_21 a0g_22 a0g_23 a0g_24 a0g_25 a0g_26 a0g_27 a0g_28 a0g_29 a0g_30 a0g_31 a0g_32 a0g_33 a0g_34 a0g_35 a0g_36 a0g_37 a0g_38 a0g_39 ba1_l (Int.le_trans ba1_u zq4) (Int.le_trans zq4 zq1) zq0) (cwV 2 hts gX8_drawWhy_X8_why rfl rfl rfl zd_X8_why ⟨Nat.le_of_ble_eq_true rfl, Nat.le_of_ble_eq_true rfl⟩) ⟨ax_blind (fun _ _ _ _ _ => trivial), zr_8 (zp_K hK) (zp_P1 hP) (q0 := 0) rfl, ax_pre (zp_P1 hP) (zp_K hK) (zp_D1 hD) (fun _ _ => trivial)⟩ rfl rfl hl.1 rfl (lv_room (Nat.le_of_ble_eq_true rfl)) dX8_drawWhy_30 ⟨Nat.le_of_ble_eq_true rfl, Nat.le_of_ble_eq_true rfl⟩) hS (fun q _ h => zp_F1 hD hS hA q h) (zp_F1 hD hS hA) (fun r30 u t H locs ht hvm hw hB hz1 hk1 hS1 => zo1 hB ht hP hD hk1 (zp_F1 hD hS hA) hS1 (fun hP hK1 hD hS => ?_))
      rcases hw with hw | hw | hw
      · obtain ⟨hw, h30_0, h30_1, h30_2, h30_3⟩ := hw
        subst hw
        have l30k0_a1 : (1 : Int) ≤ a1.toInt := h30_0
        have u30k0_a1 : a1.toInt ≤ (0 : Int) := ba1_u
        exact absurd (Int.le_trans l30k0_a1 u30k0_a1) (by decide)
      · obtain ⟨hw, h30_0, h30_1⟩ := hw
        subst hw
        have l30k1_a1 : (0 : Int) ≤ a1.toInt := ba1_l
        have u30k1_a1 : a1.toInt ≤ (0 : Int) := ba1_u
        refine lv_istore (lv' := [(5, .int 1), (0, .ref a0), (1, .int a1), (2, .int a2), (3, .int a3), (4, .int a4)]) hx hb dX8_drawWhy_33 hl (by decide) rfl (fun ls hl => ?_)
        refine lv_iload hx hb dX8_drawWhy_35 (lv_at hl 0 rfl) ?_
        refine lv_if_eq (tgt := 43) hx hb dX8_drawWhy_37 (by decide) (fun c37 => absurd c37 (by decide +kernel)) (fun _ => ?_)
        refine lv_iload hx hb dX8_drawWhy_40 (lv_at hl 0 rfl) ?_
        exact W.iret (v := 1) hx hb hr (fun t ht hW => ⟨⟨1, (), rfl, rfl, by rw [ht]; exact hP, va_K.moved hW.alike hK, hD⟩, hS.F ht⟩) hS.2.2 dX8_drawWhy_42
      · obtain ⟨hw, h30_0, h30_1, h30_2, h30_3⟩ := hw
        subst hw
        have l30k2_a1 : (1 : Int) ≤ a1.toInt := h30_0
        have u30k2_a1 : a1.toInt ≤ (0 : Int) := ba1_u
        exact absurd (Int.le_trans l30k2_a1 u30k2_a1) (by decide)
    · obtain ⟨hw, h19⟩ := hw
      subst hw
      refine lv_if_eq (tgt := 29) hx hb dX8_drawWhy_22 (by decide) (fun _ => ?_) (fun c22 => absurd (by decide +kernel) c22)
      refine lv_iconst (v := 0) hx hb dX8_drawWhy_29 zk_iconst_0 ?_
      refine va_calli (va_runV (As := [.int a1, .int 0]) (rest := []) ⟨hx, hb, hml, hown, hts⟩ (c_X8_whyB l dC dI H.size a0 a1 0 a0g_0 a0g_1 a0g_2 a0g_3 a0g_4 a0g_5 a0g_6 a0g_7 a0g_8 a0g_9 a0g_10 a0g_11 a0g_12 a0g_13 a0g_14 a0g_15 a0g_16 a0g_17 a0g_18 a0g_19 a0g_20 a0g_21 a0g_22 a0g_23 a0g_24 a0g_25 a0g_26 a0g_27 a0g_28 a0g_29 a0g_30 a0g_31 a0g_32 a0g_33 a0g_34 a0g_35 a0g_36 a0g_37 a0g_38 a0g_39 ba1_l (Int.le_trans ba1_u zq4) zq5 (Int.le_trans zq6 zq4)) (cwV 2 hts gX8_drawWhy_X8_why rfl rfl rfl zd_X8_why ⟨Nat.le_of_ble_eq_true rfl, Nat.le_of_ble_eq_true rfl⟩) ⟨ax_blind (fun _ _ _ _ _ => trivial), zr_8 (zp_K hK) (zp_P1 hP) (q0 := 0) rfl, ax_pre (zp_P1 hP) (zp_K hK) (zp_D1 hD) (fun _ _ => trivial)⟩ rfl rfl hl.1 rfl (lv_room (Nat.le_of_ble_eq_true rfl)) dX8_drawWhy_30 ⟨Nat.le_of_ble_eq_true rfl, Nat.le_of_ble_eq_true rfl⟩) hS (fun q _ h => zp_F1 hD hS hA q h) (zp_F1 hD hS hA) (fun r30 u t H locs ht hvm hw hB hz1 hk1 hS1 => zo1 hB ht hP hD hk1 (zp_F1 hD hS hA) hS1 (fun hP hK1 hD hS => ?_))
      rcases hw with hw | hw | hw
      · obtain ⟨hw, h30_0, h30_1, h30_2, h30_3⟩ := hw
        subst hw
        have l30k0_a1 : (1 : Int) ≤ a1.toInt := h30_0
        have u30k0_a1 : a1.toInt ≤ (0 : Int) := ba1_u
        exact absurd (Int.le_trans l30k0_a1 u30k0_a1) (by decide)
      · obtain ⟨hw, h30_0, h30_1⟩ := hw
        subst hw
        have l30k1_a1 : (0 : Int) ≤ a1.toInt := ba1_l
        have u30k1_a1 : a1.toInt ≤ (0 : Int) := ba1_u
        refine lv_istore (lv' := [(5, .int 1), (0, .ref a0), (1, .int a1), (2, .int a2), (3, .int a3), (4, .int a4)]) hx hb dX8_drawWhy_33 hl (by decide) rfl (fun ls hl => ?_)
        refine lv_iload hx hb dX8_drawWhy_35 (lv_at hl 0 rfl) ?_
        refine lv_if_eq (tgt := 43) hx hb dX8_drawWhy_37 (by decide) (fun c37 => absurd c37 (by decide +kernel)) (fun _ => ?_)
        refine lv_iload hx hb dX8_drawWhy_40 (lv_at hl 0 rfl) ?_
        exact W.iret (v := 1) hx hb hr (fun t ht hW => ⟨⟨1, (), rfl, rfl, by rw [ht]; exact hP, va_K.moved hW.alike hK, hD⟩, hS.F ht⟩) hS.2.2 dX8_drawWhy_42
      · obtain ⟨hw, h30_0, h30_1, h30_2, h30_3⟩ := hw
        subst hw
        have l30k2_a1 : (1 : Int) ≤ a1.toInt := h30_0
        have u30k2_a1 : a1.toInt ≤ (0 : Int) := ba1_u
        exact absurd (Int.le_trans l30k2_a1 u30k2_a1) (by decide)
  · obtain ⟨hw, h7⟩ := hw
    subst hw
    refine lv_if_eq (tgt := 29) hx hb dX8_drawWhy_10 (by decide) (fun _ => ?_) (fun c10 => absurd (by decide +kernel) c10)
    refine lv_iconst (v := 0) hx hb dX8_drawWhy_29 zk_iconst_0 ?_
    refine va_calli (va_runV (As := [.int a1, .int 0]) (rest := []) ⟨hx, hb, hml, hown, hts⟩ (c_X8_whyB l dC dI H.size a0 a1 0 a0g_0 a0g_1 a0g_2 a0g_3 a0g_4 a0g_5 a0g_6 a0g_7 a0g_8 a0g_9 a0g_10 a0g_11 a0g_12 a0g_13 a0g_14 a0g_15 a0g_16 a0g_17 a0g_18 a0g_19 a0g_20 a0g_21 a0g_22 a0g_23 a0g_24 a0g_25 a0g_26 a0g_27 a0g_28 a0g_29 a0g_30 a0g_31 a0g_32 a0g_33 a0g_34 a0g_35 a0g_36 a0g_37 a0g_38 a0g_39 ba1_l (Int.le_trans ba1_u zq4) zq5 (Int.le_trans zq6 zq4)) (cwV 2 hts gX8_drawWhy_X8_why rfl rfl rfl zd_X8_why ⟨Nat.le_of_ble_eq_true rfl, Nat.le_of_ble_eq_true rfl⟩) ⟨ax_blind (fun _ _ _ _ _ => trivial), zr_8 (zp_K hK) (zp_P1 hP) (q0 := 0) rfl, ax_pre (zp_P1 hP) (zp_K hK) (zp_D1 hD) (fun _ _ => trivial)⟩ rfl rfl hl.1 rfl (lv_room (Nat.le_of_ble_eq_true rfl)) dX8_drawWhy_30 ⟨Nat.le_of_ble_eq_true rfl, Nat.le_of_ble_eq_true rfl⟩) hS (fun q _ h => zp_F1 hD hS hA q h) (zp_F1 hD hS hA) (fun r30 u t H locs ht hvm hw hB hz1 hk1 hS1 => zo1 hB ht hP hD hk1 (zp_F1 hD hS hA) hS1 (fun hP hK1 hD hS => ?_))
    rcases hw with hw | hw | hw
    · obtain ⟨hw, h30_0, h30_1, h30_2, h30_3⟩ := hw
      subst hw
      have l30k0_a1 : (1 : Int) ≤ a1.toInt := h30_0
      have u30k0_a1 : a1.toInt ≤ (0 : Int) := ba1_u
      exact absurd (Int.le_trans l30k0_a1 u30k0_a1) (by decide)
    · obtain ⟨hw, h30_0, h30_1⟩ := hw
      subst hw
      have l30k1_a1 : (0 : Int) ≤ a1.toInt := ba1_l
      have u30k1_a1 : a1.toInt ≤ (0 : Int) := ba1_u
      refine lv_istore (lv' := [(5, .int 1), (0, .ref a0), (1, .int a1), (2, .int a2), (3, .int a3), (4, .int a4)]) hx hb dX8_drawWhy_33 hl (by decide) rfl (fun ls hl => ?_)
      refine lv_iload hx hb dX8_drawWhy_35 (lv_at hl 0 rfl) ?_
      refine lv_if_eq (tgt := 43) hx hb dX8_drawWhy_37 (by decide) (fun c37 => absurd c37 (by decide +kernel)) (fun _ => ?_)
      refine lv_iload hx hb dX8_drawWhy_40 (lv_at hl 0 rfl) ?_
      exact W.iret (v := 1) hx hb hr (fun t ht hW => ⟨⟨1, (), rfl, rfl, by rw [ht]; exact hP, va_K.moved hW.alike hK, hD⟩, hS.F ht⟩) hS.2.2 dX8_drawWhy_42
    · obtain ⟨hw, h30_0, h30_1, h30_2, h30_3⟩ := hw
      subst hw
      have l30k2_a1 : (1 : Int) ≤ a1.toInt := h30_0
      have u30k2_a1 : a1.toInt ≤ (0 : Int) := ba1_u
      exact absurd (Int.le_trans l30k2_a1 u30k2_a1) (by decide)

set_option maxHeartbeats 4000000 in
set_option maxRecDepth 100000 in
theorem c0_X8_figure (l : Launch) (dC : Nat → ClassId) (dI : Nat → Nat → Nat) (sz : Nat) (a0 : Nat) (a1 : Int32) (a2 : Int32) (a0_0 : Int32) (a0g_1 a0g_2 a0g_3 a0g_4 a0g_5 a0g_6 a0g_7 a0g_8 a0g_9 a0g_10 a0g_12 a0g_13 a0g_15 a0g_16 a0g_17 a0g_18 a0g_19 a0g_20 a0g_21 a0g_22 a0g_23 a0g_24 a0g_25 a0g_26 a0g_27 a0g_28 a0g_29 a0g_30 a0g_31 a0g_32 a0g_33 a0g_34 a0g_35 a0g_36 a0g_37 a0g_38 a0g_39 : Value) (a0_11 : Int32) (a0_14 : Int32) (ba0_14_l : (0 : Int) ≤ a0_14.toInt) (ba0_14_u : a0_14.toInt ≤ (0 : Int)) : zm l yX8_figure wsX8_figure ({ frames := 1, cells := 0, slots := 0, locals := 21 }) [.ref a0, .int a1, .int a2] dC dI sz [(a0, .inr (8, [Value.int a0_0, a0g_1, a0g_2, a0g_3, a0g_4, a0g_5, a0g_6, a0g_7, a0g_8, a0g_9, a0g_10, Value.int a0_11, a0g_12, a0g_13, Value.int a0_14, a0g_15, a0g_16, a0g_17, a0g_18, a0g_19, a0g_20, a0g_21, a0g_22, a0g_23, a0g_24, a0g_25, a0g_26, a0g_27, a0g_28, a0g_29, a0g_30, a0g_31, a0g_32, a0g_33, a0g_34, a0g_35, a0g_36, a0g_37, a0g_38, a0g_39]))] [] (fun A _ => True) (fun A => va_Qi (fun (r : Int32) (_ : Unit) => r = (-1)) (fun (_ : Unit) (t : State) => ∃ na0_0 : Int32, ∃ na0_11 : Int32, ax_B dC dI A [(a0, .inr (8, [Value.int na0_0, a0g_1, a0g_2, a0g_3, a0g_4, a0g_5, a0g_6, a0g_7, a0g_8, a0g_9, a0g_10, Value.int na0_11, a0g_12, a0g_13, Value.int a0_14, a0g_15, a0g_16, a0g_17, a0g_18, a0g_19, a0g_20, a0g_21, a0g_22, a0g_23, a0g_24, a0g_25, a0g_26, a0g_27, a0g_28, a0g_29, a0g_30, a0g_31, a0g_32, a0g_33, a0g_34, a0g_35, a0g_36, a0g_37, a0g_38, a0g_39]))] [] t) A) := by
  refine zh (cc := cX8_figure) (maxL := 3) (ret := (some .int)) zn_RX8 rfl (Nat.le_of_ble_eq_true rfl) (fun p e s m below meth c A ls hx hb hml hr hts (hown : s.vm.findClass RX8 = some m.cls) hlocks hA hS hP hK hD hE (hl : lv_has ls 3 [(0, .ref a0), (1, .int a1), (2, .int a2)]) => ?_)
  refine lv_aload_n hx hb dX8_figure_0 rfl (lv_at hl 0 rfl) ?_
  refine va_callv (va_runV (As := []) (rest := []) ⟨hx, hb, hml, hown, hts⟩ (c_X8_good l dC dI s.heap.size a0 a0_0 a0g_1 a0g_2 a0g_3 a0g_4 a0g_5 a0g_6 a0g_7 a0g_8 a0g_9 a0g_10 a0g_12 a0g_13 (Value.int a0_14) a0g_15 a0g_16 a0g_17 a0g_18 a0g_19 a0g_20 a0g_21 a0g_22 a0g_23 a0g_24 a0g_25 a0g_26 a0g_27 a0g_28 a0g_29 a0g_30 a0g_31 a0g_32 a0g_33 a0g_34 a0g_35 a0g_36 a0g_37 a0g_38 a0g_39 a0_11 ) (cwV 0 hts gX8_figure_X8_good rfl rfl rfl zd_X8_good ⟨Nat.le_of_ble_eq_true rfl, Nat.le_of_ble_eq_true rfl⟩) ⟨ax_blind (fun _ _ _ _ _ => trivial), zr_8 (zp_K hK) (zp_P1 hP) (q0 := 0) rfl, ax_pre (zp_P1 hP) (zp_K hK) (zp_D1 hD) (fun _ _ => trivial)⟩ rfl rfl hl.1 rfl (lv_room (Nat.le_of_ble_eq_true rfl)) dX8_figure_1 ⟨Nat.le_of_ble_eq_true rfl, Nat.le_of_ble_eq_true rfl⟩) hS (fun q _ h => zp_F1 hD hS hA q h) (zp_F1 hD hS hA) (fun u t H locs ht hvm hw => zx_2 (fun v1na0_0 v1na0_11 hB hz1 hk1 hS1 => zo1 hB ht hP hD hk1 (zp_F1 hD hS hA) hS1 (fun hP hK1 hD hS => ?_)))
  refine lv_aload_n hx hb dX8_figure_4 rfl (lv_at hl 0 rfl) ?_
  refine lv_iload_n hx hb dX8_figure_5 rfl (lv_at hl 1 rfl) ?_
  refine va_calli (va_runV (As := [.int a1]) (rest := []) ⟨hx, hb, hml, hown, hts⟩ (c0_X8_isFigure l dC dI H.size a0 a1 (Value.int v1na0_0) a0g_1 a0g_2 a0g_3 a0g_4 a0g_5 a0g_6 a0g_7 a0g_8 a0g_9 a0g_10 (Value.int v1na0_11) a0g_12 a0g_13 a0g_15 a0g_16 a0g_17 a0g_18 a0g_19 a0g_20 a0g_21 a0g_22 a0g_23 a0g_24 a0g_25 a0g_26 a0g_27 a0g_28 a0g_29 a0g_30 a0g_31 a0g_32 a0g_33 a0g_34 a0g_35 a0g_36 a0g_37 a0g_38 a0g_39 a0_14 ba0_14_l ba0_14_u) (cwV 1 hts gX8_figure_X8_isFigure rfl rfl rfl zd_X8_isFigure ⟨Nat.le_of_ble_eq_true rfl, Nat.le_of_ble_eq_true rfl⟩) ⟨ax_blind (fun _ _ _ _ _ => trivial), zr_8 (zp_K hK) (zp_P1 hP) (q0 := 0) rfl, ax_pre (zp_P1 hP) (zp_K hK) (zp_D1 hD) (fun _ _ => trivial)⟩ rfl rfl hl.1 rfl (lv_room (Nat.le_of_ble_eq_true rfl)) dX8_figure_6 ⟨Nat.le_of_ble_eq_true rfl, Nat.le_of_ble_eq_true rfl⟩) hS (fun q _ h => zp_F1 hD hS hA q h) (zp_F1 hD hS hA) (fun r6 u t H locs ht hvm hw hB hz1 hk1 hS1 => zo1 hB ht hP hD hk1 (zp_F1 hD hS hA) hS1 (fun hP hK1 hD hS => ?_))
  have hw : r6 = 0 := hw
  have hw := hw.symm
  subst hw
  refine lv_if_eq (tgt := 21) hx hb dX8_figure_9 (by decide) (fun _ => ?_) (fun c9 => absurd (by decide +kernel) c9)
  refine lv_aload_n hx hb dX8_figure_21 rfl (lv_at hl 0 rfl) ?_
  refine lv_iconst (v := 1) hx hb dX8_figure_22 zk_iconst_1 ?_
  refine va_calli (va_runV (As := [.int 1]) (rest := []) ⟨hx, hb, hml, hown, hts⟩ (c_X8_no l dC dI H.size a0 1 (Value.int v1na0_0) a0g_1 a0g_2 a0g_3 a0g_4 a0g_5 a0g_6 a0g_7 a0g_8 a0g_9 a0g_10 a0g_12 a0g_13 (Value.int a0_14) a0g_15 a0g_16 a0g_17 a0g_18 a0g_19 a0g_20 a0g_21 a0g_22 a0g_23 a0g_24 a0g_25 a0g_26 a0g_27 a0g_28 a0g_29 a0g_30 a0g_31 a0g_32 a0g_33 a0g_34 a0g_35 a0g_36 a0g_37 a0g_38 a0g_39 v1na0_11 ) (cwV 1 hts gX8_figure_X8_no rfl rfl rfl zd_X8_no ⟨Nat.le_of_ble_eq_true rfl, Nat.le_of_ble_eq_true rfl⟩) ⟨ax_blind (fun _ _ _ _ _ => trivial), zr_8 (zp_K hK) (zp_P1 hP) (q0 := 0) rfl, ax_pre (zp_P1 hP) (zp_K hK) (zp_D1 hD) (fun _ _ => trivial)⟩ rfl rfl hl.1 rfl (lv_room (Nat.le_of_ble_eq_true rfl)) dX8_figure_23 ⟨Nat.le_of_ble_eq_true rfl, Nat.le_of_ble_eq_true rfl⟩) hS (fun q _ h => zp_F1 hD hS hA q h) (zp_F1 hD hS hA) (fun r23 u t H locs ht hvm hw => zx_1 (fun v23na0_11 hB hz1 hk1 hS1 => zo1 hB ht hP hD hk1 (zp_F1 hD hS hA) hS1 (fun hP hK1 hD hS => ?_)))
  have hw : r23 = (-1) := hw
  have hw := hw.symm
  subst hw
  exact W.iret (v := (-1)) hx hb hr (fun t ht hW => ⟨⟨(-1), (), rfl, rfl, v1na0_0, v23na0_11, by rw [ht]; exact hP, va_K.moved hW.alike hK, hD⟩, hS.F ht⟩) hS.2.2 dX8_figure_26

set_option maxHeartbeats 4000000 in
set_option maxRecDepth 100000 in
theorem c0_X8_alive (l : Launch) (dC : Nat → ClassId) (dI : Nat → Nat → Nat) (sz : Nat) (a0 : Nat) (a0_0 : Int32) (a0g_1 a0g_2 a0g_3 a0g_4 a0g_5 a0g_6 a0g_7 a0g_8 a0g_9 a0g_10 a0g_12 a0g_13 a0g_15 a0g_16 a0g_17 a0g_18 a0g_19 a0g_20 a0g_21 a0g_22 a0g_23 a0g_24 a0g_25 a0g_26 a0g_27 a0g_28 a0g_29 a0g_30 a0g_31 a0g_32 a0g_33 a0g_34 a0g_35 a0g_36 a0g_37 a0g_38 a0g_39 : Value) (a0_11 : Int32) (a0_14 : Int32) (ba0_14_l : (0 : Int) ≤ a0_14.toInt) (ba0_14_u : a0_14.toInt ≤ (0 : Int)) : zm l yX8_alive wsX8_alive ({ frames := 1, cells := 0, slots := 0, locals := 21 }) [.ref a0] dC dI sz [(a0, .inr (8, [Value.int a0_0, a0g_1, a0g_2, a0g_3, a0g_4, a0g_5, a0g_6, a0g_7, a0g_8, a0g_9, a0g_10, Value.int a0_11, a0g_12, a0g_13, Value.int a0_14, a0g_15, a0g_16, a0g_17, a0g_18, a0g_19, a0g_20, a0g_21, a0g_22, a0g_23, a0g_24, a0g_25, a0g_26, a0g_27, a0g_28, a0g_29, a0g_30, a0g_31, a0g_32, a0g_33, a0g_34, a0g_35, a0g_36, a0g_37, a0g_38, a0g_39]))] [] (fun A _ => True) (fun A => va_Qi (fun (r : Int32) (_ : Unit) => r = (-1)) (fun (_ : Unit) (t : State) => ∃ na0_0 : Int32, ∃ na0_11 : Int32, ax_B dC dI A [(a0, .inr (8, [Value.int na0_0, a0g_1, a0g_2, a0g_3, a0g_4, a0g_5, a0g_6, a0g_7, a0g_8, a0g_9, a0g_10, Value.int na0_11, a0g_12, a0g_13, Value.int a0_14, a0g_15, a0g_16, a0g_17, a0g_18, a0g_19, a0g_20, a0g_21, a0g_22, a0g_23, a0g_24, a0g_25, a0g_26, a0g_27, a0g_28, a0g_29, a0g_30, a0g_31, a0g_32, a0g_33, a0g_34, a0g_35, a0g_36, a0g_37, a0g_38, a0g_39]))] [] t) A) := by
  refine zh (cc := cX8_alive) (maxL := 1) (ret := (some .int)) zn_RX8 rfl (Nat.le_of_ble_eq_true rfl) (fun p e s m below meth c A ls hx hb hml hr hts (hown : s.vm.findClass RX8 = some m.cls) hlocks hA hS hP hK hD hE (hl : lv_has ls 1 [(0, .ref a0)]) => ?_)
  refine lv_aload_n hx hb dX8_alive_0 rfl (lv_at hl 0 rfl) ?_
  refine va_callv (va_runV (As := []) (rest := []) ⟨hx, hb, hml, hown, hts⟩ (c_X8_good l dC dI s.heap.size a0 a0_0 a0g_1 a0g_2 a0g_3 a0g_4 a0g_5 a0g_6 a0g_7 a0g_8 a0g_9 a0g_10 a0g_12 a0g_13 (Value.int a0_14) a0g_15 a0g_16 a0g_17 a0g_18 a0g_19 a0g_20 a0g_21 a0g_22 a0g_23 a0g_24 a0g_25 a0g_26 a0g_27 a0g_28 a0g_29 a0g_30 a0g_31 a0g_32 a0g_33 a0g_34 a0g_35 a0g_36 a0g_37 a0g_38 a0g_39 a0_11 ) (cwV 0 hts gX8_alive_X8_good rfl rfl rfl zd_X8_good ⟨Nat.le_of_ble_eq_true rfl, Nat.le_of_ble_eq_true rfl⟩) ⟨ax_blind (fun _ _ _ _ _ => trivial), zr_8 (zp_K hK) (zp_P1 hP) (q0 := 0) rfl, ax_pre (zp_P1 hP) (zp_K hK) (zp_D1 hD) (fun _ _ => trivial)⟩ rfl rfl hl.1 rfl (lv_room (Nat.le_of_ble_eq_true rfl)) dX8_alive_1 ⟨Nat.le_of_ble_eq_true rfl, Nat.le_of_ble_eq_true rfl⟩) hS (fun q _ h => zp_F1 hD hS hA q h) (zp_F1 hD hS hA) (fun u t H locs ht hvm hw => zx_2 (fun v1na0_0 v1na0_11 hB hz1 hk1 hS1 => zo1 hB ht hP hD hk1 (zp_F1 hD hS hA) hS1 (fun hP hK1 hD hS => ?_)))
  refine lv_aload_n hx hb dX8_alive_4 rfl (lv_at hl 0 rfl) ?_
  refine va_get (D := (dC, dI)) (ci := 8) (v := .int a0_14) (C := RX8) (T := TX8) (N := 40) hx hb hts zi_X8_alive_8 hown hK hP 0 rfl rfl 14 (by decide) (hts (.fieldLink RX8 173 "WaxTurnsModel" "hasGallery" "Z") (List.mem_cons_of_mem _ (List.mem_append_left _ (List.mem_of_getElem? (i := 0) rfl)))) (fun _ h9 => h9) rfl dX8_alive_5 ?_
  refine lv_if_eq (tgt := 21) hx hb dX8_alive_8 (by decide) (fun c8 => ?_) (fun c8 => ?_)
  · have gc8 := ai_eq c8
    have u8t_a0_14 : a0_14.toInt ≤ (0 : Int) := ba0_14_u
    have l8t_a0_14 : (0 : Int) ≤ a0_14.toInt := ba0_14_l
    refine lv_aload_n hx hb dX8_alive_21 rfl (lv_at hl 0 rfl) ?_
    refine lv_iconst (v := 1) hx hb dX8_alive_22 zk_iconst_1 ?_
    refine va_calli (va_runV (As := [.int 1]) (rest := []) ⟨hx, hb, hml, hown, hts⟩ (c_X8_no l dC dI H.size a0 1 (Value.int v1na0_0) a0g_1 a0g_2 a0g_3 a0g_4 a0g_5 a0g_6 a0g_7 a0g_8 a0g_9 a0g_10 a0g_12 a0g_13 (Value.int a0_14) a0g_15 a0g_16 a0g_17 a0g_18 a0g_19 a0g_20 a0g_21 a0g_22 a0g_23 a0g_24 a0g_25 a0g_26 a0g_27 a0g_28 a0g_29 a0g_30 a0g_31 a0g_32 a0g_33 a0g_34 a0g_35 a0g_36 a0g_37 a0g_38 a0g_39 v1na0_11 ) (cwV 1 hts gX8_alive_X8_no rfl rfl rfl zd_X8_no ⟨Nat.le_of_ble_eq_true rfl, Nat.le_of_ble_eq_true rfl⟩) ⟨ax_blind (fun _ _ _ _ _ => trivial), zr_8 (zp_K hK) (zp_P1 hP) (q0 := 0) rfl, ax_pre (zp_P1 hP) (zp_K hK) (zp_D1 hD) (fun _ _ => trivial)⟩ rfl rfl hl.1 rfl (lv_room (Nat.le_of_ble_eq_true rfl)) dX8_alive_23 ⟨Nat.le_of_ble_eq_true rfl, Nat.le_of_ble_eq_true rfl⟩) hS (fun q _ h => zp_F1 hD hS hA q h) (zp_F1 hD hS hA) (fun r23 u t H locs ht hvm hw => zx_1 (fun v23na0_11 hB hz1 hk1 hS1 => zo1 hB ht hP hD hk1 (zp_F1 hD hS hA) hS1 (fun hP hK1 hD hS => ?_)))
    have hw : r23 = (-1) := hw
    have hw := hw.symm
    subst hw
    exact W.iret (v := (-1)) hx hb hr (fun t ht hW => ⟨⟨(-1), (), rfl, rfl, v1na0_0, v23na0_11, by rw [ht]; exact hP, va_K.moved hW.alike hK, hD⟩, hS.F ht⟩) hS.2.2 dX8_alive_26
  · have gc8 := ai_ne c8
    have l8f_a0_14 : (1 : Int) ≤ a0_14.toInt := (by first | exact zg_l ba0_14_l gc8 (by decide) (by decide) | (have h1 := ba0_14_l; have h2 : (0 : Int32).toInt = 0 := (by decide); rw [h2] at gc8; omega))
    have u8f_a0_14 : a0_14.toInt ≤ (-1 : Int) := (by first | exact zg_u ba0_14_u gc8 (by decide) (by decide) | (have h1 := ba0_14_u; have h2 : (0 : Int32).toInt = 0 := (by decide); rw [h2] at gc8; omega))
    exact absurd (Int.le_trans l8f_a0_14 u8f_a0_14) (by decide)

set_option maxHeartbeats 4000000 in
set_option maxRecDepth 100000 in
theorem c0_X8_left (l : Launch) (dC : Nat → ClassId) (dI : Nat → Nat → Nat) (sz : Nat) (a0 : Nat) (a0_0 : Int32) (a0g_1 a0g_2 a0g_3 a0g_4 a0g_5 a0g_6 a0g_7 a0g_8 a0g_9 a0g_10 a0g_12 a0g_13 a0g_15 a0g_16 a0g_17 a0g_18 a0g_19 a0g_20 a0g_21 a0g_22 a0g_23 a0g_24 a0g_25 a0g_26 a0g_27 a0g_28 a0g_29 a0g_30 a0g_31 a0g_32 a0g_33 a0g_34 a0g_35 a0g_36 a0g_37 a0g_38 a0g_39 : Value) (a0_11 : Int32) (a0_14 : Int32) (ba0_14_l : (0 : Int) ≤ a0_14.toInt) (ba0_14_u : a0_14.toInt ≤ (0 : Int)) : zm l yX8_left wsX8_left ({ frames := 1, cells := 0, slots := 0, locals := 21 }) [.ref a0] dC dI sz [(a0, .inr (8, [Value.int a0_0, a0g_1, a0g_2, a0g_3, a0g_4, a0g_5, a0g_6, a0g_7, a0g_8, a0g_9, a0g_10, Value.int a0_11, a0g_12, a0g_13, Value.int a0_14, a0g_15, a0g_16, a0g_17, a0g_18, a0g_19, a0g_20, a0g_21, a0g_22, a0g_23, a0g_24, a0g_25, a0g_26, a0g_27, a0g_28, a0g_29, a0g_30, a0g_31, a0g_32, a0g_33, a0g_34, a0g_35, a0g_36, a0g_37, a0g_38, a0g_39]))] [] (fun A _ => True) (fun A => va_Qi (fun (r : Int32) (_ : Unit) => r = (-1)) (fun (_ : Unit) (t : State) => ∃ na0_0 : Int32, ∃ na0_11 : Int32, ax_B dC dI A [(a0, .inr (8, [Value.int na0_0, a0g_1, a0g_2, a0g_3, a0g_4, a0g_5, a0g_6, a0g_7, a0g_8, a0g_9, a0g_10, Value.int na0_11, a0g_12, a0g_13, Value.int a0_14, a0g_15, a0g_16, a0g_17, a0g_18, a0g_19, a0g_20, a0g_21, a0g_22, a0g_23, a0g_24, a0g_25, a0g_26, a0g_27, a0g_28, a0g_29, a0g_30, a0g_31, a0g_32, a0g_33, a0g_34, a0g_35, a0g_36, a0g_37, a0g_38, a0g_39]))] [] t) A) := by
  refine zh (cc := cX8_left) (maxL := 1) (ret := (some .int)) zn_RX8 rfl (Nat.le_of_ble_eq_true rfl) (fun p e s m below meth c A ls hx hb hml hr hts (hown : s.vm.findClass RX8 = some m.cls) hlocks hA hS hP hK hD hE (hl : lv_has ls 1 [(0, .ref a0)]) => ?_)
  refine lv_aload_n hx hb dX8_left_0 rfl (lv_at hl 0 rfl) ?_
  refine va_callv (va_runV (As := []) (rest := []) ⟨hx, hb, hml, hown, hts⟩ (c_X8_good l dC dI s.heap.size a0 a0_0 a0g_1 a0g_2 a0g_3 a0g_4 a0g_5 a0g_6 a0g_7 a0g_8 a0g_9 a0g_10 a0g_12 a0g_13 (Value.int a0_14) a0g_15 a0g_16 a0g_17 a0g_18 a0g_19 a0g_20 a0g_21 a0g_22 a0g_23 a0g_24 a0g_25 a0g_26 a0g_27 a0g_28 a0g_29 a0g_30 a0g_31 a0g_32 a0g_33 a0g_34 a0g_35 a0g_36 a0g_37 a0g_38 a0g_39 a0_11 ) (cwV 0 hts gX8_left_X8_good rfl rfl rfl zd_X8_good ⟨Nat.le_of_ble_eq_true rfl, Nat.le_of_ble_eq_true rfl⟩) ⟨ax_blind (fun _ _ _ _ _ => trivial), zr_8 (zp_K hK) (zp_P1 hP) (q0 := 0) rfl, ax_pre (zp_P1 hP) (zp_K hK) (zp_D1 hD) (fun _ _ => trivial)⟩ rfl rfl hl.1 rfl (lv_room (Nat.le_of_ble_eq_true rfl)) dX8_left_1 ⟨Nat.le_of_ble_eq_true rfl, Nat.le_of_ble_eq_true rfl⟩) hS (fun q _ h => zp_F1 hD hS hA q h) (zp_F1 hD hS hA) (fun u t H locs ht hvm hw => zx_2 (fun v1na0_0 v1na0_11 hB hz1 hk1 hS1 => zo1 hB ht hP hD hk1 (zp_F1 hD hS hA) hS1 (fun hP hK1 hD hS => ?_)))
  refine lv_aload_n hx hb dX8_left_4 rfl (lv_at hl 0 rfl) ?_
  refine va_get (D := (dC, dI)) (ci := 8) (v := .int a0_14) (C := RX8) (T := TX8) (N := 40) hx hb hts zi_X8_left_8 hown hK hP 0 rfl rfl 14 (by decide) (hts (.fieldLink RX8 173 "WaxTurnsModel" "hasGallery" "Z") (List.mem_cons_of_mem _ (List.mem_append_left _ (List.mem_of_getElem? (i := 0) rfl)))) (fun _ h9 => h9) rfl dX8_left_5 ?_
  refine lv_if_eq (tgt := 28) hx hb dX8_left_8 (by decide) (fun c8 => ?_) (fun c8 => ?_)
  · have gc8 := ai_eq c8
    have u8t_a0_14 : a0_14.toInt ≤ (0 : Int) := ba0_14_u
    have l8t_a0_14 : (0 : Int) ≤ a0_14.toInt := ba0_14_l
    refine lv_aload_n hx hb dX8_left_28 rfl (lv_at hl 0 rfl) ?_
    refine lv_iconst (v := 1) hx hb dX8_left_29 zk_iconst_1 ?_
    refine va_calli (va_runV (As := [.int 1]) (rest := []) ⟨hx, hb, hml, hown, hts⟩ (c_X8_no l dC dI H.size a0 1 (Value.int v1na0_0) a0g_1 a0g_2 a0g_3 a0g_4 a0g_5 a0g_6 a0g_7 a0g_8 a0g_9 a0g_10 a0g_12 a0g_13 (Value.int a0_14) a0g_15 a0g_16 a0g_17 a0g_18 a0g_19 a0g_20 a0g_21 a0g_22 a0g_23 a0g_24 a0g_25 a0g_26 a0g_27 a0g_28 a0g_29 a0g_30 a0g_31 a0g_32 a0g_33 a0g_34 a0g_35 a0g_36 a0g_37 a0g_38 a0g_39 v1na0_11 ) (cwV 1 hts gX8_left_X8_no rfl rfl rfl zd_X8_no ⟨Nat.le_of_ble_eq_true rfl, Nat.le_of_ble_eq_true rfl⟩) ⟨ax_blind (fun _ _ _ _ _ => trivial), zr_8 (zp_K hK) (zp_P1 hP) (q0 := 0) rfl, ax_pre (zp_P1 hP) (zp_K hK) (zp_D1 hD) (fun _ _ => trivial)⟩ rfl rfl hl.1 rfl (lv_room (Nat.le_of_ble_eq_true rfl)) dX8_left_30 ⟨Nat.le_of_ble_eq_true rfl, Nat.le_of_ble_eq_true rfl⟩) hS (fun q _ h => zp_F1 hD hS hA q h) (zp_F1 hD hS hA) (fun r30 u t H locs ht hvm hw => zx_1 (fun v30na0_11 hB hz1 hk1 hS1 => zo1 hB ht hP hD hk1 (zp_F1 hD hS hA) hS1 (fun hP hK1 hD hS => ?_)))
    have hw : r30 = (-1) := hw
    have hw := hw.symm
    subst hw
    exact W.iret (v := (-1)) hx hb hr (fun t ht hW => ⟨⟨(-1), (), rfl, rfl, v1na0_0, v30na0_11, by rw [ht]; exact hP, va_K.moved hW.alike hK, hD⟩, hS.F ht⟩) hS.2.2 dX8_left_33
  · have gc8 := ai_ne c8
    have l8f_a0_14 : (1 : Int) ≤ a0_14.toInt := (by first | exact zg_l ba0_14_l gc8 (by decide) (by decide) | (have h1 := ba0_14_l; have h2 : (0 : Int32).toInt = 0 := (by decide); rw [h2] at gc8; omega))
    have u8f_a0_14 : a0_14.toInt ≤ (-1 : Int) := (by first | exact zg_u ba0_14_u gc8 (by decide) (by decide) | (have h1 := ba0_14_u; have h2 : (0 : Int32).toInt = 0 := (by decide); rw [h2] at gc8; omega))
    exact absurd (Int.le_trans l8f_a0_14 u8f_a0_14) (by decide)

set_option maxHeartbeats 4000000 in
set_option maxRecDepth 100000 in
theorem c0_X8_caught (l : Launch) (dC : Nat → ClassId) (dI : Nat → Nat → Nat) (sz : Nat) (a0 : Nat) (a0_0 : Int32) (a0g_1 a0g_2 a0g_3 a0g_4 a0g_5 a0g_6 a0g_7 a0g_8 a0g_9 a0g_10 a0g_12 a0g_13 a0g_15 a0g_16 a0g_17 a0g_18 a0g_19 a0g_20 a0g_21 a0g_22 a0g_23 a0g_24 a0g_25 a0g_26 a0g_27 a0g_28 a0g_29 a0g_30 a0g_31 a0g_32 a0g_33 a0g_34 a0g_35 a0g_36 a0g_37 a0g_38 a0g_39 : Value) (a0_11 : Int32) (a0_14 : Int32) (ba0_14_l : (0 : Int) ≤ a0_14.toInt) (ba0_14_u : a0_14.toInt ≤ (0 : Int)) : zm l yX8_caught wsX8_caught ({ frames := 1, cells := 0, slots := 0, locals := 21 }) [.ref a0] dC dI sz [(a0, .inr (8, [Value.int a0_0, a0g_1, a0g_2, a0g_3, a0g_4, a0g_5, a0g_6, a0g_7, a0g_8, a0g_9, a0g_10, Value.int a0_11, a0g_12, a0g_13, Value.int a0_14, a0g_15, a0g_16, a0g_17, a0g_18, a0g_19, a0g_20, a0g_21, a0g_22, a0g_23, a0g_24, a0g_25, a0g_26, a0g_27, a0g_28, a0g_29, a0g_30, a0g_31, a0g_32, a0g_33, a0g_34, a0g_35, a0g_36, a0g_37, a0g_38, a0g_39]))] [] (fun A _ => True) (fun A => va_Qi (fun (r : Int32) (_ : Unit) => r = (-1)) (fun (_ : Unit) (t : State) => ∃ na0_0 : Int32, ∃ na0_11 : Int32, ax_B dC dI A [(a0, .inr (8, [Value.int na0_0, a0g_1, a0g_2, a0g_3, a0g_4, a0g_5, a0g_6, a0g_7, a0g_8, a0g_9, a0g_10, Value.int na0_11, a0g_12, a0g_13, Value.int a0_14, a0g_15, a0g_16, a0g_17, a0g_18, a0g_19, a0g_20, a0g_21, a0g_22, a0g_23, a0g_24, a0g_25, a0g_26, a0g_27, a0g_28, a0g_29, a0g_30, a0g_31, a0g_32, a0g_33, a0g_34, a0g_35, a0g_36, a0g_37, a0g_38, a0g_39]))] [] t) A) := by
  refine zh (cc := cX8_caught) (maxL := 1) (ret := (some .int)) zn_RX8 rfl (Nat.le_of_ble_eq_true rfl) (fun p e s m below meth c A ls hx hb hml hr hts (hown : s.vm.findClass RX8 = some m.cls) hlocks hA hS hP hK hD hE (hl : lv_has ls 1 [(0, .ref a0)]) => ?_)
  refine lv_aload_n hx hb dX8_caught_0 rfl (lv_at hl 0 rfl) ?_
  refine va_callv (va_runV (As := []) (rest := []) ⟨hx, hb, hml, hown, hts⟩ (c_X8_good l dC dI s.heap.size a0 a0_0 a0g_1 a0g_2 a0g_3 a0g_4 a0g_5 a0g_6 a0g_7 a0g_8 a0g_9 a0g_10 a0g_12 a0g_13 (Value.int a0_14) a0g_15 a0g_16 a0g_17 a0g_18 a0g_19 a0g_20 a0g_21 a0g_22 a0g_23 a0g_24 a0g_25 a0g_26 a0g_27 a0g_28 a0g_29 a0g_30 a0g_31 a0g_32 a0g_33 a0g_34 a0g_35 a0g_36 a0g_37 a0g_38 a0g_39 a0_11 ) (cwV 0 hts gX8_caught_X8_good rfl rfl rfl zd_X8_good ⟨Nat.le_of_ble_eq_true rfl, Nat.le_of_ble_eq_true rfl⟩) ⟨ax_blind (fun _ _ _ _ _ => trivial), zr_8 (zp_K hK) (zp_P1 hP) (q0 := 0) rfl, ax_pre (zp_P1 hP) (zp_K hK) (zp_D1 hD) (fun _ _ => trivial)⟩ rfl rfl hl.1 rfl (lv_room (Nat.le_of_ble_eq_true rfl)) dX8_caught_1 ⟨Nat.le_of_ble_eq_true rfl, Nat.le_of_ble_eq_true rfl⟩) hS (fun q _ h => zp_F1 hD hS hA q h) (zp_F1 hD hS hA) (fun u t H locs ht hvm hw => zx_2 (fun v1na0_0 v1na0_11 hB hz1 hk1 hS1 => zo1 hB ht hP hD hk1 (zp_F1 hD hS hA) hS1 (fun hP hK1 hD hS => ?_)))
  refine lv_aload_n hx hb dX8_caught_4 rfl (lv_at hl 0 rfl) ?_
  refine va_get (D := (dC, dI)) (ci := 8) (v := .int a0_14) (C := RX8) (T := TX8) (N := 40) hx hb hts zi_X8_caught_8 hown hK hP 0 rfl rfl 14 (by decide) (hts (.fieldLink RX8 173 "WaxTurnsModel" "hasGallery" "Z") (List.mem_cons_of_mem _ (List.mem_append_left _ (List.mem_of_getElem? (i := 0) rfl)))) (fun _ h9 => h9) rfl dX8_caught_5 ?_
  refine lv_if_eq (tgt := 21) hx hb dX8_caught_8 (by decide) (fun c8 => ?_) (fun c8 => ?_)
  · have gc8 := ai_eq c8
    have u8t_a0_14 : a0_14.toInt ≤ (0 : Int) := ba0_14_u
    have l8t_a0_14 : (0 : Int) ≤ a0_14.toInt := ba0_14_l
    refine lv_aload_n hx hb dX8_caught_21 rfl (lv_at hl 0 rfl) ?_
    refine lv_iconst (v := 1) hx hb dX8_caught_22 zk_iconst_1 ?_
    refine va_calli (va_runV (As := [.int 1]) (rest := []) ⟨hx, hb, hml, hown, hts⟩ (c_X8_no l dC dI H.size a0 1 (Value.int v1na0_0) a0g_1 a0g_2 a0g_3 a0g_4 a0g_5 a0g_6 a0g_7 a0g_8 a0g_9 a0g_10 a0g_12 a0g_13 (Value.int a0_14) a0g_15 a0g_16 a0g_17 a0g_18 a0g_19 a0g_20 a0g_21 a0g_22 a0g_23 a0g_24 a0g_25 a0g_26 a0g_27 a0g_28 a0g_29 a0g_30 a0g_31 a0g_32 a0g_33 a0g_34 a0g_35 a0g_36 a0g_37 a0g_38 a0g_39 v1na0_11 ) (cwV 1 hts gX8_caught_X8_no rfl rfl rfl zd_X8_no ⟨Nat.le_of_ble_eq_true rfl, Nat.le_of_ble_eq_true rfl⟩) ⟨ax_blind (fun _ _ _ _ _ => trivial), zr_8 (zp_K hK) (zp_P1 hP) (q0 := 0) rfl, ax_pre (zp_P1 hP) (zp_K hK) (zp_D1 hD) (fun _ _ => trivial)⟩ rfl rfl hl.1 rfl (lv_room (Nat.le_of_ble_eq_true rfl)) dX8_caught_23 ⟨Nat.le_of_ble_eq_true rfl, Nat.le_of_ble_eq_true rfl⟩) hS (fun q _ h => zp_F1 hD hS hA q h) (zp_F1 hD hS hA) (fun r23 u t H locs ht hvm hw => zx_1 (fun v23na0_11 hB hz1 hk1 hS1 => zo1 hB ht hP hD hk1 (zp_F1 hD hS hA) hS1 (fun hP hK1 hD hS => ?_)))
    have hw : r23 = (-1) := hw
    have hw := hw.symm
    subst hw
    exact W.iret (v := (-1)) hx hb hr (fun t ht hW => ⟨⟨(-1), (), rfl, rfl, v1na0_0, v23na0_11, by rw [ht]; exact hP, va_K.moved hW.alike hK, hD⟩, hS.F ht⟩) hS.2.2 dX8_caught_26
  · have gc8 := ai_ne c8
    have l8f_a0_14 : (1 : Int) ≤ a0_14.toInt := (by first | exact zg_l ba0_14_l gc8 (by decide) (by decide) | (have h1 := ba0_14_l; have h2 : (0 : Int32).toInt = 0 := (by decide); rw [h2] at gc8; omega))
    have u8f_a0_14 : a0_14.toInt ≤ (-1 : Int) := (by first | exact zg_u ba0_14_u gc8 (by decide) (by decide) | (have h1 := ba0_14_u; have h2 : (0 : Int32).toInt = 0 := (by decide); rw [h2] at gc8; omega))
    exact absurd (Int.le_trans l8f_a0_14 u8f_a0_14) (by decide)

set_option maxHeartbeats 4000000 in
set_option maxRecDepth 100000 in
theorem c0_X8_turnOf (l : Launch) (dC : Nat → ClassId) (dI : Nat → Nat → Nat) (sz : Nat) (a0 : Nat) (a1 : Int32) (a0_0 : Int32) (a0g_1 a0g_2 a0g_3 a0g_4 a0g_5 a0g_6 a0g_7 a0g_8 a0g_9 a0g_10 a0g_12 a0g_13 a0g_15 a0g_16 a0g_17 a0g_18 a0g_19 a0g_20 a0g_21 a0g_22 a0g_23 a0g_24 a0g_25 a0g_26 a0g_27 a0g_28 a0g_29 a0g_30 a0g_31 a0g_32 a0g_33 a0g_34 a0g_35 a0g_36 a0g_37 a0g_38 a0g_39 : Value) (a0_11 : Int32) (a0_14 : Int32) (ba0_14_l : (0 : Int) ≤ a0_14.toInt) (ba0_14_u : a0_14.toInt ≤ (0 : Int)) : zm l yX8_turnOf wsX8_turnOf ({ frames := 1, cells := 0, slots := 0, locals := 22 }) [.ref a0, .int a1] dC dI sz [(a0, .inr (8, [Value.int a0_0, a0g_1, a0g_2, a0g_3, a0g_4, a0g_5, a0g_6, a0g_7, a0g_8, a0g_9, a0g_10, Value.int a0_11, a0g_12, a0g_13, Value.int a0_14, a0g_15, a0g_16, a0g_17, a0g_18, a0g_19, a0g_20, a0g_21, a0g_22, a0g_23, a0g_24, a0g_25, a0g_26, a0g_27, a0g_28, a0g_29, a0g_30, a0g_31, a0g_32, a0g_33, a0g_34, a0g_35, a0g_36, a0g_37, a0g_38, a0g_39]))] [] (fun A _ => True) (fun A => va_Qi (fun (r : Int32) (_ : Unit) => r = (-1)) (fun (_ : Unit) (t : State) => ∃ na0_0 : Int32, ∃ na0_11 : Int32, ax_B dC dI A [(a0, .inr (8, [Value.int na0_0, a0g_1, a0g_2, a0g_3, a0g_4, a0g_5, a0g_6, a0g_7, a0g_8, a0g_9, a0g_10, Value.int na0_11, a0g_12, a0g_13, Value.int a0_14, a0g_15, a0g_16, a0g_17, a0g_18, a0g_19, a0g_20, a0g_21, a0g_22, a0g_23, a0g_24, a0g_25, a0g_26, a0g_27, a0g_28, a0g_29, a0g_30, a0g_31, a0g_32, a0g_33, a0g_34, a0g_35, a0g_36, a0g_37, a0g_38, a0g_39]))] [] t) A) := by
  refine zh (cc := cX8_turnOf) (maxL := 3) (ret := (some .int)) zn_RX8 rfl (Nat.le_of_ble_eq_true rfl) (fun p e s m below meth c A ls hx hb hml hr hts (hown : s.vm.findClass RX8 = some m.cls) hlocks hA hS hP hK hD hE (hl : lv_has ls 3 [(0, .ref a0), (1, .int a1)]) => ?_)
  refine lv_aload_n hx hb dX8_turnOf_0 rfl (lv_at hl 0 rfl) ?_
  refine va_callv (va_runV (As := []) (rest := []) ⟨hx, hb, hml, hown, hts⟩ (c_X8_good l dC dI s.heap.size a0 a0_0 a0g_1 a0g_2 a0g_3 a0g_4 a0g_5 a0g_6 a0g_7 a0g_8 a0g_9 a0g_10 a0g_12 a0g_13 (Value.int a0_14) a0g_15 a0g_16 a0g_17 a0g_18 a0g_19 a0g_20 a0g_21 a0g_22 a0g_23 a0g_24 a0g_25 a0g_26 a0g_27 a0g_28 a0g_29 a0g_30 a0g_31 a0g_32 a0g_33 a0g_34 a0g_35 a0g_36 a0g_37 a0g_38 a0g_39 a0_11 ) (cwV 0 hts gX8_turnOf_X8_good rfl rfl rfl zd_X8_good ⟨Nat.le_of_ble_eq_true rfl, Nat.le_of_ble_eq_true rfl⟩) ⟨ax_blind (fun _ _ _ _ _ => trivial), zr_8 (zp_K hK) (zp_P1 hP) (q0 := 0) rfl, ax_pre (zp_P1 hP) (zp_K hK) (zp_D1 hD) (fun _ _ => trivial)⟩ rfl rfl hl.1 rfl (lv_room (Nat.le_of_ble_eq_true rfl)) dX8_turnOf_1 ⟨Nat.le_of_ble_eq_true rfl, Nat.le_of_ble_eq_true rfl⟩) hS (fun q _ h => zp_F1 hD hS hA q h) (zp_F1 hD hS hA) (fun u t H locs ht hvm hw => zx_2 (fun v1na0_0 v1na0_11 hB hz1 hk1 hS1 => zo1 hB ht hP hD hk1 (zp_F1 hD hS hA) hS1 (fun hP hK1 hD hS => ?_)))
  refine lv_aload_n hx hb dX8_turnOf_4 rfl (lv_at hl 0 rfl) ?_
  refine lv_aload_n hx hb dX8_turnOf_5 rfl (lv_at hl 0 rfl) ?_
  refine va_get (D := (dC, dI)) (ci := 8) (v := .int a0_14) (C := RX8) (T := TX8) (N := 40) hx hb hts zi_X8_turnOf_8 hown hK hP 0 rfl rfl 14 (by decide) (hts (.fieldLink RX8 173 "WaxTurnsModel" "hasGallery" "Z") (zm_X8_turnOf_r1 (List.mem_of_getElem? (i := 0) rfl))) (fun _ h9 => h9) rfl dX8_turnOf_6 ?_
  refine lv_iload_n hx hb dX8_turnOf_9 rfl (lv_at hl 1 rfl) ?_
  refine lv_iconst (v := 0) hx hb dX8_turnOf_10 zk_iconst_0 ?_
  refine lv_ldcw (v := 2000000000) hx hb hown (hts (.constant RX8 289 (2000000000)) (zm_X8_turnOf_r1 (List.mem_of_getElem? (i := 1) rfl))) dX8_turnOf_11 ?_
  refine va_calli (va_runS (As := [.int a1, .int 0, .int 2000000000]) (rest := [.int a0_14, .ref a0]) ⟨hx, hb, hml, hown, hts⟩ (c_X8_in l dC dI H.size a1 0 2000000000 ) (va_cwS 3 hts gX8_turnOf_X8_in rfl rfl rfl zd_X8_in.2 ⟨Nat.le_of_ble_eq_true rfl, Nat.le_of_ble_eq_true rfl⟩) ⟨ax_blind (fun _ _ _ _ _ => trivial), ax_pre (zp_P0 hP) (zp_K hK) (zp_D0 hD) (fun _ _ => trivial)⟩ rfl rfl hl.1 rfl (lv_room (Nat.le_of_ble_eq_true rfl)) dX8_turnOf_14 ⟨Nat.le_of_ble_eq_true rfl, Nat.le_of_ble_eq_true rfl⟩) hS (fun q _ h => zp_F0 hD hS hA q h) (zp_F0 hD hS hA) (fun r14 u t H locs ht hvm hw hB hz1 hk1 hS1 => zo0 hB ht hP hD hk1 (zp_F0 hD hS hA) hS1 (fun hP hK1 hD hS => ?_))
  rcases hw with hw | hw
  · obtain ⟨hw, h14⟩ := hw
    subst hw
    have l14k0_a1 : (0 : Int) ≤ a1.toInt := Int.le_trans zq5 h14.1
    have u14k0_a1 : a1.toInt ≤ (2000000000 : Int) := Int.le_trans h14.2 zq73
    refine va_calli (va_runV (As := [.int a0_14, .int 1]) (rest := []) ⟨hx, hb, hml, hown, hts⟩ (c_X8_whyB l dC dI H.size a0 a0_14 1 (Value.int v1na0_0) a0g_1 a0g_2 a0g_3 a0g_4 a0g_5 a0g_6 a0g_7 a0g_8 a0g_9 a0g_10 (Value.int v1na0_11) a0g_12 a0g_13 (Value.int a0_14) a0g_15 a0g_16 a0g_17 a0g_18 a0g_19 a0g_20 a0g_21 a0g_22 a0g_23 a0g_24 a0g_25 a0g_26 a0g_27 a0g_28 a0g_29 a0g_30 a0g_31 a0g_32 a0g_33 a0g_34 a0g_35 a0g_36 a0g_37 a0g_38 a0g_39 ba0_14_l (Int.le_trans ba0_14_u zq4) (Int.le_trans zq4 zq1) zq0) (cwV 2 hts gX8_turnOf_X8_why rfl rfl rfl zd_X8_why ⟨Nat.le_of_ble_eq_true rfl, Nat.le_of_ble_eq_true rfl⟩) ⟨ax_blind (fun _ _ _ _ _ => trivial), zr_8 (zp_K hK) (zp_P1 hP) (q0 := 0) rfl, ax_pre (zp_P1 hP) (zp_K hK) (zp_D1 hD) (fun _ _ => trivial)⟩ rfl rfl hl.1 rfl (lv_room (Nat.le_of_ble_eq_true rfl)) dX8_turnOf_17 ⟨Nat.le_of_ble_eq_true rfl, Nat.le_of_ble_eq_true rfl⟩) hS (fun q _ h => zp_F1 hD hS hA q h) (zp_F1 hD hS hA) (fun r17 u t H locs ht hvm hw hB hz1 hk1 hS1 => zo1 hB ht hP hD hk1 (zp_F1 hD hS hA) hS1 (fun hP hK1 hD hS => ?_))
    rcases hw with hw | hw | hw
    · obtain ⟨hw, h17_0, h17_1, h17_2, h17_3⟩ := hw
      subst hw
      have l17k0_a0_14 : (1 : Int) ≤ a0_14.toInt := h17_0
      have u17k0_a0_14 : a0_14.toInt ≤ (0 : Int) := ba0_14_u
      exact absurd (Int.le_trans l17k0_a0_14 u17k0_a0_14) (by decide)
    · obtain ⟨hw, h17_0, h17_1⟩ := hw
      subst hw
      have l17k1_a0_14 : (0 : Int) ≤ a0_14.toInt := ba0_14_l
      have u17k1_a0_14 : a0_14.toInt ≤ (0 : Int) := ba0_14_u
      refine lv_istore_n (lv' := [(2, .int 1), (0, .ref a0), (1, .int a1)]) hx hb dX8_turnOf_20 rfl hl (by decide) rfl (fun ls hl => ?_)
      refine lv_iload_n hx hb dX8_turnOf_21 rfl (lv_at hl 0 rfl) ?_
      refine lv_if_eq (tgt := 31) hx hb dX8_turnOf_22 (by decide) (fun c22 => absurd c22 (by decide +kernel)) (fun _ => ?_)
      refine lv_aload_n hx hb dX8_turnOf_25 rfl (lv_at hl 1 rfl) ?_
      refine lv_iload_n hx hb dX8_turnOf_26 rfl (lv_at hl 0 rfl) ?_
      refine va_calli (va_runV (As := [.int 1]) (rest := []) ⟨hx, hb, hml, hown, hts⟩ (c_X8_no l dC dI H.size a0 1 (Value.int v1na0_0) a0g_1 a0g_2 a0g_3 a0g_4 a0g_5 a0g_6 a0g_7 a0g_8 a0g_9 a0g_10 a0g_12 a0g_13 (Value.int a0_14) a0g_15 a0g_16 a0g_17 a0g_18 a0g_19 a0g_20 a0g_21 a0g_22 a0g_23 a0g_24 a0g_25 a0g_26 a0g_27 a0g_28 a0g_29 a0g_30 a0g_31 a0g_32 a0g_33 a0g_34 a0g_35 a0g_36 a0g_37 a0g_38 a0g_39 v1na0_11 ) (cwV 1 hts gX8_turnOf_X8_no rfl rfl rfl zd_X8_no ⟨Nat.le_of_ble_eq_true rfl, Nat.le_of_ble_eq_true rfl⟩) ⟨ax_blind (fun _ _ _ _ _ => trivial), zr_8 (zp_K hK) (zp_P1 hP) (q0 := 0) rfl, ax_pre (zp_P1 hP) (zp_K hK) (zp_D1 hD) (fun _ _ => trivial)⟩ rfl rfl hl.1 rfl (lv_room (Nat.le_of_ble_eq_true rfl)) dX8_turnOf_27 ⟨Nat.le_of_ble_eq_true rfl, Nat.le_of_ble_eq_true rfl⟩) hS (fun q _ h => zp_F1 hD hS hA q h) (zp_F1 hD hS hA) (fun r27 u t H locs ht hvm hw => zx_1 (fun v27na0_11 hB hz1 hk1 hS1 => zo1 hB ht hP hD hk1 (zp_F1 hD hS hA) hS1 (fun hP hK1 hD hS => ?_)))
      have hw : r27 = (-1) := hw
      have hw := hw.symm
      subst hw
      exact W.iret (v := (-1)) hx hb hr (fun t ht hW => ⟨⟨(-1), (), rfl, rfl, v1na0_0, v27na0_11, by rw [ht]; exact hP, va_K.moved hW.alike hK, hD⟩, hS.F ht⟩) hS.2.2 dX8_turnOf_30
    · obtain ⟨hw, h17_0, h17_1, h17_2, h17_3⟩ := hw
      subst hw
      have l17k2_a0_14 : (1 : Int) ≤ a0_14.toInt := h17_0
      have u17k2_a0_14 : a0_14.toInt ≤ (0 : Int) := ba0_14_u
      exact absurd (Int.le_trans l17k2_a0_14 u17k2_a0_14) (by decide)
  · obtain ⟨hw, h14⟩ := hw
    subst hw
    refine va_calli (va_runV (As := [.int a0_14, .int 0]) (rest := []) ⟨hx, hb, hml, hown, hts⟩ (c_X8_whyB l dC dI H.size a0 a0_14 0 (Value.int v1na0_0) a0g_1 a0g_2 a0g_3 a0g_4 a0g_5 a0g_6 a0g_7 a0g_8 a0g_9 a0g_10 (Value.int v1na0_11) a0g_12 a0g_13 (Value.int a0_14) a0g_15 a0g_16 a0g_17 a0g_18 a0g_19 a0g_20 a0g_21 a0g_22 a0g_23 a0g_24 a0g_25 a0g_26 a0g_27 a0g_28 a0g_29 a0g_30 a0g_31 a0g_32 a0g_33 a0g_34 a0g_35 a0g_36 a0g_37 a0g_38 a0g_39 ba0_14_l (Int.le_trans ba0_14_u zq4) zq5 (Int.le_trans zq6 zq4)) (cwV 2 hts gX8_turnOf_X8_why rfl rfl rfl zd_X8_why ⟨Nat.le_of_ble_eq_true rfl, Nat.le_of_ble_eq_true rfl⟩) ⟨ax_blind (fun _ _ _ _ _ => trivial), zr_8 (zp_K hK) (zp_P1 hP) (q0 := 0) rfl, ax_pre (zp_P1 hP) (zp_K hK) (zp_D1 hD) (fun _ _ => trivial)⟩ rfl rfl hl.1 rfl (lv_room (Nat.le_of_ble_eq_true rfl)) dX8_turnOf_17 ⟨Nat.le_of_ble_eq_true rfl, Nat.le_of_ble_eq_true rfl⟩) hS (fun q _ h => zp_F1 hD hS hA q h) (zp_F1 hD hS hA) (fun r17 u t H locs ht hvm hw hB hz1 hk1 hS1 => zo1 hB ht hP hD hk1 (zp_F1 hD hS hA) hS1 (fun hP hK1 hD hS => ?_))
    rcases hw with hw | hw | hw
    · obtain ⟨hw, h17_0, h17_1, h17_2, h17_3⟩ := hw
      subst hw
      have l17k0_a0_14 : (1 : Int) ≤ a0_14.toInt := h17_0
      have u17k0_a0_14 : a0_14.toInt ≤ (0 : Int) := ba0_14_u
      exact absurd (Int.le_trans l17k0_a0_14 u17k0_a0_14) (by decide)
    · obtain ⟨hw, h17_0, h17_1⟩ := hw
      subst hw
      have l17k1_a0_14 : (0 : Int) ≤ a0_14.toInt := ba0_14_l
      have u17k1_a0_14 : a0_14.toInt ≤ (0 : Int) := ba0_14_u
      refine lv_istore_n (lv' := [(2, .int 1), (0, .ref a0), (1, .int a1)]) hx hb dX8_turnOf_20 rfl hl (by decide) rfl (fun ls hl => ?_)
      refine lv_iload_n hx hb dX8_turnOf_21 rfl (lv_at hl 0 rfl) ?_
      refine lv_if_eq (tgt := 31) hx hb dX8_turnOf_22 (by decide) (fun c22 => absurd c22 (by decide +kernel)) (fun _ => ?_)
      refine lv_aload_n hx hb dX8_turnOf_25 rfl (lv_at hl 1 rfl) ?_
      refine lv_iload_n hx hb dX8_turnOf_26 rfl (lv_at hl 0 rfl) ?_
      refine va_calli (va_runV (As := [.int 1]) (rest := []) ⟨hx, hb, hml, hown, hts⟩ (c_X8_no l dC dI H.size a0 1 (Value.int v1na0_0) a0g_1 a0g_2 a0g_3 a0g_4 a0g_5 a0g_6 a0g_7 a0g_8 a0g_9 a0g_10 a0g_12 a0g_13 (Value.int a0_14) a0g_15 a0g_16 a0g_17 a0g_18 a0g_19 a0g_20 a0g_21 a0g_22 a0g_23 a0g_24 a0g_25 a0g_26 a0g_27 a0g_28 a0g_29 a0g_30 a0g_31 a0g_32 a0g_33 a0g_34 a0g_35 a0g_36 a0g_37 a0g_38 a0g_39 v1na0_11 ) (cwV 1 hts gX8_turnOf_X8_no rfl rfl rfl zd_X8_no ⟨Nat.le_of_ble_eq_true rfl, Nat.le_of_ble_eq_true rfl⟩) ⟨ax_blind (fun _ _ _ _ _ => trivial), zr_8 (zp_K hK) (zp_P1 hP) (q0 := 0) rfl, ax_pre (zp_P1 hP) (zp_K hK) (zp_D1 hD) (fun _ _ => trivial)⟩ rfl rfl hl.1 rfl (lv_room (Nat.le_of_ble_eq_true rfl)) dX8_turnOf_27 ⟨Nat.le_of_ble_eq_true rfl, Nat.le_of_ble_eq_true rfl⟩) hS (fun q _ h => zp_F1 hD hS hA q h) (zp_F1 hD hS hA) (fun r27 u t H locs ht hvm hw => zx_1 (fun v27na0_11 hB hz1 hk1 hS1 => zo1 hB ht hP hD hk1 (zp_F1 hD hS hA) hS1 (fun hP hK1 hD hS => ?_)))
      have hw : r27 = (-1) := hw
      have hw := hw.symm
      subst hw
      exact W.iret (v := (-1)) hx hb hr (fun t ht hW => ⟨⟨(-1), (), rfl, rfl, v1na0_0, v27na0_11, by rw [ht]; exact hP, va_K.moved hW.alike hK, hD⟩, hS.F ht⟩) hS.2.2 dX8_turnOf_30
    · obtain ⟨hw, h17_0, h17_1, h17_2, h17_3⟩ := hw
      subst hw
      have l17k2_a0_14 : (1 : Int) ≤ a0_14.toInt := h17_0
      have u17k2_a0_14 : a0_14.toInt ≤ (0 : Int) := ba0_14_u
      exact absurd (Int.le_trans l17k2_a0_14 u17k2_a0_14) (by decide)
end P280_00_safe
section P280_01_safe
set_option maxHeartbeats 4000000 in
set_option maxRecDepth 100000 in
theorem c0_X8_turnIn (l : Launch) (dC : Nat → ClassId) (dI : Nat → Nat → Nat) (sz : Nat) (a0 : Nat) (a1 : Int32) (a0_0 : Int32) (a0g_1 a0g_2 a0g_3 a0g_4 a0g_5 a0g_6 a0g_7 a0g_8 a0g_9 a0g_10 a0g_12 a0g_13 a0g_15 a0g_16 a0g_17 a0g_18 a0g_19 a0g_20 a0g_21 a0g_22 a0g_23 a0g_24 a0g_25 a0g_26 a0g_27 a0g_28 a0g_29 a0g_30 a0g_31 a0g_32 a0g_33 a0g_34 a0g_35 a0g_36 a0g_37 a0g_38 a0g_39 : Value) (a0_11 : Int32) (a0_14 : Int32) (ba0_14_l : (0 : Int) ≤ a0_14.toInt) (ba0_14_u : a0_14.toInt ≤ (0 : Int)) : zm l yX8_turnIn wsX8_turnIn ({ frames := 1, cells := 0, slots := 0, locals := 21 }) [.ref a0, .int a1] dC dI sz [(a0, .inr (8, [Value.int a0_0, a0g_1, a0g_2, a0g_3, a0g_4, a0g_5, a0g_6, a0g_7, a0g_8, a0g_9, a0g_10, Value.int a0_11, a0g_12, a0g_13, Value.int a0_14, a0g_15, a0g_16, a0g_17, a0g_18, a0g_19, a0g_20, a0g_21, a0g_22, a0g_23, a0g_24, a0g_25, a0g_26, a0g_27, a0g_28, a0g_29, a0g_30, a0g_31, a0g_32, a0g_33, a0g_34, a0g_35, a0g_36, a0g_37, a0g_38, a0g_39]))] [] (fun A _ => True) (fun A => va_Qi (fun (r : Int32) (_ : Unit) => r = (-1)) (fun (_ : Unit) (t : State) => ∃ na0_0 : Int32, ∃ na0_11 : Int32, ax_B dC dI A [(a0, .inr (8, [Value.int na0_0, a0g_1, a0g_2, a0g_3, a0g_4, a0g_5, a0g_6, a0g_7, a0g_8, a0g_9, a0g_10, Value.int na0_11, a0g_12, a0g_13, Value.int a0_14, a0g_15, a0g_16, a0g_17, a0g_18, a0g_19, a0g_20, a0g_21, a0g_22, a0g_23, a0g_24, a0g_25, a0g_26, a0g_27, a0g_28, a0g_29, a0g_30, a0g_31, a0g_32, a0g_33, a0g_34, a0g_35, a0g_36, a0g_37, a0g_38, a0g_39]))] [] t) A) := by
  refine zh (cc := cX8_turnIn) (maxL := 3) (ret := (some .int)) zn_RX8 rfl (Nat.le_of_ble_eq_true rfl) (fun p e s m below meth c A ls hx hb hml hr hts (hown : s.vm.findClass RX8 = some m.cls) hlocks hA hS hP hK hD hE (hl : lv_has ls 3 [(0, .ref a0), (1, .int a1)]) => ?_)
  refine ai_open (fun K hK0 => ?_)
  refine (hK0 _ _ _).mpr ?_
  refine lv_aload_n hx hb dX8_turnIn_0 rfl (lv_at hl 0 rfl) ?_
  refine va_callv (va_runV (As := []) (rest := []) ⟨hx, hb, hml, hown, hts⟩ (c_X8_good l dC dI s.heap.size a0 a0_0 a0g_1 a0g_2 a0g_3 a0g_4 a0g_5 a0g_6 a0g_7 a0g_8 a0g_9 a0g_10 a0g_12 a0g_13 (Value.int a0_14) a0g_15 a0g_16 a0g_17 a0g_18 a0g_19 a0g_20 a0g_21 a0g_22 a0g_23 a0g_24 a0g_25 a0g_26 a0g_27 a0g_28 a0g_29 a0g_30 a0g_31 a0g_32 a0g_33 a0g_34 a0g_35 a0g_36 a0g_37 a0g_38 a0g_39 a0_11 ) (cwV 0 hts gX8_turnIn_X8_good rfl rfl rfl zd_X8_good ⟨Nat.le_of_ble_eq_true rfl, Nat.le_of_ble_eq_true rfl⟩) ⟨ax_blind (fun _ _ _ _ _ => trivial), zr_8 (zp_K hK) (zp_P1 hP) (q0 := 0) rfl, ax_pre (zp_P1 hP) (zp_K hK) (zp_D1 hD) (fun _ _ => trivial)⟩ rfl rfl hl.1 rfl (lv_room (Nat.le_of_ble_eq_true rfl)) dX8_turnIn_1 ⟨Nat.le_of_ble_eq_true rfl, Nat.le_of_ble_eq_true rfl⟩) hS (fun q _ h => zp_F1 hD hS hA q h) (zp_F1 hD hS hA) (fun u t H locs ht hvm hw => zx_2 (fun v1na0_0 v1na0_11 hB hz1 hk1 hS1 => zo1 hB ht hP hD hk1 (zp_F1 hD hS hA) hS1 (fun hP hK1 hD hS => ?_)))
  refine lv_aload_n hx hb dX8_turnIn_4 rfl (lv_at hl 0 rfl) ?_
  refine lv_iload_n hx hb dX8_turnIn_5 rfl (lv_at hl 1 rfl) ?_
  refine va_calli (va_runV (As := [.int a1]) (rest := []) ⟨hx, hb, hml, hown, hts⟩ (c0_X8_isFigure l dC dI H.size a0 a1 (Value.int v1na0_0) a0g_1 a0g_2 a0g_3 a0g_4 a0g_5 a0g_6 a0g_7 a0g_8 a0g_9 a0g_10 (Value.int v1na0_11) a0g_12 a0g_13 a0g_15 a0g_16 a0g_17 a0g_18 a0g_19 a0g_20 a0g_21 a0g_22 a0g_23 a0g_24 a0g_25 a0g_26 a0g_27 a0g_28 a0g_29 a0g_30 a0g_31 a0g_32 a0g_33 a0g_34 a0g_35 a0g_36 a0g_37 a0g_38 a0g_39 a0_14 ba0_14_l ba0_14_u) (cwV 1 hts gX8_turnIn_X8_isFigure rfl rfl rfl zd_X8_isFigure ⟨Nat.le_of_ble_eq_true rfl, Nat.le_of_ble_eq_true rfl⟩) ⟨ax_blind (fun _ _ _ _ _ => trivial), zr_8 (zp_K hK) (zp_P1 hP) (q0 := 0) rfl, ax_pre (zp_P1 hP) (zp_K hK) (zp_D1 hD) (fun _ _ => trivial)⟩ rfl rfl hl.1 rfl (lv_room (Nat.le_of_ble_eq_true rfl)) dX8_turnIn_6 ⟨Nat.le_of_ble_eq_true rfl, Nat.le_of_ble_eq_true rfl⟩) hS (fun q _ h => zp_F1 hD hS hA q h) (zp_F1 hD hS hA) (fun r6 u t H locs ht hvm hw hB hz1 hk1 hS1 => zo1 hB ht hP hD hk1 (zp_F1 hD hS hA) hS1 (fun hP hK1 hD hS => ?_))
  have hw : r6 = 0 := hw
  have hw := hw.symm
  subst hw
  refine lv_if_ne (tgt := 18) hx hb dX8_turnIn_9 (by decide) (fun c9 => absurd (by decide +kernel) c9) (fun _ => ?_)
  refine lv_aload_n hx hb dX8_turnIn_12 rfl (lv_at hl 0 rfl) ?_
  refine lv_iconst (v := 1) hx hb dX8_turnIn_13 zk_iconst_1 ?_
  refine va_calli (va_runV (As := [.int 1]) (rest := []) ⟨hx, hb, hml, hown, hts⟩ (c_X8_no l dC dI H.size a0 1 (Value.int v1na0_0) a0g_1 a0g_2 a0g_3 a0g_4 a0g_5 a0g_6 a0g_7 a0g_8 a0g_9 a0g_10 a0g_12 a0g_13 (Value.int a0_14) a0g_15 a0g_16 a0g_17 a0g_18 a0g_19 a0g_20 a0g_21 a0g_22 a0g_23 a0g_24 a0g_25 a0g_26 a0g_27 a0g_28 a0g_29 a0g_30 a0g_31 a0g_32 a0g_33 a0g_34 a0g_35 a0g_36 a0g_37 a0g_38 a0g_39 v1na0_11 ) (cwV 1 hts gX8_turnIn_X8_no rfl rfl rfl zd_X8_no ⟨Nat.le_of_ble_eq_true rfl, Nat.le_of_ble_eq_true rfl⟩) ⟨ax_blind (fun _ _ _ _ _ => trivial), zr_8 (zp_K hK) (zp_P1 hP) (q0 := 0) rfl, ax_pre (zp_P1 hP) (zp_K hK) (zp_D1 hD) (fun _ _ => trivial)⟩ rfl rfl hl.1 rfl (lv_room (Nat.le_of_ble_eq_true rfl)) dX8_turnIn_14 ⟨Nat.le_of_ble_eq_true rfl, Nat.le_of_ble_eq_true rfl⟩) hS (fun q _ h => zp_F1 hD hS hA q h) (zp_F1 hD hS hA) (fun r14 u t H locs ht hvm hw => zx_1 (fun v14na0_11 hB hz1 hk1 hS1 => zo1 hB ht hP hD hk1 (zp_F1 hD hS hA) hS1 (fun hP hK1 hD hS => ?_)))
  have hw : r14 = (-1) := hw
  have hw := hw.symm
  subst hw
  exact W.iret (v := (-1)) hx hb hr (fun t ht hW => ⟨⟨(-1), (), rfl, rfl, v1na0_0, v14na0_11, by rw [ht]; exact hP, va_K.moved hW.alike hK, hD⟩, hS.F ht⟩) hS.2.2 dX8_turnIn_17

set_option maxHeartbeats 4000000 in
set_option maxRecDepth 100000 in
theorem c0_X8_settles (l : Launch) (dC : Nat → ClassId) (dI : Nat → Nat → Nat) (sz : Nat) (a0 : Nat) (a0_0 : Int32) (a0g_1 a0g_2 a0g_3 a0g_4 a0g_5 a0g_6 a0g_7 a0g_8 a0g_9 a0g_10 a0g_12 a0g_13 a0g_15 a0g_16 a0g_17 a0g_18 a0g_19 a0g_20 a0g_21 a0g_22 a0g_23 a0g_24 a0g_25 a0g_26 a0g_27 a0g_28 a0g_29 a0g_30 a0g_31 a0g_32 a0g_33 a0g_34 a0g_35 a0g_36 a0g_37 a0g_38 a0g_39 : Value) (a0_11 : Int32) (a0_14 : Int32) (ba0_14_l : (0 : Int) ≤ a0_14.toInt) (ba0_14_u : a0_14.toInt ≤ (0 : Int)) : zm l yX8_settles wsX8_settles ({ frames := 1, cells := 0, slots := 0, locals := 21 }) [.ref a0] dC dI sz [(a0, .inr (8, [Value.int a0_0, a0g_1, a0g_2, a0g_3, a0g_4, a0g_5, a0g_6, a0g_7, a0g_8, a0g_9, a0g_10, Value.int a0_11, a0g_12, a0g_13, Value.int a0_14, a0g_15, a0g_16, a0g_17, a0g_18, a0g_19, a0g_20, a0g_21, a0g_22, a0g_23, a0g_24, a0g_25, a0g_26, a0g_27, a0g_28, a0g_29, a0g_30, a0g_31, a0g_32, a0g_33, a0g_34, a0g_35, a0g_36, a0g_37, a0g_38, a0g_39]))] [] (fun A _ => True) (fun A => va_Qi (fun (r : Int32) (_ : Unit) => r = (-1)) (fun (_ : Unit) (t : State) => ∃ na0_0 : Int32, ∃ na0_11 : Int32, ax_B dC dI A [(a0, .inr (8, [Value.int na0_0, a0g_1, a0g_2, a0g_3, a0g_4, a0g_5, a0g_6, a0g_7, a0g_8, a0g_9, a0g_10, Value.int na0_11, a0g_12, a0g_13, Value.int a0_14, a0g_15, a0g_16, a0g_17, a0g_18, a0g_19, a0g_20, a0g_21, a0g_22, a0g_23, a0g_24, a0g_25, a0g_26, a0g_27, a0g_28, a0g_29, a0g_30, a0g_31, a0g_32, a0g_33, a0g_34, a0g_35, a0g_36, a0g_37, a0g_38, a0g_39]))] [] t) A) := by
  refine zh (cc := cX8_settles) (maxL := 1) (ret := (some .int)) zn_RX8 rfl (Nat.le_of_ble_eq_true rfl) (fun p e s m below meth c A ls hx hb hml hr hts (hown : s.vm.findClass RX8 = some m.cls) hlocks hA hS hP hK hD hE (hl : lv_has ls 1 [(0, .ref a0)]) => ?_)
  refine lv_aload_n hx hb dX8_settles_0 rfl (lv_at hl 0 rfl) ?_
  refine va_callv (va_runV (As := []) (rest := []) ⟨hx, hb, hml, hown, hts⟩ (c_X8_good l dC dI s.heap.size a0 a0_0 a0g_1 a0g_2 a0g_3 a0g_4 a0g_5 a0g_6 a0g_7 a0g_8 a0g_9 a0g_10 a0g_12 a0g_13 (Value.int a0_14) a0g_15 a0g_16 a0g_17 a0g_18 a0g_19 a0g_20 a0g_21 a0g_22 a0g_23 a0g_24 a0g_25 a0g_26 a0g_27 a0g_28 a0g_29 a0g_30 a0g_31 a0g_32 a0g_33 a0g_34 a0g_35 a0g_36 a0g_37 a0g_38 a0g_39 a0_11 ) (cwV 0 hts gX8_settles_X8_good rfl rfl rfl zd_X8_good ⟨Nat.le_of_ble_eq_true rfl, Nat.le_of_ble_eq_true rfl⟩) ⟨ax_blind (fun _ _ _ _ _ => trivial), zr_8 (zp_K hK) (zp_P1 hP) (q0 := 0) rfl, ax_pre (zp_P1 hP) (zp_K hK) (zp_D1 hD) (fun _ _ => trivial)⟩ rfl rfl hl.1 rfl (lv_room (Nat.le_of_ble_eq_true rfl)) dX8_settles_1 ⟨Nat.le_of_ble_eq_true rfl, Nat.le_of_ble_eq_true rfl⟩) hS (fun q _ h => zp_F1 hD hS hA q h) (zp_F1 hD hS hA) (fun u t H locs ht hvm hw => zx_2 (fun v1na0_0 v1na0_11 hB hz1 hk1 hS1 => zo1 hB ht hP hD hk1 (zp_F1 hD hS hA) hS1 (fun hP hK1 hD hS => ?_)))
  refine lv_aload_n hx hb dX8_settles_4 rfl (lv_at hl 0 rfl) ?_
  refine va_get (D := (dC, dI)) (ci := 8) (v := .int a0_14) (C := RX8) (T := TX8) (N := 40) hx hb hts zi_X8_settles_8 hown hK hP 0 rfl rfl 14 (by decide) (hts (.fieldLink RX8 173 "WaxTurnsModel" "hasGallery" "Z") (zm_X8_settles_r1 (List.mem_of_getElem? (i := 0) rfl))) (fun _ h9 => h9) rfl dX8_settles_5 ?_
  refine lv_if_ne (tgt := 17) hx hb dX8_settles_8 (by decide) (fun c8 => ?_) (fun c8 => ?_)
  · have gc8 := ai_ne c8
    have l8t_a0_14 : (1 : Int) ≤ a0_14.toInt := (by first | exact zg_l ba0_14_l gc8 (by decide) (by decide) | (have h1 := ba0_14_l; have h2 : (0 : Int32).toInt = 0 := (by decide); rw [h2] at gc8; omega))
    have u8t_a0_14 : a0_14.toInt ≤ (-1 : Int) := (by first | exact zg_u ba0_14_u gc8 (by decide) (by decide) | (have h1 := ba0_14_u; have h2 : (0 : Int32).toInt = 0 := (by decide); rw [h2] at gc8; omega))
    exact absurd (Int.le_trans l8t_a0_14 u8t_a0_14) (by decide)
  · have gc8 := ai_eq c8
    have u8f_a0_14 : a0_14.toInt ≤ (0 : Int) := ba0_14_u
    have l8f_a0_14 : (0 : Int) ≤ a0_14.toInt := ba0_14_l
    refine lv_aload_n hx hb dX8_settles_11 rfl (lv_at hl 0 rfl) ?_
    refine lv_iconst (v := 1) hx hb dX8_settles_12 zk_iconst_1 ?_
    refine va_calli (va_runV (As := [.int 1]) (rest := []) ⟨hx, hb, hml, hown, hts⟩ (c_X8_no l dC dI H.size a0 1 (Value.int v1na0_0) a0g_1 a0g_2 a0g_3 a0g_4 a0g_5 a0g_6 a0g_7 a0g_8 a0g_9 a0g_10 a0g_12 a0g_13 (Value.int a0_14) a0g_15 a0g_16 a0g_17 a0g_18 a0g_19 a0g_20 a0g_21 a0g_22 a0g_23 a0g_24 a0g_25 a0g_26 a0g_27 a0g_28 a0g_29 a0g_30 a0g_31 a0g_32 a0g_33 a0g_34 a0g_35 a0g_36 a0g_37 a0g_38 a0g_39 v1na0_11 ) (cwV 1 hts gX8_settles_X8_no rfl rfl rfl zd_X8_no ⟨Nat.le_of_ble_eq_true rfl, Nat.le_of_ble_eq_true rfl⟩) ⟨ax_blind (fun _ _ _ _ _ => trivial), zr_8 (zp_K hK) (zp_P1 hP) (q0 := 0) rfl, ax_pre (zp_P1 hP) (zp_K hK) (zp_D1 hD) (fun _ _ => trivial)⟩ rfl rfl hl.1 rfl (lv_room (Nat.le_of_ble_eq_true rfl)) dX8_settles_13 ⟨Nat.le_of_ble_eq_true rfl, Nat.le_of_ble_eq_true rfl⟩) hS (fun q _ h => zp_F1 hD hS hA q h) (zp_F1 hD hS hA) (fun r13 u t H locs ht hvm hw => zx_1 (fun v13na0_11 hB hz1 hk1 hS1 => zo1 hB ht hP hD hk1 (zp_F1 hD hS hA) hS1 (fun hP hK1 hD hS => ?_)))
    have hw : r13 = (-1) := hw
    have hw := hw.symm
    subst hw
    exact W.iret (v := (-1)) hx hb hr (fun t ht hW => ⟨⟨(-1), (), rfl, rfl, v1na0_0, v13na0_11, by rw [ht]; exact hP, va_K.moved hW.alike hK, hD⟩, hS.F ht⟩) hS.2.2 dX8_settles_16

set_option maxHeartbeats 4000000 in
set_option maxRecDepth 100000 in
theorem c0_X8_round (l : Launch) (dC : Nat → ClassId) (dI : Nat → Nat → Nat) (sz : Nat) (a0 : Nat) (a0_0 : Int32) (a0g_1 a0g_2 a0g_3 a0g_4 a0g_5 a0g_6 a0g_7 a0g_8 a0g_9 a0g_10 a0g_12 a0g_13 a0g_15 a0g_16 a0g_17 a0g_18 a0g_19 a0g_20 a0g_21 a0g_22 a0g_23 a0g_24 a0g_25 a0g_26 a0g_27 a0g_28 a0g_29 a0g_30 a0g_31 a0g_32 a0g_33 a0g_34 a0g_35 a0g_36 a0g_37 a0g_38 a0g_39 : Value) (a0_11 : Int32) (a0_14 : Int32) (ba0_14_l : (0 : Int) ≤ a0_14.toInt) (ba0_14_u : a0_14.toInt ≤ (0 : Int)) : zm l yX8_round wsX8_round ({ frames := 1, cells := 0, slots := 0, locals := 21 }) [.ref a0] dC dI sz [(a0, .inr (8, [Value.int a0_0, a0g_1, a0g_2, a0g_3, a0g_4, a0g_5, a0g_6, a0g_7, a0g_8, a0g_9, a0g_10, Value.int a0_11, a0g_12, a0g_13, Value.int a0_14, a0g_15, a0g_16, a0g_17, a0g_18, a0g_19, a0g_20, a0g_21, a0g_22, a0g_23, a0g_24, a0g_25, a0g_26, a0g_27, a0g_28, a0g_29, a0g_30, a0g_31, a0g_32, a0g_33, a0g_34, a0g_35, a0g_36, a0g_37, a0g_38, a0g_39]))] [] (fun A _ => True) (fun A => va_Qi (fun (r : Int32) (_ : Unit) => r = (-1)) (fun (_ : Unit) (t : State) => ∃ na0_0 : Int32, ∃ na0_11 : Int32, ax_B dC dI A [(a0, .inr (8, [Value.int na0_0, a0g_1, a0g_2, a0g_3, a0g_4, a0g_5, a0g_6, a0g_7, a0g_8, a0g_9, a0g_10, Value.int na0_11, a0g_12, a0g_13, Value.int a0_14, a0g_15, a0g_16, a0g_17, a0g_18, a0g_19, a0g_20, a0g_21, a0g_22, a0g_23, a0g_24, a0g_25, a0g_26, a0g_27, a0g_28, a0g_29, a0g_30, a0g_31, a0g_32, a0g_33, a0g_34, a0g_35, a0g_36, a0g_37, a0g_38, a0g_39]))] [] t) A) := by
  refine zh (cc := cX8_round) (maxL := 1) (ret := (some .int)) zn_RX8 rfl (Nat.le_of_ble_eq_true rfl) (fun p e s m below meth c A ls hx hb hml hr hts (hown : s.vm.findClass RX8 = some m.cls) hlocks hA hS hP hK hD hE (hl : lv_has ls 1 [(0, .ref a0)]) => ?_)
  refine lv_aload_n hx hb dX8_round_0 rfl (lv_at hl 0 rfl) ?_
  refine va_callv (va_runV (As := []) (rest := []) ⟨hx, hb, hml, hown, hts⟩ (c_X8_good l dC dI s.heap.size a0 a0_0 a0g_1 a0g_2 a0g_3 a0g_4 a0g_5 a0g_6 a0g_7 a0g_8 a0g_9 a0g_10 a0g_12 a0g_13 (Value.int a0_14) a0g_15 a0g_16 a0g_17 a0g_18 a0g_19 a0g_20 a0g_21 a0g_22 a0g_23 a0g_24 a0g_25 a0g_26 a0g_27 a0g_28 a0g_29 a0g_30 a0g_31 a0g_32 a0g_33 a0g_34 a0g_35 a0g_36 a0g_37 a0g_38 a0g_39 a0_11 ) (cwV 0 hts gX8_round_X8_good rfl rfl rfl zd_X8_good ⟨Nat.le_of_ble_eq_true rfl, Nat.le_of_ble_eq_true rfl⟩) ⟨ax_blind (fun _ _ _ _ _ => trivial), zr_8 (zp_K hK) (zp_P1 hP) (q0 := 0) rfl, ax_pre (zp_P1 hP) (zp_K hK) (zp_D1 hD) (fun _ _ => trivial)⟩ rfl rfl hl.1 rfl (lv_room (Nat.le_of_ble_eq_true rfl)) dX8_round_1 ⟨Nat.le_of_ble_eq_true rfl, Nat.le_of_ble_eq_true rfl⟩) hS (fun q _ h => zp_F1 hD hS hA q h) (zp_F1 hD hS hA) (fun u t H locs ht hvm hw => zx_2 (fun v1na0_0 v1na0_11 hB hz1 hk1 hS1 => zo1 hB ht hP hD hk1 (zp_F1 hD hS hA) hS1 (fun hP hK1 hD hS => ?_)))
  refine lv_aload_n hx hb dX8_round_4 rfl (lv_at hl 0 rfl) ?_
  refine va_get (D := (dC, dI)) (ci := 8) (v := .int a0_14) (C := RX8) (T := TX8) (N := 40) hx hb hts zi_X8_round_8 hown hK hP 0 rfl rfl 14 (by decide) (hts (.fieldLink RX8 173 "WaxTurnsModel" "hasGallery" "Z") (zm_X8_round_r1 (List.mem_of_getElem? (i := 0) rfl))) (fun _ h9 => h9) rfl dX8_round_5 ?_
  refine lv_if_ne (tgt := 17) hx hb dX8_round_8 (by decide) (fun c8 => ?_) (fun c8 => ?_)
  · have gc8 := ai_ne c8
    have l8t_a0_14 : (1 : Int) ≤ a0_14.toInt := (by first | exact zg_l ba0_14_l gc8 (by decide) (by decide) | (have h1 := ba0_14_l; have h2 : (0 : Int32).toInt = 0 := (by decide); rw [h2] at gc8; omega))
    have u8t_a0_14 : a0_14.toInt ≤ (-1 : Int) := (by first | exact zg_u ba0_14_u gc8 (by decide) (by decide) | (have h1 := ba0_14_u; have h2 : (0 : Int32).toInt = 0 := (by decide); rw [h2] at gc8; omega))
    exact absurd (Int.le_trans l8t_a0_14 u8t_a0_14) (by decide)
  · have gc8 := ai_eq c8
    have u8f_a0_14 : a0_14.toInt ≤ (0 : Int) := ba0_14_u
    have l8f_a0_14 : (0 : Int) ≤ a0_14.toInt := ba0_14_l
    refine lv_aload_n hx hb dX8_round_11 rfl (lv_at hl 0 rfl) ?_
    refine lv_iconst (v := 1) hx hb dX8_round_12 zk_iconst_1 ?_
    refine va_calli (va_runV (As := [.int 1]) (rest := []) ⟨hx, hb, hml, hown, hts⟩ (c_X8_no l dC dI H.size a0 1 (Value.int v1na0_0) a0g_1 a0g_2 a0g_3 a0g_4 a0g_5 a0g_6 a0g_7 a0g_8 a0g_9 a0g_10 a0g_12 a0g_13 (Value.int a0_14) a0g_15 a0g_16 a0g_17 a0g_18 a0g_19 a0g_20 a0g_21 a0g_22 a0g_23 a0g_24 a0g_25 a0g_26 a0g_27 a0g_28 a0g_29 a0g_30 a0g_31 a0g_32 a0g_33 a0g_34 a0g_35 a0g_36 a0g_37 a0g_38 a0g_39 v1na0_11 ) (cwV 1 hts gX8_round_X8_no rfl rfl rfl zd_X8_no ⟨Nat.le_of_ble_eq_true rfl, Nat.le_of_ble_eq_true rfl⟩) ⟨ax_blind (fun _ _ _ _ _ => trivial), zr_8 (zp_K hK) (zp_P1 hP) (q0 := 0) rfl, ax_pre (zp_P1 hP) (zp_K hK) (zp_D1 hD) (fun _ _ => trivial)⟩ rfl rfl hl.1 rfl (lv_room (Nat.le_of_ble_eq_true rfl)) dX8_round_13 ⟨Nat.le_of_ble_eq_true rfl, Nat.le_of_ble_eq_true rfl⟩) hS (fun q _ h => zp_F1 hD hS hA q h) (zp_F1 hD hS hA) (fun r13 u t H locs ht hvm hw => zx_1 (fun v13na0_11 hB hz1 hk1 hS1 => zo1 hB ht hP hD hk1 (zp_F1 hD hS hA) hS1 (fun hP hK1 hD hS => ?_)))
    have hw : r13 = (-1) := hw
    have hw := hw.symm
    subst hw
    exact W.iret (v := (-1)) hx hb hr (fun t ht hW => ⟨⟨(-1), (), rfl, rfl, v1na0_0, v13na0_11, by rw [ht]; exact hP, va_K.moved hW.alike hK, hD⟩, hS.F ht⟩) hS.2.2 dX8_round_16

set_option maxHeartbeats 4000000 in
set_option maxRecDepth 100000 in
theorem c0_X8_minutesOf (l : Launch) (dC : Nat → ClassId) (dI : Nat → Nat → Nat) (sz : Nat) (a0 : Nat) (a1 : Int32) (a2 : Int32) (a0_0 : Int32) (a0g_1 a0g_2 a0g_3 a0g_4 a0g_5 a0g_6 a0g_7 a0g_8 a0g_9 a0g_10 a0g_12 a0g_13 a0g_15 a0g_16 a0g_17 a0g_18 a0g_19 a0g_20 a0g_21 a0g_22 a0g_23 a0g_24 a0g_25 a0g_26 a0g_27 a0g_28 a0g_29 a0g_30 a0g_31 a0g_32 a0g_33 a0g_34 a0g_35 a0g_36 a0g_37 a0g_38 a0g_39 : Value) (a0_11 : Int32) (a0_14 : Int32) (ba0_14_l : (0 : Int) ≤ a0_14.toInt) (ba0_14_u : a0_14.toInt ≤ (0 : Int)) : zm l yX8_minutesOf wsX8_minutesOf ({ frames := 1, cells := 0, slots := 0, locals := 22 }) [.ref a0, .int a1, .int a2] dC dI sz [(a0, .inr (8, [Value.int a0_0, a0g_1, a0g_2, a0g_3, a0g_4, a0g_5, a0g_6, a0g_7, a0g_8, a0g_9, a0g_10, Value.int a0_11, a0g_12, a0g_13, Value.int a0_14, a0g_15, a0g_16, a0g_17, a0g_18, a0g_19, a0g_20, a0g_21, a0g_22, a0g_23, a0g_24, a0g_25, a0g_26, a0g_27, a0g_28, a0g_29, a0g_30, a0g_31, a0g_32, a0g_33, a0g_34, a0g_35, a0g_36, a0g_37, a0g_38, a0g_39]))] [] (fun A _ => True) (fun A => va_Qi (fun (r : Int32) (_ : Unit) => r = (-1)) (fun (_ : Unit) (t : State) => ∃ na0_0 : Int32, ∃ na0_11 : Int32, ax_B dC dI A [(a0, .inr (8, [Value.int na0_0, a0g_1, a0g_2, a0g_3, a0g_4, a0g_5, a0g_6, a0g_7, a0g_8, a0g_9, a0g_10, Value.int na0_11, a0g_12, a0g_13, Value.int a0_14, a0g_15, a0g_16, a0g_17, a0g_18, a0g_19, a0g_20, a0g_21, a0g_22, a0g_23, a0g_24, a0g_25, a0g_26, a0g_27, a0g_28, a0g_29, a0g_30, a0g_31, a0g_32, a0g_33, a0g_34, a0g_35, a0g_36, a0g_37, a0g_38, a0g_39]))] [] t) A) := by
  refine zh (cc := cX8_minutesOf) (maxL := 6) (ret := (some .int)) zn_RX8 rfl (Nat.le_of_ble_eq_true rfl) (fun p e s m below meth c A ls hx hb hml hr hts (hown : s.vm.findClass RX8 = some m.cls) hlocks hA hS hP hK hD hE (hl : lv_has ls 6 [(0, .ref a0), (1, .int a1), (2, .int a2)]) => ?_)
  refine ai_open (fun K hK0 => ?_)
  refine (hK0 _ _ _).mpr ?_
  refine lv_aload_n hx hb dX8_minutesOf_0 rfl (lv_at hl 0 rfl) ?_
  refine va_callv (va_runV (As := []) (rest := []) ⟨hx, hb, hml, hown, hts⟩ (c_X8_good l dC dI s.heap.size a0 a0_0 a0g_1 a0g_2 a0g_3 a0g_4 a0g_5 a0g_6 a0g_7 a0g_8 a0g_9 a0g_10 a0g_12 a0g_13 (Value.int a0_14) a0g_15 a0g_16 a0g_17 a0g_18 a0g_19 a0g_20 a0g_21 a0g_22 a0g_23 a0g_24 a0g_25 a0g_26 a0g_27 a0g_28 a0g_29 a0g_30 a0g_31 a0g_32 a0g_33 a0g_34 a0g_35 a0g_36 a0g_37 a0g_38 a0g_39 a0_11 ) (cwV 0 hts gX8_minutesOf_X8_good rfl rfl rfl zd_X8_good ⟨Nat.le_of_ble_eq_true rfl, Nat.le_of_ble_eq_true rfl⟩) ⟨ax_blind (fun _ _ _ _ _ => trivial), zr_8 (zp_K hK) (zp_P1 hP) (q0 := 0) rfl, ax_pre (zp_P1 hP) (zp_K hK) (zp_D1 hD) (fun _ _ => trivial)⟩ rfl rfl hl.1 rfl (lv_room (Nat.le_of_ble_eq_true rfl)) dX8_minutesOf_1 ⟨Nat.le_of_ble_eq_true rfl, Nat.le_of_ble_eq_true rfl⟩) hS (fun q _ h => zp_F1 hD hS hA q h) (zp_F1 hD hS hA) (fun u t H locs ht hvm hw => zx_2 (fun v1na0_0 v1na0_11 hB hz1 hk1 hS1 => zo1 hB ht hP hD hk1 (zp_F1 hD hS hA) hS1 (fun hP hK1 hD hS => ?_)))
  refine lv_aload_n hx hb dX8_minutesOf_4 rfl (lv_at hl 0 rfl) ?_
  refine lv_aload_n hx hb dX8_minutesOf_5 rfl (lv_at hl 0 rfl) ?_
  refine lv_iload_n hx hb dX8_minutesOf_6 rfl (lv_at hl 1 rfl) ?_
  refine va_calli (va_runV (As := [.int a1]) (rest := [.ref a0]) ⟨hx, hb, hml, hown, hts⟩ (c0_X8_isFigure l dC dI H.size a0 a1 (Value.int v1na0_0) a0g_1 a0g_2 a0g_3 a0g_4 a0g_5 a0g_6 a0g_7 a0g_8 a0g_9 a0g_10 (Value.int v1na0_11) a0g_12 a0g_13 a0g_15 a0g_16 a0g_17 a0g_18 a0g_19 a0g_20 a0g_21 a0g_22 a0g_23 a0g_24 a0g_25 a0g_26 a0g_27 a0g_28 a0g_29 a0g_30 a0g_31 a0g_32 a0g_33 a0g_34 a0g_35 a0g_36 a0g_37 a0g_38 a0g_39 a0_14 ba0_14_l ba0_14_u) (cwV 1 hts gX8_minutesOf_X8_isFigure rfl rfl rfl zd_X8_isFigure ⟨Nat.le_of_ble_eq_true rfl, Nat.le_of_ble_eq_true rfl⟩) ⟨ax_blind (fun _ _ _ _ _ => trivial), zr_8 (zp_K hK) (zp_P1 hP) (q0 := 0) rfl, ax_pre (zp_P1 hP) (zp_K hK) (zp_D1 hD) (fun _ _ => trivial)⟩ rfl rfl hl.1 rfl (lv_room (Nat.le_of_ble_eq_true rfl)) dX8_minutesOf_7 ⟨Nat.le_of_ble_eq_true rfl, Nat.le_of_ble_eq_true rfl⟩) hS (fun q _ h => zp_F1 hD hS hA q h) (zp_F1 hD hS hA) (fun r7 u t H locs ht hvm hw hB hz1 hk1 hS1 => zo1 hB ht hP hD hk1 (zp_F1 hD hS hA) hS1 (fun hP hK1 hD hS => ?_))
  have hw : r7 = 0 := hw
  have hw := hw.symm
  subst hw
  refine lv_iload_n hx hb dX8_minutesOf_10 rfl (lv_at hl 2 rfl) ?_
  refine lv_iconst (v := 0) hx hb dX8_minutesOf_11 zk_iconst_0 ?_
  refine lv_sipush (v := 999) hx hb dX8_minutesOf_12 zk_sipush_999 ?_
  refine va_calli (va_runS (As := [.int a2, .int 0, .int 999]) (rest := [.int 0, .ref a0]) ⟨hx, hb, hml, hown, hts⟩ (c_X8_in l dC dI H.size a2 0 999 ) (va_cwS 3 hts gX8_minutesOf_X8_in rfl rfl rfl zd_X8_in.2 ⟨Nat.le_of_ble_eq_true rfl, Nat.le_of_ble_eq_true rfl⟩) ⟨ax_blind (fun _ _ _ _ _ => trivial), ax_pre (zp_P0 hP) (zp_K hK) (zp_D0 hD) (fun _ _ => trivial)⟩ rfl rfl hl.1 rfl (lv_room (Nat.le_of_ble_eq_true rfl)) dX8_minutesOf_15 ⟨Nat.le_of_ble_eq_true rfl, Nat.le_of_ble_eq_true rfl⟩) hS (fun q _ h => zp_F0 hD hS hA q h) (zp_F0 hD hS hA) (fun r15 u t H locs ht hvm hw hB hz1 hk1 hS1 => zo0 hB ht hP hD hk1 (zp_F0 hD hS hA) hS1 (fun hP hK1 hD hS => ?_))
  rcases hw with hw | hw
  · obtain ⟨hw, h15⟩ := hw
    subst hw
    have l15k0_a2 : (0 : Int) ≤ a2.toInt := Int.le_trans zq5 h15.1
    have u15k0_a2 : a2.toInt ≤ (999 : Int) := Int.le_trans h15.2 zq79
    refine va_calli (va_runV (As := [.int 0, .int 1]) (rest := []) ⟨hx, hb, hml, hown, hts⟩ (c_X8_whyB l dC dI H.size a0 0 1 (Value.int v1na0_0) a0g_1 a0g_2 a0g_3 a0g_4 a0g_5 a0g_6 a0g_7 a0g_8 a0g_9 a0g_10 (Value.int v1na0_11) a0g_12 a0g_13 (Value.int a0_14) a0g_15 a0g_16 a0g_17 a0g_18 a0g_19 a0g_20 a0g_21 a0g_22 a0g_23 a0g_24 a0g_25 a0g_26 a0g_27 a0g_28 a0g_29 a0g_30 a0g_31 a0g_32 a0g_33 a0g_34 a0g_35 a0g_36 a0g_37 a0g_38 a0g_39 zq5 (Int.le_trans zq6 zq4) (Int.le_trans zq4 zq1) zq0) (cwV 2 hts gX8_minutesOf_X8_why rfl rfl rfl zd_X8_why ⟨Nat.le_of_ble_eq_true rfl, Nat.le_of_ble_eq_true rfl⟩) ⟨ax_blind (fun _ _ _ _ _ => trivial), zr_8 (zp_K hK) (zp_P1 hP) (q0 := 0) rfl, ax_pre (zp_P1 hP) (zp_K hK) (zp_D1 hD) (fun _ _ => trivial)⟩ rfl rfl hl.1 rfl (lv_room (Nat.le_of_ble_eq_true rfl)) dX8_minutesOf_18 ⟨Nat.le_of_ble_eq_true rfl, Nat.le_of_ble_eq_true rfl⟩) hS (fun q _ h => zp_F1 hD hS hA q h) (zp_F1 hD hS hA) (fun r18 u t H locs ht hvm hw hB hz1 hk1 hS1 => zo1 hB ht hP hD hk1 (zp_F1 hD hS hA) hS1 (fun hP hK1 hD hS => ?_))
    rcases hw with hw | hw | hw
    · obtain ⟨hw, h18_0, h18_1, h18_2, h18_3⟩ := hw
      subst hw
      exact absurd h18_0 (by decide)
    · obtain ⟨hw, h18_0, h18_1⟩ := hw
      subst hw
      refine lv_istore_n (lv' := [(3, .int 1), (0, .ref a0), (1, .int a1), (2, .int a2)]) hx hb dX8_minutesOf_21 rfl hl (by decide) rfl (fun ls hl => ?_)
      refine lv_iload_n hx hb dX8_minutesOf_22 rfl (lv_at hl 0 rfl) ?_
      refine lv_if_eq (tgt := 32) hx hb dX8_minutesOf_23 (by decide) (fun c23 => absurd c23 (by decide +kernel)) (fun _ => ?_)
      refine lv_aload_n hx hb dX8_minutesOf_26 rfl (lv_at hl 1 rfl) ?_
      refine lv_iload_n hx hb dX8_minutesOf_27 rfl (lv_at hl 0 rfl) ?_
      refine va_calli (va_runV (As := [.int 1]) (rest := []) ⟨hx, hb, hml, hown, hts⟩ (c_X8_no l dC dI H.size a0 1 (Value.int v1na0_0) a0g_1 a0g_2 a0g_3 a0g_4 a0g_5 a0g_6 a0g_7 a0g_8 a0g_9 a0g_10 a0g_12 a0g_13 (Value.int a0_14) a0g_15 a0g_16 a0g_17 a0g_18 a0g_19 a0g_20 a0g_21 a0g_22 a0g_23 a0g_24 a0g_25 a0g_26 a0g_27 a0g_28 a0g_29 a0g_30 a0g_31 a0g_32 a0g_33 a0g_34 a0g_35 a0g_36 a0g_37 a0g_38 a0g_39 v1na0_11 ) (cwV 1 hts gX8_minutesOf_X8_no rfl rfl rfl zd_X8_no ⟨Nat.le_of_ble_eq_true rfl, Nat.le_of_ble_eq_true rfl⟩) ⟨ax_blind (fun _ _ _ _ _ => trivial), zr_8 (zp_K hK) (zp_P1 hP) (q0 := 0) rfl, ax_pre (zp_P1 hP) (zp_K hK) (zp_D1 hD) (fun _ _ => trivial)⟩ rfl rfl hl.1 rfl (lv_room (Nat.le_of_ble_eq_true rfl)) dX8_minutesOf_28 ⟨Nat.le_of_ble_eq_true rfl, Nat.le_of_ble_eq_true rfl⟩) hS (fun q _ h => zp_F1 hD hS hA q h) (zp_F1 hD hS hA) (fun r28 u t H locs ht hvm hw => zx_1 (fun v28na0_11 hB hz1 hk1 hS1 => zo1 hB ht hP hD hk1 (zp_F1 hD hS hA) hS1 (fun hP hK1 hD hS => ?_)))
      have hw : r28 = (-1) := hw
      have hw := hw.symm
      subst hw
      exact W.iret (v := (-1)) hx hb hr (fun t ht hW => ⟨⟨(-1), (), rfl, rfl, v1na0_0, v28na0_11, by rw [ht]; exact hP, va_K.moved hW.alike hK, hD⟩, hS.F ht⟩) hS.2.2 dX8_minutesOf_31
    · obtain ⟨hw, h18_0, h18_1, h18_2, h18_3⟩ := hw
      subst hw
      exact absurd h18_0 (by decide)
  · obtain ⟨hw, h15⟩ := hw
    subst hw
    refine va_calli (va_runV (As := [.int 0, .int 0]) (rest := []) ⟨hx, hb, hml, hown, hts⟩ (c_X8_whyB l dC dI H.size a0 0 0 (Value.int v1na0_0) a0g_1 a0g_2 a0g_3 a0g_4 a0g_5 a0g_6 a0g_7 a0g_8 a0g_9 a0g_10 (Value.int v1na0_11) a0g_12 a0g_13 (Value.int a0_14) a0g_15 a0g_16 a0g_17 a0g_18 a0g_19 a0g_20 a0g_21 a0g_22 a0g_23 a0g_24 a0g_25 a0g_26 a0g_27 a0g_28 a0g_29 a0g_30 a0g_31 a0g_32 a0g_33 a0g_34 a0g_35 a0g_36 a0g_37 a0g_38 a0g_39 zq5 (Int.le_trans zq6 zq4) zq5 (Int.le_trans zq6 zq4)) (cwV 2 hts gX8_minutesOf_X8_why rfl rfl rfl zd_X8_why ⟨Nat.le_of_ble_eq_true rfl, Nat.le_of_ble_eq_true rfl⟩) ⟨ax_blind (fun _ _ _ _ _ => trivial), zr_8 (zp_K hK) (zp_P1 hP) (q0 := 0) rfl, ax_pre (zp_P1 hP) (zp_K hK) (zp_D1 hD) (fun _ _ => trivial)⟩ rfl rfl hl.1 rfl (lv_room (Nat.le_of_ble_eq_true rfl)) dX8_minutesOf_18 ⟨Nat.le_of_ble_eq_true rfl, Nat.le_of_ble_eq_true rfl⟩) hS (fun q _ h => zp_F1 hD hS hA q h) (zp_F1 hD hS hA) (fun r18 u t H locs ht hvm hw hB hz1 hk1 hS1 => zo1 hB ht hP hD hk1 (zp_F1 hD hS hA) hS1 (fun hP hK1 hD hS => ?_))
    rcases hw with hw | hw | hw
    · obtain ⟨hw, h18_0, h18_1, h18_2, h18_3⟩ := hw
      subst hw
      exact absurd h18_0 (by decide)
    · obtain ⟨hw, h18_0, h18_1⟩ := hw
      subst hw
      refine lv_istore_n (lv' := [(3, .int 1), (0, .ref a0), (1, .int a1), (2, .int a2)]) hx hb dX8_minutesOf_21 rfl hl (by decide) rfl (fun ls hl => ?_)
      refine lv_iload_n hx hb dX8_minutesOf_22 rfl (lv_at hl 0 rfl) ?_
      refine lv_if_eq (tgt := 32) hx hb dX8_minutesOf_23 (by decide) (fun c23 => absurd c23 (by decide +kernel)) (fun _ => ?_)
      refine lv_aload_n hx hb dX8_minutesOf_26 rfl (lv_at hl 1 rfl) ?_
      refine lv_iload_n hx hb dX8_minutesOf_27 rfl (lv_at hl 0 rfl) ?_
      refine va_calli (va_runV (As := [.int 1]) (rest := []) ⟨hx, hb, hml, hown, hts⟩ (c_X8_no l dC dI H.size a0 1 (Value.int v1na0_0) a0g_1 a0g_2 a0g_3 a0g_4 a0g_5 a0g_6 a0g_7 a0g_8 a0g_9 a0g_10 a0g_12 a0g_13 (Value.int a0_14) a0g_15 a0g_16 a0g_17 a0g_18 a0g_19 a0g_20 a0g_21 a0g_22 a0g_23 a0g_24 a0g_25 a0g_26 a0g_27 a0g_28 a0g_29 a0g_30 a0g_31 a0g_32 a0g_33 a0g_34 a0g_35 a0g_36 a0g_37 a0g_38 a0g_39 v1na0_11 ) (cwV 1 hts gX8_minutesOf_X8_no rfl rfl rfl zd_X8_no ⟨Nat.le_of_ble_eq_true rfl, Nat.le_of_ble_eq_true rfl⟩) ⟨ax_blind (fun _ _ _ _ _ => trivial), zr_8 (zp_K hK) (zp_P1 hP) (q0 := 0) rfl, ax_pre (zp_P1 hP) (zp_K hK) (zp_D1 hD) (fun _ _ => trivial)⟩ rfl rfl hl.1 rfl (lv_room (Nat.le_of_ble_eq_true rfl)) dX8_minutesOf_28 ⟨Nat.le_of_ble_eq_true rfl, Nat.le_of_ble_eq_true rfl⟩) hS (fun q _ h => zp_F1 hD hS hA q h) (zp_F1 hD hS hA) (fun r28 u t H locs ht hvm hw => zx_1 (fun v28na0_11 hB hz1 hk1 hS1 => zo1 hB ht hP hD hk1 (zp_F1 hD hS hA) hS1 (fun hP hK1 hD hS => ?_)))
      have hw : r28 = (-1) := hw
      have hw := hw.symm
      subst hw
      exact W.iret (v := (-1)) hx hb hr (fun t ht hW => ⟨⟨(-1), (), rfl, rfl, v1na0_0, v28na0_11, by rw [ht]; exact hP, va_K.moved hW.alike hK, hD⟩, hS.F ht⟩) hS.2.2 dX8_minutesOf_31
    · obtain ⟨hw, h18_0, h18_1, h18_2, h18_3⟩ := hw
      subst hw
      exact absurd h18_0 (by decide)

set_option maxHeartbeats 4000000 in
set_option maxRecDepth 100000 in
theorem c0_X8_place (l : Launch) (dC : Nat → ClassId) (dI : Nat → Nat → Nat) (sz : Nat) (a0 : Nat) (a1 : Int32) (a2 : Int32) (a0_0 : Int32) (a0g_1 a0g_2 a0g_3 a0g_4 a0g_5 a0g_6 a0g_7 a0g_8 a0g_9 a0g_10 a0g_12 a0g_13 a0g_15 a0g_16 a0g_17 a0g_18 a0g_19 a0g_20 a0g_21 a0g_22 a0g_23 a0g_24 a0g_25 a0g_26 a0g_27 a0g_28 a0g_29 a0g_30 a0g_31 a0g_32 a0g_33 a0g_34 a0g_35 a0g_36 a0g_37 a0g_38 a0g_39 : Value) (a0_11 : Int32) (a0_14 : Int32) (ba0_14_l : (0 : Int) ≤ a0_14.toInt) (ba0_14_u : a0_14.toInt ≤ (0 : Int)) : zm l yX8_place wsX8_place ({ frames := 2, cells := 0, slots := 0, locals := 45 }) [.ref a0, .int a1, .int a2] dC dI sz [(a0, .inr (8, [Value.int a0_0, a0g_1, a0g_2, a0g_3, a0g_4, a0g_5, a0g_6, a0g_7, a0g_8, a0g_9, a0g_10, Value.int a0_11, a0g_12, a0g_13, Value.int a0_14, a0g_15, a0g_16, a0g_17, a0g_18, a0g_19, a0g_20, a0g_21, a0g_22, a0g_23, a0g_24, a0g_25, a0g_26, a0g_27, a0g_28, a0g_29, a0g_30, a0g_31, a0g_32, a0g_33, a0g_34, a0g_35, a0g_36, a0g_37, a0g_38, a0g_39]))] [] (fun A _ => True) (fun A => va_Qi (fun (r : Int32) (_ : Unit) => r = (-1)) (fun (_ : Unit) (t : State) => ∃ na0_0 : Int32, ∃ na0_11 : Int32, ax_B dC dI A [(a0, .inr (8, [Value.int na0_0, a0g_1, a0g_2, a0g_3, a0g_4, a0g_5, a0g_6, a0g_7, a0g_8, a0g_9, a0g_10, Value.int na0_11, a0g_12, a0g_13, Value.int a0_14, a0g_15, a0g_16, a0g_17, a0g_18, a0g_19, a0g_20, a0g_21, a0g_22, a0g_23, a0g_24, a0g_25, a0g_26, a0g_27, a0g_28, a0g_29, a0g_30, a0g_31, a0g_32, a0g_33, a0g_34, a0g_35, a0g_36, a0g_37, a0g_38, a0g_39]))] [] t) A) := by
  refine zh (cc := cX8_place) (maxL := 4) (ret := (some .int)) zn_RX8 rfl (Nat.le_of_ble_eq_true rfl) (fun p e s m below meth c A ls hx hb hml hr hts (hown : s.vm.findClass RX8 = some m.cls) hlocks hA hS hP hK hD hE (hl : lv_has ls 4 [(0, .ref a0), (1, .int a1), (2, .int a2)]) => ?_)
  refine lv_aload_n hx hb dX8_place_0 rfl (lv_at hl 0 rfl) ?_
  refine va_callv (va_runV (As := []) (rest := []) ⟨hx, hb, hml, hown, hts⟩ (c_X8_good l dC dI s.heap.size a0 a0_0 a0g_1 a0g_2 a0g_3 a0g_4 a0g_5 a0g_6 a0g_7 a0g_8 a0g_9 a0g_10 a0g_12 a0g_13 (Value.int a0_14) a0g_15 a0g_16 a0g_17 a0g_18 a0g_19 a0g_20 a0g_21 a0g_22 a0g_23 a0g_24 a0g_25 a0g_26 a0g_27 a0g_28 a0g_29 a0g_30 a0g_31 a0g_32 a0g_33 a0g_34 a0g_35 a0g_36 a0g_37 a0g_38 a0g_39 a0_11 ) (cwV 0 hts gX8_place_X8_good rfl rfl rfl zd_X8_good ⟨Nat.le_of_ble_eq_true rfl, Nat.le_of_ble_eq_true rfl⟩) ⟨ax_blind (fun _ _ _ _ _ => trivial), zr_8 (zp_K hK) (zp_P1 hP) (q0 := 0) rfl, ax_pre (zp_P1 hP) (zp_K hK) (zp_D1 hD) (fun _ _ => trivial)⟩ rfl rfl hl.1 rfl (lv_room (Nat.le_of_ble_eq_true rfl)) dX8_place_1 ⟨Nat.le_of_ble_eq_true rfl, Nat.le_of_ble_eq_true rfl⟩) hS (fun q _ h => zp_F1 hD hS hA q h) (zp_F1 hD hS hA) (fun u t H locs ht hvm hw => zx_2 (fun v1na0_0 v1na0_11 hB hz1 hk1 hS1 => zo1 hB ht hP hD hk1 (zp_F1 hD hS hA) hS1 (fun hP hK1 hD hS => ?_)))
  refine lv_aload_n hx hb dX8_place_4 rfl (lv_at hl 0 rfl) ?_
  refine lv_aload_n hx hb dX8_place_5 rfl (lv_at hl 0 rfl) ?_
  refine lv_iload_n hx hb dX8_place_6 rfl (lv_at hl 1 rfl) ?_
  refine va_calli (va_runV (As := [.int a1]) (rest := [.ref a0]) ⟨hx, hb, hml, hown, hts⟩ (c0_X8_isFigure l dC dI H.size a0 a1 (Value.int v1na0_0) a0g_1 a0g_2 a0g_3 a0g_4 a0g_5 a0g_6 a0g_7 a0g_8 a0g_9 a0g_10 (Value.int v1na0_11) a0g_12 a0g_13 a0g_15 a0g_16 a0g_17 a0g_18 a0g_19 a0g_20 a0g_21 a0g_22 a0g_23 a0g_24 a0g_25 a0g_26 a0g_27 a0g_28 a0g_29 a0g_30 a0g_31 a0g_32 a0g_33 a0g_34 a0g_35 a0g_36 a0g_37 a0g_38 a0g_39 a0_14 ba0_14_l ba0_14_u) (cwV 1 hts gX8_place_X8_isFigure rfl rfl rfl zd_X8_isFigure ⟨Nat.le_of_ble_eq_true rfl, Nat.le_of_ble_eq_true rfl⟩) ⟨ax_blind (fun _ _ _ _ _ => trivial), zr_8 (zp_K hK) (zp_P1 hP) (q0 := 0) rfl, ax_pre (zp_P1 hP) (zp_K hK) (zp_D1 hD) (fun _ _ => trivial)⟩ rfl rfl hl.1 rfl (lv_room (Nat.le_of_ble_eq_true rfl)) dX8_place_7 ⟨Nat.le_of_ble_eq_true rfl, Nat.le_of_ble_eq_true rfl⟩) hS (fun q _ h => zp_F1 hD hS hA q h) (zp_F1 hD hS hA) (fun r7 u t H locs ht hvm hw hB hz1 hk1 hS1 => zo1 hB ht hP hD hk1 (zp_F1 hD hS hA) hS1 (fun hP hK1 hD hS => ?_))
  have hw : r7 = 0 := hw
  have hw := hw.symm
  subst hw
  refine lv_iconst (v := 0) hx hb dX8_place_10 zk_iconst_0 ?_
  refine lv_iload_n hx hb dX8_place_11 rfl (lv_at hl 2 rfl) ?_
  refine va_calli (va_runV (As := [.int 0, .int 0, .int a2]) (rest := []) ⟨hx, hb, hml, hown, hts⟩ (c_X8_aheadWhy l dC dI H.size a0 0 0 a2 (Value.int v1na0_0) a0g_1 a0g_2 a0g_3 a0g_4 a0g_5 a0g_6 a0g_7 a0g_8 a0g_9 a0g_10 (Value.int v1na0_11) a0g_12 a0g_13 (Value.int a0_14) a0g_15 a0g_16 a0g_17 a0g_18 a0g_19 a0g_20 a0g_21 a0g_22 a0g_23 a0g_24 a0g_25 a0g_26 a0g_27 a0g_28 a0g_29 a0g_30 a0g_31 a0g_32 a0g_33 a0g_34 a0g_35 a0g_36 a0g_37 a0g_38 a0g_39 zq5 (Int.le_trans zq6 zq4) zq5 (Int.le_trans zq6 zq4)) (cwV 3 hts gX8_place_X8_aheadWhy rfl rfl rfl zd_X8_aheadWhy ⟨Nat.le_of_ble_eq_true rfl, Nat.le_of_ble_eq_true rfl⟩) ⟨ax_blind (fun _ _ _ _ _ => trivial), zr_8 (zp_K hK) (zp_P1 hP) (q0 := 0) rfl, ax_pre (zp_P1 hP) (zp_K hK) (zp_D1 hD) (fun _ _ => trivial)⟩ rfl rfl hl.1 rfl (lv_room (Nat.le_of_ble_eq_true rfl)) dX8_place_12 ⟨Nat.le_of_ble_eq_true rfl, Nat.le_of_ble_eq_true rfl⟩) hS (fun q _ h => zp_F1 hD hS hA q h) (zp_F1 hD hS hA) (fun r12 u t H locs ht hvm hw hB hz1 hk1 hS1 => zo1 hB ht hP hD hk1 (zp_F1 hD hS hA) hS1 (fun hP hK1 hD hS => ?_))
  rcases hw with hw | hw | hw
  · obtain ⟨hw, h12_0, h12_1⟩ := hw
    subst hw
    exact absurd h12_0 (by decide)
  · obtain ⟨hw, h12_0, h12_1⟩ := hw
    subst hw
    refine lv_istore_n (lv' := [(3, .int 1), (0, .ref a0), (1, .int a1), (2, .int a2)]) hx hb dX8_place_15 rfl hl (by decide) rfl (fun ls hl => ?_)
    refine lv_iload_n hx hb dX8_place_16 rfl (lv_at hl 0 rfl) ?_
    refine lv_if_eq (tgt := 26) hx hb dX8_place_17 (by decide) (fun c17 => absurd c17 (by decide +kernel)) (fun _ => ?_)
    refine lv_aload_n hx hb dX8_place_20 rfl (lv_at hl 1 rfl) ?_
    refine lv_iload_n hx hb dX8_place_21 rfl (lv_at hl 0 rfl) ?_
    refine va_calli (va_runV (As := [.int 1]) (rest := []) ⟨hx, hb, hml, hown, hts⟩ (c_X8_no l dC dI H.size a0 1 (Value.int v1na0_0) a0g_1 a0g_2 a0g_3 a0g_4 a0g_5 a0g_6 a0g_7 a0g_8 a0g_9 a0g_10 a0g_12 a0g_13 (Value.int a0_14) a0g_15 a0g_16 a0g_17 a0g_18 a0g_19 a0g_20 a0g_21 a0g_22 a0g_23 a0g_24 a0g_25 a0g_26 a0g_27 a0g_28 a0g_29 a0g_30 a0g_31 a0g_32 a0g_33 a0g_34 a0g_35 a0g_36 a0g_37 a0g_38 a0g_39 v1na0_11 ) (cwV 1 hts gX8_place_X8_no rfl rfl rfl zd_X8_no ⟨Nat.le_of_ble_eq_true rfl, Nat.le_of_ble_eq_true rfl⟩) ⟨ax_blind (fun _ _ _ _ _ => trivial), zr_8 (zp_K hK) (zp_P1 hP) (q0 := 0) rfl, ax_pre (zp_P1 hP) (zp_K hK) (zp_D1 hD) (fun _ _ => trivial)⟩ rfl rfl hl.1 rfl (lv_room (Nat.le_of_ble_eq_true rfl)) dX8_place_22 ⟨Nat.le_of_ble_eq_true rfl, Nat.le_of_ble_eq_true rfl⟩) hS (fun q _ h => zp_F1 hD hS hA q h) (zp_F1 hD hS hA) (fun r22 u t H locs ht hvm hw => zx_1 (fun v22na0_11 hB hz1 hk1 hS1 => zo1 hB ht hP hD hk1 (zp_F1 hD hS hA) hS1 (fun hP hK1 hD hS => ?_)))
    have hw : r22 = (-1) := hw
    have hw := hw.symm
    subst hw
    exact W.iret (v := (-1)) hx hb hr (fun t ht hW => ⟨⟨(-1), (), rfl, rfl, v1na0_0, v22na0_11, by rw [ht]; exact hP, va_K.moved hW.alike hK, hD⟩, hS.F ht⟩) hS.2.2 dX8_place_25
  · obtain ⟨hw, h12_0, h12_1, h12_2, h12_3⟩ := hw
    subst hw
    exact absurd h12_0 (by decide)

set_option maxHeartbeats 4000000 in
set_option maxRecDepth 100000 in
theorem c0_X8_gone (l : Launch) (dC : Nat → ClassId) (dI : Nat → Nat → Nat) (sz : Nat) (a0 : Nat) (a1 : Int32) (a0_0 : Int32) (a0g_1 a0g_2 a0g_3 a0g_4 a0g_5 a0g_6 a0g_7 a0g_8 a0g_9 a0g_10 a0g_12 a0g_13 a0g_15 a0g_16 a0g_17 a0g_18 a0g_19 a0g_20 a0g_21 a0g_22 a0g_23 a0g_24 a0g_25 a0g_26 a0g_27 a0g_28 a0g_29 a0g_30 a0g_31 a0g_32 a0g_33 a0g_34 a0g_35 a0g_36 a0g_37 a0g_38 a0g_39 : Value) (a0_11 : Int32) (a0_14 : Int32) (ba0_14_l : (0 : Int) ≤ a0_14.toInt) (ba0_14_u : a0_14.toInt ≤ (0 : Int)) : zm l yX8_gone wsX8_gone ({ frames := 2, cells := 0, slots := 0, locals := 45 }) [.ref a0, .int a1] dC dI sz [(a0, .inr (8, [Value.int a0_0, a0g_1, a0g_2, a0g_3, a0g_4, a0g_5, a0g_6, a0g_7, a0g_8, a0g_9, a0g_10, Value.int a0_11, a0g_12, a0g_13, Value.int a0_14, a0g_15, a0g_16, a0g_17, a0g_18, a0g_19, a0g_20, a0g_21, a0g_22, a0g_23, a0g_24, a0g_25, a0g_26, a0g_27, a0g_28, a0g_29, a0g_30, a0g_31, a0g_32, a0g_33, a0g_34, a0g_35, a0g_36, a0g_37, a0g_38, a0g_39]))] [] (fun A _ => True) (fun A => va_Qi (fun (r : Int32) (_ : Unit) => r = (-1)) (fun (_ : Unit) (t : State) => ∃ na0_0 : Int32, ∃ na0_11 : Int32, ax_B dC dI A [(a0, .inr (8, [Value.int na0_0, a0g_1, a0g_2, a0g_3, a0g_4, a0g_5, a0g_6, a0g_7, a0g_8, a0g_9, a0g_10, Value.int na0_11, a0g_12, a0g_13, Value.int a0_14, a0g_15, a0g_16, a0g_17, a0g_18, a0g_19, a0g_20, a0g_21, a0g_22, a0g_23, a0g_24, a0g_25, a0g_26, a0g_27, a0g_28, a0g_29, a0g_30, a0g_31, a0g_32, a0g_33, a0g_34, a0g_35, a0g_36, a0g_37, a0g_38, a0g_39]))] [] t) A) := by
  refine zh (cc := cX8_gone) (maxL := 3) (ret := (some .int)) zn_RX8 rfl (Nat.le_of_ble_eq_true rfl) (fun p e s m below meth c A ls hx hb hml hr hts (hown : s.vm.findClass RX8 = some m.cls) hlocks hA hS hP hK hD hE (hl : lv_has ls 3 [(0, .ref a0), (1, .int a1)]) => ?_)
  refine lv_aload_n hx hb dX8_gone_0 rfl (lv_at hl 0 rfl) ?_
  refine va_callv (va_runV (As := []) (rest := []) ⟨hx, hb, hml, hown, hts⟩ (c_X8_good l dC dI s.heap.size a0 a0_0 a0g_1 a0g_2 a0g_3 a0g_4 a0g_5 a0g_6 a0g_7 a0g_8 a0g_9 a0g_10 a0g_12 a0g_13 (Value.int a0_14) a0g_15 a0g_16 a0g_17 a0g_18 a0g_19 a0g_20 a0g_21 a0g_22 a0g_23 a0g_24 a0g_25 a0g_26 a0g_27 a0g_28 a0g_29 a0g_30 a0g_31 a0g_32 a0g_33 a0g_34 a0g_35 a0g_36 a0g_37 a0g_38 a0g_39 a0_11 ) (cwV 0 hts gX8_gone_X8_good rfl rfl rfl zd_X8_good ⟨Nat.le_of_ble_eq_true rfl, Nat.le_of_ble_eq_true rfl⟩) ⟨ax_blind (fun _ _ _ _ _ => trivial), zr_8 (zp_K hK) (zp_P1 hP) (q0 := 0) rfl, ax_pre (zp_P1 hP) (zp_K hK) (zp_D1 hD) (fun _ _ => trivial)⟩ rfl rfl hl.1 rfl (lv_room (Nat.le_of_ble_eq_true rfl)) dX8_gone_1 ⟨Nat.le_of_ble_eq_true rfl, Nat.le_of_ble_eq_true rfl⟩) hS (fun q _ h => zp_F1 hD hS hA q h) (zp_F1 hD hS hA) (fun u t H locs ht hvm hw => zx_2 (fun v1na0_0 v1na0_11 hB hz1 hk1 hS1 => zo1 hB ht hP hD hk1 (zp_F1 hD hS hA) hS1 (fun hP hK1 hD hS => ?_)))
  refine lv_aload_n hx hb dX8_gone_4 rfl (lv_at hl 0 rfl) ?_
  refine lv_aload_n hx hb dX8_gone_5 rfl (lv_at hl 0 rfl) ?_
  refine va_get (D := (dC, dI)) (ci := 8) (v := .int a0_14) (C := RX8) (T := TX8) (N := 40) hx hb hts zi_X8_gone_8 hown hK hP 0 rfl rfl 14 (by decide) (hts (.fieldLink RX8 173 "WaxTurnsModel" "hasGallery" "Z") (zm_X8_gone_r1 (List.mem_of_getElem? (i := 0) rfl))) (fun _ h9 => h9) rfl dX8_gone_6 ?_
  refine lv_iconst (v := 0) hx hb dX8_gone_9 zk_iconst_0 ?_
  refine lv_iload_n hx hb dX8_gone_10 rfl (lv_at hl 1 rfl) ?_
  refine va_calli (va_runV (As := [.int a0_14, .int 0, .int a1]) (rest := []) ⟨hx, hb, hml, hown, hts⟩ (c_X8_aheadWhy l dC dI H.size a0 a0_14 0 a1 (Value.int v1na0_0) a0g_1 a0g_2 a0g_3 a0g_4 a0g_5 a0g_6 a0g_7 a0g_8 a0g_9 a0g_10 (Value.int v1na0_11) a0g_12 a0g_13 (Value.int a0_14) a0g_15 a0g_16 a0g_17 a0g_18 a0g_19 a0g_20 a0g_21 a0g_22 a0g_23 a0g_24 a0g_25 a0g_26 a0g_27 a0g_28 a0g_29 a0g_30 a0g_31 a0g_32 a0g_33 a0g_34 a0g_35 a0g_36 a0g_37 a0g_38 a0g_39 ba0_14_l (Int.le_trans ba0_14_u zq4) zq5 (Int.le_trans zq6 zq4)) (cwV 3 hts gX8_gone_X8_aheadWhy rfl rfl rfl zd_X8_aheadWhy ⟨Nat.le_of_ble_eq_true rfl, Nat.le_of_ble_eq_true rfl⟩) ⟨ax_blind (fun _ _ _ _ _ => trivial), zr_8 (zp_K hK) (zp_P1 hP) (q0 := 0) rfl, ax_pre (zp_P1 hP) (zp_K hK) (zp_D1 hD) (fun _ _ => trivial)⟩ rfl rfl hl.1 rfl (lv_room (Nat.le_of_ble_eq_true rfl)) dX8_gone_11 ⟨Nat.le_of_ble_eq_true rfl, Nat.le_of_ble_eq_true rfl⟩) hS (fun q _ h => zp_F1 hD hS hA q h) (zp_F1 hD hS hA) (fun r11 u t H locs ht hvm hw hB hz1 hk1 hS1 => zo1 hB ht hP hD hk1 (zp_F1 hD hS hA) hS1 (fun hP hK1 hD hS => ?_))
  rcases hw with hw | hw | hw
  · obtain ⟨hw, h11_0, h11_1⟩ := hw
    subst hw
    have l11k0_a0_14 : (1 : Int) ≤ a0_14.toInt := h11_0
    have u11k0_a0_14 : a0_14.toInt ≤ (0 : Int) := ba0_14_u
    exact absurd (Int.le_trans l11k0_a0_14 u11k0_a0_14) (by decide)
  · obtain ⟨hw, h11_0, h11_1⟩ := hw
    subst hw
    have l11k1_a0_14 : (0 : Int) ≤ a0_14.toInt := ba0_14_l
    have u11k1_a0_14 : a0_14.toInt ≤ (0 : Int) := ba0_14_u
    refine lv_istore_n (lv' := [(2, .int 1), (0, .ref a0), (1, .int a1)]) hx hb dX8_gone_14 rfl hl (by decide) rfl (fun ls hl => ?_)
    refine lv_iload_n hx hb dX8_gone_15 rfl (lv_at hl 0 rfl) ?_
    refine lv_if_eq (tgt := 25) hx hb dX8_gone_16 (by decide) (fun c16 => absurd c16 (by decide +kernel)) (fun _ => ?_)
    refine lv_aload_n hx hb dX8_gone_19 rfl (lv_at hl 1 rfl) ?_
    refine lv_iload_n hx hb dX8_gone_20 rfl (lv_at hl 0 rfl) ?_
    refine va_calli (va_runV (As := [.int 1]) (rest := []) ⟨hx, hb, hml, hown, hts⟩ (c_X8_no l dC dI H.size a0 1 (Value.int v1na0_0) a0g_1 a0g_2 a0g_3 a0g_4 a0g_5 a0g_6 a0g_7 a0g_8 a0g_9 a0g_10 a0g_12 a0g_13 (Value.int a0_14) a0g_15 a0g_16 a0g_17 a0g_18 a0g_19 a0g_20 a0g_21 a0g_22 a0g_23 a0g_24 a0g_25 a0g_26 a0g_27 a0g_28 a0g_29 a0g_30 a0g_31 a0g_32 a0g_33 a0g_34 a0g_35 a0g_36 a0g_37 a0g_38 a0g_39 v1na0_11 ) (cwV 1 hts gX8_gone_X8_no rfl rfl rfl zd_X8_no ⟨Nat.le_of_ble_eq_true rfl, Nat.le_of_ble_eq_true rfl⟩) ⟨ax_blind (fun _ _ _ _ _ => trivial), zr_8 (zp_K hK) (zp_P1 hP) (q0 := 0) rfl, ax_pre (zp_P1 hP) (zp_K hK) (zp_D1 hD) (fun _ _ => trivial)⟩ rfl rfl hl.1 rfl (lv_room (Nat.le_of_ble_eq_true rfl)) dX8_gone_21 ⟨Nat.le_of_ble_eq_true rfl, Nat.le_of_ble_eq_true rfl⟩) hS (fun q _ h => zp_F1 hD hS hA q h) (zp_F1 hD hS hA) (fun r21 u t H locs ht hvm hw => zx_1 (fun v21na0_11 hB hz1 hk1 hS1 => zo1 hB ht hP hD hk1 (zp_F1 hD hS hA) hS1 (fun hP hK1 hD hS => ?_)))
    have hw : r21 = (-1) := hw
    have hw := hw.symm
    subst hw
    exact W.iret (v := (-1)) hx hb hr (fun t ht hW => ⟨⟨(-1), (), rfl, rfl, v1na0_0, v21na0_11, by rw [ht]; exact hP, va_K.moved hW.alike hK, hD⟩, hS.F ht⟩) hS.2.2 dX8_gone_24
  · obtain ⟨hw, h11_0, h11_1, h11_2, h11_3⟩ := hw
    subst hw
    have l11k2_a0_14 : (1 : Int) ≤ a0_14.toInt := h11_0
    have u11k2_a0_14 : a0_14.toInt ≤ (0 : Int) := ba0_14_u
    exact absurd (Int.le_trans l11k2_a0_14 u11k2_a0_14) (by decide)
end P280_01_safe
